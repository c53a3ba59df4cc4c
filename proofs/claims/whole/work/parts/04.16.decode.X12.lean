theorem dX12_keeps_1 : decode cX12_keeps 1 = .ok (.getfield 9, 3) := by decide +kernel
theorem dX12_keeps_4 : decode cX12_keeps 4 = .ok (.bipush 8, 2) := by decide +kernel
theorem dX12_keeps_6 : decode cX12_keeps 6 = .ok (.iaload, 1) := by decide +kernel
theorem dX12_keeps_7 : decode cX12_keeps 7 = .ok (.bipush 10, 2) := by decide +kernel
theorem dX12_keeps_9 : decode cX12_keeps 9 = .ok (.if_icmp .ne 46, 3) := by decide +kernel
theorem dX12_keeps_12 : decode cX12_keeps 12 = .ok (.sipush 155, 3) := by decide +kernel
theorem dX12_keeps_15 : decode cX12_keeps 15 = .ok (.istore_n 1, 1) := by decide +kernel
theorem dX12_keeps_16 : decode cX12_keeps 16 = .ok (.iload_n 1, 1) := by decide +kernel
theorem dX12_keeps_17 : decode cX12_keeps 17 = .ok (.sipush 1055, 3) := by decide +kernel
theorem dX12_keeps_20 : decode cX12_keeps 20 = .ok (.if_icmp .ge 24, 3) := by decide +kernel
theorem dX12_keeps_23 : decode cX12_keeps 23 = .ok (.aload_n 0, 1) := by decide +kernel
theorem dX12_keeps_24 : decode cX12_keeps 24 = .ok (.getfield 9, 3) := by decide +kernel
theorem dX12_keeps_27 : decode cX12_keeps 27 = .ok (.iload_n 1, 1) := by decide +kernel
theorem dX12_keeps_28 : decode cX12_keeps 28 = .ok (.aload_n 0, 1) := by decide +kernel
theorem dX12_keeps_29 : decode cX12_keeps 29 = .ok (.getfield 9, 3) := by decide +kernel
theorem dX12_keeps_32 : decode cX12_keeps 32 = .ok (.iload_n 1, 1) := by decide +kernel
theorem dX12_keeps_33 : decode cX12_keeps 33 = .ok (.bipush 100, 2) := by decide +kernel
theorem dX12_keeps_35 : decode cX12_keeps 35 = .ok (.iadd, 1) := by decide +kernel
theorem dX12_keeps_36 : decode cX12_keeps 36 = .ok (.iaload, 1) := by decide +kernel
theorem dX12_keeps_37 : decode cX12_keeps 37 = .ok (.iastore, 1) := by decide +kernel
theorem dX12_keeps_38 : decode cX12_keeps 38 = .ok (.iinc 1 1, 3) := by decide +kernel
theorem dX12_keeps_41 : decode cX12_keeps 41 = .ok (.goto (-25), 3) := by decide +kernel
theorem dX12_keeps_44 : decode cX12_keeps 44 = .ok (.aload_n 0, 1) := by decide +kernel
theorem dX12_keeps_45 : decode cX12_keeps 45 = .ok (.getfield 9, 3) := by decide +kernel
theorem dX12_keeps_48 : decode cX12_keeps 48 = .ok (.bipush 8, 2) := by decide +kernel
theorem dX12_keeps_50 : decode cX12_keeps 50 = .ok (.dup2, 1) := by decide +kernel
theorem dX12_keeps_51 : decode cX12_keeps 51 = .ok (.iaload, 1) := by decide +kernel
theorem dX12_keeps_52 : decode cX12_keeps 52 = .ok (.iconst 1, 1) := by decide +kernel
theorem dX12_keeps_53 : decode cX12_keeps 53 = .ok (.isub, 1) := by decide +kernel
theorem dX12_keeps_54 : decode cX12_keeps 54 = .ok (.iastore, 1) := by decide +kernel
theorem dX12_keeps_55 : decode cX12_keeps 55 = .ok (.iconst 0, 1) := by decide +kernel
theorem dX12_keeps_56 : decode cX12_keeps 56 = .ok (.istore_n 1, 1) := by decide +kernel
theorem dX12_keeps_57 : decode cX12_keeps 57 = .ok (.iload_n 1, 1) := by decide +kernel
theorem dX12_keeps_58 : decode cX12_keeps 58 = .ok (.bipush 100, 2) := by decide +kernel
theorem dX12_keeps_60 : decode cX12_keeps 60 = .ok (.if_icmp .ge 39, 3) := by decide +kernel
theorem dX12_keeps_63 : decode cX12_keeps 63 = .ok (.aload_n 0, 1) := by decide +kernel
theorem dX12_keeps_64 : decode cX12_keeps 64 = .ok (.getfield 9, 3) := by decide +kernel
theorem dX12_keeps_67 : decode cX12_keeps 67 = .ok (.sipush 155, 3) := by decide +kernel
theorem dX12_keeps_70 : decode cX12_keeps 70 = .ok (.bipush 100, 2) := by decide +kernel
theorem dX12_keeps_72 : decode cX12_keeps 72 = .ok (.aload_n 0, 1) := by decide +kernel
theorem dX12_keeps_73 : decode cX12_keeps 73 = .ok (.getfield 9, 3) := by decide +kernel
theorem dX12_keeps_76 : decode cX12_keeps 76 = .ok (.bipush 8, 2) := by decide +kernel
theorem dX12_keeps_78 : decode cX12_keeps 78 = .ok (.iaload, 1) := by decide +kernel
theorem dX12_keeps_79 : decode cX12_keeps 79 = .ok (.imul, 1) := by decide +kernel
theorem dX12_keeps_80 : decode cX12_keeps 80 = .ok (.iadd, 1) := by decide +kernel
theorem dX12_keeps_81 : decode cX12_keeps 81 = .ok (.iload_n 1, 1) := by decide +kernel
theorem dX12_keeps_82 : decode cX12_keeps 82 = .ok (.iadd, 1) := by decide +kernel
theorem dX12_keeps_83 : decode cX12_keeps 83 = .ok (.aload_n 0, 1) := by decide +kernel
theorem dX12_keeps_84 : decode cX12_keeps 84 = .ok (.getfield 9, 3) := by decide +kernel
theorem dX12_keeps_87 : decode cX12_keeps 87 = .ok (.bipush 9, 2) := by decide +kernel
theorem dX12_keeps_89 : decode cX12_keeps 89 = .ok (.iload_n 1, 1) := by decide +kernel
theorem dX12_keeps_90 : decode cX12_keeps 90 = .ok (.iadd, 1) := by decide +kernel
theorem dX12_keeps_91 : decode cX12_keeps 91 = .ok (.iaload, 1) := by decide +kernel
theorem dX12_keeps_92 : decode cX12_keeps 92 = .ok (.iastore, 1) := by decide +kernel
theorem dX12_keeps_93 : decode cX12_keeps 93 = .ok (.iinc 1 1, 3) := by decide +kernel
theorem dX12_keeps_96 : decode cX12_keeps 96 = .ok (.goto (-39), 3) := by decide +kernel
theorem dX12_keeps_99 : decode cX12_keeps 99 = .ok (.aload_n 0, 1) := by decide +kernel
theorem dX12_keeps_100 : decode cX12_keeps 100 = .ok (.getfield 9, 3) := by decide +kernel
theorem dX12_keeps_103 : decode cX12_keeps 103 = .ok (.bipush 8, 2) := by decide +kernel
theorem dX12_keeps_105 : decode cX12_keeps 105 = .ok (.dup2, 1) := by decide +kernel
theorem dX12_keeps_106 : decode cX12_keeps 106 = .ok (.iaload, 1) := by decide +kernel
theorem dX12_keeps_107 : decode cX12_keeps 107 = .ok (.iconst 1, 1) := by decide +kernel
theorem dX12_keeps_108 : decode cX12_keeps 108 = .ok (.iadd, 1) := by decide +kernel
theorem dX12_keeps_109 : decode cX12_keeps 109 = .ok (.iastore, 1) := by decide +kernel
theorem dX12_keeps_110 : decode cX12_keeps 110 = .ok (.return_, 1) := by decide +kernel
theorem dX12_putsAside_0 : decode cX12_putsAside 0 = .ok (.iconst 0, 1) := by decide +kernel
theorem dX12_putsAside_1 : decode cX12_putsAside 1 = .ok (.istore_n 1, 1) := by decide +kernel
theorem dX12_putsAside_2 : decode cX12_putsAside 2 = .ok (.iload_n 1, 1) := by decide +kernel
theorem dX12_putsAside_3 : decode cX12_putsAside 3 = .ok (.bipush 100, 2) := by decide +kernel
theorem dX12_putsAside_5 : decode cX12_putsAside 5 = .ok (.if_icmp .ge 24, 3) := by decide +kernel
theorem dX12_putsAside_8 : decode cX12_putsAside 8 = .ok (.aload_n 0, 1) := by decide +kernel
theorem dX12_putsAside_9 : decode cX12_putsAside 9 = .ok (.getfield 45, 3) := by decide +kernel
theorem dX12_putsAside_12 : decode cX12_putsAside 12 = .ok (.iload_n 1, 1) := by decide +kernel
theorem dX12_putsAside_13 : decode cX12_putsAside 13 = .ok (.aload_n 0, 1) := by decide +kernel
theorem dX12_putsAside_14 : decode cX12_putsAside 14 = .ok (.getfield 9, 3) := by decide +kernel
theorem dX12_putsAside_17 : decode cX12_putsAside 17 = .ok (.bipush 9, 2) := by decide +kernel
theorem dX12_putsAside_19 : decode cX12_putsAside 19 = .ok (.iload_n 1, 1) := by decide +kernel
theorem dX12_putsAside_20 : decode cX12_putsAside 20 = .ok (.iadd, 1) := by decide +kernel
theorem dX12_putsAside_21 : decode cX12_putsAside 21 = .ok (.iaload, 1) := by decide +kernel
theorem dX12_putsAside_22 : decode cX12_putsAside 22 = .ok (.iastore, 1) := by decide +kernel
theorem dX12_putsAside_23 : decode cX12_putsAside 23 = .ok (.iinc 1 1, 3) := by decide +kernel
theorem dX12_putsAside_26 : decode cX12_putsAside 26 = .ok (.goto (-24), 3) := by decide +kernel
theorem dX12_putsAside_29 : decode cX12_putsAside 29 = .ok (.return_, 1) := by decide +kernel
theorem dX12_putsBack_0 : decode cX12_putsBack 0 = .ok (.iconst 0, 1) := by decide +kernel
theorem dX12_putsBack_1 : decode cX12_putsBack 1 = .ok (.istore_n 1, 1) := by decide +kernel
theorem dX12_putsBack_2 : decode cX12_putsBack 2 = .ok (.iload_n 1, 1) := by decide +kernel
theorem dX12_putsBack_3 : decode cX12_putsBack 3 = .ok (.bipush 100, 2) := by decide +kernel
theorem dX12_putsBack_5 : decode cX12_putsBack 5 = .ok (.if_icmp .ge 24, 3) := by decide +kernel
theorem dX12_putsBack_8 : decode cX12_putsBack 8 = .ok (.aload_n 0, 1) := by decide +kernel
theorem dX12_putsBack_9 : decode cX12_putsBack 9 = .ok (.getfield 9, 3) := by decide +kernel
theorem dX12_putsBack_12 : decode cX12_putsBack 12 = .ok (.bipush 9, 2) := by decide +kernel
theorem dX12_putsBack_14 : decode cX12_putsBack 14 = .ok (.iload_n 1, 1) := by decide +kernel
theorem dX12_putsBack_15 : decode cX12_putsBack 15 = .ok (.iadd, 1) := by decide +kernel
theorem dX12_putsBack_16 : decode cX12_putsBack 16 = .ok (.aload_n 0, 1) := by decide +kernel
theorem dX12_putsBack_17 : decode cX12_putsBack 17 = .ok (.getfield 45, 3) := by decide +kernel
theorem dX12_putsBack_20 : decode cX12_putsBack 20 = .ok (.iload_n 1, 1) := by decide +kernel
theorem dX12_putsBack_21 : decode cX12_putsBack 21 = .ok (.iaload, 1) := by decide +kernel
theorem dX12_putsBack_22 : decode cX12_putsBack 22 = .ok (.iastore, 1) := by decide +kernel
theorem dX12_putsBack_23 : decode cX12_putsBack 23 = .ok (.iinc 1 1, 3) := by decide +kernel
theorem dX12_putsBack_26 : decode cX12_putsBack 26 = .ok (.goto (-24), 3) := by decide +kernel
theorem dX12_putsBack_29 : decode cX12_putsBack 29 = .ok (.return_, 1) := by decide +kernel
theorem dX12_noClaims_0 : decode cX12_noClaims 0 = .ok (.iconst 0, 1) := by decide +kernel
theorem dX12_noClaims_1 : decode cX12_noClaims 1 = .ok (.istore_n 1, 1) := by decide +kernel
theorem dX12_noClaims_2 : decode cX12_noClaims 2 = .ok (.iload_n 1, 1) := by decide +kernel
theorem dX12_noClaims_3 : decode cX12_noClaims 3 = .ok (.bipush 6, 2) := by decide +kernel
theorem dX12_noClaims_5 : decode cX12_noClaims 5 = .ok (.if_icmp .ge 19, 3) := by decide +kernel
theorem dX12_noClaims_8 : decode cX12_noClaims 8 = .ok (.aload_n 0, 1) := by decide +kernel
theorem dX12_noClaims_9 : decode cX12_noClaims 9 = .ok (.getfield 9, 3) := by decide +kernel
theorem dX12_noClaims_12 : decode cX12_noClaims 12 = .ok (.bipush 97, 2) := by decide +kernel
theorem dX12_noClaims_14 : decode cX12_noClaims 14 = .ok (.iload_n 1, 1) := by decide +kernel
theorem dX12_noClaims_15 : decode cX12_noClaims 15 = .ok (.iadd, 1) := by decide +kernel
theorem dX12_noClaims_16 : decode cX12_noClaims 16 = .ok (.iconst (-1), 1) := by decide +kernel
theorem dX12_noClaims_17 : decode cX12_noClaims 17 = .ok (.iastore, 1) := by decide +kernel
theorem dX12_noClaims_18 : decode cX12_noClaims 18 = .ok (.iinc 1 1, 3) := by decide +kernel
theorem dX12_noClaims_21 : decode cX12_noClaims 21 = .ok (.goto (-19), 3) := by decide +kernel
theorem dX12_noClaims_24 : decode cX12_noClaims 24 = .ok (.return_, 1) := by decide +kernel
theorem dX12_winnerOf_0 : decode cX12_winnerOf 0 = .ok (.aload_n 0, 1) := by decide +kernel
theorem dX12_winnerOf_1 : decode cX12_winnerOf 1 = .ok (.getfield 9, 3) := by decide +kernel
theorem dX12_winnerOf_4 : decode cX12_winnerOf 4 = .ok (.bipush 96, 2) := by decide +kernel
theorem dX12_winnerOf_6 : decode cX12_winnerOf 6 = .ok (.iaload, 1) := by decide +kernel
theorem dX12_winnerOf_7 : decode cX12_winnerOf 7 = .ok (.iconst (-1), 1) := by decide +kernel
theorem dX12_winnerOf_8 : decode cX12_winnerOf 8 = .ok (.if_icmp .ne 5, 3) := by decide +kernel
theorem dX12_winnerOf_11 : decode cX12_winnerOf 11 = .ok (.iconst (-1), 1) := by decide +kernel
theorem dX12_winnerOf_12 : decode cX12_winnerOf 12 = .ok (.ireturn, 1) := by decide +kernel
theorem dX12_winnerOf_13 : decode cX12_winnerOf 13 = .ok (.aload_n 0, 1) := by decide +kernel
theorem dX12_winnerOf_14 : decode cX12_winnerOf 14 = .ok (.invokevirtual 306, 3) := by decide +kernel
theorem dX12_winnerOf_17 : decode cX12_winnerOf 17 = .ok (.iconst (-1), 1) := by decide +kernel
theorem dX12_winnerOf_18 : decode cX12_winnerOf 18 = .ok (.istore_n 1, 1) := by decide +kernel
theorem dX12_winnerOf_19 : decode cX12_winnerOf 19 = .ok (.iconst 0, 1) := by decide +kernel
theorem dX12_winnerOf_20 : decode cX12_winnerOf 20 = .ok (.istore_n 2, 1) := by decide +kernel
theorem dX12_winnerOf_21 : decode cX12_winnerOf 21 = .ok (.iload_n 2, 1) := by decide +kernel
theorem dX12_winnerOf_22 : decode cX12_winnerOf 22 = .ok (.aload_n 0, 1) := by decide +kernel
theorem dX12_winnerOf_23 : decode cX12_winnerOf 23 = .ok (.getfield 9, 3) := by decide +kernel
theorem dX12_winnerOf_26 : decode cX12_winnerOf 26 = .ok (.bipush 6, 2) := by decide +kernel
theorem dX12_winnerOf_28 : decode cX12_winnerOf 28 = .ok (.iaload, 1) := by decide +kernel
theorem dX12_winnerOf_29 : decode cX12_winnerOf 29 = .ok (.if_icmp .ge 70, 3) := by decide +kernel
theorem dX12_winnerOf_32 : decode cX12_winnerOf 32 = .ok (.aload_n 0, 1) := by decide +kernel
theorem dX12_winnerOf_33 : decode cX12_winnerOf 33 = .ok (.getfield 9, 3) := by decide +kernel
theorem dX12_winnerOf_36 : decode cX12_winnerOf 36 = .ok (.bipush 97, 2) := by decide +kernel
theorem dX12_winnerOf_38 : decode cX12_winnerOf 38 = .ok (.iload_n 2, 1) := by decide +kernel
theorem dX12_winnerOf_39 : decode cX12_winnerOf 39 = .ok (.iadd, 1) := by decide +kernel
theorem dX12_winnerOf_40 : decode cX12_winnerOf 40 = .ok (.iaload, 1) := by decide +kernel
theorem dX12_winnerOf_41 : decode cX12_winnerOf 41 = .ok (.istore_n 3, 1) := by decide +kernel
theorem dX12_winnerOf_42 : decode cX12_winnerOf 42 = .ok (.iload_n 3, 1) := by decide +kernel
theorem dX12_winnerOf_43 : decode cX12_winnerOf 43 = .ok (.iconst (-1), 1) := by decide +kernel
theorem dX12_winnerOf_44 : decode cX12_winnerOf 44 = .ok (.if_icmp .eq 49, 3) := by decide +kernel
theorem dX12_winnerOf_47 : decode cX12_winnerOf 47 = .ok (.aload_n 0, 1) := by decide +kernel
theorem dX12_winnerOf_48 : decode cX12_winnerOf 48 = .ok (.iload_n 3, 1) := by decide +kernel
theorem dX12_winnerOf_49 : decode cX12_winnerOf 49 = .ok (.invokevirtual 336, 3) := by decide +kernel
theorem dX12_winnerOf_52 : decode cX12_winnerOf 52 = .ok (.aload_n 0, 1) := by decide +kernel
theorem dX12_winnerOf_53 : decode cX12_winnerOf 53 = .ok (.getfield 9, 3) := by decide +kernel
theorem dX12_winnerOf_56 : decode cX12_winnerOf 56 = .ok (.bipush 96, 2) := by decide +kernel
theorem dX12_winnerOf_58 : decode cX12_winnerOf 58 = .ok (.iaload, 1) := by decide +kernel
theorem dX12_winnerOf_59 : decode cX12_winnerOf 59 = .ok (.if_icmp .eq 6, 3) := by decide +kernel
theorem dX12_winnerOf_62 : decode cX12_winnerOf 62 = .ok (.goto 31, 3) := by decide +kernel
theorem dX12_winnerOf_65 : decode cX12_winnerOf 65 = .ok (.iload_n 1, 1) := by decide +kernel
theorem dX12_winnerOf_66 : decode cX12_winnerOf 66 = .ok (.iconst (-1), 1) := by decide +kernel
theorem dX12_winnerOf_67 : decode cX12_winnerOf 67 = .ok (.if_icmp .eq 24, 3) := by decide +kernel
theorem dX12_winnerOf_70 : decode cX12_winnerOf 70 = .ok (.aload_n 0, 1) := by decide +kernel
theorem dX12_winnerOf_71 : decode cX12_winnerOf 71 = .ok (.iload_n 3, 1) := by decide +kernel
theorem dX12_winnerOf_72 : decode cX12_winnerOf 72 = .ok (.invokevirtual 339, 3) := by decide +kernel
theorem dX12_winnerOf_75 : decode cX12_winnerOf 75 = .ok (.aload_n 0, 1) := by decide +kernel
theorem dX12_winnerOf_76 : decode cX12_winnerOf 76 = .ok (.aload_n 0, 1) := by decide +kernel
theorem dX12_winnerOf_77 : decode cX12_winnerOf 77 = .ok (.getfield 9, 3) := by decide +kernel
theorem dX12_winnerOf_80 : decode cX12_winnerOf 80 = .ok (.bipush 97, 2) := by decide +kernel
theorem dX12_winnerOf_82 : decode cX12_winnerOf 82 = .ok (.iload_n 1, 1) := by decide +kernel
theorem dX12_winnerOf_83 : decode cX12_winnerOf 83 = .ok (.iadd, 1) := by decide +kernel
theorem dX12_winnerOf_84 : decode cX12_winnerOf 84 = .ok (.iaload, 1) := by decide +kernel
theorem dX12_winnerOf_85 : decode cX12_winnerOf 85 = .ok (.invokevirtual 339, 3) := by decide +kernel
theorem dX12_winnerOf_88 : decode cX12_winnerOf 88 = .ok (.if_icmp .ge 5, 3) := by decide +kernel
theorem dX12_winnerOf_91 : decode cX12_winnerOf 91 = .ok (.iload_n 2, 1) := by decide +kernel
theorem dX12_winnerOf_92 : decode cX12_winnerOf 92 = .ok (.istore_n 1, 1) := by decide +kernel
theorem dX12_winnerOf_93 : decode cX12_winnerOf 93 = .ok (.iinc 2 1, 3) := by decide +kernel
theorem dX12_winnerOf_96 : decode cX12_winnerOf 96 = .ok (.goto (-75), 3) := by decide +kernel
theorem dX12_winnerOf_99 : decode cX12_winnerOf 99 = .ok (.iload_n 1, 1) := by decide +kernel
theorem dX12_winnerOf_100 : decode cX12_winnerOf 100 = .ok (.ireturn, 1) := by decide +kernel
theorem dX12_inBehind_0 : decode cX12_inBehind 0 = .ok (.iconst 1, 1) := by decide +kernel
theorem dX12_inBehind_1 : decode cX12_inBehind 1 = .ok (.istore_n 2, 1) := by decide +kernel
theorem dX12_inBehind_2 : decode cX12_inBehind 2 = .ok (.iload_n 2, 1) := by decide +kernel
theorem dX12_inBehind_3 : decode cX12_inBehind 3 = .ok (.aload_n 0, 1) := by decide +kernel
theorem dX12_inBehind_4 : decode cX12_inBehind 4 = .ok (.invokevirtual 245, 3) := by decide +kernel
theorem dX12_inBehind_7 : decode cX12_inBehind 7 = .ok (.if_icmp .gt 33, 3) := by decide +kernel
theorem dX12_inBehind_10 : decode cX12_inBehind 10 = .ok (.aload_n 0, 1) := by decide +kernel
theorem dX12_inBehind_11 : decode cX12_inBehind 11 = .ok (.iload_n 1, 1) := by decide +kernel
theorem dX12_inBehind_12 : decode cX12_inBehind 12 = .ok (.iload_n 2, 1) := by decide +kernel
theorem dX12_inBehind_13 : decode cX12_inBehind 13 = .ok (.iadd, 1) := by decide +kernel
theorem dX12_inBehind_14 : decode cX12_inBehind 14 = .ok (.aload_n 0, 1) := by decide +kernel
theorem dX12_inBehind_15 : decode cX12_inBehind 15 = .ok (.invokevirtual 245, 3) := by decide +kernel
theorem dX12_inBehind_18 : decode cX12_inBehind 18 = .ok (.irem, 1) := by decide +kernel
theorem dX12_inBehind_19 : decode cX12_inBehind 19 = .ok (.invokevirtual 250, 3) := by decide +kernel
theorem dX12_inBehind_22 : decode cX12_inBehind 22 = .ok (.ifCond .eq 12, 3) := by decide +kernel
theorem dX12_inBehind_25 : decode cX12_inBehind 25 = .ok (.iload_n 1, 1) := by decide +kernel
theorem dX12_inBehind_26 : decode cX12_inBehind 26 = .ok (.iload_n 2, 1) := by decide +kernel
theorem dX12_inBehind_27 : decode cX12_inBehind 27 = .ok (.iadd, 1) := by decide +kernel
theorem dX12_inBehind_28 : decode cX12_inBehind 28 = .ok (.aload_n 0, 1) := by decide +kernel
theorem dX12_inBehind_29 : decode cX12_inBehind 29 = .ok (.invokevirtual 245, 3) := by decide +kernel
theorem dX12_inBehind_32 : decode cX12_inBehind 32 = .ok (.irem, 1) := by decide +kernel
theorem dX12_inBehind_33 : decode cX12_inBehind 33 = .ok (.ireturn, 1) := by decide +kernel
theorem dX12_inBehind_34 : decode cX12_inBehind 34 = .ok (.iinc 2 1, 3) := by decide +kernel
theorem dX12_inBehind_37 : decode cX12_inBehind 37 = .ok (.goto (-35), 3) := by decide +kernel
theorem dX12_inBehind_40 : decode cX12_inBehind 40 = .ok (.iconst (-1), 1) := by decide +kernel
theorem dX12_inBehind_41 : decode cX12_inBehind 41 = .ok (.ireturn, 1) := by decide +kernel
theorem dX12_settles_0 : decode cX12_settles 0 = .ok (.aload_n 0, 1) := by decide +kernel
theorem dX12_settles_1 : decode cX12_settles 1 = .ok (.invokevirtual 358, 3) := by decide +kernel
theorem dX12_settles_4 : decode cX12_settles 4 = .ok (.istore_n 1, 1) := by decide +kernel
theorem dX12_settles_5 : decode cX12_settles 5 = .ok (.iload_n 1, 1) := by decide +kernel
theorem dX12_settles_6 : decode cX12_settles 6 = .ok (.iconst (-1), 1) := by decide +kernel
theorem dX12_settles_7 : decode cX12_settles 7 = .ok (.if_icmp .eq 67, 3) := by decide +kernel
theorem dX12_settles_10 : decode cX12_settles 10 = .ok (.aload_n 0, 1) := by decide +kernel
theorem dX12_settles_11 : decode cX12_settles 11 = .ok (.getfield 9, 3) := by decide +kernel
theorem dX12_settles_14 : decode cX12_settles 14 = .ok (.bipush 97, 2) := by decide +kernel
theorem dX12_settles_16 : decode cX12_settles 16 = .ok (.iload_n 1, 1) := by decide +kernel
theorem dX12_settles_17 : decode cX12_settles 17 = .ok (.iadd, 1) := by decide +kernel
theorem dX12_settles_18 : decode cX12_settles 18 = .ok (.iaload, 1) := by decide +kernel
theorem dX12_settles_19 : decode cX12_settles 19 = .ok (.istore_n 2, 1) := by decide +kernel
theorem dX12_settles_20 : decode cX12_settles 20 = .ok (.aload_n 0, 1) := by decide +kernel
theorem dX12_settles_21 : decode cX12_settles 21 = .ok (.getfield 9, 3) := by decide +kernel
theorem dX12_settles_24 : decode cX12_settles 24 = .ok (.bipush 103, 2) := by decide +kernel
theorem dX12_settles_26 : decode cX12_settles 26 = .ok (.iload_n 1, 1) := by decide +kernel
theorem dX12_settles_27 : decode cX12_settles 27 = .ok (.iadd, 1) := by decide +kernel
theorem dX12_settles_28 : decode cX12_settles 28 = .ok (.dup2, 1) := by decide +kernel
theorem dX12_settles_29 : decode cX12_settles 29 = .ok (.iaload, 1) := by decide +kernel
theorem dX12_settles_30 : decode cX12_settles 30 = .ok (.iconst 1, 1) := by decide +kernel
theorem dX12_settles_31 : decode cX12_settles 31 = .ok (.iadd, 1) := by decide +kernel
theorem dX12_settles_32 : decode cX12_settles 32 = .ok (.iastore, 1) := by decide +kernel
theorem dX12_settles_33 : decode cX12_settles 33 = .ok (.aload_n 0, 1) := by decide +kernel
theorem dX12_settles_34 : decode cX12_settles 34 = .ok (.getfield 9, 3) := by decide +kernel
theorem dX12_settles_37 : decode cX12_settles 37 = .ok (.bipush 93, 2) := by decide +kernel
theorem dX12_settles_39 : decode cX12_settles 39 = .ok (.dup2, 1) := by decide +kernel
theorem dX12_settles_40 : decode cX12_settles 40 = .ok (.iaload, 1) := by decide +kernel
theorem dX12_settles_41 : decode cX12_settles 41 = .ok (.iconst 1, 1) := by decide +kernel
theorem dX12_settles_42 : decode cX12_settles 42 = .ok (.aload_n 0, 1) := by decide +kernel
theorem dX12_settles_43 : decode cX12_settles 43 = .ok (.getfield 9, 3) := by decide +kernel
theorem dX12_settles_46 : decode cX12_settles 46 = .ok (.bipush 96, 2) := by decide +kernel
theorem dX12_settles_48 : decode cX12_settles 48 = .ok (.iaload, 1) := by decide +kernel
theorem dX12_settles_49 : decode cX12_settles 49 = .ok (.ishl, 1) := by decide +kernel
theorem dX12_settles_50 : decode cX12_settles 50 = .ok (.iconst (-1), 1) := by decide +kernel
theorem dX12_settles_51 : decode cX12_settles 51 = .ok (.ixor, 1) := by decide +kernel
theorem dX12_settles_52 : decode cX12_settles 52 = .ok (.iand, 1) := by decide +kernel
theorem dX12_settles_53 : decode cX12_settles 53 = .ok (.iastore, 1) := by decide +kernel
theorem dX12_settles_54 : decode cX12_settles 54 = .ok (.aload_n 0, 1) := by decide +kernel
theorem dX12_settles_55 : decode cX12_settles 55 = .ok (.getfield 9, 3) := by decide +kernel
theorem dX12_settles_58 : decode cX12_settles 58 = .ok (.bipush 95, 2) := by decide +kernel
theorem dX12_settles_60 : decode cX12_settles 60 = .ok (.dup2, 1) := by decide +kernel
theorem dX12_settles_61 : decode cX12_settles 61 = .ok (.iaload, 1) := by decide +kernel
theorem dX12_settles_62 : decode cX12_settles 62 = .ok (.iload_n 2, 1) := by decide +kernel
theorem dX12_settles_63 : decode cX12_settles 63 = .ok (.iload_n 2, 1) := by decide +kernel
theorem dX12_settles_64 : decode cX12_settles 64 = .ok (.bipush 10, 2) := by decide +kernel
theorem dX12_settles_66 : decode cX12_settles 66 = .ok (.ishr, 1) := by decide +kernel
theorem dX12_settles_67 : decode cX12_settles 67 = .ok (.ior, 1) := by decide +kernel
theorem dX12_settles_68 : decode cX12_settles 68 = .ok (.sipush 1023, 3) := by decide +kernel
theorem dX12_settles_71 : decode cX12_settles 71 = .ok (.iand, 1) := by decide +kernel
theorem dX12_settles_72 : decode cX12_settles 72 = .ok (.ior, 1) := by decide +kernel
theorem dX12_settles_73 : decode cX12_settles 73 = .ok (.iastore, 1) := by decide +kernel
theorem dX12_settles_74 : decode cX12_settles 74 = .ok (.aload_n 0, 1) := by decide +kernel
theorem dX12_settles_75 : decode cX12_settles 75 = .ok (.invokevirtual 361, 3) := by decide +kernel
theorem dX12_settles_78 : decode cX12_settles 78 = .ok (.aload_n 0, 1) := by decide +kernel
theorem dX12_settles_79 : decode cX12_settles 79 = .ok (.getfield 9, 3) := by decide +kernel
theorem dX12_settles_82 : decode cX12_settles 82 = .ok (.bipush 96, 2) := by decide +kernel
theorem dX12_settles_84 : decode cX12_settles 84 = .ok (.aload_n 0, 1) := by decide +kernel
theorem dX12_settles_85 : decode cX12_settles 85 = .ok (.aload_n 0, 1) := by decide +kernel
theorem dX12_settles_86 : decode cX12_settles 86 = .ok (.getfield 9, 3) := by decide +kernel
theorem dX12_settles_89 : decode cX12_settles 89 = .ok (.bipush 96, 2) := by decide +kernel
theorem dX12_settles_91 : decode cX12_settles 91 = .ok (.iaload, 1) := by decide +kernel
theorem dX12_settles_92 : decode cX12_settles 92 = .ok (.invokevirtual 364, 3) := by decide +kernel
theorem dX12_settles_95 : decode cX12_settles 95 = .ok (.iastore, 1) := by decide +kernel
theorem dX12_settles_96 : decode cX12_settles 96 = .ok (.iload_n 1, 1) := by decide +kernel
theorem dX12_settles_97 : decode cX12_settles 97 = .ok (.ireturn, 1) := by decide +kernel
theorem dX12_carries_0 : decode cX12_carries 0 = .ok (.aload_n 0, 1) := by decide +kernel
theorem dX12_carries_1 : decode cX12_carries 1 = .ok (.getfield 9, 3) := by decide +kernel
theorem dX12_carries_4 : decode cX12_carries 4 = .ok (.bipush 93, 2) := by decide +kernel
theorem dX12_carries_6 : decode cX12_carries 6 = .ok (.dup2, 1) := by decide +kernel
theorem dX12_carries_7 : decode cX12_carries 7 = .ok (.iaload, 1) := by decide +kernel
theorem dX12_carries_8 : decode cX12_carries 8 = .ok (.iconst 1, 1) := by decide +kernel
theorem dX12_carries_9 : decode cX12_carries 9 = .ok (.iload_n 1, 1) := by decide +kernel
theorem dX12_carries_10 : decode cX12_carries 10 = .ok (.ishl, 1) := by decide +kernel
theorem dX12_carries_11 : decode cX12_carries 11 = .ok (.ixor, 1) := by decide +kernel
theorem dX12_carries_12 : decode cX12_carries 12 = .ok (.iastore, 1) := by decide +kernel
theorem dX12_carries_13 : decode cX12_carries 13 = .ok (.aload_n 0, 1) := by decide +kernel
theorem dX12_carries_14 : decode cX12_carries 14 = .ok (.getfield 9, 3) := by decide +kernel
theorem dX12_carries_17 : decode cX12_carries 17 = .ok (.bipush 96, 2) := by decide +kernel
theorem dX12_carries_19 : decode cX12_carries 19 = .ok (.iaload, 1) := by decide +kernel
theorem dX12_carries_20 : decode cX12_carries 20 = .ok (.iconst (-1), 1) := by decide +kernel
theorem dX12_carries_21 : decode cX12_carries 21 = .ok (.if_icmp .eq 18, 3) := by decide +kernel
theorem dX12_carries_24 : decode cX12_carries 24 = .ok (.aload_n 0, 1) := by decide +kernel
theorem dX12_carries_25 : decode cX12_carries 25 = .ok (.aload_n 0, 1) := by decide +kernel
theorem dX12_carries_26 : decode cX12_carries 26 = .ok (.getfield 9, 3) := by decide +kernel
theorem dX12_carries_29 : decode cX12_carries 29 = .ok (.bipush 96, 2) := by decide +kernel
theorem dX12_carries_31 : decode cX12_carries 31 = .ok (.iaload, 1) := by decide +kernel
theorem dX12_carries_32 : decode cX12_carries 32 = .ok (.invokevirtual 250, 3) := by decide +kernel
theorem dX12_carries_35 : decode cX12_carries 35 = .ok (.ifCond .eq 4, 3) := by decide +kernel
theorem dX12_carries_38 : decode cX12_carries 38 = .ok (.return_, 1) := by decide +kernel
theorem dX12_carries_39 : decode cX12_carries 39 = .ok (.aload_n 0, 1) := by decide +kernel
theorem dX12_carries_40 : decode cX12_carries 40 = .ok (.getfield 9, 3) := by decide +kernel
theorem dX12_carries_43 : decode cX12_carries 43 = .ok (.bipush 96, 2) := by decide +kernel
theorem dX12_carries_45 : decode cX12_carries 45 = .ok (.aload_n 0, 1) := by decide +kernel
theorem dX12_carries_46 : decode cX12_carries 46 = .ok (.invokevirtual 239, 3) := by decide +kernel
theorem dX12_carries_49 : decode cX12_carries 49 = .ok (.iastore, 1) := by decide +kernel
theorem dX12_carries_50 : decode cX12_carries 50 = .ok (.aload_n 0, 1) := by decide +kernel
theorem dX12_carries_51 : decode cX12_carries 51 = .ok (.invokevirtual 361, 3) := by decide +kernel
theorem dX12_carries_54 : decode cX12_carries 54 = .ok (.return_, 1) := by decide +kernel
theorem dX12_claim_0 : decode cX12_claim 0 = .ok (.aload_n 0, 1) := by decide +kernel
theorem dX12_claim_1 : decode cX12_claim 1 = .ok (.aload_n 0, 1) := by decide +kernel
theorem dX12_claim_2 : decode cX12_claim 2 = .ok (.iload_n 1, 1) := by decide +kernel
theorem dX12_claim_3 : decode cX12_claim 3 = .ok (.invokevirtual 367, 3) := by decide +kernel
theorem dX12_claim_6 : decode cX12_claim 6 = .ok (.ifCond .ne 7, 3) := by decide +kernel
theorem dX12_claim_9 : decode cX12_claim 9 = .ok (.iconst 1, 1) := by decide +kernel
theorem dX12_claim_10 : decode cX12_claim 10 = .ok (.goto 31, 3) := by decide +kernel
theorem dX12_claim_13 : decode cX12_claim 13 = .ok (.aload_n 0, 1) := by decide +kernel
theorem dX12_claim_14 : decode cX12_claim 14 = .ok (.getfield 9, 3) := by decide +kernel
theorem dX12_claim_17 : decode cX12_claim 17 = .ok (.bipush 96, 2) := by decide +kernel
theorem dX12_claim_19 : decode cX12_claim 19 = .ok (.iaload, 1) := by decide +kernel
theorem dX12_claim_20 : decode cX12_claim 20 = .ok (.iconst (-1), 1) := by decide +kernel
theorem dX12_claim_21 : decode cX12_claim 21 = .ok (.if_icmp .ne 7, 3) := by decide +kernel
theorem dX12_claim_24 : decode cX12_claim 24 = .ok (.iconst 2, 1) := by decide +kernel
theorem dX12_claim_25 : decode cX12_claim 25 = .ok (.goto 16, 3) := by decide +kernel
theorem dX12_claim_28 : decode cX12_claim 28 = .ok (.aload_n 0, 1) := by decide +kernel
theorem dX12_claim_29 : decode cX12_claim 29 = .ok (.iload_n 2, 1) := by decide +kernel
theorem dX12_claim_30 : decode cX12_claim 30 = .ok (.invokevirtual 333, 3) := by decide +kernel
theorem dX12_claim_33 : decode cX12_claim 33 = .ok (.ifCond .eq 7, 3) := by decide +kernel
theorem dX12_claim_36 : decode cX12_claim 36 = .ok (.iconst 0, 1) := by decide +kernel
theorem dX12_claim_37 : decode cX12_claim 37 = .ok (.goto 4, 3) := by decide +kernel
theorem dX12_claim_40 : decode cX12_claim 40 = .ok (.iconst 3, 1) := by decide +kernel
theorem dX12_claim_41 : decode cX12_claim 41 = .ok (.putfield 68, 3) := by decide +kernel
theorem dX12_claim_44 : decode cX12_claim 44 = .ok (.aload_n 0, 1) := by decide +kernel
theorem dX12_claim_45 : decode cX12_claim 45 = .ok (.getfield 68, 3) := by decide +kernel
theorem dX12_claim_48 : decode cX12_claim 48 = .ok (.ifCond .le 5, 3) := by decide +kernel
theorem dX12_claim_51 : decode cX12_claim 51 = .ok (.iconst 0, 1) := by decide +kernel
theorem dX12_claim_52 : decode cX12_claim 52 = .ok (.ireturn, 1) := by decide +kernel
theorem dX12_claim_53 : decode cX12_claim 53 = .ok (.aload_n 0, 1) := by decide +kernel
theorem dX12_claim_54 : decode cX12_claim 54 = .ok (.invokevirtual 370, 3) := by decide +kernel
theorem dX12_claim_57 : decode cX12_claim 57 = .ok (.aload_n 0, 1) := by decide +kernel
theorem dX12_claim_58 : decode cX12_claim 58 = .ok (.getfield 9, 3) := by decide +kernel
theorem dX12_claim_61 : decode cX12_claim 61 = .ok (.bipush 97, 2) := by decide +kernel
theorem dX12_claim_63 : decode cX12_claim 63 = .ok (.iload_n 1, 1) := by decide +kernel
theorem dX12_claim_64 : decode cX12_claim 64 = .ok (.iadd, 1) := by decide +kernel
theorem dX12_claim_65 : decode cX12_claim 65 = .ok (.iload_n 2, 1) := by decide +kernel
theorem dX12_claim_66 : decode cX12_claim 66 = .ok (.iastore, 1) := by decide +kernel
theorem dX12_claim_67 : decode cX12_claim 67 = .ok (.aload_n 0, 1) := by decide +kernel
theorem dX12_claim_68 : decode cX12_claim 68 = .ok (.invokevirtual 306, 3) := by decide +kernel
theorem dX12_claim_71 : decode cX12_claim 71 = .ok (.aload_n 0, 1) := by decide +kernel
theorem dX12_claim_72 : decode cX12_claim 72 = .ok (.iload_n 2, 1) := by decide +kernel
theorem dX12_claim_73 : decode cX12_claim 73 = .ok (.invokevirtual 336, 3) := by decide +kernel
theorem dX12_claim_76 : decode cX12_claim 76 = .ok (.aload_n 0, 1) := by decide +kernel
theorem dX12_claim_77 : decode cX12_claim 77 = .ok (.getfield 9, 3) := by decide +kernel
theorem dX12_claim_80 : decode cX12_claim 80 = .ok (.bipush 96, 2) := by decide +kernel
theorem dX12_claim_82 : decode cX12_claim 82 = .ok (.iaload, 1) := by decide +kernel
theorem dX12_claim_83 : decode cX12_claim 83 = .ok (.if_icmp .ne 7, 3) := by decide +kernel
theorem dX12_claim_86 : decode cX12_claim 86 = .ok (.iconst 1, 1) := by decide +kernel
theorem dX12_claim_87 : decode cX12_claim 87 = .ok (.goto 4, 3) := by decide +kernel
theorem dX12_claim_90 : decode cX12_claim 90 = .ok (.iconst 0, 1) := by decide +kernel
theorem dX12_claim_91 : decode cX12_claim 91 = .ok (.ireturn, 1) := by decide +kernel
theorem dX12_settle_0 : decode cX12_settle 0 = .ok (.aload_n 0, 1) := by decide +kernel
theorem dX12_settle_1 : decode cX12_settle 1 = .ok (.iconst 0, 1) := by decide +kernel
theorem dX12_settle_2 : decode cX12_settle 2 = .ok (.putfield 68, 3) := by decide +kernel
theorem dX12_settle_5 : decode cX12_settle 5 = .ok (.aload_n 0, 1) := by decide +kernel
theorem dX12_settle_6 : decode cX12_settle 6 = .ok (.getfield 9, 3) := by decide +kernel
theorem dX12_settle_9 : decode cX12_settle 9 = .ok (.bipush 96, 2) := by decide +kernel
theorem dX12_settle_11 : decode cX12_settle 11 = .ok (.iaload, 1) := by decide +kernel
theorem dX12_settle_12 : decode cX12_settle 12 = .ok (.iconst (-1), 1) := by decide +kernel
theorem dX12_settle_13 : decode cX12_settle 13 = .ok (.if_icmp .ne 9, 3) := by decide +kernel
theorem dX12_settle_16 : decode cX12_settle 16 = .ok (.aload_n 0, 1) := by decide +kernel
theorem dX12_settle_17 : decode cX12_settle 17 = .ok (.iconst 1, 1) := by decide +kernel
theorem dX12_settle_18 : decode cX12_settle 18 = .ok (.invokevirtual 224, 3) := by decide +kernel
theorem dX12_settle_21 : decode cX12_settle 21 = .ok (.ireturn, 1) := by decide +kernel
theorem dX12_settle_22 : decode cX12_settle 22 = .ok (.aload_n 0, 1) := by decide +kernel
theorem dX12_settle_23 : decode cX12_settle 23 = .ok (.invokevirtual 370, 3) := by decide +kernel
theorem dX12_settle_26 : decode cX12_settle 26 = .ok (.aload_n 0, 1) := by decide +kernel
theorem dX12_settle_27 : decode cX12_settle 27 = .ok (.invokevirtual 373, 3) := by decide +kernel
theorem dX12_settle_30 : decode cX12_settle 30 = .ok (.ireturn, 1) := by decide +kernel
theorem dX12_lamp_0 : decode cX12_lamp 0 = .ok (.aload_n 0, 1) := by decide +kernel
theorem dX12_lamp_1 : decode cX12_lamp 1 = .ok (.iconst 0, 1) := by decide +kernel
theorem dX12_lamp_2 : decode cX12_lamp 2 = .ok (.putfield 68, 3) := by decide +kernel
theorem dX12_lamp_5 : decode cX12_lamp 5 = .ok (.aload_n 0, 1) := by decide +kernel
theorem dX12_lamp_6 : decode cX12_lamp 6 = .ok (.invokevirtual 370, 3) := by decide +kernel
theorem dX12_lamp_9 : decode cX12_lamp 9 = .ok (.aload_n 0, 1) := by decide +kernel
theorem dX12_lamp_10 : decode cX12_lamp 10 = .ok (.getfield 9, 3) := by decide +kernel
theorem dX12_lamp_13 : decode cX12_lamp 13 = .ok (.bipush 94, 2) := by decide +kernel
theorem dX12_lamp_15 : decode cX12_lamp 15 = .ok (.iconst 1, 1) := by decide +kernel
theorem dX12_lamp_16 : decode cX12_lamp 16 = .ok (.aload_n 0, 1) := by decide +kernel
theorem dX12_lamp_17 : decode cX12_lamp 17 = .ok (.getfield 9, 3) := by decide +kernel
theorem dX12_lamp_20 : decode cX12_lamp 20 = .ok (.bipush 94, 2) := by decide +kernel
theorem dX12_lamp_22 : decode cX12_lamp 22 = .ok (.iaload, 1) := by decide +kernel
theorem dX12_lamp_23 : decode cX12_lamp 23 = .ok (.isub, 1) := by decide +kernel
theorem dX12_lamp_24 : decode cX12_lamp 24 = .ok (.iastore, 1) := by decide +kernel
theorem dX12_lamp_25 : decode cX12_lamp 25 = .ok (.aload_n 0, 1) := by decide +kernel
theorem dX12_lamp_26 : decode cX12_lamp 26 = .ok (.getfield 9, 3) := by decide +kernel
theorem dX12_lamp_29 : decode cX12_lamp 29 = .ok (.bipush 94, 2) := by decide +kernel
theorem dX12_lamp_31 : decode cX12_lamp 31 = .ok (.iaload, 1) := by decide +kernel
theorem dX12_lamp_32 : decode cX12_lamp 32 = .ok (.ireturn, 1) := by decide +kernel
theorem dX12_carry_0 : decode cX12_carry 0 = .ok (.aload_n 0, 1) := by decide +kernel
theorem dX12_carry_1 : decode cX12_carry 1 = .ok (.iconst 0, 1) := by decide +kernel
theorem dX12_carry_2 : decode cX12_carry 2 = .ok (.putfield 68, 3) := by decide +kernel
theorem dX12_carry_5 : decode cX12_carry 5 = .ok (.aload_n 0, 1) := by decide +kernel
theorem dX12_carry_6 : decode cX12_carry 6 = .ok (.iload_n 1, 1) := by decide +kernel
theorem dX12_carry_7 : decode cX12_carry 7 = .ok (.i2l, 1) := by decide +kernel
theorem dX12_carry_8 : decode cX12_carry 8 = .ok (.invokevirtual 297, 3) := by decide +kernel
theorem dX12_carry_11 : decode cX12_carry 11 = .ok (.ifCond .ne 9, 3) := by decide +kernel
theorem dX12_carry_14 : decode cX12_carry 14 = .ok (.aload_n 0, 1) := by decide +kernel
theorem dX12_carry_15 : decode cX12_carry 15 = .ok (.iconst 1, 1) := by decide +kernel
theorem dX12_carry_16 : decode cX12_carry 16 = .ok (.invokevirtual 224, 3) := by decide +kernel
theorem dX12_carry_19 : decode cX12_carry 19 = .ok (.ireturn, 1) := by decide +kernel
theorem dX12_carry_20 : decode cX12_carry 20 = .ok (.aload_n 0, 1) := by decide +kernel
theorem dX12_carry_21 : decode cX12_carry 21 = .ok (.invokevirtual 370, 3) := by decide +kernel
theorem dX12_carry_24 : decode cX12_carry 24 = .ok (.aload_n 0, 1) := by decide +kernel
theorem dX12_carry_25 : decode cX12_carry 25 = .ok (.iload_n 1, 1) := by decide +kernel
theorem dX12_carry_26 : decode cX12_carry 26 = .ok (.invokevirtual 376, 3) := by decide +kernel
theorem dX12_carry_29 : decode cX12_carry 29 = .ok (.aload_n 0, 1) := by decide +kernel
theorem dX12_carry_30 : decode cX12_carry 30 = .ok (.iload_n 1, 1) := by decide +kernel
theorem dX12_carry_31 : decode cX12_carry 31 = .ok (.invokevirtual 250, 3) := by decide +kernel
theorem dX12_carry_34 : decode cX12_carry 34 = .ok (.ifCond .eq 7, 3) := by decide +kernel
theorem dX12_carry_37 : decode cX12_carry 37 = .ok (.iconst 1, 1) := by decide +kernel
theorem dX12_carry_38 : decode cX12_carry 38 = .ok (.goto 4, 3) := by decide +kernel
theorem dX12_carry_41 : decode cX12_carry 41 = .ok (.iconst 0, 1) := by decide +kernel
theorem dX12_carry_42 : decode cX12_carry 42 = .ok (.ireturn, 1) := by decide +kernel
theorem dX12_change_0 : decode cX12_change 0 = .ok (.aload_n 0, 1) := by decide +kernel
theorem dX12_change_1 : decode cX12_change 1 = .ok (.aload_n 0, 1) := by decide +kernel
theorem dX12_change_2 : decode cX12_change 2 = .ok (.iload_n 1, 1) := by decide +kernel
theorem dX12_change_3 : decode cX12_change 3 = .ok (.i2l, 1) := by decide +kernel
theorem dX12_change_4 : decode cX12_change 4 = .ok (.invokevirtual 297, 3) := by decide +kernel
theorem dX12_change_7 : decode cX12_change 7 = .ok (.ifCond .eq 12, 3) := by decide +kernel
theorem dX12_change_10 : decode cX12_change 10 = .ok (.aload_n 0, 1) := by decide +kernel
theorem dX12_change_11 : decode cX12_change 11 = .ok (.iload_n 2, 1) := by decide +kernel
theorem dX12_change_12 : decode cX12_change 12 = .ok (.i2l, 1) := by decide +kernel
theorem dX12_change_13 : decode cX12_change 13 = .ok (.invokevirtual 301, 3) := by decide +kernel
theorem dX12_change_16 : decode cX12_change 16 = .ok (.ifCond .ne 7, 3) := by decide +kernel
theorem dX12_change_19 : decode cX12_change 19 = .ok (.iconst 1, 1) := by decide +kernel
theorem dX12_change_20 : decode cX12_change 20 = .ok (.goto 20, 3) := by decide +kernel
theorem dX12_change_23 : decode cX12_change 23 = .ok (.iload_n 3, 1) := by decide +kernel
theorem dX12_change_24 : decode cX12_change 24 = .ok (.i2l, 1) := by decide +kernel
theorem dX12_change_25 : decode cX12_change 25 = .ok (.lconst 0, 1) := by decide +kernel
theorem dX12_change_26 : decode cX12_change 26 = .ok (.ldc2_w 379, 3) := by decide +kernel
theorem dX12_change_29 : decode cX12_change 29 = .ok (.invokestatic 132, 3) := by decide +kernel
theorem dX12_change_32 : decode cX12_change 32 = .ok (.ifCond .eq 7, 3) := by decide +kernel
theorem dX12_change_35 : decode cX12_change 35 = .ok (.iconst 0, 1) := by decide +kernel
theorem dX12_change_36 : decode cX12_change 36 = .ok (.goto 4, 3) := by decide +kernel
theorem dX12_change_39 : decode cX12_change 39 = .ok (.iconst 2, 1) := by decide +kernel
theorem dX12_change_40 : decode cX12_change 40 = .ok (.putfield 68, 3) := by decide +kernel
theorem dX12_change_43 : decode cX12_change 43 = .ok (.aload_n 0, 1) := by decide +kernel
theorem dX12_change_44 : decode cX12_change 44 = .ok (.getfield 68, 3) := by decide +kernel
theorem dX12_change_47 : decode cX12_change 47 = .ok (.ifCond .le 5, 3) := by decide +kernel
theorem dX12_change_50 : decode cX12_change 50 = .ok (.iconst 0, 1) := by decide +kernel
theorem dX12_change_51 : decode cX12_change 51 = .ok (.ireturn, 1) := by decide +kernel
theorem dX12_change_52 : decode cX12_change 52 = .ok (.aload_n 0, 1) := by decide +kernel
theorem dX12_change_53 : decode cX12_change 53 = .ok (.invokevirtual 370, 3) := by decide +kernel
theorem dX12_change_56 : decode cX12_change 56 = .ok (.aload_n 0, 1) := by decide +kernel
theorem dX12_change_57 : decode cX12_change 57 = .ok (.getfield 9, 3) := by decide +kernel
theorem dX12_change_60 : decode cX12_change 60 = .ok (.bipush 9, 2) := by decide +kernel
theorem dX12_change_62 : decode cX12_change 62 = .ok (.bipush 6, 2) := by decide +kernel
theorem dX12_change_64 : decode cX12_change 64 = .ok (.iload_n 1, 1) := by decide +kernel
theorem dX12_change_65 : decode cX12_change 65 = .ok (.imul, 1) := by decide +kernel
theorem dX12_change_66 : decode cX12_change 66 = .ok (.iadd, 1) := by decide +kernel
theorem dX12_change_67 : decode cX12_change 67 = .ok (.iload_n 2, 1) := by decide +kernel
theorem dX12_change_68 : decode cX12_change 68 = .ok (.iadd, 1) := by decide +kernel
theorem dX12_change_69 : decode cX12_change 69 = .ok (.iaload, 1) := by decide +kernel
theorem dX12_change_70 : decode cX12_change 70 = .ok (.istore 4, 2) := by decide +kernel
theorem dX12_change_72 : decode cX12_change 72 = .ok (.aload_n 0, 1) := by decide +kernel
theorem dX12_change_73 : decode cX12_change 73 = .ok (.getfield 9, 3) := by decide +kernel
theorem dX12_change_76 : decode cX12_change 76 = .ok (.bipush 9, 2) := by decide +kernel
theorem dX12_change_78 : decode cX12_change 78 = .ok (.bipush 6, 2) := by decide +kernel
theorem dX12_change_80 : decode cX12_change 80 = .ok (.iload_n 1, 1) := by decide +kernel
theorem dX12_change_81 : decode cX12_change 81 = .ok (.imul, 1) := by decide +kernel
theorem dX12_change_82 : decode cX12_change 82 = .ok (.iadd, 1) := by decide +kernel
theorem dX12_change_83 : decode cX12_change 83 = .ok (.iload_n 2, 1) := by decide +kernel
theorem dX12_change_84 : decode cX12_change 84 = .ok (.iadd, 1) := by decide +kernel
theorem dX12_change_85 : decode cX12_change 85 = .ok (.iload_n 3, 1) := by decide +kernel
theorem dX12_change_86 : decode cX12_change 86 = .ok (.iastore, 1) := by decide +kernel
theorem dX12_change_87 : decode cX12_change 87 = .ok (.iload 4, 2) := by decide +kernel
theorem dX12_change_89 : decode cX12_change 89 = .ok (.ireturn, 1) := by decide +kernel
theorem dX12_stake_0 : decode cX12_stake 0 = .ok (.aload_n 0, 1) := by decide +kernel
theorem dX12_stake_1 : decode cX12_stake 1 = .ok (.aload_n 0, 1) := by decide +kernel
theorem dX12_stake_2 : decode cX12_stake 2 = .ok (.iload_n 1, 1) := by decide +kernel
theorem dX12_stake_3 : decode cX12_stake 3 = .ok (.invokevirtual 346, 3) := by decide +kernel
theorem dX12_stake_6 : decode cX12_stake 6 = .ok (.putfield 68, 3) := by decide +kernel
theorem dX12_stake_9 : decode cX12_stake 9 = .ok (.aload_n 0, 1) := by decide +kernel
theorem dX12_stake_10 : decode cX12_stake 10 = .ok (.getfield 68, 3) := by decide +kernel
theorem dX12_stake_13 : decode cX12_stake 13 = .ok (.ifCond .le 5, 3) := by decide +kernel
theorem dX12_stake_16 : decode cX12_stake 16 = .ok (.iconst 0, 1) := by decide +kernel
theorem dX12_stake_17 : decode cX12_stake 17 = .ok (.ireturn, 1) := by decide +kernel
theorem dX12_stake_18 : decode cX12_stake 18 = .ok (.aload_n 0, 1) := by decide +kernel
theorem dX12_stake_19 : decode cX12_stake 19 = .ok (.invokevirtual 370, 3) := by decide +kernel
theorem dX12_stake_22 : decode cX12_stake 22 = .ok (.aload_n 0, 1) := by decide +kernel
theorem dX12_stake_23 : decode cX12_stake 23 = .ok (.getfield 9, 3) := by decide +kernel
theorem dX12_stake_26 : decode cX12_stake 26 = .ok (.bipush 96, 2) := by decide +kernel
theorem dX12_stake_28 : decode cX12_stake 28 = .ok (.iaload, 1) := by decide +kernel
theorem dX12_stake_29 : decode cX12_stake 29 = .ok (.istore_n 2, 1) := by decide +kernel
theorem dX12_stake_30 : decode cX12_stake 30 = .ok (.aload_n 0, 1) := by decide +kernel
theorem dX12_stake_31 : decode cX12_stake 31 = .ok (.getfield 9, 3) := by decide +kernel
theorem dX12_stake_34 : decode cX12_stake 34 = .ok (.bipush 96, 2) := by decide +kernel
theorem dX12_stake_36 : decode cX12_stake 36 = .ok (.iload_n 1, 1) := by decide +kernel
theorem dX12_stake_37 : decode cX12_stake 37 = .ok (.iastore, 1) := by decide +kernel
theorem dX12_stake_38 : decode cX12_stake 38 = .ok (.aload_n 0, 1) := by decide +kernel
theorem dX12_stake_39 : decode cX12_stake 39 = .ok (.invokevirtual 361, 3) := by decide +kernel
theorem dX12_stake_42 : decode cX12_stake 42 = .ok (.iload_n 2, 1) := by decide +kernel
theorem dX12_stake_43 : decode cX12_stake 43 = .ok (.ireturn, 1) := by decide +kernel
theorem dX12_person_0 : decode cX12_person 0 = .ok (.aload_n 0, 1) := by decide +kernel
theorem dX12_person_1 : decode cX12_person 1 = .ok (.aload_n 0, 1) := by decide +kernel
theorem dX12_person_2 : decode cX12_person 2 = .ok (.iload_n 1, 1) := by decide +kernel
theorem dX12_person_3 : decode cX12_person 3 = .ok (.invokevirtual 367, 3) := by decide +kernel
theorem dX12_person_6 : decode cX12_person 6 = .ok (.ifCond .ne 7, 3) := by decide +kernel
theorem dX12_person_9 : decode cX12_person 9 = .ok (.iconst 1, 1) := by decide +kernel
theorem dX12_person_10 : decode cX12_person 10 = .ok (.goto 18, 3) := by decide +kernel
theorem dX12_person_13 : decode cX12_person 13 = .ok (.iload_n 2, 1) := by decide +kernel
theorem dX12_person_14 : decode cX12_person 14 = .ok (.i2l, 1) := by decide +kernel
theorem dX12_person_15 : decode cX12_person 15 = .ok (.lconst 0, 1) := by decide +kernel
theorem dX12_person_16 : decode cX12_person 16 = .ok (.lconst 1, 1) := by decide +kernel
theorem dX12_person_17 : decode cX12_person 17 = .ok (.invokestatic 132, 3) := by decide +kernel
theorem dX12_person_20 : decode cX12_person 20 = .ok (.ifCond .eq 7, 3) := by decide +kernel
theorem dX12_person_23 : decode cX12_person 23 = .ok (.iconst 0, 1) := by decide +kernel
theorem dX12_person_24 : decode cX12_person 24 = .ok (.goto 4, 3) := by decide +kernel
theorem dX12_person_27 : decode cX12_person 27 = .ok (.iconst 2, 1) := by decide +kernel
theorem dX12_person_28 : decode cX12_person 28 = .ok (.putfield 68, 3) := by decide +kernel
theorem dX12_person_31 : decode cX12_person 31 = .ok (.aload_n 0, 1) := by decide +kernel
theorem dX12_person_32 : decode cX12_person 32 = .ok (.getfield 68, 3) := by decide +kernel
theorem dX12_person_35 : decode cX12_person 35 = .ok (.ifCond .le 5, 3) := by decide +kernel
theorem dX12_person_38 : decode cX12_person 38 = .ok (.iconst 0, 1) := by decide +kernel
theorem dX12_person_39 : decode cX12_person 39 = .ok (.ireturn, 1) := by decide +kernel
theorem dX12_person_40 : decode cX12_person 40 = .ok (.iload_n 2, 1) := by decide +kernel
theorem dX12_person_41 : decode cX12_person 41 = .ok (.ifCond .ne 15, 3) := by decide +kernel
theorem dX12_person_44 : decode cX12_person 44 = .ok (.aload_n 0, 1) := by decide +kernel
theorem dX12_person_45 : decode cX12_person 45 = .ok (.getfield 9, 3) := by decide +kernel
theorem dX12_person_48 : decode cX12_person 48 = .ok (.bipush 97, 2) := by decide +kernel
theorem dX12_person_50 : decode cX12_person 50 = .ok (.iload_n 1, 1) := by decide +kernel
theorem dX12_person_51 : decode cX12_person 51 = .ok (.iadd, 1) := by decide +kernel
theorem dX12_person_52 : decode cX12_person 52 = .ok (.iaload, 1) := by decide +kernel
theorem dX12_person_53 : decode cX12_person 53 = .ok (.goto 12, 3) := by decide +kernel
theorem dX12_person_56 : decode cX12_person 56 = .ok (.aload_n 0, 1) := by decide +kernel
theorem dX12_person_57 : decode cX12_person 57 = .ok (.getfield 9, 3) := by decide +kernel
theorem dX12_person_60 : decode cX12_person 60 = .ok (.bipush 103, 2) := by decide +kernel
theorem dX12_person_62 : decode cX12_person 62 = .ok (.iload_n 1, 1) := by decide +kernel
theorem dX12_person_63 : decode cX12_person 63 = .ok (.iadd, 1) := by decide +kernel
theorem dX12_person_64 : decode cX12_person 64 = .ok (.iaload, 1) := by decide +kernel
theorem dX12_person_65 : decode cX12_person 65 = .ok (.ireturn, 1) := by decide +kernel
theorem dX12_winner_0 : decode cX12_winner 0 = .ok (.aload_n 0, 1) := by decide +kernel
theorem dX12_winner_1 : decode cX12_winner 1 = .ok (.iconst 0, 1) := by decide +kernel
theorem dX12_winner_2 : decode cX12_winner 2 = .ok (.putfield 68, 3) := by decide +kernel
theorem dX12_winner_5 : decode cX12_winner 5 = .ok (.aload_n 0, 1) := by decide +kernel
theorem dX12_winner_6 : decode cX12_winner 6 = .ok (.invokevirtual 358, 3) := by decide +kernel
theorem dX12_winner_9 : decode cX12_winner 9 = .ok (.ireturn, 1) := by decide +kernel
theorem dX12_undo_0 : decode cX12_undo 0 = .ok (.aload_n 0, 1) := by decide +kernel
theorem dX12_undo_1 : decode cX12_undo 1 = .ok (.iconst 0, 1) := by decide +kernel
theorem dX12_undo_2 : decode cX12_undo 2 = .ok (.putfield 68, 3) := by decide +kernel
theorem dX12_undo_5 : decode cX12_undo 5 = .ok (.iload_n 1, 1) := by decide +kernel
theorem dX12_undo_6 : decode cX12_undo 6 = .ok (.i2l, 1) := by decide +kernel
theorem dX12_undo_7 : decode cX12_undo 7 = .ok (.lconst 1, 1) := by decide +kernel
theorem dX12_undo_8 : decode cX12_undo 8 = .ok (.ldc2_w 381, 3) := by decide +kernel
theorem dX12_undo_11 : decode cX12_undo 11 = .ok (.invokestatic 132, 3) := by decide +kernel
theorem dX12_undo_14 : decode cX12_undo 14 = .ok (.ifCond .eq 14, 3) := by decide +kernel
theorem dX12_undo_17 : decode cX12_undo 17 = .ok (.iload_n 1, 1) := by decide +kernel
theorem dX12_undo_18 : decode cX12_undo 18 = .ok (.aload_n 0, 1) := by decide +kernel
theorem dX12_undo_19 : decode cX12_undo 19 = .ok (.getfield 9, 3) := by decide +kernel
theorem dX12_undo_22 : decode cX12_undo 22 = .ok (.bipush 8, 2) := by decide +kernel
theorem dX12_undo_24 : decode cX12_undo 24 = .ok (.iaload, 1) := by decide +kernel
theorem dX12_undo_25 : decode cX12_undo 25 = .ok (.if_icmp .le 9, 3) := by decide +kernel
theorem dX12_undo_28 : decode cX12_undo 28 = .ok (.aload_n 0, 1) := by decide +kernel
theorem dX12_undo_29 : decode cX12_undo 29 = .ok (.iconst 1, 1) := by decide +kernel
theorem dX12_undo_30 : decode cX12_undo 30 = .ok (.invokevirtual 224, 3) := by decide +kernel
theorem dX12_undo_33 : decode cX12_undo 33 = .ok (.ireturn, 1) := by decide +kernel
theorem dX12_undo_34 : decode cX12_undo 34 = .ok (.aload_n 0, 1) := by decide +kernel
theorem dX12_undo_35 : decode cX12_undo 35 = .ok (.getfield 9, 3) := by decide +kernel
theorem dX12_undo_38 : decode cX12_undo 38 = .ok (.bipush 8, 2) := by decide +kernel
theorem dX12_undo_40 : decode cX12_undo 40 = .ok (.dup2, 1) := by decide +kernel
theorem dX12_undo_41 : decode cX12_undo 41 = .ok (.iaload, 1) := by decide +kernel
theorem dX12_undo_42 : decode cX12_undo 42 = .ok (.iload_n 1, 1) := by decide +kernel
theorem dX12_undo_43 : decode cX12_undo 43 = .ok (.isub, 1) := by decide +kernel
theorem dX12_undo_44 : decode cX12_undo 44 = .ok (.iastore, 1) := by decide +kernel
theorem dX12_undo_45 : decode cX12_undo 45 = .ok (.iconst 0, 1) := by decide +kernel
theorem dX12_undo_46 : decode cX12_undo 46 = .ok (.istore_n 2, 1) := by decide +kernel
theorem dX12_undo_47 : decode cX12_undo 47 = .ok (.iload_n 2, 1) := by decide +kernel
theorem dX12_undo_48 : decode cX12_undo 48 = .ok (.bipush 100, 2) := by decide +kernel
theorem dX12_undo_50 : decode cX12_undo 50 = .ok (.if_icmp .ge 39, 3) := by decide +kernel
theorem dX12_undo_53 : decode cX12_undo 53 = .ok (.aload_n 0, 1) := by decide +kernel
theorem dX12_undo_54 : decode cX12_undo 54 = .ok (.getfield 9, 3) := by decide +kernel
theorem dX12_undo_57 : decode cX12_undo 57 = .ok (.bipush 9, 2) := by decide +kernel
theorem dX12_undo_59 : decode cX12_undo 59 = .ok (.iload_n 2, 1) := by decide +kernel
theorem dX12_undo_60 : decode cX12_undo 60 = .ok (.iadd, 1) := by decide +kernel
theorem dX12_undo_61 : decode cX12_undo 61 = .ok (.aload_n 0, 1) := by decide +kernel
theorem dX12_undo_62 : decode cX12_undo 62 = .ok (.getfield 9, 3) := by decide +kernel
theorem dX12_undo_65 : decode cX12_undo 65 = .ok (.sipush 155, 3) := by decide +kernel
theorem dX12_undo_68 : decode cX12_undo 68 = .ok (.bipush 100, 2) := by decide +kernel
theorem dX12_undo_70 : decode cX12_undo 70 = .ok (.aload_n 0, 1) := by decide +kernel
theorem dX12_undo_71 : decode cX12_undo 71 = .ok (.getfield 9, 3) := by decide +kernel
theorem dX12_undo_74 : decode cX12_undo 74 = .ok (.bipush 8, 2) := by decide +kernel
theorem dX12_undo_76 : decode cX12_undo 76 = .ok (.iaload, 1) := by decide +kernel
theorem dX12_undo_77 : decode cX12_undo 77 = .ok (.imul, 1) := by decide +kernel
theorem dX12_undo_78 : decode cX12_undo 78 = .ok (.iadd, 1) := by decide +kernel
theorem dX12_undo_79 : decode cX12_undo 79 = .ok (.iload_n 2, 1) := by decide +kernel
theorem dX12_undo_80 : decode cX12_undo 80 = .ok (.iadd, 1) := by decide +kernel
theorem dX12_undo_81 : decode cX12_undo 81 = .ok (.iaload, 1) := by decide +kernel
theorem dX12_undo_82 : decode cX12_undo 82 = .ok (.iastore, 1) := by decide +kernel
theorem dX12_undo_83 : decode cX12_undo 83 = .ok (.iinc 2 1, 3) := by decide +kernel
theorem dX12_undo_86 : decode cX12_undo 86 = .ok (.goto (-39), 3) := by decide +kernel
theorem dX12_undo_89 : decode cX12_undo 89 = .ok (.aload_n 0, 1) := by decide +kernel
theorem dX12_undo_90 : decode cX12_undo 90 = .ok (.getfield 9, 3) := by decide +kernel
theorem dX12_undo_93 : decode cX12_undo 93 = .ok (.bipush 8, 2) := by decide +kernel
theorem dX12_undo_95 : decode cX12_undo 95 = .ok (.iaload, 1) := by decide +kernel
theorem dX12_undo_96 : decode cX12_undo 96 = .ok (.ireturn, 1) := by decide +kernel
theorem dX12_trayFault_0 : decode cX12_trayFault 0 = .ok (.iload_n 1, 1) := by decide +kernel
theorem dX12_trayFault_1 : decode cX12_trayFault 1 = .ok (.invokestatic 383, 3) := by decide +kernel
theorem dX12_trayFault_4 : decode cX12_trayFault 4 = .ok (.ifCond .ne 7, 3) := by decide +kernel
theorem dX12_trayFault_7 : decode cX12_trayFault 7 = .ok (.iconst 1, 1) := by decide +kernel
theorem dX12_trayFault_8 : decode cX12_trayFault 8 = .ok (.goto 18, 3) := by decide +kernel
theorem dX12_trayFault_11 : decode cX12_trayFault 11 = .ok (.aload_n 0, 1) := by decide +kernel
theorem dX12_trayFault_12 : decode cX12_trayFault 12 = .ok (.getfield 54, 3) := by decide +kernel
theorem dX12_trayFault_15 : decode cX12_trayFault 15 = .ok (.iload_n 1, 1) := by decide +kernel
theorem dX12_trayFault_16 : decode cX12_trayFault 16 = .ok (.iaload, 1) := by decide +kernel
theorem dX12_trayFault_17 : decode cX12_trayFault 17 = .ok (.iconst (-1), 1) := by decide +kernel
theorem dX12_trayFault_18 : decode cX12_trayFault 18 = .ok (.if_icmp .ne 7, 3) := by decide +kernel
theorem dX12_trayFault_21 : decode cX12_trayFault 21 = .ok (.iconst 2, 1) := by decide +kernel
theorem dX12_trayFault_22 : decode cX12_trayFault 22 = .ok (.goto 4, 3) := by decide +kernel
theorem dX12_trayFault_25 : decode cX12_trayFault 25 = .ok (.iconst 0, 1) := by decide +kernel
theorem dX12_trayFault_26 : decode cX12_trayFault 26 = .ok (.ireturn, 1) := by decide +kernel
theorem dX12_whyTold_0 : decode cX12_whyTold 0 = .ok (.lload_n 1, 1) := by decide +kernel
theorem dX12_whyTold_1 : decode cX12_whyTold 1 = .ok (.ldc2_w 386, 3) := by decide +kernel
theorem dX12_whyTold_4 : decode cX12_whyTold 4 = .ok (.lcmp, 1) := by decide +kernel
theorem dX12_whyTold_5 : decode cX12_whyTold 5 = .ok (.ifCond .ne 20, 3) := by decide +kernel
theorem dX12_whyTold_8 : decode cX12_whyTold 8 = .ok (.aload_n 0, 1) := by decide +kernel
theorem dX12_whyTold_9 : decode cX12_whyTold 9 = .ok (.getfield 9, 3) := by decide +kernel
theorem dX12_whyTold_12 : decode cX12_whyTold 12 = .ok (.bipush 96, 2) := by decide +kernel
theorem dX12_whyTold_14 : decode cX12_whyTold 14 = .ok (.iaload, 1) := by decide +kernel
theorem dX12_whyTold_15 : decode cX12_whyTold 15 = .ok (.iconst (-1), 1) := by decide +kernel
theorem dX12_whyTold_16 : decode cX12_whyTold 16 = .ok (.if_icmp .ne 7, 3) := by decide +kernel
theorem dX12_whyTold_19 : decode cX12_whyTold 19 = .ok (.iconst 1, 1) := by decide +kernel
theorem dX12_whyTold_20 : decode cX12_whyTold 20 = .ok (.goto 4, 3) := by decide +kernel
theorem dX12_whyTold_23 : decode cX12_whyTold 23 = .ok (.iconst 0, 1) := by decide +kernel
theorem dX12_whyTold_24 : decode cX12_whyTold 24 = .ok (.ireturn, 1) := by decide +kernel
theorem dX12_whyTold_25 : decode cX12_whyTold 25 = .ok (.lload_n 1, 1) := by decide +kernel
theorem dX12_whyTold_26 : decode cX12_whyTold 26 = .ok (.lconst 0, 1) := by decide +kernel
theorem dX12_whyTold_27 : decode cX12_whyTold 27 = .ok (.ldc2_w 388, 3) := by decide +kernel
theorem dX12_whyTold_30 : decode cX12_whyTold 30 = .ok (.invokestatic 132, 3) := by decide +kernel
theorem dX12_whyTold_33 : decode cX12_whyTold 33 = .ok (.ifCond .eq 37, 3) := by decide +kernel
theorem dX12_whyTold_36 : decode cX12_whyTold 36 = .ok (.aload_n 0, 1) := by decide +kernel
theorem dX12_whyTold_37 : decode cX12_whyTold 37 = .ok (.lload_n 1, 1) := by decide +kernel
theorem dX12_whyTold_38 : decode cX12_whyTold 38 = .ok (.ldc2_w 390, 3) := by decide +kernel
theorem dX12_whyTold_41 : decode cX12_whyTold 41 = .ok (.ldiv, 1) := by decide +kernel
theorem dX12_whyTold_42 : decode cX12_whyTold 42 = .ok (.invokevirtual 297, 3) := by decide +kernel
theorem dX12_whyTold_45 : decode cX12_whyTold 45 = .ok (.ifCond .eq 23, 3) := by decide +kernel
theorem dX12_whyTold_48 : decode cX12_whyTold 48 = .ok (.aload_n 0, 1) := by decide +kernel
theorem dX12_whyTold_49 : decode cX12_whyTold 49 = .ok (.lload_n 1, 1) := by decide +kernel
theorem dX12_whyTold_50 : decode cX12_whyTold 50 = .ok (.ldc2_w 381, 3) := by decide +kernel
theorem dX12_whyTold_53 : decode cX12_whyTold 53 = .ok (.ldiv, 1) := by decide +kernel
theorem dX12_whyTold_54 : decode cX12_whyTold 54 = .ok (.ldc2_w 381, 3) := by decide +kernel
theorem dX12_whyTold_57 : decode cX12_whyTold 57 = .ok (.lrem, 1) := by decide +kernel
theorem dX12_whyTold_58 : decode cX12_whyTold 58 = .ok (.invokevirtual 301, 3) := by decide +kernel
theorem dX12_whyTold_61 : decode cX12_whyTold 61 = .ok (.ifCond .eq 7, 3) := by decide +kernel
theorem dX12_whyTold_64 : decode cX12_whyTold 64 = .ok (.iconst 0, 1) := by decide +kernel
theorem dX12_whyTold_65 : decode cX12_whyTold 65 = .ok (.goto 4, 3) := by decide +kernel
theorem dX12_whyTold_68 : decode cX12_whyTold 68 = .ok (.iconst 1, 1) := by decide +kernel
theorem dX12_whyTold_69 : decode cX12_whyTold 69 = .ok (.ireturn, 1) := by decide +kernel
theorem dX12_whyTold_70 : decode cX12_whyTold 70 = .ok (.lload_n 1, 1) := by decide +kernel
theorem dX12_whyTold_71 : decode cX12_whyTold 71 = .ok (.ldc2_w 392, 3) := by decide +kernel
theorem dX12_whyTold_74 : decode cX12_whyTold 74 = .ok (.lcmp, 1) := by decide +kernel
theorem dX12_whyTold_75 : decode cX12_whyTold 75 = .ok (.ifCond .eq 28, 3) := by decide +kernel
theorem dX12_whyTold_78 : decode cX12_whyTold 78 = .ok (.lload_n 1, 1) := by decide +kernel
theorem dX12_whyTold_79 : decode cX12_whyTold 79 = .ok (.ldc2_w 394, 3) := by decide +kernel
theorem dX12_whyTold_82 : decode cX12_whyTold 82 = .ok (.ldc2_w 396, 3) := by decide +kernel
theorem dX12_whyTold_85 : decode cX12_whyTold 85 = .ok (.invokestatic 132, 3) := by decide +kernel
theorem dX12_whyTold_88 : decode cX12_whyTold 88 = .ok (.ifCond .eq 19, 3) := by decide +kernel
theorem dX12_whyTold_91 : decode cX12_whyTold 91 = .ok (.aload_n 0, 1) := by decide +kernel
theorem dX12_whyTold_92 : decode cX12_whyTold 92 = .ok (.lload_n 1, 1) := by decide +kernel
theorem dX12_whyTold_93 : decode cX12_whyTold 93 = .ok (.ldc2_w 394, 3) := by decide +kernel
theorem dX12_whyTold_96 : decode cX12_whyTold 96 = .ok (.lsub, 1) := by decide +kernel
theorem dX12_whyTold_97 : decode cX12_whyTold 97 = .ok (.invokevirtual 297, 3) := by decide +kernel
theorem dX12_whyTold_100 : decode cX12_whyTold 100 = .ok (.ifCond .eq 7, 3) := by decide +kernel
theorem dX12_whyTold_103 : decode cX12_whyTold 103 = .ok (.iconst 0, 1) := by decide +kernel
theorem dX12_whyTold_104 : decode cX12_whyTold 104 = .ok (.goto 4, 3) := by decide +kernel
theorem dX12_whyTold_107 : decode cX12_whyTold 107 = .ok (.iconst 1, 1) := by decide +kernel
theorem dX12_whyTold_108 : decode cX12_whyTold 108 = .ok (.ireturn, 1) := by decide +kernel
theorem dX12_does_0 : decode cX12_does 0 = .ok (.iload_n 1, 1) := by decide +kernel
theorem dX12_does_1 : decode cX12_does 1 = .ok (.iconst (-1), 1) := by decide +kernel
theorem dX12_does_2 : decode cX12_does 2 = .ok (.if_icmp .ne 11, 3) := by decide +kernel
theorem dX12_does_5 : decode cX12_does 5 = .ok (.aload_n 0, 1) := by decide +kernel
theorem dX12_does_6 : decode cX12_does 6 = .ok (.invokevirtual 373, 3) := by decide +kernel
theorem dX12_does_9 : decode cX12_does 9 = .ok (.pop, 1) := by decide +kernel
theorem dX12_does_10 : decode cX12_does 10 = .ok (.goto 75, 3) := by decide +kernel
theorem dX12_does_13 : decode cX12_does 13 = .ok (.iload_n 1, 1) := by decide +kernel
theorem dX12_does_14 : decode cX12_does 14 = .ok (.sipush 2000, 3) := by decide +kernel
theorem dX12_does_17 : decode cX12_does 17 = .ok (.if_icmp .ge 33, 3) := by decide +kernel
theorem dX12_does_20 : decode cX12_does 20 = .ok (.aload_n 0, 1) := by decide +kernel
theorem dX12_does_21 : decode cX12_does 21 = .ok (.getfield 9, 3) := by decide +kernel
theorem dX12_does_24 : decode cX12_does 24 = .ok (.bipush 9, 2) := by decide +kernel
theorem dX12_does_26 : decode cX12_does 26 = .ok (.bipush 6, 2) := by decide +kernel
theorem dX12_does_28 : decode cX12_does 28 = .ok (.iload_n 1, 1) := by decide +kernel
theorem dX12_does_29 : decode cX12_does 29 = .ok (.bipush 100, 2) := by decide +kernel
theorem dX12_does_31 : decode cX12_does 31 = .ok (.idiv, 1) := by decide +kernel
theorem dX12_does_32 : decode cX12_does 32 = .ok (.imul, 1) := by decide +kernel
theorem dX12_does_33 : decode cX12_does 33 = .ok (.iadd, 1) := by decide +kernel
theorem dX12_does_34 : decode cX12_does 34 = .ok (.iload_n 1, 1) := by decide +kernel
theorem dX12_does_35 : decode cX12_does 35 = .ok (.bipush 10, 2) := by decide +kernel
theorem dX12_does_37 : decode cX12_does 37 = .ok (.idiv, 1) := by decide +kernel
theorem dX12_does_38 : decode cX12_does 38 = .ok (.bipush 10, 2) := by decide +kernel
theorem dX12_does_40 : decode cX12_does 40 = .ok (.irem, 1) := by decide +kernel
theorem dX12_does_41 : decode cX12_does 41 = .ok (.iadd, 1) := by decide +kernel
theorem dX12_does_42 : decode cX12_does 42 = .ok (.iload_n 1, 1) := by decide +kernel
theorem dX12_does_43 : decode cX12_does 43 = .ok (.bipush 10, 2) := by decide +kernel
theorem dX12_does_45 : decode cX12_does 45 = .ok (.irem, 1) := by decide +kernel
theorem dX12_does_46 : decode cX12_does 46 = .ok (.iastore, 1) := by decide +kernel
theorem dX12_does_47 : decode cX12_does 47 = .ok (.goto 38, 3) := by decide +kernel
theorem dX12_does_50 : decode cX12_does 50 = .ok (.iload_n 1, 1) := by decide +kernel
theorem dX12_does_51 : decode cX12_does 51 = .ok (.sipush 3000, 3) := by decide +kernel
theorem dX12_does_54 : decode cX12_does 54 = .ok (.if_icmp .ge 15, 3) := by decide +kernel
theorem dX12_does_57 : decode cX12_does 57 = .ok (.aload_n 0, 1) := by decide +kernel
theorem dX12_does_58 : decode cX12_does 58 = .ok (.iload_n 1, 1) := by decide +kernel
theorem dX12_does_59 : decode cX12_does 59 = .ok (.sipush 2000, 3) := by decide +kernel
theorem dX12_does_62 : decode cX12_does 62 = .ok (.isub, 1) := by decide +kernel
theorem dX12_does_63 : decode cX12_does 63 = .ok (.invokevirtual 376, 3) := by decide +kernel
theorem dX12_does_66 : decode cX12_does 66 = .ok (.goto 19, 3) := by decide +kernel
theorem dX12_does_69 : decode cX12_does 69 = .ok (.aload_n 0, 1) := by decide +kernel
theorem dX12_does_70 : decode cX12_does 70 = .ok (.getfield 9, 3) := by decide +kernel
theorem dX12_does_73 : decode cX12_does 73 = .ok (.bipush 94, 2) := by decide +kernel
theorem dX12_does_75 : decode cX12_does 75 = .ok (.iconst 1, 1) := by decide +kernel
theorem dX12_does_76 : decode cX12_does 76 = .ok (.aload_n 0, 1) := by decide +kernel
theorem dX12_does_77 : decode cX12_does 77 = .ok (.getfield 9, 3) := by decide +kernel
theorem dX12_does_80 : decode cX12_does 80 = .ok (.bipush 94, 2) := by decide +kernel
theorem dX12_does_82 : decode cX12_does 82 = .ok (.iaload, 1) := by decide +kernel
theorem dX12_does_83 : decode cX12_does 83 = .ok (.isub, 1) := by decide +kernel
theorem dX12_does_84 : decode cX12_does 84 = .ok (.iastore, 1) := by decide +kernel
theorem dX12_does_85 : decode cX12_does 85 = .ok (.return_, 1) := by decide +kernel
theorem dX12_judge_0 : decode cX12_judge 0 = .ok (.aload_n 0, 1) := by decide +kernel
theorem dX12_judge_1 : decode cX12_judge 1 = .ok (.aload_n 0, 1) := by decide +kernel
theorem dX12_judge_2 : decode cX12_judge 2 = .ok (.iload_n 1, 1) := by decide +kernel
theorem dX12_judge_3 : decode cX12_judge 3 = .ok (.invokevirtual 398, 3) := by decide +kernel
theorem dX12_judge_6 : decode cX12_judge 6 = .ok (.putfield 68, 3) := by decide +kernel
theorem dX12_judge_9 : decode cX12_judge 9 = .ok (.aload_n 0, 1) := by decide +kernel
theorem dX12_judge_10 : decode cX12_judge 10 = .ok (.getfield 68, 3) := by decide +kernel
theorem dX12_judge_13 : decode cX12_judge 13 = .ok (.ifCond .ne 20, 3) := by decide +kernel
theorem dX12_judge_16 : decode cX12_judge 16 = .ok (.iload_n 2, 1) := by decide +kernel
theorem dX12_judge_17 : decode cX12_judge 17 = .ok (.i2l, 1) := by decide +kernel
theorem dX12_judge_18 : decode cX12_judge 18 = .ok (.lconst 0, 1) := by decide +kernel
theorem dX12_judge_19 : decode cX12_judge 19 = .ok (.ldc2_w 315, 3) := by decide +kernel
theorem dX12_judge_22 : decode cX12_judge 22 = .ok (.invokestatic 132, 3) := by decide +kernel
theorem dX12_judge_25 : decode cX12_judge 25 = .ok (.ifCond .ne 8, 3) := by decide +kernel
theorem dX12_judge_28 : decode cX12_judge 28 = .ok (.aload_n 0, 1) := by decide +kernel
theorem dX12_judge_29 : decode cX12_judge 29 = .ok (.iconst 3, 1) := by decide +kernel
theorem dX12_judge_30 : decode cX12_judge 30 = .ok (.putfield 68, 3) := by decide +kernel
theorem dX12_judge_33 : decode cX12_judge 33 = .ok (.aload_n 0, 1) := by decide +kernel
theorem dX12_judge_34 : decode cX12_judge 34 = .ok (.getfield 68, 3) := by decide +kernel
theorem dX12_judge_37 : decode cX12_judge 37 = .ok (.ifCond .le 5, 3) := by decide +kernel
theorem dX12_judge_40 : decode cX12_judge 40 = .ok (.iconst 0, 1) := by decide +kernel
theorem dX12_judge_41 : decode cX12_judge 41 = .ok (.ireturn, 1) := by decide +kernel
theorem dX12_judge_42 : decode cX12_judge 42 = .ok (.aload_n 0, 1) := by decide +kernel
theorem dX12_judge_43 : decode cX12_judge 43 = .ok (.invokevirtual 401, 3) := by decide +kernel
theorem dX12_judge_46 : decode cX12_judge 46 = .ok (.iconst (-1), 1) := by decide +kernel
theorem dX12_judge_47 : decode cX12_judge 47 = .ok (.istore_n 3, 1) := by decide +kernel
theorem dX12_judge_48 : decode cX12_judge 48 = .ok (.iconst 0, 1) := by decide +kernel
theorem dX12_judge_49 : decode cX12_judge 49 = .ok (.istore 4, 2) := by decide +kernel
theorem dX12_judge_51 : decode cX12_judge 51 = .ok (.iconst 0, 1) := by decide +kernel
theorem dX12_judge_52 : decode cX12_judge 52 = .ok (.istore 5, 2) := by decide +kernel
theorem dX12_judge_54 : decode cX12_judge 54 = .ok (.iload 5, 2) := by decide +kernel
theorem dX12_judge_56 : decode cX12_judge 56 = .ok (.aload_n 0, 1) := by decide +kernel
theorem dX12_judge_57 : decode cX12_judge 57 = .ok (.getfield 57, 3) := by decide +kernel
theorem dX12_judge_60 : decode cX12_judge 60 = .ok (.iload_n 1, 1) := by decide +kernel
theorem dX12_judge_61 : decode cX12_judge 61 = .ok (.iaload, 1) := by decide +kernel
theorem dX12_judge_62 : decode cX12_judge 62 = .ok (.if_icmp .ge 60, 3) := by decide +kernel
theorem dX12_judge_65 : decode cX12_judge 65 = .ok (.iload_n 3, 1) := by decide +kernel
theorem dX12_judge_66 : decode cX12_judge 66 = .ok (.iconst (-1), 1) := by decide +kernel
theorem dX12_judge_67 : decode cX12_judge 67 = .ok (.if_icmp .ne 55, 3) := by decide +kernel
theorem dX12_judge_70 : decode cX12_judge 70 = .ok (.aload_n 0, 1) := by decide +kernel
theorem dX12_judge_71 : decode cX12_judge 71 = .ok (.aload_n 0, 1) := by decide +kernel
theorem dX12_judge_72 : decode cX12_judge 72 = .ok (.getfield 60, 3) := by decide +kernel
theorem dX12_judge_75 : decode cX12_judge 75 = .ok (.bipush 30, 2) := by decide +kernel
theorem dX12_judge_77 : decode cX12_judge 77 = .ok (.iload_n 1, 1) := by decide +kernel
theorem dX12_judge_78 : decode cX12_judge 78 = .ok (.imul, 1) := by decide +kernel
theorem dX12_judge_79 : decode cX12_judge 79 = .ok (.iload 5, 2) := by decide +kernel
theorem dX12_judge_81 : decode cX12_judge 81 = .ok (.iadd, 1) := by decide +kernel
theorem dX12_judge_82 : decode cX12_judge 82 = .ok (.laload, 1) := by decide +kernel
theorem dX12_judge_83 : decode cX12_judge 83 = .ok (.invokevirtual 404, 3) := by decide +kernel
theorem dX12_judge_86 : decode cX12_judge 86 = .ok (.istore 4, 2) := by decide +kernel
theorem dX12_judge_88 : decode cX12_judge 88 = .ok (.iload 4, 2) := by decide +kernel
theorem dX12_judge_90 : decode cX12_judge 90 = .ok (.ifCond .ne 23, 3) := by decide +kernel
theorem dX12_judge_93 : decode cX12_judge 93 = .ok (.aload_n 0, 1) := by decide +kernel
theorem dX12_judge_94 : decode cX12_judge 94 = .ok (.aload_n 0, 1) := by decide +kernel
theorem dX12_judge_95 : decode cX12_judge 95 = .ok (.getfield 60, 3) := by decide +kernel
theorem dX12_judge_98 : decode cX12_judge 98 = .ok (.bipush 30, 2) := by decide +kernel
theorem dX12_judge_100 : decode cX12_judge 100 = .ok (.iload_n 1, 1) := by decide +kernel
theorem dX12_judge_101 : decode cX12_judge 101 = .ok (.imul, 1) := by decide +kernel
theorem dX12_judge_102 : decode cX12_judge 102 = .ok (.iload 5, 2) := by decide +kernel
theorem dX12_judge_104 : decode cX12_judge 104 = .ok (.iadd, 1) := by decide +kernel
theorem dX12_judge_105 : decode cX12_judge 105 = .ok (.laload, 1) := by decide +kernel
theorem dX12_judge_106 : decode cX12_judge 106 = .ok (.l2i, 1) := by decide +kernel
theorem dX12_judge_107 : decode cX12_judge 107 = .ok (.invokevirtual 407, 3) := by decide +kernel
theorem dX12_judge_110 : decode cX12_judge 110 = .ok (.goto 6, 3) := by decide +kernel
theorem dX12_judge_113 : decode cX12_judge 113 = .ok (.iload 5, 2) := by decide +kernel
theorem dX12_judge_115 : decode cX12_judge 115 = .ok (.istore_n 3, 1) := by decide +kernel
theorem dX12_judge_116 : decode cX12_judge 116 = .ok (.iinc 5 1, 3) := by decide +kernel
theorem dX12_judge_119 : decode cX12_judge 119 = .ok (.goto (-65), 3) := by decide +kernel
theorem dX12_judge_122 : decode cX12_judge 122 = .ok (.aload_n 0, 1) := by decide +kernel
theorem dX12_judge_123 : decode cX12_judge 123 = .ok (.getfield 9, 3) := by decide +kernel
theorem dX12_judge_126 : decode cX12_judge 126 = .ok (.bipush 93, 2) := by decide +kernel
theorem dX12_judge_128 : decode cX12_judge 128 = .ok (.iaload, 1) := by decide +kernel
theorem dX12_judge_129 : decode cX12_judge 129 = .ok (.istore 5, 2) := by decide +kernel
theorem dX12_judge_131 : decode cX12_judge 131 = .ok (.aload_n 0, 1) := by decide +kernel
theorem dX12_judge_132 : decode cX12_judge 132 = .ok (.getfield 9, 3) := by decide +kernel
theorem dX12_judge_135 : decode cX12_judge 135 = .ok (.bipush 96, 2) := by decide +kernel
theorem dX12_judge_137 : decode cX12_judge 137 = .ok (.iaload, 1) := by decide +kernel
theorem dX12_judge_138 : decode cX12_judge 138 = .ok (.istore 6, 2) := by decide +kernel
theorem dX12_judge_140 : decode cX12_judge 140 = .ok (.aload_n 0, 1) := by decide +kernel
theorem dX12_judge_141 : decode cX12_judge 141 = .ok (.invokevirtual 410, 3) := by decide +kernel
theorem dX12_judge_144 : decode cX12_judge 144 = .ok (.iload_n 2, 1) := by decide +kernel
theorem dX12_judge_145 : decode cX12_judge 145 = .ok (.ifCond .ne 7, 3) := by decide +kernel
theorem dX12_judge_148 : decode cX12_judge 148 = .ok (.iload_n 3, 1) := by decide +kernel
theorem dX12_judge_149 : decode cX12_judge 149 = .ok (.goto 25, 3) := by decide +kernel
theorem dX12_judge_152 : decode cX12_judge 152 = .ok (.iload_n 2, 1) := by decide +kernel
theorem dX12_judge_153 : decode cX12_judge 153 = .ok (.iconst 1, 1) := by decide +kernel
theorem dX12_judge_154 : decode cX12_judge 154 = .ok (.if_icmp .ne 8, 3) := by decide +kernel
theorem dX12_judge_157 : decode cX12_judge 157 = .ok (.iload 4, 2) := by decide +kernel
theorem dX12_judge_159 : decode cX12_judge 159 = .ok (.goto 15, 3) := by decide +kernel
theorem dX12_judge_162 : decode cX12_judge 162 = .ok (.iload_n 2, 1) := by decide +kernel
theorem dX12_judge_163 : decode cX12_judge 163 = .ok (.iconst 2, 1) := by decide +kernel
theorem dX12_judge_164 : decode cX12_judge 164 = .ok (.if_icmp .ne 8, 3) := by decide +kernel
theorem dX12_judge_167 : decode cX12_judge 167 = .ok (.iload 5, 2) := by decide +kernel
theorem dX12_judge_169 : decode cX12_judge 169 = .ok (.goto 5, 3) := by decide +kernel
theorem dX12_judge_172 : decode cX12_judge 172 = .ok (.iload 6, 2) := by decide +kernel
theorem dX12_judge_174 : decode cX12_judge 174 = .ok (.ireturn, 1) := by decide +kernel
theorem dX12_perform_0 : decode cX12_perform 0 = .ok (.aload_n 0, 1) := by decide +kernel
theorem dX12_perform_1 : decode cX12_perform 1 = .ok (.aload_n 0, 1) := by decide +kernel
theorem dX12_perform_2 : decode cX12_perform 2 = .ok (.iload_n 1, 1) := by decide +kernel
theorem dX12_perform_3 : decode cX12_perform 3 = .ok (.invokevirtual 398, 3) := by decide +kernel
theorem dX12_perform_6 : decode cX12_perform 6 = .ok (.putfield 68, 3) := by decide +kernel
theorem dX12_perform_9 : decode cX12_perform 9 = .ok (.aload_n 0, 1) := by decide +kernel
theorem dX12_perform_10 : decode cX12_perform 10 = .ok (.getfield 68, 3) := by decide +kernel
theorem dX12_perform_13 : decode cX12_perform 13 = .ok (.ifCond .le 5, 3) := by decide +kernel
theorem dX12_perform_16 : decode cX12_perform 16 = .ok (.iconst 0, 1) := by decide +kernel
theorem dX12_perform_17 : decode cX12_perform 17 = .ok (.ireturn, 1) := by decide +kernel
theorem dX12_perform_18 : decode cX12_perform 18 = .ok (.iconst 0, 1) := by decide +kernel
theorem dX12_perform_19 : decode cX12_perform 19 = .ok (.istore_n 2, 1) := by decide +kernel
theorem dX12_perform_20 : decode cX12_perform 20 = .ok (.iload_n 2, 1) := by decide +kernel
theorem dX12_perform_21 : decode cX12_perform 21 = .ok (.aload_n 0, 1) := by decide +kernel
theorem dX12_perform_22 : decode cX12_perform 22 = .ok (.getfield 57, 3) := by decide +kernel
theorem dX12_perform_25 : decode cX12_perform 25 = .ok (.iload_n 1, 1) := by decide +kernel
theorem dX12_perform_26 : decode cX12_perform 26 = .ok (.iaload, 1) := by decide +kernel
theorem dX12_perform_27 : decode cX12_perform 27 = .ok (.if_icmp .ge 47, 3) := by decide +kernel
theorem dX12_perform_30 : decode cX12_perform 30 = .ok (.aload_n 0, 1) := by decide +kernel
theorem dX12_perform_31 : decode cX12_perform 31 = .ok (.aload_n 0, 1) := by decide +kernel
theorem dX12_perform_32 : decode cX12_perform 32 = .ok (.getfield 60, 3) := by decide +kernel
theorem dX12_perform_35 : decode cX12_perform 35 = .ok (.bipush 30, 2) := by decide +kernel
theorem dX12_perform_37 : decode cX12_perform 37 = .ok (.iload_n 1, 1) := by decide +kernel
theorem dX12_perform_38 : decode cX12_perform 38 = .ok (.imul, 1) := by decide +kernel
theorem dX12_perform_39 : decode cX12_perform 39 = .ok (.iload_n 2, 1) := by decide +kernel
theorem dX12_perform_40 : decode cX12_perform 40 = .ok (.iadd, 1) := by decide +kernel
theorem dX12_perform_41 : decode cX12_perform 41 = .ok (.laload, 1) := by decide +kernel
theorem dX12_perform_42 : decode cX12_perform 42 = .ok (.invokevirtual 404, 3) := by decide +kernel
theorem dX12_perform_45 : decode cX12_perform 45 = .ok (.ifCond .ne 29, 3) := by decide +kernel
theorem dX12_perform_48 : decode cX12_perform 48 = .ok (.aload_n 0, 1) := by decide +kernel
theorem dX12_perform_49 : decode cX12_perform 49 = .ok (.invokevirtual 370, 3) := by decide +kernel
theorem dX12_perform_52 : decode cX12_perform 52 = .ok (.aload_n 0, 1) := by decide +kernel
theorem dX12_perform_53 : decode cX12_perform 53 = .ok (.aload_n 0, 1) := by decide +kernel
theorem dX12_perform_54 : decode cX12_perform 54 = .ok (.getfield 60, 3) := by decide +kernel
theorem dX12_perform_57 : decode cX12_perform 57 = .ok (.bipush 30, 2) := by decide +kernel
theorem dX12_perform_59 : decode cX12_perform 59 = .ok (.iload_n 1, 1) := by decide +kernel
theorem dX12_perform_60 : decode cX12_perform 60 = .ok (.imul, 1) := by decide +kernel
theorem dX12_perform_61 : decode cX12_perform 61 = .ok (.iload_n 2, 1) := by decide +kernel
theorem dX12_perform_62 : decode cX12_perform 62 = .ok (.iadd, 1) := by decide +kernel
theorem dX12_perform_63 : decode cX12_perform 63 = .ok (.laload, 1) := by decide +kernel
theorem dX12_perform_64 : decode cX12_perform 64 = .ok (.l2i, 1) := by decide +kernel
theorem dX12_perform_65 : decode cX12_perform 65 = .ok (.invokevirtual 407, 3) := by decide +kernel
theorem dX12_perform_68 : decode cX12_perform 68 = .ok (.iinc 2 1, 3) := by decide +kernel
theorem dX12_perform_71 : decode cX12_perform 71 = .ok (.goto (-51), 3) := by decide +kernel
theorem dX12_perform_74 : decode cX12_perform 74 = .ok (.iload_n 2, 1) := by decide +kernel
theorem dX12_perform_75 : decode cX12_perform 75 = .ok (.ireturn, 1) := by decide +kernel
theorem dX12_draw_0 : decode cX12_draw 0 = .ok (.aload_n 0, 1) := by decide +kernel
theorem dX12_draw_1 : decode cX12_draw 1 = .ok (.ldc_w 413, 3) := by decide +kernel
theorem dX12_draw_4 : decode cX12_draw 4 = .ok (.aload_n 0, 1) := by decide +kernel
theorem dX12_draw_5 : decode cX12_draw 5 = .ok (.getfield 414, 3) := by decide +kernel
theorem dX12_draw_8 : decode cX12_draw 8 = .ok (.imul, 1) := by decide +kernel
theorem dX12_draw_9 : decode cX12_draw 9 = .ok (.sipush 12345, 3) := by decide +kernel
theorem dX12_draw_12 : decode cX12_draw 12 = .ok (.iadd, 1) := by decide +kernel
theorem dX12_draw_13 : decode cX12_draw 13 = .ok (.putfield 414, 3) := by decide +kernel
theorem dX12_draw_16 : decode cX12_draw 16 = .ok (.aload_n 0, 1) := by decide +kernel
theorem dX12_draw_17 : decode cX12_draw 17 = .ok (.getfield 414, 3) := by decide +kernel
theorem dX12_draw_20 : decode cX12_draw 20 = .ok (.bipush 16, 2) := by decide +kernel
theorem dX12_draw_22 : decode cX12_draw 22 = .ok (.iushr, 1) := by decide +kernel
theorem dX12_draw_23 : decode cX12_draw 23 = .ok (.iload_n 1, 1) := by decide +kernel
theorem dX12_draw_24 : decode cX12_draw 24 = .ok (.irem, 1) := by decide +kernel
theorem dX12_draw_25 : decode cX12_draw 25 = .ok (.ireturn, 1) := by decide +kernel
theorem dX12_night_0 : decode cX12_night 0 = .ok (.aload_n 0, 1) := by decide +kernel
theorem dX12_night_1 : decode cX12_night 1 = .ok (.iload_n 2, 1) := by decide +kernel
theorem dX12_night_2 : decode cX12_night 2 = .ok (.i2l, 1) := by decide +kernel
theorem dX12_night_3 : decode cX12_night 3 = .ok (.lconst 1, 1) := by decide +kernel
theorem dX12_night_4 : decode cX12_night 4 = .ok (.ldc2_w 417, 3) := by decide +kernel
theorem dX12_night_7 : decode cX12_night 7 = .ok (.invokestatic 132, 3) := by decide +kernel
theorem dX12_night_10 : decode cX12_night 10 = .ok (.ifCond .ne 7, 3) := by decide +kernel
theorem dX12_night_13 : decode cX12_night 13 = .ok (.iconst 1, 1) := by decide +kernel
theorem dX12_night_14 : decode cX12_night 14 = .ok (.goto 15, 3) := by decide +kernel
theorem dX12_night_17 : decode cX12_night 17 = .ok (.aload_n 0, 1) := by decide +kernel
theorem dX12_night_18 : decode cX12_night 18 = .ok (.invokevirtual 245, 3) := by decide +kernel
theorem dX12_night_21 : decode cX12_night 21 = .ok (.ifCond .ne 7, 3) := by decide +kernel
theorem dX12_night_24 : decode cX12_night 24 = .ok (.iconst 2, 1) := by decide +kernel
theorem dX12_night_25 : decode cX12_night 25 = .ok (.goto 4, 3) := by decide +kernel
theorem dX12_night_28 : decode cX12_night 28 = .ok (.iconst 0, 1) := by decide +kernel
theorem dX12_night_29 : decode cX12_night 29 = .ok (.putfield 68, 3) := by decide +kernel
theorem dX12_night_32 : decode cX12_night 32 = .ok (.aload_n 0, 1) := by decide +kernel
theorem dX12_night_33 : decode cX12_night 33 = .ok (.getfield 68, 3) := by decide +kernel
theorem dX12_night_36 : decode cX12_night 36 = .ok (.ifCond .le 5, 3) := by decide +kernel
theorem dX12_night_39 : decode cX12_night 39 = .ok (.iconst 0, 1) := by decide +kernel
theorem dX12_night_40 : decode cX12_night 40 = .ok (.ireturn, 1) := by decide +kernel
theorem dX12_night_41 : decode cX12_night 41 = .ok (.aload_n 0, 1) := by decide +kernel
theorem dX12_night_42 : decode cX12_night 42 = .ok (.iload_n 1, 1) := by decide +kernel
theorem dX12_night_43 : decode cX12_night 43 = .ok (.putfield 414, 3) := by decide +kernel
theorem dX12_night_46 : decode cX12_night 46 = .ok (.iconst 0, 1) := by decide +kernel
theorem dX12_night_47 : decode cX12_night 47 = .ok (.istore_n 3, 1) := by decide +kernel
theorem dX12_night_48 : decode cX12_night 48 = .ok (.iload_n 3, 1) := by decide +kernel
theorem dX12_night_49 : decode cX12_night 49 = .ok (.iload_n 2, 1) := by decide +kernel
theorem dX12_night_50 : decode cX12_night 50 = .ok (.if_icmp .ge 102, 3) := by decide +kernel
theorem dX12_night_53 : decode cX12_night 53 = .ok (.aload_n 0, 1) := by decide +kernel
theorem dX12_night_54 : decode cX12_night 54 = .ok (.iconst 3, 1) := by decide +kernel
theorem dX12_night_55 : decode cX12_night 55 = .ok (.invokevirtual 419, 3) := by decide +kernel
theorem dX12_night_58 : decode cX12_night 58 = .ok (.istore 4, 2) := by decide +kernel
theorem dX12_night_60 : decode cX12_night 60 = .ok (.iload 4, 2) := by decide +kernel
theorem dX12_night_62 : decode cX12_night 62 = .ok (.ifCond .ne 7, 3) := by decide +kernel
theorem dX12_night_65 : decode cX12_night 65 = .ok (.iconst 0, 1) := by decide +kernel
theorem dX12_night_66 : decode cX12_night 66 = .ok (.goto 11, 3) := by decide +kernel
theorem dX12_night_69 : decode cX12_night 69 = .ok (.aload_n 0, 1) := by decide +kernel
theorem dX12_night_70 : decode cX12_night 70 = .ok (.aload_n 0, 1) := by decide +kernel
theorem dX12_night_71 : decode cX12_night 71 = .ok (.invokevirtual 245, 3) := by decide +kernel
theorem dX12_night_74 : decode cX12_night 74 = .ok (.invokevirtual 419, 3) := by decide +kernel
theorem dX12_night_77 : decode cX12_night 77 = .ok (.istore 5, 2) := by decide +kernel
theorem dX12_night_79 : decode cX12_night 79 = .ok (.iload 4, 2) := by decide +kernel
theorem dX12_night_81 : decode cX12_night 81 = .ok (.ifCond .ne 9, 3) := by decide +kernel
theorem dX12_night_84 : decode cX12_night 84 = .ok (.sipush 3000, 3) := by decide +kernel
theorem dX12_night_87 : decode cX12_night 87 = .ok (.goto 9, 3) := by decide +kernel
theorem dX12_night_90 : decode cX12_night 90 = .ok (.sipush 2000, 3) := by decide +kernel
theorem dX12_night_93 : decode cX12_night 93 = .ok (.iload 5, 2) := by decide +kernel
theorem dX12_night_95 : decode cX12_night 95 = .ok (.iadd, 1) := by decide +kernel
theorem dX12_night_96 : decode cX12_night 96 = .ok (.istore 6, 2) := by decide +kernel
theorem dX12_night_98 : decode cX12_night 98 = .ok (.iload 4, 2) := by decide +kernel
theorem dX12_night_100 : decode cX12_night 100 = .ok (.iconst 1, 1) := by decide +kernel
theorem dX12_night_101 : decode cX12_night 101 = .ok (.if_icmp .ne 35, 3) := by decide +kernel
theorem dX12_night_104 : decode cX12_night 104 = .ok (.bipush 100, 2) := by decide +kernel
theorem dX12_night_106 : decode cX12_night 106 = .ok (.iload 5, 2) := by decide +kernel
theorem dX12_night_108 : decode cX12_night 108 = .ok (.imul, 1) := by decide +kernel
theorem dX12_night_109 : decode cX12_night 109 = .ok (.bipush 10, 2) := by decide +kernel
theorem dX12_night_111 : decode cX12_night 111 = .ok (.aload_n 0, 1) := by decide +kernel
theorem dX12_night_112 : decode cX12_night 112 = .ok (.aload_n 0, 1) := by decide +kernel
theorem dX12_night_113 : decode cX12_night 113 = .ok (.getfield 9, 3) := by decide +kernel
theorem dX12_night_116 : decode cX12_night 116 = .ok (.iconst 1, 1) := by decide +kernel
theorem dX12_night_117 : decode cX12_night 117 = .ok (.iaload, 1) := by decide +kernel
theorem dX12_night_118 : decode cX12_night 118 = .ok (.invokevirtual 419, 3) := by decide +kernel
theorem dX12_night_121 : decode cX12_night 121 = .ok (.imul, 1) := by decide +kernel
theorem dX12_night_122 : decode cX12_night 122 = .ok (.iadd, 1) := by decide +kernel
theorem dX12_night_123 : decode cX12_night 123 = .ok (.istore 6, 2) := by decide +kernel
theorem dX12_night_125 : decode cX12_night 125 = .ok (.iload 6, 2) := by decide +kernel
theorem dX12_night_127 : decode cX12_night 127 = .ok (.aload_n 0, 1) := by decide +kernel
theorem dX12_night_128 : decode cX12_night 128 = .ok (.bipush 10, 2) := by decide +kernel
theorem dX12_night_130 : decode cX12_night 130 = .ok (.invokevirtual 419, 3) := by decide +kernel
theorem dX12_night_133 : decode cX12_night 133 = .ok (.iadd, 1) := by decide +kernel
theorem dX12_night_134 : decode cX12_night 134 = .ok (.istore 6, 2) := by decide +kernel
theorem dX12_night_136 : decode cX12_night 136 = .ok (.aload_n 0, 1) := by decide +kernel
theorem dX12_night_137 : decode cX12_night 137 = .ok (.invokevirtual 370, 3) := by decide +kernel
theorem dX12_night_140 : decode cX12_night 140 = .ok (.aload_n 0, 1) := by decide +kernel
theorem dX12_night_141 : decode cX12_night 141 = .ok (.iload 6, 2) := by decide +kernel
theorem dX12_night_143 : decode cX12_night 143 = .ok (.invokevirtual 407, 3) := by decide +kernel
theorem dX12_night_146 : decode cX12_night 146 = .ok (.iinc 3 1, 3) := by decide +kernel
theorem dX12_night_149 : decode cX12_night 149 = .ok (.goto (-101), 3) := by decide +kernel
theorem dX12_night_152 : decode cX12_night 152 = .ok (.iload_n 2, 1) := by decide +kernel
theorem dX12_night_153 : decode cX12_night 153 = .ok (.ireturn, 1) := by decide +kernel
theorem dX12_hardened_0 : decode cX12_hardened 0 = .ok (.aload_n 0, 1) := by decide +kernel
theorem dX12_hardened_1 : decode cX12_hardened 1 = .ok (.aload_n 0, 1) := by decide +kernel
theorem dX12_hardened_2 : decode cX12_hardened 2 = .ok (.iload_n 1, 1) := by decide +kernel
theorem dX12_hardened_3 : decode cX12_hardened 3 = .ok (.invokevirtual 346, 3) := by decide +kernel
theorem dX12_hardened_6 : decode cX12_hardened 6 = .ok (.putfield 68, 3) := by decide +kernel
theorem dX12_hardened_9 : decode cX12_hardened 9 = .ok (.iconst 1, 1) := by decide +kernel
theorem dX12_hardened_10 : decode cX12_hardened 10 = .ok (.aload_n 0, 1) := by decide +kernel
theorem dX12_hardened_11 : decode cX12_hardened 11 = .ok (.invokevirtual 245, 3) := by decide +kernel
theorem dX12_hardened_14 : decode cX12_hardened 14 = .ok (.ishl, 1) := by decide +kernel
theorem dX12_hardened_15 : decode cX12_hardened 15 = .ok (.iconst 1, 1) := by decide +kernel
theorem dX12_hardened_16 : decode cX12_hardened 16 = .ok (.isub, 1) := by decide +kernel
theorem dX12_hardened_17 : decode cX12_hardened 17 = .ok (.aload_n 0, 1) := by decide +kernel
theorem dX12_hardened_18 : decode cX12_hardened 18 = .ok (.getfield 9, 3) := by decide +kernel
theorem dX12_hardened_21 : decode cX12_hardened 21 = .ok (.bipush 93, 2) := by decide +kernel
theorem dX12_hardened_23 : decode cX12_hardened 23 = .ok (.iaload, 1) := by decide +kernel
theorem dX12_hardened_24 : decode cX12_hardened 24 = .ok (.iconst (-1), 1) := by decide +kernel
theorem dX12_hardened_25 : decode cX12_hardened 25 = .ok (.ixor, 1) := by decide +kernel
theorem dX12_hardened_26 : decode cX12_hardened 26 = .ok (.iand, 1) := by decide +kernel
theorem dX12_hardened_27 : decode cX12_hardened 27 = .ok (.istore_n 3, 1) := by decide +kernel
theorem dX12_hardened_28 : decode cX12_hardened 28 = .ok (.aload_n 0, 1) := by decide +kernel
theorem dX12_hardened_29 : decode cX12_hardened 29 = .ok (.getfield 68, 3) := by decide +kernel
theorem dX12_hardened_32 : decode cX12_hardened 32 = .ok (.ifCond .ne 17, 3) := by decide +kernel
theorem dX12_hardened_35 : decode cX12_hardened 35 = .ok (.iload_n 3, 1) := by decide +kernel
theorem dX12_hardened_36 : decode cX12_hardened 36 = .ok (.invokestatic 330, 3) := by decide +kernel
theorem dX12_hardened_39 : decode cX12_hardened 39 = .ok (.bipush 6, 2) := by decide +kernel
theorem dX12_hardened_41 : decode cX12_hardened 41 = .ok (.if_icmp .le 8, 3) := by decide +kernel
theorem dX12_hardened_44 : decode cX12_hardened 44 = .ok (.aload_n 0, 1) := by decide +kernel
theorem dX12_hardened_45 : decode cX12_hardened 45 = .ok (.iconst 2, 1) := by decide +kernel
theorem dX12_hardened_46 : decode cX12_hardened 46 = .ok (.putfield 68, 3) := by decide +kernel
theorem dX12_hardened_49 : decode cX12_hardened 49 = .ok (.aload_n 0, 1) := by decide +kernel
theorem dX12_hardened_50 : decode cX12_hardened 50 = .ok (.getfield 68, 3) := by decide +kernel
theorem dX12_hardened_53 : decode cX12_hardened 53 = .ok (.ifCond .ne 20, 3) := by decide +kernel
theorem dX12_hardened_56 : decode cX12_hardened 56 = .ok (.iload_n 2, 1) := by decide +kernel
theorem dX12_hardened_57 : decode cX12_hardened 57 = .ok (.i2l, 1) := by decide +kernel
theorem dX12_hardened_58 : decode cX12_hardened 58 = .ok (.lconst 1, 1) := by decide +kernel
theorem dX12_hardened_59 : decode cX12_hardened 59 = .ok (.ldc2_w 422, 3) := by decide +kernel
theorem dX12_hardened_62 : decode cX12_hardened 62 = .ok (.invokestatic 132, 3) := by decide +kernel
theorem dX12_hardened_65 : decode cX12_hardened 65 = .ok (.ifCond .ne 8, 3) := by decide +kernel
theorem dX12_hardened_68 : decode cX12_hardened 68 = .ok (.aload_n 0, 1) := by decide +kernel
theorem dX12_hardened_69 : decode cX12_hardened 69 = .ok (.iconst 3, 1) := by decide +kernel
theorem dX12_hardened_70 : decode cX12_hardened 70 = .ok (.putfield 68, 3) := by decide +kernel
theorem dX12_hardened_73 : decode cX12_hardened 73 = .ok (.aload_n 0, 1) := by decide +kernel
theorem dX12_hardened_74 : decode cX12_hardened 74 = .ok (.getfield 68, 3) := by decide +kernel
theorem dX12_hardened_77 : decode cX12_hardened 77 = .ok (.ifCond .le 5, 3) := by decide +kernel
theorem dX12_hardened_80 : decode cX12_hardened 80 = .ok (.iconst 0, 1) := by decide +kernel
theorem dX12_hardened_81 : decode cX12_hardened 81 = .ok (.ireturn, 1) := by decide +kernel
theorem dX12_hardened_82 : decode cX12_hardened 82 = .ok (.aload_n 0, 1) := by decide +kernel
theorem dX12_hardened_83 : decode cX12_hardened 83 = .ok (.invokevirtual 306, 3) := by decide +kernel
theorem dX12_hardened_86 : decode cX12_hardened 86 = .ok (.aload_n 0, 1) := by decide +kernel
theorem dX12_hardened_87 : decode cX12_hardened 87 = .ok (.getfield 9, 3) := by decide +kernel
theorem dX12_hardened_90 : decode cX12_hardened 90 = .ok (.bipush 93, 2) := by decide +kernel
theorem dX12_hardened_92 : decode cX12_hardened 92 = .ok (.iaload, 1) := by decide +kernel
theorem dX12_hardened_93 : decode cX12_hardened 93 = .ok (.istore 4, 2) := by decide +kernel
theorem dX12_hardened_95 : decode cX12_hardened 95 = .ok (.iconst (-1), 1) := by decide +kernel
theorem dX12_hardened_96 : decode cX12_hardened 96 = .ok (.istore 5, 2) := by decide +kernel
theorem dX12_hardened_98 : decode cX12_hardened 98 = .ok (.iconst 0, 1) := by decide +kernel
theorem dX12_hardened_99 : decode cX12_hardened 99 = .ok (.istore 6, 2) := by decide +kernel
theorem dX12_hardened_101 : decode cX12_hardened 101 = .ok (.iload 6, 2) := by decide +kernel
theorem dX12_hardened_103 : decode cX12_hardened 103 = .ok (.iload_n 3, 1) := by decide +kernel
theorem dX12_hardened_104 : decode cX12_hardened 104 = .ok (.if_icmp .gt 75, 3) := by decide +kernel
theorem dX12_hardened_107 : decode cX12_hardened 107 = .ok (.iload 6, 2) := by decide +kernel
theorem dX12_hardened_109 : decode cX12_hardened 109 = .ok (.iload_n 3, 1) := by decide +kernel
theorem dX12_hardened_110 : decode cX12_hardened 110 = .ok (.iconst (-1), 1) := by decide +kernel
theorem dX12_hardened_111 : decode cX12_hardened 111 = .ok (.ixor, 1) := by decide +kernel
theorem dX12_hardened_112 : decode cX12_hardened 112 = .ok (.iand, 1) := by decide +kernel
theorem dX12_hardened_113 : decode cX12_hardened 113 = .ok (.ifCond .ne 60, 3) := by decide +kernel
theorem dX12_hardened_116 : decode cX12_hardened 116 = .ok (.iload 5, 2) := by decide +kernel
theorem dX12_hardened_118 : decode cX12_hardened 118 = .ok (.iconst (-1), 1) := by decide +kernel
theorem dX12_hardened_119 : decode cX12_hardened 119 = .ok (.if_icmp .eq 19, 3) := by decide +kernel
theorem dX12_hardened_122 : decode cX12_hardened 122 = .ok (.iload 6, 2) := by decide +kernel
theorem dX12_hardened_124 : decode cX12_hardened 124 = .ok (.invokestatic 330, 3) := by decide +kernel
theorem dX12_hardened_127 : decode cX12_hardened 127 = .ok (.iload 5, 2) := by decide +kernel
theorem dX12_hardened_129 : decode cX12_hardened 129 = .ok (.invokestatic 330, 3) := by decide +kernel
theorem dX12_hardened_132 : decode cX12_hardened 132 = .ok (.if_icmp .lt 6, 3) := by decide +kernel
theorem dX12_hardened_135 : decode cX12_hardened 135 = .ok (.goto 38, 3) := by decide +kernel
theorem dX12_hardened_138 : decode cX12_hardened 138 = .ok (.aload_n 0, 1) := by decide +kernel
theorem dX12_hardened_139 : decode cX12_hardened 139 = .ok (.getfield 9, 3) := by decide +kernel
theorem dX12_hardened_142 : decode cX12_hardened 142 = .ok (.bipush 93, 2) := by decide +kernel
theorem dX12_hardened_144 : decode cX12_hardened 144 = .ok (.iload 4, 2) := by decide +kernel
theorem dX12_hardened_146 : decode cX12_hardened 146 = .ok (.iload 6, 2) := by decide +kernel
theorem dX12_hardened_148 : decode cX12_hardened 148 = .ok (.ior, 1) := by decide +kernel
theorem dX12_hardened_149 : decode cX12_hardened 149 = .ok (.iastore, 1) := by decide +kernel
theorem dX12_hardened_150 : decode cX12_hardened 150 = .ok (.aload_n 0, 1) := by decide +kernel
theorem dX12_hardened_151 : decode cX12_hardened 151 = .ok (.iload_n 1, 1) := by decide +kernel
theorem dX12_hardened_152 : decode cX12_hardened 152 = .ok (.invokevirtual 352, 3) := by decide +kernel
theorem dX12_hardened_155 : decode cX12_hardened 155 = .ok (.istore 7, 2) := by decide +kernel
theorem dX12_hardened_157 : decode cX12_hardened 157 = .ok (.iload 7, 2) := by decide +kernel
theorem dX12_hardened_159 : decode cX12_hardened 159 = .ok (.iconst (-1), 1) := by decide +kernel
theorem dX12_hardened_160 : decode cX12_hardened 160 = .ok (.if_icmp .eq 9, 3) := by decide +kernel
theorem dX12_hardened_163 : decode cX12_hardened 163 = .ok (.iload 7, 2) := by decide +kernel
theorem dX12_hardened_165 : decode cX12_hardened 165 = .ok (.iload_n 2, 1) := by decide +kernel
theorem dX12_hardened_166 : decode cX12_hardened 166 = .ok (.if_icmp .lt 7, 3) := by decide +kernel
theorem dX12_hardened_169 : decode cX12_hardened 169 = .ok (.iload 6, 2) := by decide +kernel
theorem dX12_hardened_171 : decode cX12_hardened 171 = .ok (.istore 5, 2) := by decide +kernel
theorem dX12_hardened_173 : decode cX12_hardened 173 = .ok (.iinc 6 1, 3) := by decide +kernel
theorem dX12_hardened_176 : decode cX12_hardened 176 = .ok (.goto (-75), 3) := by decide +kernel
theorem dX12_hardened_179 : decode cX12_hardened 179 = .ok (.aload_n 0, 1) := by decide +kernel
theorem dX12_hardened_180 : decode cX12_hardened 180 = .ok (.getfield 9, 3) := by decide +kernel
theorem dX12_hardened_183 : decode cX12_hardened 183 = .ok (.bipush 93, 2) := by decide +kernel
theorem dX12_hardened_185 : decode cX12_hardened 185 = .ok (.iload 4, 2) := by decide +kernel
theorem dX12_hardened_187 : decode cX12_hardened 187 = .ok (.iastore, 1) := by decide +kernel
theorem dX12_hardened_188 : decode cX12_hardened 188 = .ok (.iload 5, 2) := by decide +kernel
theorem dX12_hardened_190 : decode cX12_hardened 190 = .ok (.ireturn, 1) := by decide +kernel
theorem dX12_partsAll_0 : decode cX12_partsAll 0 = .ok (.iconst 0, 1) := by decide +kernel
theorem dX12_partsAll_1 : decode cX12_partsAll 1 = .ok (.istore_n 2, 1) := by decide +kernel
theorem dX12_partsAll_2 : decode cX12_partsAll 2 = .ok (.iload_n 2, 1) := by decide +kernel
theorem dX12_partsAll_3 : decode cX12_partsAll 3 = .ok (.aload_n 0, 1) := by decide +kernel
theorem dX12_partsAll_4 : decode cX12_partsAll 4 = .ok (.invokevirtual 245, 3) := by decide +kernel
theorem dX12_partsAll_7 : decode cX12_partsAll 7 = .ok (.if_icmp .ge 63, 3) := by decide +kernel
theorem dX12_partsAll_10 : decode cX12_partsAll 10 = .ok (.iload_n 2, 1) := by decide +kernel
theorem dX12_partsAll_11 : decode cX12_partsAll 11 = .ok (.iconst 1, 1) := by decide +kernel
theorem dX12_partsAll_12 : decode cX12_partsAll 12 = .ok (.iadd, 1) := by decide +kernel
theorem dX12_partsAll_13 : decode cX12_partsAll 13 = .ok (.istore_n 3, 1) := by decide +kernel
theorem dX12_partsAll_14 : decode cX12_partsAll 14 = .ok (.iload_n 3, 1) := by decide +kernel
theorem dX12_partsAll_15 : decode cX12_partsAll 15 = .ok (.aload_n 0, 1) := by decide +kernel
theorem dX12_partsAll_16 : decode cX12_partsAll 16 = .ok (.invokevirtual 245, 3) := by decide +kernel
theorem dX12_partsAll_19 : decode cX12_partsAll 19 = .ok (.if_icmp .ge 45, 3) := by decide +kernel
theorem dX12_partsAll_22 : decode cX12_partsAll 22 = .ok (.aload_n 0, 1) := by decide +kernel
theorem dX12_partsAll_23 : decode cX12_partsAll 23 = .ok (.iload_n 2, 1) := by decide +kernel
theorem dX12_partsAll_24 : decode cX12_partsAll 24 = .ok (.invokevirtual 250, 3) := by decide +kernel
theorem dX12_partsAll_27 : decode cX12_partsAll 27 = .ok (.ifCond .eq 31, 3) := by decide +kernel
theorem dX12_partsAll_30 : decode cX12_partsAll 30 = .ok (.aload_n 0, 1) := by decide +kernel
theorem dX12_partsAll_31 : decode cX12_partsAll 31 = .ok (.iload_n 3, 1) := by decide +kernel
theorem dX12_partsAll_32 : decode cX12_partsAll 32 = .ok (.invokevirtual 250, 3) := by decide +kernel
theorem dX12_partsAll_35 : decode cX12_partsAll 35 = .ok (.ifCond .eq 23, 3) := by decide +kernel
theorem dX12_partsAll_38 : decode cX12_partsAll 38 = .ok (.aload_n 0, 1) := by decide +kernel
theorem dX12_partsAll_39 : decode cX12_partsAll 39 = .ok (.getfield 36, 3) := by decide +kernel
theorem dX12_partsAll_42 : decode cX12_partsAll 42 = .ok (.iload_n 2, 1) := by decide +kernel
theorem dX12_partsAll_43 : decode cX12_partsAll 43 = .ok (.iaload, 1) := by decide +kernel
theorem dX12_partsAll_44 : decode cX12_partsAll 44 = .ok (.aload_n 0, 1) := by decide +kernel
theorem dX12_partsAll_45 : decode cX12_partsAll 45 = .ok (.getfield 36, 3) := by decide +kernel
theorem dX12_partsAll_48 : decode cX12_partsAll 48 = .ok (.iload_n 3, 1) := by decide +kernel
theorem dX12_partsAll_49 : decode cX12_partsAll 49 = .ok (.iaload, 1) := by decide +kernel
theorem dX12_partsAll_50 : decode cX12_partsAll 50 = .ok (.ixor, 1) := by decide +kernel
theorem dX12_partsAll_51 : decode cX12_partsAll 51 = .ok (.iload_n 1, 1) := by decide +kernel
theorem dX12_partsAll_52 : decode cX12_partsAll 52 = .ok (.iand, 1) := by decide +kernel
theorem dX12_partsAll_53 : decode cX12_partsAll 53 = .ok (.ifCond .ne 5, 3) := by decide +kernel
theorem dX12_partsAll_56 : decode cX12_partsAll 56 = .ok (.iconst 0, 1) := by decide +kernel
theorem dX12_partsAll_57 : decode cX12_partsAll 57 = .ok (.ireturn, 1) := by decide +kernel
theorem dX12_partsAll_58 : decode cX12_partsAll 58 = .ok (.iinc 3 1, 3) := by decide +kernel
theorem dX12_partsAll_61 : decode cX12_partsAll 61 = .ok (.goto (-47), 3) := by decide +kernel
theorem dX12_partsAll_64 : decode cX12_partsAll 64 = .ok (.iinc 2 1, 3) := by decide +kernel
theorem dX12_partsAll_67 : decode cX12_partsAll 67 = .ok (.goto (-65), 3) := by decide +kernel
theorem dX12_partsAll_70 : decode cX12_partsAll 70 = .ok (.iconst 1, 1) := by decide +kernel
theorem dX12_partsAll_71 : decode cX12_partsAll 71 = .ok (.ireturn, 1) := by decide +kernel
theorem dX12_book_0 : decode cX12_book 0 = .ok (.aload_n 0, 1) := by decide +kernel
theorem dX12_book_1 : decode cX12_book 1 = .ok (.iconst 0, 1) := by decide +kernel
theorem dX12_book_2 : decode cX12_book 2 = .ok (.putfield 68, 3) := by decide +kernel
theorem dX12_book_5 : decode cX12_book 5 = .ok (.aload_n 0, 1) := by decide +kernel
theorem dX12_book_6 : decode cX12_book 6 = .ok (.invokevirtual 306, 3) := by decide +kernel
theorem dX12_book_9 : decode cX12_book 9 = .ok (.iconst (-1), 1) := by decide +kernel
theorem dX12_book_10 : decode cX12_book 10 = .ok (.istore_n 1, 1) := by decide +kernel
theorem dX12_book_11 : decode cX12_book 11 = .ok (.iconst 0, 1) := by decide +kernel
theorem dX12_book_12 : decode cX12_book 12 = .ok (.istore_n 2, 1) := by decide +kernel
theorem dX12_book_13 : decode cX12_book 13 = .ok (.iload_n 2, 1) := by decide +kernel
theorem dX12_book_14 : decode cX12_book 14 = .ok (.aload_n 0, 1) := by decide +kernel
theorem dX12_book_15 : decode cX12_book 15 = .ok (.invokevirtual 320, 3) := by decide +kernel
theorem dX12_book_18 : decode cX12_book 18 = .ok (.if_icmp .gt 35, 3) := by decide +kernel
theorem dX12_book_21 : decode cX12_book 21 = .ok (.iload_n 1, 1) := by decide +kernel
theorem dX12_book_22 : decode cX12_book 22 = .ok (.iconst (-1), 1) := by decide +kernel
theorem dX12_book_23 : decode cX12_book 23 = .ok (.if_icmp .eq 14, 3) := by decide +kernel
theorem dX12_book_26 : decode cX12_book 26 = .ok (.iload_n 2, 1) := by decide +kernel
theorem dX12_book_27 : decode cX12_book 27 = .ok (.invokestatic 330, 3) := by decide +kernel
theorem dX12_book_30 : decode cX12_book 30 = .ok (.iload_n 1, 1) := by decide +kernel
theorem dX12_book_31 : decode cX12_book 31 = .ok (.invokestatic 330, 3) := by decide +kernel
theorem dX12_book_34 : decode cX12_book 34 = .ok (.if_icmp .ge 13, 3) := by decide +kernel
theorem dX12_book_37 : decode cX12_book 37 = .ok (.aload_n 0, 1) := by decide +kernel
theorem dX12_book_38 : decode cX12_book 38 = .ok (.iload_n 2, 1) := by decide +kernel
theorem dX12_book_39 : decode cX12_book 39 = .ok (.invokevirtual 424, 3) := by decide +kernel
theorem dX12_book_42 : decode cX12_book 42 = .ok (.ifCond .eq 5, 3) := by decide +kernel
theorem dX12_book_45 : decode cX12_book 45 = .ok (.iload_n 2, 1) := by decide +kernel
theorem dX12_book_46 : decode cX12_book 46 = .ok (.istore_n 1, 1) := by decide +kernel
theorem dX12_book_47 : decode cX12_book 47 = .ok (.iinc 2 1, 3) := by decide +kernel
theorem dX12_book_50 : decode cX12_book 50 = .ok (.goto (-37), 3) := by decide +kernel
theorem dX12_book_53 : decode cX12_book 53 = .ok (.iload_n 1, 1) := by decide +kernel
theorem dX12_book_54 : decode cX12_book 54 = .ok (.ireturn, 1) := by decide +kernel
theorem dX12_part_0 : decode cX12_part 0 = .ok (.iconst 0, 1) := by decide +kernel
theorem dX12_part_1 : decode cX12_part 1 = .ok (.istore_n 3, 1) := by decide +kernel
theorem dX12_part_2 : decode cX12_part 2 = .ok (.iconst 0, 1) := by decide +kernel
theorem dX12_part_3 : decode cX12_part 3 = .ok (.istore 4, 2) := by decide +kernel
theorem dX12_part_5 : decode cX12_part 5 = .ok (.iload 4, 2) := by decide +kernel
theorem dX12_part_7 : decode cX12_part 7 = .ok (.aload_n 0, 1) := by decide +kernel
theorem dX12_part_8 : decode cX12_part 8 = .ok (.invokevirtual 245, 3) := by decide +kernel
theorem dX12_part_11 : decode cX12_part 11 = .ok (.if_icmp .ge 43, 3) := by decide +kernel
theorem dX12_part_14 : decode cX12_part 14 = .ok (.iload_n 3, 1) := by decide +kernel
theorem dX12_part_15 : decode cX12_part 15 = .ok (.iload_n 1, 1) := by decide +kernel
theorem dX12_part_16 : decode cX12_part 16 = .ok (.iload 4, 2) := by decide +kernel
theorem dX12_part_18 : decode cX12_part 18 = .ok (.invokestatic 248, 3) := by decide +kernel
theorem dX12_part_21 : decode cX12_part 21 = .ok (.ifCond .eq 24, 3) := by decide +kernel
theorem dX12_part_24 : decode cX12_part 24 = .ok (.aload_n 0, 1) := by decide +kernel
theorem dX12_part_25 : decode cX12_part 25 = .ok (.getfield 36, 3) := by decide +kernel
theorem dX12_part_28 : decode cX12_part 28 = .ok (.iload 4, 2) := by decide +kernel
theorem dX12_part_30 : decode cX12_part 30 = .ok (.iaload, 1) := by decide +kernel
theorem dX12_part_31 : decode cX12_part 31 = .ok (.iload_n 2, 1) := by decide +kernel
theorem dX12_part_32 : decode cX12_part 32 = .ok (.invokestatic 248, 3) := by decide +kernel
theorem dX12_part_35 : decode cX12_part 35 = .ok (.ifCond .eq 10, 3) := by decide +kernel
theorem dX12_part_38 : decode cX12_part 38 = .ok (.iconst 1, 1) := by decide +kernel
theorem dX12_part_39 : decode cX12_part 39 = .ok (.iload 4, 2) := by decide +kernel
theorem dX12_part_41 : decode cX12_part 41 = .ok (.ishl, 1) := by decide +kernel
theorem dX12_part_42 : decode cX12_part 42 = .ok (.goto 4, 3) := by decide +kernel
theorem dX12_part_45 : decode cX12_part 45 = .ok (.iconst 0, 1) := by decide +kernel
theorem dX12_part_46 : decode cX12_part 46 = .ok (.ior, 1) := by decide +kernel
theorem dX12_part_47 : decode cX12_part 47 = .ok (.istore_n 3, 1) := by decide +kernel
theorem dX12_part_48 : decode cX12_part 48 = .ok (.iinc 4 1, 3) := by decide +kernel
theorem dX12_part_51 : decode cX12_part 51 = .ok (.goto (-46), 3) := by decide +kernel
theorem dX12_part_54 : decode cX12_part 54 = .ok (.iload_n 3, 1) := by decide +kernel
theorem dX12_part_55 : decode cX12_part 55 = .ok (.ireturn, 1) := by decide +kernel
theorem dX12_asksBy_0 : decode cX12_asksBy 0 = .ok (.aload_n 0, 1) := by decide +kernel
theorem dX12_asksBy_1 : decode cX12_asksBy 1 = .ok (.iload_n 1, 1) := by decide +kernel
theorem dX12_asksBy_2 : decode cX12_asksBy 2 = .ok (.iload_n 2, 1) := by decide +kernel
theorem dX12_asksBy_3 : decode cX12_asksBy 3 = .ok (.invokevirtual 427, 3) := by decide +kernel
theorem dX12_asksBy_6 : decode cX12_asksBy 6 = .ok (.istore_n 3, 1) := by decide +kernel
theorem dX12_asksBy_7 : decode cX12_asksBy 7 = .ok (.iload_n 3, 1) := by decide +kernel
theorem dX12_asksBy_8 : decode cX12_asksBy 8 = .ok (.ifCond .eq 8, 3) := by decide +kernel
theorem dX12_asksBy_11 : decode cX12_asksBy 11 = .ok (.iload_n 3, 1) := by decide +kernel
theorem dX12_asksBy_12 : decode cX12_asksBy 12 = .ok (.iload_n 1, 1) := by decide +kernel
theorem dX12_asksBy_13 : decode cX12_asksBy 13 = .ok (.if_icmp .ne 9, 3) := by decide +kernel
theorem dX12_asksBy_16 : decode cX12_asksBy 16 = .ok (.ldc_w 342, 3) := by decide +kernel
theorem dX12_asksBy_19 : decode cX12_asksBy 19 = .ok (.goto 22, 3) := by decide +kernel
theorem dX12_asksBy_22 : decode cX12_asksBy 22 = .ok (.iconst 1, 1) := by decide +kernel
theorem dX12_asksBy_23 : decode cX12_asksBy 23 = .ok (.aload_n 0, 1) := by decide +kernel
theorem dX12_asksBy_24 : decode cX12_asksBy 24 = .ok (.iload_n 3, 1) := by decide +kernel
theorem dX12_asksBy_25 : decode cX12_asksBy 25 = .ok (.invokevirtual 430, 3) := by decide +kernel
theorem dX12_asksBy_28 : decode cX12_asksBy 28 = .ok (.aload_n 0, 1) := by decide +kernel
theorem dX12_asksBy_29 : decode cX12_asksBy 29 = .ok (.iload_n 1, 1) := by decide +kernel
theorem dX12_asksBy_30 : decode cX12_asksBy 30 = .ok (.iload_n 3, 1) := by decide +kernel
theorem dX12_asksBy_31 : decode cX12_asksBy 31 = .ok (.iconst (-1), 1) := by decide +kernel
theorem dX12_asksBy_32 : decode cX12_asksBy 32 = .ok (.ixor, 1) := by decide +kernel
theorem dX12_asksBy_33 : decode cX12_asksBy 33 = .ok (.iand, 1) := by decide +kernel
theorem dX12_asksBy_34 : decode cX12_asksBy 34 = .ok (.invokevirtual 430, 3) := by decide +kernel
theorem dX12_asksBy_37 : decode cX12_asksBy 37 = .ok (.invokestatic 433, 3) := by decide +kernel
theorem dX12_asksBy_40 : decode cX12_asksBy 40 = .ok (.iadd, 1) := by decide +kernel
theorem dX12_asksBy_41 : decode cX12_asksBy 41 = .ok (.ireturn, 1) := by decide +kernel
theorem dX12_asksOf_0 : decode cX12_asksOf 0 = .ok (.iload_n 1, 1) := by decide +kernel
theorem dX12_asksOf_1 : decode cX12_asksOf 1 = .ok (.invokestatic 330, 3) := by decide +kernel
theorem dX12_asksOf_4 : decode cX12_asksOf 4 = .ok (.iconst 2, 1) := by decide +kernel
theorem dX12_asksOf_5 : decode cX12_asksOf 5 = .ok (.if_icmp .ge 5, 3) := by decide +kernel
theorem dX12_asksOf_8 : decode cX12_asksOf 8 = .ok (.iconst 0, 1) := by decide +kernel
theorem dX12_asksOf_9 : decode cX12_asksOf 9 = .ok (.ireturn, 1) := by decide +kernel
theorem dX12_asksOf_10 : decode cX12_asksOf 10 = .ok (.aload_n 0, 1) := by decide +kernel
theorem dX12_asksOf_11 : decode cX12_asksOf 11 = .ok (.getfield 48, 3) := by decide +kernel
theorem dX12_asksOf_14 : decode cX12_asksOf 14 = .ok (.iload_n 1, 1) := by decide +kernel
theorem dX12_asksOf_15 : decode cX12_asksOf 15 = .ok (.iaload, 1) := by decide +kernel
theorem dX12_asksOf_16 : decode cX12_asksOf 16 = .ok (.ifCond .le 12, 3) := by decide +kernel
theorem dX12_asksOf_19 : decode cX12_asksOf 19 = .ok (.aload_n 0, 1) := by decide +kernel
theorem dX12_asksOf_20 : decode cX12_asksOf 20 = .ok (.getfield 48, 3) := by decide +kernel
theorem dX12_asksOf_23 : decode cX12_asksOf 23 = .ok (.iload_n 1, 1) := by decide +kernel
theorem dX12_asksOf_24 : decode cX12_asksOf 24 = .ok (.iaload, 1) := by decide +kernel
theorem dX12_asksOf_25 : decode cX12_asksOf 25 = .ok (.iconst 1, 1) := by decide +kernel
theorem dX12_asksOf_26 : decode cX12_asksOf 26 = .ok (.isub, 1) := by decide +kernel
theorem dX12_asksOf_27 : decode cX12_asksOf 27 = .ok (.ireturn, 1) := by decide +kernel
theorem dX12_asksOf_28 : decode cX12_asksOf 28 = .ok (.ldc_w 342, 3) := by decide +kernel
theorem dX12_asksOf_31 : decode cX12_asksOf 31 = .ok (.istore_n 2, 1) := by decide +kernel
theorem dX12_asksOf_32 : decode cX12_asksOf 32 = .ok (.iconst 0, 1) := by decide +kernel
theorem dX12_asksOf_33 : decode cX12_asksOf 33 = .ok (.istore_n 3, 1) := by decide +kernel
theorem dX12_asksOf_34 : decode cX12_asksOf 34 = .ok (.iload_n 3, 1) := by decide +kernel
theorem dX12_asksOf_35 : decode cX12_asksOf 35 = .ok (.aload_n 0, 1) := by decide +kernel
theorem dX12_asksOf_36 : decode cX12_asksOf 36 = .ok (.invokevirtual 242, 3) := by decide +kernel
theorem dX12_asksOf_39 : decode cX12_asksOf 39 = .ok (.if_icmp .ge 20, 3) := by decide +kernel
theorem dX12_asksOf_42 : decode cX12_asksOf 42 = .ok (.iload_n 2, 1) := by decide +kernel
theorem dX12_asksOf_43 : decode cX12_asksOf 43 = .ok (.aload_n 0, 1) := by decide +kernel
theorem dX12_asksOf_44 : decode cX12_asksOf 44 = .ok (.iload_n 1, 1) := by decide +kernel
theorem dX12_asksOf_45 : decode cX12_asksOf 45 = .ok (.iload_n 3, 1) := by decide +kernel
theorem dX12_asksOf_46 : decode cX12_asksOf 46 = .ok (.invokevirtual 435, 3) := by decide +kernel
theorem dX12_asksOf_49 : decode cX12_asksOf 49 = .ok (.invokestatic 438, 3) := by decide +kernel
theorem dX12_asksOf_52 : decode cX12_asksOf 52 = .ok (.istore_n 2, 1) := by decide +kernel
theorem dX12_asksOf_53 : decode cX12_asksOf 53 = .ok (.iinc 3 1, 3) := by decide +kernel
theorem dX12_asksOf_56 : decode cX12_asksOf 56 = .ok (.goto (-22), 3) := by decide +kernel
theorem dX12_asksOf_59 : decode cX12_asksOf 59 = .ok (.aload_n 0, 1) := by decide +kernel
theorem dX12_asksOf_60 : decode cX12_asksOf 60 = .ok (.getfield 48, 3) := by decide +kernel
theorem dX12_asksOf_63 : decode cX12_asksOf 63 = .ok (.iload_n 1, 1) := by decide +kernel
theorem dX12_asksOf_64 : decode cX12_asksOf 64 = .ok (.iload_n 2, 1) := by decide +kernel
theorem dX12_asksOf_65 : decode cX12_asksOf 65 = .ok (.iconst 1, 1) := by decide +kernel
theorem dX12_asksOf_66 : decode cX12_asksOf 66 = .ok (.iadd, 1) := by decide +kernel
theorem dX12_asksOf_67 : decode cX12_asksOf 67 = .ok (.iastore, 1) := by decide +kernel
theorem dX12_asksOf_68 : decode cX12_asksOf 68 = .ok (.iload_n 2, 1) := by decide +kernel
theorem dX12_asksOf_69 : decode cX12_asksOf 69 = .ok (.ireturn, 1) := by decide +kernel
theorem dX12_asking_0 : decode cX12_asking 0 = .ok (.aload_n 0, 1) := by decide +kernel
theorem dX12_asking_1 : decode cX12_asking 1 = .ok (.iconst 0, 1) := by decide +kernel
theorem dX12_asking_2 : decode cX12_asking 2 = .ok (.putfield 68, 3) := by decide +kernel
theorem dX12_asking_5 : decode cX12_asking 5 = .ok (.iload_n 1, 1) := by decide +kernel
theorem dX12_asking_6 : decode cX12_asking 6 = .ok (.i2l, 1) := by decide +kernel
theorem dX12_asking_7 : decode cX12_asking 7 = .ok (.lconst 0, 1) := by decide +kernel
theorem dX12_asking_8 : decode cX12_asking 8 = .ok (.lconst 1, 1) := by decide +kernel
theorem dX12_asking_9 : decode cX12_asking 9 = .ok (.invokestatic 132, 3) := by decide +kernel
theorem dX12_asking_12 : decode cX12_asking 12 = .ok (.ifCond .ne 9, 3) := by decide +kernel
theorem dX12_asking_15 : decode cX12_asking 15 = .ok (.aload_n 0, 1) := by decide +kernel
theorem dX12_asking_16 : decode cX12_asking 16 = .ok (.iconst 1, 1) := by decide +kernel
theorem dX12_asking_17 : decode cX12_asking 17 = .ok (.invokevirtual 224, 3) := by decide +kernel
theorem dX12_asking_20 : decode cX12_asking 20 = .ok (.ireturn, 1) := by decide +kernel
theorem dX12_asking_21 : decode cX12_asking 21 = .ok (.aload_n 0, 1) := by decide +kernel
theorem dX12_asking_22 : decode cX12_asking 22 = .ok (.invokevirtual 306, 3) := by decide +kernel
theorem dX12_asking_25 : decode cX12_asking 25 = .ok (.aload_n 0, 1) := by decide +kernel
theorem dX12_asking_26 : decode cX12_asking 26 = .ok (.aload_n 0, 1) := by decide +kernel
theorem dX12_asking_27 : decode cX12_asking 27 = .ok (.invokevirtual 320, 3) := by decide +kernel
theorem dX12_asking_30 : decode cX12_asking 30 = .ok (.invokevirtual 424, 3) := by decide +kernel
theorem dX12_asking_33 : decode cX12_asking 33 = .ok (.ifCond .ne 5, 3) := by decide +kernel
theorem dX12_asking_36 : decode cX12_asking 36 = .ok (.iconst (-1), 1) := by decide +kernel
theorem dX12_asking_37 : decode cX12_asking 37 = .ok (.ireturn, 1) := by decide +kernel
theorem dX12_asking_38 : decode cX12_asking 38 = .ok (.iconst 0, 1) := by decide +kernel
theorem dX12_asking_39 : decode cX12_asking 39 = .ok (.istore_n 2, 1) := by decide +kernel
theorem dX12_asking_40 : decode cX12_asking 40 = .ok (.iload_n 2, 1) := by decide +kernel
theorem dX12_asking_41 : decode cX12_asking 41 = .ok (.sipush 16384, 3) := by decide +kernel
theorem dX12_asking_44 : decode cX12_asking 44 = .ok (.if_icmp .ge 16, 3) := by decide +kernel
theorem dX12_asking_47 : decode cX12_asking 47 = .ok (.aload_n 0, 1) := by decide +kernel
theorem dX12_asking_48 : decode cX12_asking 48 = .ok (.getfield 48, 3) := by decide +kernel
theorem dX12_asking_51 : decode cX12_asking 51 = .ok (.iload_n 2, 1) := by decide +kernel
theorem dX12_asking_52 : decode cX12_asking 52 = .ok (.iconst 0, 1) := by decide +kernel
theorem dX12_asking_53 : decode cX12_asking 53 = .ok (.iastore, 1) := by decide +kernel
theorem dX12_asking_54 : decode cX12_asking 54 = .ok (.iinc 2 1, 3) := by decide +kernel
theorem dX12_asking_57 : decode cX12_asking 57 = .ok (.goto (-17), 3) := by decide +kernel
theorem dX12_asking_60 : decode cX12_asking 60 = .ok (.aload_n 0, 1) := by decide +kernel
theorem dX12_asking_61 : decode cX12_asking 61 = .ok (.aload_n 0, 1) := by decide +kernel
theorem dX12_asking_62 : decode cX12_asking 62 = .ok (.getfield 9, 3) := by decide +kernel
theorem dX12_asking_65 : decode cX12_asking 65 = .ok (.bipush 93, 2) := by decide +kernel
theorem dX12_asking_67 : decode cX12_asking 67 = .ok (.iaload, 1) := by decide +kernel
theorem dX12_asking_68 : decode cX12_asking 68 = .ok (.invokevirtual 430, 3) := by decide +kernel
theorem dX12_asking_71 : decode cX12_asking 71 = .ok (.istore_n 2, 1) := by decide +kernel
theorem dX12_asking_72 : decode cX12_asking 72 = .ok (.iload_n 1, 1) := by decide +kernel
theorem dX12_asking_73 : decode cX12_asking 73 = .ok (.ifCond .ne 5, 3) := by decide +kernel
theorem dX12_asking_76 : decode cX12_asking 76 = .ok (.iload_n 2, 1) := by decide +kernel
theorem dX12_asking_77 : decode cX12_asking 77 = .ok (.ireturn, 1) := by decide +kernel
theorem dX12_asking_78 : decode cX12_asking 78 = .ok (.iconst 0, 1) := by decide +kernel
theorem dX12_asking_79 : decode cX12_asking 79 = .ok (.istore_n 3, 1) := by decide +kernel
theorem dX12_asking_80 : decode cX12_asking 80 = .ok (.iload_n 3, 1) := by decide +kernel
theorem dX12_asking_81 : decode cX12_asking 81 = .ok (.aload_n 0, 1) := by decide +kernel
theorem dX12_asking_82 : decode cX12_asking 82 = .ok (.invokevirtual 242, 3) := by decide +kernel
theorem dX12_asking_85 : decode cX12_asking 85 = .ok (.if_icmp .ge 31, 3) := by decide +kernel
theorem dX12_asking_88 : decode cX12_asking 88 = .ok (.iload_n 2, 1) := by decide +kernel
theorem dX12_asking_89 : decode cX12_asking 89 = .ok (.ifCond .le 27, 3) := by decide +kernel
theorem dX12_asking_92 : decode cX12_asking 92 = .ok (.aload_n 0, 1) := by decide +kernel
theorem dX12_asking_93 : decode cX12_asking 93 = .ok (.aload_n 0, 1) := by decide +kernel
theorem dX12_asking_94 : decode cX12_asking 94 = .ok (.getfield 9, 3) := by decide +kernel
theorem dX12_asking_97 : decode cX12_asking 97 = .ok (.bipush 93, 2) := by decide +kernel
theorem dX12_asking_99 : decode cX12_asking 99 = .ok (.iaload, 1) := by decide +kernel
theorem dX12_asking_100 : decode cX12_asking 100 = .ok (.iload_n 3, 1) := by decide +kernel
theorem dX12_asking_101 : decode cX12_asking 101 = .ok (.invokevirtual 435, 3) := by decide +kernel
theorem dX12_asking_104 : decode cX12_asking 104 = .ok (.iload_n 2, 1) := by decide +kernel
theorem dX12_asking_105 : decode cX12_asking 105 = .ok (.if_icmp .ne 5, 3) := by decide +kernel
theorem dX12_asking_108 : decode cX12_asking 108 = .ok (.iload_n 3, 1) := by decide +kernel
theorem dX12_asking_109 : decode cX12_asking 109 = .ok (.ireturn, 1) := by decide +kernel
theorem dX12_asking_110 : decode cX12_asking 110 = .ok (.iinc 3 1, 3) := by decide +kernel
theorem dX12_asking_113 : decode cX12_asking 113 = .ok (.goto (-33), 3) := by decide +kernel
theorem dX12_asking_116 : decode cX12_asking 116 = .ok (.iconst (-1), 1) := by decide +kernel
