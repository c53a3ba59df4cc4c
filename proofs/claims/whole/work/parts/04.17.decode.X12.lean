theorem dX12_asking_117 : decode cX12_asking 117 = .ok (.ireturn, 1) := by decide +kernel
theorem dX12_isNew_0 : decode cX12_isNew 0 = .ok (.iconst 0, 1) := by decide +kernel
theorem dX12_isNew_1 : decode cX12_isNew 1 = .ok (.istore_n 1, 1) := by decide +kernel
theorem dX12_isNew_2 : decode cX12_isNew 2 = .ok (.iload_n 1, 1) := by decide +kernel
theorem dX12_isNew_3 : decode cX12_isNew 3 = .ok (.aload_n 0, 1) := by decide +kernel
theorem dX12_isNew_4 : decode cX12_isNew 4 = .ok (.getfield 9, 3) := by decide +kernel
theorem dX12_isNew_7 : decode cX12_isNew 7 = .ok (.iconst 1, 1) := by decide +kernel
theorem dX12_isNew_8 : decode cX12_isNew 8 = .ok (.iaload, 1) := by decide +kernel
theorem dX12_isNew_9 : decode cX12_isNew 9 = .ok (.if_icmp .ge 21, 3) := by decide +kernel
theorem dX12_isNew_12 : decode cX12_isNew 12 = .ok (.aload_n 0, 1) := by decide +kernel
theorem dX12_isNew_13 : decode cX12_isNew 13 = .ok (.getfield 30, 3) := by decide +kernel
theorem dX12_isNew_16 : decode cX12_isNew 16 = .ok (.iload_n 1, 1) := by decide +kernel
theorem dX12_isNew_17 : decode cX12_isNew 17 = .ok (.aload_n 0, 1) := by decide +kernel
theorem dX12_isNew_18 : decode cX12_isNew 18 = .ok (.getfield 51, 3) := by decide +kernel
theorem dX12_isNew_21 : decode cX12_isNew 21 = .ok (.iload_n 1, 1) := by decide +kernel
theorem dX12_isNew_22 : decode cX12_isNew 22 = .ok (.iaload, 1) := by decide +kernel
theorem dX12_isNew_23 : decode cX12_isNew 23 = .ok (.iastore, 1) := by decide +kernel
theorem dX12_isNew_24 : decode cX12_isNew 24 = .ok (.iinc 1 1, 3) := by decide +kernel
theorem dX12_isNew_27 : decode cX12_isNew 27 = .ok (.goto (-25), 3) := by decide +kernel
theorem dX12_isNew_30 : decode cX12_isNew 30 = .ok (.aload_n 0, 1) := by decide +kernel
theorem dX12_isNew_31 : decode cX12_isNew 31 = .ok (.iconst (-1), 1) := by decide +kernel
theorem dX12_isNew_32 : decode cX12_isNew 32 = .ok (.putfield 273, 3) := by decide +kernel
theorem dX12_isNew_35 : decode cX12_isNew 35 = .ok (.aload_n 0, 1) := by decide +kernel
theorem dX12_isNew_36 : decode cX12_isNew 36 = .ok (.invokevirtual 290, 3) := by decide +kernel
theorem dX12_isNew_39 : decode cX12_isNew 39 = .ok (.istore_n 1, 1) := by decide +kernel
theorem dX12_isNew_40 : decode cX12_isNew 40 = .ok (.iconst 0, 1) := by decide +kernel
theorem dX12_isNew_41 : decode cX12_isNew 41 = .ok (.istore_n 2, 1) := by decide +kernel
theorem dX12_isNew_42 : decode cX12_isNew 42 = .ok (.iload_n 2, 1) := by decide +kernel
theorem dX12_isNew_43 : decode cX12_isNew 43 = .ok (.aload_n 0, 1) := by decide +kernel
theorem dX12_isNew_44 : decode cX12_isNew 44 = .ok (.invokevirtual 245, 3) := by decide +kernel
theorem dX12_isNew_47 : decode cX12_isNew 47 = .ok (.if_icmp .ge 29, 3) := by decide +kernel
theorem dX12_isNew_50 : decode cX12_isNew 50 = .ok (.aload_n 0, 1) := by decide +kernel
theorem dX12_isNew_51 : decode cX12_isNew 51 = .ok (.iload_n 2, 1) := by decide +kernel
theorem dX12_isNew_52 : decode cX12_isNew 52 = .ok (.invokevirtual 250, 3) := by decide +kernel
theorem dX12_isNew_55 : decode cX12_isNew 55 = .ok (.ifCond .eq 15, 3) := by decide +kernel
theorem dX12_isNew_58 : decode cX12_isNew 58 = .ok (.aload_n 0, 1) := by decide +kernel
theorem dX12_isNew_59 : decode cX12_isNew 59 = .ok (.getfield 36, 3) := by decide +kernel
theorem dX12_isNew_62 : decode cX12_isNew 62 = .ok (.iload_n 2, 1) := by decide +kernel
theorem dX12_isNew_63 : decode cX12_isNew 63 = .ok (.iaload, 1) := by decide +kernel
theorem dX12_isNew_64 : decode cX12_isNew 64 = .ok (.iload_n 1, 1) := by decide +kernel
theorem dX12_isNew_65 : decode cX12_isNew 65 = .ok (.if_icmp .ne 5, 3) := by decide +kernel
theorem dX12_isNew_68 : decode cX12_isNew 68 = .ok (.iconst 0, 1) := by decide +kernel
theorem dX12_isNew_69 : decode cX12_isNew 69 = .ok (.ireturn, 1) := by decide +kernel
theorem dX12_isNew_70 : decode cX12_isNew 70 = .ok (.iinc 2 1, 3) := by decide +kernel
theorem dX12_isNew_73 : decode cX12_isNew 73 = .ok (.goto (-31), 3) := by decide +kernel
theorem dX12_isNew_76 : decode cX12_isNew 76 = .ok (.iconst 1, 1) := by decide +kernel
theorem dX12_isNew_77 : decode cX12_isNew 77 = .ok (.ireturn, 1) := by decide +kernel
theorem dX12_goesNew_0 : decode cX12_goesNew 0 = .ok (.iload_n 2, 1) := by decide +kernel
theorem dX12_goesNew_1 : decode cX12_goesNew 1 = .ok (.aload_n 0, 1) := by decide +kernel
theorem dX12_goesNew_2 : decode cX12_goesNew 2 = .ok (.getfield 9, 3) := by decide +kernel
theorem dX12_goesNew_5 : decode cX12_goesNew 5 = .ok (.iconst 1, 1) := by decide +kernel
theorem dX12_goesNew_6 : decode cX12_goesNew 6 = .ok (.iaload, 1) := by decide +kernel
theorem dX12_goesNew_7 : decode cX12_goesNew 7 = .ok (.if_icmp .ne 20, 3) := by decide +kernel
theorem dX12_goesNew_10 : decode cX12_goesNew 10 = .ok (.iload_n 3, 1) := by decide +kernel
theorem dX12_goesNew_11 : decode cX12_goesNew 11 = .ok (.ifCond .ne 14, 3) := by decide +kernel
theorem dX12_goesNew_14 : decode cX12_goesNew 14 = .ok (.aload_n 0, 1) := by decide +kernel
theorem dX12_goesNew_15 : decode cX12_goesNew 15 = .ok (.invokevirtual 440, 3) := by decide +kernel
theorem dX12_goesNew_18 : decode cX12_goesNew 18 = .ok (.ifCond .eq 7, 3) := by decide +kernel
theorem dX12_goesNew_21 : decode cX12_goesNew 21 = .ok (.iconst 1, 1) := by decide +kernel
theorem dX12_goesNew_22 : decode cX12_goesNew 22 = .ok (.goto 4, 3) := by decide +kernel
theorem dX12_goesNew_25 : decode cX12_goesNew 25 = .ok (.iconst 0, 1) := by decide +kernel
theorem dX12_goesNew_26 : decode cX12_goesNew 26 = .ok (.ireturn, 1) := by decide +kernel
theorem dX12_goesNew_27 : decode cX12_goesNew 27 = .ok (.iload_n 3, 1) := by decide +kernel
theorem dX12_goesNew_28 : decode cX12_goesNew 28 = .ok (.aload_n 0, 1) := by decide +kernel
theorem dX12_goesNew_29 : decode cX12_goesNew 29 = .ok (.getfield 9, 3) := by decide +kernel
theorem dX12_goesNew_32 : decode cX12_goesNew 32 = .ok (.iconst 1, 1) := by decide +kernel
theorem dX12_goesNew_33 : decode cX12_goesNew 33 = .ok (.iaload, 1) := by decide +kernel
theorem dX12_goesNew_34 : decode cX12_goesNew 34 = .ok (.iload_n 2, 1) := by decide +kernel
theorem dX12_goesNew_35 : decode cX12_goesNew 35 = .ok (.isub, 1) := by decide +kernel
theorem dX12_goesNew_36 : decode cX12_goesNew 36 = .ok (.if_icmp .le 5, 3) := by decide +kernel
theorem dX12_goesNew_39 : decode cX12_goesNew 39 = .ok (.iconst 0, 1) := by decide +kernel
theorem dX12_goesNew_40 : decode cX12_goesNew 40 = .ok (.ireturn, 1) := by decide +kernel
theorem dX12_goesNew_41 : decode cX12_goesNew 41 = .ok (.aload_n 0, 1) := by decide +kernel
theorem dX12_goesNew_42 : decode cX12_goesNew 42 = .ok (.iload_n 1, 1) := by decide +kernel
theorem dX12_goesNew_43 : decode cX12_goesNew 43 = .ok (.iload_n 2, 1) := by decide +kernel
theorem dX12_goesNew_44 : decode cX12_goesNew 44 = .ok (.aload_n 0, 1) := by decide +kernel
theorem dX12_goesNew_45 : decode cX12_goesNew 45 = .ok (.getfield 9, 3) := by decide +kernel
theorem dX12_goesNew_48 : decode cX12_goesNew 48 = .ok (.bipush 94, 2) := by decide +kernel
theorem dX12_goesNew_50 : decode cX12_goesNew 50 = .ok (.iaload, 1) := by decide +kernel
theorem dX12_goesNew_51 : decode cX12_goesNew 51 = .ok (.iconst 1, 1) := by decide +kernel
theorem dX12_goesNew_52 : decode cX12_goesNew 52 = .ok (.if_icmp .ne 7, 3) := by decide +kernel
theorem dX12_goesNew_55 : decode cX12_goesNew 55 = .ok (.iconst 1, 1) := by decide +kernel
theorem dX12_goesNew_56 : decode cX12_goesNew 56 = .ok (.goto 4, 3) := by decide +kernel
theorem dX12_goesNew_59 : decode cX12_goesNew 59 = .ok (.iconst 0, 1) := by decide +kernel
theorem dX12_goesNew_60 : decode cX12_goesNew 60 = .ok (.invokevirtual 286, 3) := by decide +kernel
theorem dX12_goesNew_63 : decode cX12_goesNew 63 = .ok (.istore 4, 2) := by decide +kernel
theorem dX12_goesNew_65 : decode cX12_goesNew 65 = .ok (.iconst 0, 1) := by decide +kernel
theorem dX12_goesNew_66 : decode cX12_goesNew 66 = .ok (.istore 5, 2) := by decide +kernel
theorem dX12_goesNew_68 : decode cX12_goesNew 68 = .ok (.iload 5, 2) := by decide +kernel
theorem dX12_goesNew_70 : decode cX12_goesNew 70 = .ok (.bipush 10, 2) := by decide +kernel
theorem dX12_goesNew_72 : decode cX12_goesNew 72 = .ok (.if_icmp .ge 58, 3) := by decide +kernel
theorem dX12_goesNew_75 : decode cX12_goesNew 75 = .ok (.iload 5, 2) := by decide +kernel
theorem dX12_goesNew_77 : decode cX12_goesNew 77 = .ok (.iload 4, 2) := by decide +kernel
theorem dX12_goesNew_79 : decode cX12_goesNew 79 = .ok (.if_icmp .eq 10, 3) := by decide +kernel
theorem dX12_goesNew_82 : decode cX12_goesNew 82 = .ok (.iload_n 3, 1) := by decide +kernel
theorem dX12_goesNew_83 : decode cX12_goesNew 83 = .ok (.ifCond .ne 6, 3) := by decide +kernel
theorem dX12_goesNew_86 : decode cX12_goesNew 86 = .ok (.goto 38, 3) := by decide +kernel
theorem dX12_goesNew_89 : decode cX12_goesNew 89 = .ok (.aload_n 0, 1) := by decide +kernel
theorem dX12_goesNew_90 : decode cX12_goesNew 90 = .ok (.getfield 51, 3) := by decide +kernel
theorem dX12_goesNew_93 : decode cX12_goesNew 93 = .ok (.iload_n 2, 1) := by decide +kernel
theorem dX12_goesNew_94 : decode cX12_goesNew 94 = .ok (.iload 5, 2) := by decide +kernel
theorem dX12_goesNew_96 : decode cX12_goesNew 96 = .ok (.iastore, 1) := by decide +kernel
theorem dX12_goesNew_97 : decode cX12_goesNew 97 = .ok (.aload_n 0, 1) := by decide +kernel
theorem dX12_goesNew_98 : decode cX12_goesNew 98 = .ok (.iload_n 1, 1) := by decide +kernel
theorem dX12_goesNew_99 : decode cX12_goesNew 99 = .ok (.iload_n 2, 1) := by decide +kernel
theorem dX12_goesNew_100 : decode cX12_goesNew 100 = .ok (.iconst 1, 1) := by decide +kernel
theorem dX12_goesNew_101 : decode cX12_goesNew 101 = .ok (.iadd, 1) := by decide +kernel
theorem dX12_goesNew_102 : decode cX12_goesNew 102 = .ok (.iload 5, 2) := by decide +kernel
theorem dX12_goesNew_104 : decode cX12_goesNew 104 = .ok (.iload 4, 2) := by decide +kernel
theorem dX12_goesNew_106 : decode cX12_goesNew 106 = .ok (.if_icmp .ne 7, 3) := by decide +kernel
theorem dX12_goesNew_109 : decode cX12_goesNew 109 = .ok (.iload_n 3, 1) := by decide +kernel
theorem dX12_goesNew_110 : decode cX12_goesNew 110 = .ok (.goto 6, 3) := by decide +kernel
theorem dX12_goesNew_113 : decode cX12_goesNew 113 = .ok (.iload_n 3, 1) := by decide +kernel
theorem dX12_goesNew_114 : decode cX12_goesNew 114 = .ok (.iconst 1, 1) := by decide +kernel
theorem dX12_goesNew_115 : decode cX12_goesNew 115 = .ok (.isub, 1) := by decide +kernel
theorem dX12_goesNew_116 : decode cX12_goesNew 116 = .ok (.invokevirtual 444, 3) := by decide +kernel
theorem dX12_goesNew_119 : decode cX12_goesNew 119 = .ok (.ifCond .eq 5, 3) := by decide +kernel
theorem dX12_goesNew_122 : decode cX12_goesNew 122 = .ok (.iconst 1, 1) := by decide +kernel
theorem dX12_goesNew_123 : decode cX12_goesNew 123 = .ok (.ireturn, 1) := by decide +kernel
theorem dX12_goesNew_124 : decode cX12_goesNew 124 = .ok (.iinc 5 1, 3) := by decide +kernel
theorem dX12_goesNew_127 : decode cX12_goesNew 127 = .ok (.goto (-59), 3) := by decide +kernel
theorem dX12_goesNew_130 : decode cX12_goesNew 130 = .ok (.iconst 0, 1) := by decide +kernel
theorem dX12_goesNew_131 : decode cX12_goesNew 131 = .ok (.ireturn, 1) := by decide +kernel
theorem dX12_fresh_0 : decode cX12_fresh 0 = .ok (.aload_n 0, 1) := by decide +kernel
theorem dX12_fresh_1 : decode cX12_fresh 1 = .ok (.aload_n 0, 1) := by decide +kernel
theorem dX12_fresh_2 : decode cX12_fresh 2 = .ok (.iload_n 1, 1) := by decide +kernel
theorem dX12_fresh_3 : decode cX12_fresh 3 = .ok (.i2l, 1) := by decide +kernel
theorem dX12_fresh_4 : decode cX12_fresh 4 = .ok (.invokevirtual 297, 3) := by decide +kernel
theorem dX12_fresh_7 : decode cX12_fresh 7 = .ok (.ifCond .ne 7, 3) := by decide +kernel
theorem dX12_fresh_10 : decode cX12_fresh 10 = .ok (.iconst 1, 1) := by decide +kernel
theorem dX12_fresh_11 : decode cX12_fresh 11 = .ok (.goto 26, 3) := by decide +kernel
theorem dX12_fresh_14 : decode cX12_fresh 14 = .ok (.iload_n 2, 1) := by decide +kernel
theorem dX12_fresh_15 : decode cX12_fresh 15 = .ok (.ifCond .eq 17, 3) := by decide +kernel
theorem dX12_fresh_18 : decode cX12_fresh 18 = .ok (.iload_n 2, 1) := by decide +kernel
theorem dX12_fresh_19 : decode cX12_fresh 19 = .ok (.i2l, 1) := by decide +kernel
theorem dX12_fresh_20 : decode cX12_fresh 20 = .ok (.ldc2_w 381, 3) := by decide +kernel
theorem dX12_fresh_23 : decode cX12_fresh 23 = .ok (.ldc2_w 448, 3) := by decide +kernel
theorem dX12_fresh_26 : decode cX12_fresh 26 = .ok (.invokestatic 132, 3) := by decide +kernel
theorem dX12_fresh_29 : decode cX12_fresh 29 = .ok (.ifCond .eq 7, 3) := by decide +kernel
theorem dX12_fresh_32 : decode cX12_fresh 32 = .ok (.iconst 0, 1) := by decide +kernel
theorem dX12_fresh_33 : decode cX12_fresh 33 = .ok (.goto 4, 3) := by decide +kernel
theorem dX12_fresh_36 : decode cX12_fresh 36 = .ok (.iconst 2, 1) := by decide +kernel
theorem dX12_fresh_37 : decode cX12_fresh 37 = .ok (.putfield 68, 3) := by decide +kernel
theorem dX12_fresh_40 : decode cX12_fresh 40 = .ok (.aload_n 0, 1) := by decide +kernel
theorem dX12_fresh_41 : decode cX12_fresh 41 = .ok (.getfield 68, 3) := by decide +kernel
theorem dX12_fresh_44 : decode cX12_fresh 44 = .ok (.ifCond .le 5, 3) := by decide +kernel
theorem dX12_fresh_47 : decode cX12_fresh 47 = .ok (.iconst 0, 1) := by decide +kernel
theorem dX12_fresh_48 : decode cX12_fresh 48 = .ok (.ireturn, 1) := by decide +kernel
theorem dX12_fresh_49 : decode cX12_fresh 49 = .ok (.aload_n 0, 1) := by decide +kernel
theorem dX12_fresh_50 : decode cX12_fresh 50 = .ok (.invokevirtual 306, 3) := by decide +kernel
theorem dX12_fresh_53 : decode cX12_fresh 53 = .ok (.iconst 0, 1) := by decide +kernel
theorem dX12_fresh_54 : decode cX12_fresh 54 = .ok (.istore_n 3, 1) := by decide +kernel
theorem dX12_fresh_55 : decode cX12_fresh 55 = .ok (.iload_n 3, 1) := by decide +kernel
theorem dX12_fresh_56 : decode cX12_fresh 56 = .ok (.iconst 3, 1) := by decide +kernel
theorem dX12_fresh_57 : decode cX12_fresh 57 = .ok (.if_icmp .gt 19, 3) := by decide +kernel
theorem dX12_fresh_60 : decode cX12_fresh 60 = .ok (.aload_n 0, 1) := by decide +kernel
theorem dX12_fresh_61 : decode cX12_fresh 61 = .ok (.iload_n 1, 1) := by decide +kernel
theorem dX12_fresh_62 : decode cX12_fresh 62 = .ok (.iconst 0, 1) := by decide +kernel
theorem dX12_fresh_63 : decode cX12_fresh 63 = .ok (.iload_n 3, 1) := by decide +kernel
theorem dX12_fresh_64 : decode cX12_fresh 64 = .ok (.invokevirtual 444, 3) := by decide +kernel
theorem dX12_fresh_67 : decode cX12_fresh 67 = .ok (.ifCond .ne 9, 3) := by decide +kernel
theorem dX12_fresh_70 : decode cX12_fresh 70 = .ok (.iinc 3 1, 3) := by decide +kernel
theorem dX12_fresh_73 : decode cX12_fresh 73 = .ok (.goto (-18), 3) := by decide +kernel
theorem dX12_fresh_76 : decode cX12_fresh 76 = .ok (.iload_n 3, 1) := by decide +kernel
theorem dX12_fresh_77 : decode cX12_fresh 77 = .ok (.iconst 3, 1) := by decide +kernel
theorem dX12_fresh_78 : decode cX12_fresh 78 = .ok (.if_icmp .le 5, 3) := by decide +kernel
theorem dX12_fresh_81 : decode cX12_fresh 81 = .ok (.iconst (-1), 1) := by decide +kernel
theorem dX12_fresh_82 : decode cX12_fresh 82 = .ok (.ireturn, 1) := by decide +kernel
theorem dX12_fresh_83 : decode cX12_fresh 83 = .ok (.iload_n 2, 1) := by decide +kernel
theorem dX12_fresh_84 : decode cX12_fresh 84 = .ok (.ifCond .ne 7, 3) := by decide +kernel
theorem dX12_fresh_87 : decode cX12_fresh 87 = .ok (.iload_n 3, 1) := by decide +kernel
theorem dX12_fresh_88 : decode cX12_fresh 88 = .ok (.goto 29, 3) := by decide +kernel
theorem dX12_fresh_91 : decode cX12_fresh 91 = .ok (.iload_n 2, 1) := by decide +kernel
theorem dX12_fresh_92 : decode cX12_fresh 92 = .ok (.bipush 10, 2) := by decide +kernel
theorem dX12_fresh_94 : decode cX12_fresh 94 = .ok (.isub, 1) := by decide +kernel
theorem dX12_fresh_95 : decode cX12_fresh 95 = .ok (.aload_n 0, 1) := by decide +kernel
theorem dX12_fresh_96 : decode cX12_fresh 96 = .ok (.getfield 9, 3) := by decide +kernel
theorem dX12_fresh_99 : decode cX12_fresh 99 = .ok (.iconst 1, 1) := by decide +kernel
theorem dX12_fresh_100 : decode cX12_fresh 100 = .ok (.iaload, 1) := by decide +kernel
theorem dX12_fresh_101 : decode cX12_fresh 101 = .ok (.if_icmp .ge 15, 3) := by decide +kernel
theorem dX12_fresh_104 : decode cX12_fresh 104 = .ok (.aload_n 0, 1) := by decide +kernel
theorem dX12_fresh_105 : decode cX12_fresh 105 = .ok (.getfield 51, 3) := by decide +kernel
theorem dX12_fresh_108 : decode cX12_fresh 108 = .ok (.iload_n 2, 1) := by decide +kernel
theorem dX12_fresh_109 : decode cX12_fresh 109 = .ok (.bipush 10, 2) := by decide +kernel
theorem dX12_fresh_111 : decode cX12_fresh 111 = .ok (.isub, 1) := by decide +kernel
theorem dX12_fresh_112 : decode cX12_fresh 112 = .ok (.iaload, 1) := by decide +kernel
theorem dX12_fresh_113 : decode cX12_fresh 113 = .ok (.goto 4, 3) := by decide +kernel
theorem dX12_fresh_116 : decode cX12_fresh 116 = .ok (.iconst (-1), 1) := by decide +kernel
theorem dX12_fresh_117 : decode cX12_fresh 117 = .ok (.ireturn, 1) := by decide +kernel
theorem dX12_twins_0 : decode cX12_twins 0 = .ok (.aload_n 0, 1) := by decide +kernel
theorem dX12_twins_1 : decode cX12_twins 1 = .ok (.iconst 0, 1) := by decide +kernel
theorem dX12_twins_2 : decode cX12_twins 2 = .ok (.putfield 68, 3) := by decide +kernel
theorem dX12_twins_5 : decode cX12_twins 5 = .ok (.aload_n 0, 1) := by decide +kernel
theorem dX12_twins_6 : decode cX12_twins 6 = .ok (.invokevirtual 306, 3) := by decide +kernel
theorem dX12_twins_9 : decode cX12_twins 9 = .ok (.iconst 0, 1) := by decide +kernel
theorem dX12_twins_10 : decode cX12_twins 10 = .ok (.istore_n 1, 1) := by decide +kernel
theorem dX12_twins_11 : decode cX12_twins 11 = .ok (.iconst 0, 1) := by decide +kernel
theorem dX12_twins_12 : decode cX12_twins 12 = .ok (.istore_n 2, 1) := by decide +kernel
theorem dX12_twins_13 : decode cX12_twins 13 = .ok (.iload_n 2, 1) := by decide +kernel
theorem dX12_twins_14 : decode cX12_twins 14 = .ok (.aload_n 0, 1) := by decide +kernel
theorem dX12_twins_15 : decode cX12_twins 15 = .ok (.invokevirtual 245, 3) := by decide +kernel
theorem dX12_twins_18 : decode cX12_twins 18 = .ok (.if_icmp .ge 35, 3) := by decide +kernel
theorem dX12_twins_21 : decode cX12_twins 21 = .ok (.iload_n 1, 1) := by decide +kernel
theorem dX12_twins_22 : decode cX12_twins 22 = .ok (.aload_n 0, 1) := by decide +kernel
theorem dX12_twins_23 : decode cX12_twins 23 = .ok (.iload_n 2, 1) := by decide +kernel
theorem dX12_twins_24 : decode cX12_twins 24 = .ok (.invokevirtual 250, 3) := by decide +kernel
theorem dX12_twins_27 : decode cX12_twins 27 = .ok (.ifCond .eq 17, 3) := by decide +kernel
theorem dX12_twins_30 : decode cX12_twins 30 = .ok (.aload_n 0, 1) := by decide +kernel
theorem dX12_twins_31 : decode cX12_twins 31 = .ok (.iload_n 2, 1) := by decide +kernel
theorem dX12_twins_32 : decode cX12_twins 32 = .ok (.invokevirtual 309, 3) := by decide +kernel
theorem dX12_twins_35 : decode cX12_twins 35 = .ok (.ifCond .le 9, 3) := by decide +kernel
theorem dX12_twins_38 : decode cX12_twins 38 = .ok (.iconst 1, 1) := by decide +kernel
theorem dX12_twins_39 : decode cX12_twins 39 = .ok (.iload_n 2, 1) := by decide +kernel
theorem dX12_twins_40 : decode cX12_twins 40 = .ok (.ishl, 1) := by decide +kernel
theorem dX12_twins_41 : decode cX12_twins 41 = .ok (.goto 4, 3) := by decide +kernel
theorem dX12_twins_44 : decode cX12_twins 44 = .ok (.iconst 0, 1) := by decide +kernel
theorem dX12_twins_45 : decode cX12_twins 45 = .ok (.ior, 1) := by decide +kernel
theorem dX12_twins_46 : decode cX12_twins 46 = .ok (.istore_n 1, 1) := by decide +kernel
theorem dX12_twins_47 : decode cX12_twins 47 = .ok (.iinc 2 1, 3) := by decide +kernel
theorem dX12_twins_50 : decode cX12_twins 50 = .ok (.goto (-37), 3) := by decide +kernel
theorem dX12_twins_53 : decode cX12_twins 53 = .ok (.iload_n 1, 1) := by decide +kernel
theorem dX12_twins_54 : decode cX12_twins 54 = .ok (.ireturn, 1) := by decide +kernel
theorem dX12_parts_0 : decode cX12_parts 0 = .ok (.aload_n 0, 1) := by decide +kernel
theorem dX12_parts_1 : decode cX12_parts 1 = .ok (.iconst 0, 1) := by decide +kernel
theorem dX12_parts_2 : decode cX12_parts 2 = .ok (.putfield 68, 3) := by decide +kernel
theorem dX12_parts_5 : decode cX12_parts 5 = .ok (.aload_n 0, 1) := by decide +kernel
theorem dX12_parts_6 : decode cX12_parts 6 = .ok (.invokevirtual 306, 3) := by decide +kernel
theorem dX12_parts_9 : decode cX12_parts 9 = .ok (.aload_n 0, 1) := by decide +kernel
theorem dX12_parts_10 : decode cX12_parts 10 = .ok (.getfield 9, 3) := by decide +kernel
theorem dX12_parts_13 : decode cX12_parts 13 = .ok (.bipush 93, 2) := by decide +kernel
theorem dX12_parts_15 : decode cX12_parts 15 = .ok (.iaload, 1) := by decide +kernel
theorem dX12_parts_16 : decode cX12_parts 16 = .ok (.invokestatic 330, 3) := by decide +kernel
theorem dX12_parts_19 : decode cX12_parts 19 = .ok (.istore_n 1, 1) := by decide +kernel
theorem dX12_parts_20 : decode cX12_parts 20 = .ok (.iconst (-1), 1) := by decide +kernel
theorem dX12_parts_21 : decode cX12_parts 21 = .ok (.istore_n 2, 1) := by decide +kernel
theorem dX12_parts_22 : decode cX12_parts 22 = .ok (.iconst 0, 1) := by decide +kernel
theorem dX12_parts_23 : decode cX12_parts 23 = .ok (.istore_n 3, 1) := by decide +kernel
theorem dX12_parts_24 : decode cX12_parts 24 = .ok (.iconst 0, 1) := by decide +kernel
theorem dX12_parts_25 : decode cX12_parts 25 = .ok (.istore 4, 2) := by decide +kernel
theorem dX12_parts_27 : decode cX12_parts 27 = .ok (.iload 4, 2) := by decide +kernel
theorem dX12_parts_29 : decode cX12_parts 29 = .ok (.aload_n 0, 1) := by decide +kernel
theorem dX12_parts_30 : decode cX12_parts 30 = .ok (.invokevirtual 242, 3) := by decide +kernel
theorem dX12_parts_33 : decode cX12_parts 33 = .ok (.if_icmp .ge 51, 3) := by decide +kernel
theorem dX12_parts_36 : decode cX12_parts 36 = .ok (.aload_n 0, 1) := by decide +kernel
theorem dX12_parts_37 : decode cX12_parts 37 = .ok (.iload 4, 2) := by decide +kernel
theorem dX12_parts_39 : decode cX12_parts 39 = .ok (.invokevirtual 317, 3) := by decide +kernel
theorem dX12_parts_42 : decode cX12_parts 42 = .ok (.invokestatic 330, 3) := by decide +kernel
theorem dX12_parts_45 : decode cX12_parts 45 = .ok (.istore 5, 2) := by decide +kernel
theorem dX12_parts_47 : decode cX12_parts 47 = .ok (.iload 5, 2) := by decide +kernel
theorem dX12_parts_49 : decode cX12_parts 49 = .ok (.iload_n 1, 1) := by decide +kernel
theorem dX12_parts_50 : decode cX12_parts 50 = .ok (.iload 5, 2) := by decide +kernel
theorem dX12_parts_52 : decode cX12_parts 52 = .ok (.isub, 1) := by decide +kernel
theorem dX12_parts_53 : decode cX12_parts 53 = .ok (.invokestatic 433, 3) := by decide +kernel
theorem dX12_parts_56 : decode cX12_parts 56 = .ok (.istore 6, 2) := by decide +kernel
theorem dX12_parts_58 : decode cX12_parts 58 = .ok (.iload_n 2, 1) := by decide +kernel
theorem dX12_parts_59 : decode cX12_parts 59 = .ok (.iconst (-1), 1) := by decide +kernel
theorem dX12_parts_60 : decode cX12_parts 60 = .ok (.if_icmp .eq 12, 3) := by decide +kernel
theorem dX12_parts_63 : decode cX12_parts 63 = .ok (.iload 6, 2) := by decide +kernel
theorem dX12_parts_65 : decode cX12_parts 65 = .ok (.iload_n 3, 1) := by decide +kernel
theorem dX12_parts_66 : decode cX12_parts 66 = .ok (.if_icmp .lt 6, 3) := by decide +kernel
theorem dX12_parts_69 : decode cX12_parts 69 = .ok (.goto 9, 3) := by decide +kernel
theorem dX12_parts_72 : decode cX12_parts 72 = .ok (.iload 4, 2) := by decide +kernel
theorem dX12_parts_74 : decode cX12_parts 74 = .ok (.istore_n 2, 1) := by decide +kernel
theorem dX12_parts_75 : decode cX12_parts 75 = .ok (.iload 6, 2) := by decide +kernel
theorem dX12_parts_77 : decode cX12_parts 77 = .ok (.istore_n 3, 1) := by decide +kernel
theorem dX12_parts_78 : decode cX12_parts 78 = .ok (.iinc 4 1, 3) := by decide +kernel
theorem dX12_parts_81 : decode cX12_parts 81 = .ok (.goto (-54), 3) := by decide +kernel
theorem dX12_parts_84 : decode cX12_parts 84 = .ok (.iload_n 2, 1) := by decide +kernel
theorem dX12_parts_85 : decode cX12_parts 85 = .ok (.ireturn, 1) := by decide +kernel
theorem dX12_idle_0 : decode cX12_idle 0 = .ok (.aload_n 0, 1) := by decide +kernel
theorem dX12_idle_1 : decode cX12_idle 1 = .ok (.iconst 0, 1) := by decide +kernel
theorem dX12_idle_2 : decode cX12_idle 2 = .ok (.putfield 68, 3) := by decide +kernel
theorem dX12_idle_5 : decode cX12_idle 5 = .ok (.aload_n 0, 1) := by decide +kernel
theorem dX12_idle_6 : decode cX12_idle 6 = .ok (.invokevirtual 306, 3) := by decide +kernel
theorem dX12_idle_9 : decode cX12_idle 9 = .ok (.iconst 0, 1) := by decide +kernel
theorem dX12_idle_10 : decode cX12_idle 10 = .ok (.istore_n 1, 1) := by decide +kernel
theorem dX12_idle_11 : decode cX12_idle 11 = .ok (.iconst 0, 1) := by decide +kernel
theorem dX12_idle_12 : decode cX12_idle 12 = .ok (.istore_n 2, 1) := by decide +kernel
theorem dX12_idle_13 : decode cX12_idle 13 = .ok (.iload_n 2, 1) := by decide +kernel
theorem dX12_idle_14 : decode cX12_idle 14 = .ok (.aload_n 0, 1) := by decide +kernel
theorem dX12_idle_15 : decode cX12_idle 15 = .ok (.invokevirtual 242, 3) := by decide +kernel
theorem dX12_idle_18 : decode cX12_idle 18 = .ok (.if_icmp .ge 42, 3) := by decide +kernel
theorem dX12_idle_21 : decode cX12_idle 21 = .ok (.iload_n 1, 1) := by decide +kernel
theorem dX12_idle_22 : decode cX12_idle 22 = .ok (.aload_n 0, 1) := by decide +kernel
theorem dX12_idle_23 : decode cX12_idle 23 = .ok (.iload_n 2, 1) := by decide +kernel
theorem dX12_idle_24 : decode cX12_idle 24 = .ok (.invokevirtual 317, 3) := by decide +kernel
theorem dX12_idle_27 : decode cX12_idle 27 = .ok (.ifCond .eq 18, 3) := by decide +kernel
theorem dX12_idle_30 : decode cX12_idle 30 = .ok (.aload_n 0, 1) := by decide +kernel
theorem dX12_idle_31 : decode cX12_idle 31 = .ok (.iload_n 2, 1) := by decide +kernel
theorem dX12_idle_32 : decode cX12_idle 32 = .ok (.invokevirtual 317, 3) := by decide +kernel
theorem dX12_idle_35 : decode cX12_idle 35 = .ok (.aload_n 0, 1) := by decide +kernel
theorem dX12_idle_36 : decode cX12_idle 36 = .ok (.getfield 9, 3) := by decide +kernel
theorem dX12_idle_39 : decode cX12_idle 39 = .ok (.bipush 93, 2) := by decide +kernel
theorem dX12_idle_41 : decode cX12_idle 41 = .ok (.iaload, 1) := by decide +kernel
theorem dX12_idle_42 : decode cX12_idle 42 = .ok (.if_icmp .ne 9, 3) := by decide +kernel
theorem dX12_idle_45 : decode cX12_idle 45 = .ok (.iconst 1, 1) := by decide +kernel
theorem dX12_idle_46 : decode cX12_idle 46 = .ok (.iload_n 2, 1) := by decide +kernel
theorem dX12_idle_47 : decode cX12_idle 47 = .ok (.ishl, 1) := by decide +kernel
theorem dX12_idle_48 : decode cX12_idle 48 = .ok (.goto 4, 3) := by decide +kernel
theorem dX12_idle_51 : decode cX12_idle 51 = .ok (.iconst 0, 1) := by decide +kernel
theorem dX12_idle_52 : decode cX12_idle 52 = .ok (.ior, 1) := by decide +kernel
theorem dX12_idle_53 : decode cX12_idle 53 = .ok (.istore_n 1, 1) := by decide +kernel
theorem dX12_idle_54 : decode cX12_idle 54 = .ok (.iinc 2 1, 3) := by decide +kernel
theorem dX12_idle_57 : decode cX12_idle 57 = .ok (.goto (-44), 3) := by decide +kernel
theorem dX12_idle_60 : decode cX12_idle 60 = .ok (.iload_n 1, 1) := by decide +kernel
theorem dX12_idle_61 : decode cX12_idle 61 = .ok (.ireturn, 1) := by decide +kernel
theorem dX12_nearest_0 : decode cX12_nearest 0 = .ok (.aload_n 0, 1) := by decide +kernel
theorem dX12_nearest_1 : decode cX12_nearest 1 = .ok (.iconst 0, 1) := by decide +kernel
theorem dX12_nearest_2 : decode cX12_nearest 2 = .ok (.putfield 68, 3) := by decide +kernel
theorem dX12_nearest_5 : decode cX12_nearest 5 = .ok (.aload_n 0, 1) := by decide +kernel
theorem dX12_nearest_6 : decode cX12_nearest 6 = .ok (.iload_n 1, 1) := by decide +kernel
theorem dX12_nearest_7 : decode cX12_nearest 7 = .ok (.i2l, 1) := by decide +kernel
theorem dX12_nearest_8 : decode cX12_nearest 8 = .ok (.invokevirtual 297, 3) := by decide +kernel
theorem dX12_nearest_11 : decode cX12_nearest 11 = .ok (.ifCond .ne 9, 3) := by decide +kernel
theorem dX12_nearest_14 : decode cX12_nearest 14 = .ok (.aload_n 0, 1) := by decide +kernel
theorem dX12_nearest_15 : decode cX12_nearest 15 = .ok (.iconst 1, 1) := by decide +kernel
theorem dX12_nearest_16 : decode cX12_nearest 16 = .ok (.invokevirtual 224, 3) := by decide +kernel
theorem dX12_nearest_19 : decode cX12_nearest 19 = .ok (.ireturn, 1) := by decide +kernel
theorem dX12_nearest_20 : decode cX12_nearest 20 = .ok (.aload_n 0, 1) := by decide +kernel
theorem dX12_nearest_21 : decode cX12_nearest 21 = .ok (.invokevirtual 306, 3) := by decide +kernel
theorem dX12_nearest_24 : decode cX12_nearest 24 = .ok (.iconst (-1), 1) := by decide +kernel
theorem dX12_nearest_25 : decode cX12_nearest 25 = .ok (.istore_n 2, 1) := by decide +kernel
theorem dX12_nearest_26 : decode cX12_nearest 26 = .ok (.iconst 0, 1) := by decide +kernel
theorem dX12_nearest_27 : decode cX12_nearest 27 = .ok (.istore_n 3, 1) := by decide +kernel
theorem dX12_nearest_28 : decode cX12_nearest 28 = .ok (.iconst 0, 1) := by decide +kernel
theorem dX12_nearest_29 : decode cX12_nearest 29 = .ok (.istore 4, 2) := by decide +kernel
theorem dX12_nearest_31 : decode cX12_nearest 31 = .ok (.iload 4, 2) := by decide +kernel
theorem dX12_nearest_33 : decode cX12_nearest 33 = .ok (.aload_n 0, 1) := by decide +kernel
theorem dX12_nearest_34 : decode cX12_nearest 34 = .ok (.invokevirtual 245, 3) := by decide +kernel
theorem dX12_nearest_37 : decode cX12_nearest 37 = .ok (.if_icmp .ge 66, 3) := by decide +kernel
theorem dX12_nearest_40 : decode cX12_nearest 40 = .ok (.iload 4, 2) := by decide +kernel
theorem dX12_nearest_42 : decode cX12_nearest 42 = .ok (.iload_n 1, 1) := by decide +kernel
theorem dX12_nearest_43 : decode cX12_nearest 43 = .ok (.if_icmp .eq 54, 3) := by decide +kernel
theorem dX12_nearest_46 : decode cX12_nearest 46 = .ok (.aload_n 0, 1) := by decide +kernel
theorem dX12_nearest_47 : decode cX12_nearest 47 = .ok (.iload 4, 2) := by decide +kernel
theorem dX12_nearest_49 : decode cX12_nearest 49 = .ok (.invokevirtual 250, 3) := by decide +kernel
theorem dX12_nearest_52 : decode cX12_nearest 52 = .ok (.ifCond .ne 6, 3) := by decide +kernel
theorem dX12_nearest_55 : decode cX12_nearest 55 = .ok (.goto 42, 3) := by decide +kernel
theorem dX12_nearest_58 : decode cX12_nearest 58 = .ok (.aload_n 0, 1) := by decide +kernel
theorem dX12_nearest_59 : decode cX12_nearest 59 = .ok (.getfield 36, 3) := by decide +kernel
theorem dX12_nearest_62 : decode cX12_nearest 62 = .ok (.iload_n 1, 1) := by decide +kernel
theorem dX12_nearest_63 : decode cX12_nearest 63 = .ok (.iaload, 1) := by decide +kernel
theorem dX12_nearest_64 : decode cX12_nearest 64 = .ok (.aload_n 0, 1) := by decide +kernel
theorem dX12_nearest_65 : decode cX12_nearest 65 = .ok (.getfield 36, 3) := by decide +kernel
theorem dX12_nearest_68 : decode cX12_nearest 68 = .ok (.iload 4, 2) := by decide +kernel
theorem dX12_nearest_70 : decode cX12_nearest 70 = .ok (.iaload, 1) := by decide +kernel
theorem dX12_nearest_71 : decode cX12_nearest 71 = .ok (.ixor, 1) := by decide +kernel
theorem dX12_nearest_72 : decode cX12_nearest 72 = .ok (.invokestatic 330, 3) := by decide +kernel
theorem dX12_nearest_75 : decode cX12_nearest 75 = .ok (.istore 5, 2) := by decide +kernel
theorem dX12_nearest_77 : decode cX12_nearest 77 = .ok (.iload_n 2, 1) := by decide +kernel
theorem dX12_nearest_78 : decode cX12_nearest 78 = .ok (.iconst (-1), 1) := by decide +kernel
theorem dX12_nearest_79 : decode cX12_nearest 79 = .ok (.if_icmp .eq 12, 3) := by decide +kernel
theorem dX12_nearest_82 : decode cX12_nearest 82 = .ok (.iload 5, 2) := by decide +kernel
theorem dX12_nearest_84 : decode cX12_nearest 84 = .ok (.iload_n 3, 1) := by decide +kernel
theorem dX12_nearest_85 : decode cX12_nearest 85 = .ok (.if_icmp .lt 6, 3) := by decide +kernel
theorem dX12_nearest_88 : decode cX12_nearest 88 = .ok (.goto 9, 3) := by decide +kernel
theorem dX12_nearest_91 : decode cX12_nearest 91 = .ok (.iload 4, 2) := by decide +kernel
theorem dX12_nearest_93 : decode cX12_nearest 93 = .ok (.istore_n 2, 1) := by decide +kernel
theorem dX12_nearest_94 : decode cX12_nearest 94 = .ok (.iload 5, 2) := by decide +kernel
theorem dX12_nearest_96 : decode cX12_nearest 96 = .ok (.istore_n 3, 1) := by decide +kernel
theorem dX12_nearest_97 : decode cX12_nearest 97 = .ok (.iinc 4 1, 3) := by decide +kernel
theorem dX12_nearest_100 : decode cX12_nearest 100 = .ok (.goto (-69), 3) := by decide +kernel
theorem dX12_nearest_103 : decode cX12_nearest 103 = .ok (.iload_n 2, 1) := by decide +kernel
theorem dX12_nearest_104 : decode cX12_nearest 104 = .ok (.ireturn, 1) := by decide +kernel
theorem dX12_differ_0 : decode cX12_differ 0 = .ok (.aload_n 0, 1) := by decide +kernel
theorem dX12_differ_1 : decode cX12_differ 1 = .ok (.iconst 0, 1) := by decide +kernel
theorem dX12_differ_2 : decode cX12_differ 2 = .ok (.putfield 68, 3) := by decide +kernel
theorem dX12_differ_5 : decode cX12_differ 5 = .ok (.aload_n 0, 1) := by decide +kernel
theorem dX12_differ_6 : decode cX12_differ 6 = .ok (.iload_n 1, 1) := by decide +kernel
theorem dX12_differ_7 : decode cX12_differ 7 = .ok (.i2l, 1) := by decide +kernel
theorem dX12_differ_8 : decode cX12_differ 8 = .ok (.invokevirtual 297, 3) := by decide +kernel
theorem dX12_differ_11 : decode cX12_differ 11 = .ok (.ifCond .eq 12, 3) := by decide +kernel
theorem dX12_differ_14 : decode cX12_differ 14 = .ok (.aload_n 0, 1) := by decide +kernel
theorem dX12_differ_15 : decode cX12_differ 15 = .ok (.iload_n 2, 1) := by decide +kernel
theorem dX12_differ_16 : decode cX12_differ 16 = .ok (.i2l, 1) := by decide +kernel
theorem dX12_differ_17 : decode cX12_differ 17 = .ok (.invokevirtual 297, 3) := by decide +kernel
theorem dX12_differ_20 : decode cX12_differ 20 = .ok (.ifCond .ne 9, 3) := by decide +kernel
theorem dX12_differ_23 : decode cX12_differ 23 = .ok (.aload_n 0, 1) := by decide +kernel
theorem dX12_differ_24 : decode cX12_differ 24 = .ok (.iconst 1, 1) := by decide +kernel
theorem dX12_differ_25 : decode cX12_differ 25 = .ok (.invokevirtual 224, 3) := by decide +kernel
theorem dX12_differ_28 : decode cX12_differ 28 = .ok (.ireturn, 1) := by decide +kernel
theorem dX12_differ_29 : decode cX12_differ 29 = .ok (.aload_n 0, 1) := by decide +kernel
theorem dX12_differ_30 : decode cX12_differ 30 = .ok (.invokevirtual 306, 3) := by decide +kernel
theorem dX12_differ_33 : decode cX12_differ 33 = .ok (.aload_n 0, 1) := by decide +kernel
theorem dX12_differ_34 : decode cX12_differ 34 = .ok (.getfield 36, 3) := by decide +kernel
theorem dX12_differ_37 : decode cX12_differ 37 = .ok (.iload_n 1, 1) := by decide +kernel
theorem dX12_differ_38 : decode cX12_differ 38 = .ok (.iaload, 1) := by decide +kernel
theorem dX12_differ_39 : decode cX12_differ 39 = .ok (.aload_n 0, 1) := by decide +kernel
theorem dX12_differ_40 : decode cX12_differ 40 = .ok (.getfield 36, 3) := by decide +kernel
theorem dX12_differ_43 : decode cX12_differ 43 = .ok (.iload_n 2, 1) := by decide +kernel
theorem dX12_differ_44 : decode cX12_differ 44 = .ok (.iaload, 1) := by decide +kernel
theorem dX12_differ_45 : decode cX12_differ 45 = .ok (.ixor, 1) := by decide +kernel
theorem dX12_differ_46 : decode cX12_differ 46 = .ok (.ireturn, 1) := by decide +kernel
theorem dX12_common_0 : decode cX12_common 0 = .ok (.aload_n 0, 1) := by decide +kernel
theorem dX12_common_1 : decode cX12_common 1 = .ok (.iconst 0, 1) := by decide +kernel
theorem dX12_common_2 : decode cX12_common 2 = .ok (.putfield 68, 3) := by decide +kernel
theorem dX12_common_5 : decode cX12_common 5 = .ok (.iload_n 1, 1) := by decide +kernel
theorem dX12_common_6 : decode cX12_common 6 = .ok (.ifCond .le 17, 3) := by decide +kernel
theorem dX12_common_9 : decode cX12_common 9 = .ok (.iload_n 1, 1) := by decide +kernel
theorem dX12_common_10 : decode cX12_common 10 = .ok (.aload_n 0, 1) := by decide +kernel
theorem dX12_common_11 : decode cX12_common 11 = .ok (.getfield 9, 3) := by decide +kernel
theorem dX12_common_14 : decode cX12_common 14 = .ok (.bipush 93, 2) := by decide +kernel
theorem dX12_common_16 : decode cX12_common 16 = .ok (.iaload, 1) := by decide +kernel
theorem dX12_common_17 : decode cX12_common 17 = .ok (.iconst (-1), 1) := by decide +kernel
theorem dX12_common_18 : decode cX12_common 18 = .ok (.ixor, 1) := by decide +kernel
theorem dX12_common_19 : decode cX12_common 19 = .ok (.iand, 1) := by decide +kernel
theorem dX12_common_20 : decode cX12_common 20 = .ok (.ifCond .eq 9, 3) := by decide +kernel
theorem dX12_common_23 : decode cX12_common 23 = .ok (.aload_n 0, 1) := by decide +kernel
theorem dX12_common_24 : decode cX12_common 24 = .ok (.iconst 1, 1) := by decide +kernel
theorem dX12_common_25 : decode cX12_common 25 = .ok (.invokevirtual 224, 3) := by decide +kernel
theorem dX12_common_28 : decode cX12_common 28 = .ok (.ireturn, 1) := by decide +kernel
theorem dX12_common_29 : decode cX12_common 29 = .ok (.aload_n 0, 1) := by decide +kernel
theorem dX12_common_30 : decode cX12_common 30 = .ok (.invokevirtual 306, 3) := by decide +kernel
theorem dX12_common_33 : decode cX12_common 33 = .ok (.aload_n 0, 1) := by decide +kernel
theorem dX12_common_34 : decode cX12_common 34 = .ok (.invokevirtual 320, 3) := by decide +kernel
theorem dX12_common_37 : decode cX12_common 37 = .ok (.istore_n 2, 1) := by decide +kernel
theorem dX12_common_38 : decode cX12_common 38 = .ok (.iconst 0, 1) := by decide +kernel
theorem dX12_common_39 : decode cX12_common 39 = .ok (.istore_n 3, 1) := by decide +kernel
theorem dX12_common_40 : decode cX12_common 40 = .ok (.iconst 0, 1) := by decide +kernel
theorem dX12_common_41 : decode cX12_common 41 = .ok (.istore 4, 2) := by decide +kernel
theorem dX12_common_43 : decode cX12_common 43 = .ok (.iload 4, 2) := by decide +kernel
theorem dX12_common_45 : decode cX12_common 45 = .ok (.aload_n 0, 1) := by decide +kernel
theorem dX12_common_46 : decode cX12_common 46 = .ok (.invokevirtual 245, 3) := by decide +kernel
theorem dX12_common_49 : decode cX12_common 49 = .ok (.if_icmp .ge 41, 3) := by decide +kernel
theorem dX12_common_52 : decode cX12_common 52 = .ok (.iload_n 1, 1) := by decide +kernel
theorem dX12_common_53 : decode cX12_common 53 = .ok (.iload 4, 2) := by decide +kernel
theorem dX12_common_55 : decode cX12_common 55 = .ok (.invokestatic 248, 3) := by decide +kernel
theorem dX12_common_58 : decode cX12_common 58 = .ok (.ifCond .ne 6, 3) := by decide +kernel
theorem dX12_common_61 : decode cX12_common 61 = .ok (.goto 23, 3) := by decide +kernel
theorem dX12_common_64 : decode cX12_common 64 = .ok (.iload_n 2, 1) := by decide +kernel
theorem dX12_common_65 : decode cX12_common 65 = .ok (.aload_n 0, 1) := by decide +kernel
theorem dX12_common_66 : decode cX12_common 66 = .ok (.getfield 36, 3) := by decide +kernel
theorem dX12_common_69 : decode cX12_common 69 = .ok (.iload 4, 2) := by decide +kernel
theorem dX12_common_71 : decode cX12_common 71 = .ok (.iaload, 1) := by decide +kernel
theorem dX12_common_72 : decode cX12_common 72 = .ok (.iand, 1) := by decide +kernel
theorem dX12_common_73 : decode cX12_common 73 = .ok (.istore_n 2, 1) := by decide +kernel
theorem dX12_common_74 : decode cX12_common 74 = .ok (.iload_n 3, 1) := by decide +kernel
theorem dX12_common_75 : decode cX12_common 75 = .ok (.aload_n 0, 1) := by decide +kernel
theorem dX12_common_76 : decode cX12_common 76 = .ok (.getfield 36, 3) := by decide +kernel
theorem dX12_common_79 : decode cX12_common 79 = .ok (.iload 4, 2) := by decide +kernel
theorem dX12_common_81 : decode cX12_common 81 = .ok (.iaload, 1) := by decide +kernel
theorem dX12_common_82 : decode cX12_common 82 = .ok (.ior, 1) := by decide +kernel
theorem dX12_common_83 : decode cX12_common 83 = .ok (.istore_n 3, 1) := by decide +kernel
theorem dX12_common_84 : decode cX12_common 84 = .ok (.iinc 4 1, 3) := by decide +kernel
theorem dX12_common_87 : decode cX12_common 87 = .ok (.goto (-44), 3) := by decide +kernel
theorem dX12_common_90 : decode cX12_common 90 = .ok (.iload_n 2, 1) := by decide +kernel
theorem dX12_common_91 : decode cX12_common 91 = .ok (.aload_n 0, 1) := by decide +kernel
theorem dX12_common_92 : decode cX12_common 92 = .ok (.invokevirtual 320, 3) := by decide +kernel
theorem dX12_common_95 : decode cX12_common 95 = .ok (.iload_n 3, 1) := by decide +kernel
theorem dX12_common_96 : decode cX12_common 96 = .ok (.iconst (-1), 1) := by decide +kernel
theorem dX12_common_97 : decode cX12_common 97 = .ok (.ixor, 1) := by decide +kernel
theorem dX12_common_98 : decode cX12_common 98 = .ok (.iand, 1) := by decide +kernel
theorem dX12_common_99 : decode cX12_common 99 = .ok (.bipush 10, 2) := by decide +kernel
theorem dX12_common_101 : decode cX12_common 101 = .ok (.ishl, 1) := by decide +kernel
theorem dX12_common_102 : decode cX12_common 102 = .ok (.ior, 1) := by decide +kernel
theorem dX12_common_103 : decode cX12_common 103 = .ok (.ireturn, 1) := by decide +kernel
theorem dX12_changing_0 : decode cX12_changing 0 = .ok (.aload_n 0, 1) := by decide +kernel
theorem dX12_changing_1 : decode cX12_changing 1 = .ok (.iconst 0, 1) := by decide +kernel
theorem dX12_changing_2 : decode cX12_changing 2 = .ok (.putfield 68, 3) := by decide +kernel
theorem dX12_changing_5 : decode cX12_changing 5 = .ok (.aload_n 0, 1) := by decide +kernel
theorem dX12_changing_6 : decode cX12_changing 6 = .ok (.invokevirtual 306, 3) := by decide +kernel
theorem dX12_changing_9 : decode cX12_changing 9 = .ok (.iconst 0, 1) := by decide +kernel
theorem dX12_changing_10 : decode cX12_changing 10 = .ok (.istore_n 1, 1) := by decide +kernel
theorem dX12_changing_11 : decode cX12_changing 11 = .ok (.iconst 0, 1) := by decide +kernel
theorem dX12_changing_12 : decode cX12_changing 12 = .ok (.istore_n 2, 1) := by decide +kernel
theorem dX12_changing_13 : decode cX12_changing 13 = .ok (.iload_n 2, 1) := by decide +kernel
theorem dX12_changing_14 : decode cX12_changing 14 = .ok (.aload_n 0, 1) := by decide +kernel
theorem dX12_changing_15 : decode cX12_changing 15 = .ok (.invokevirtual 245, 3) := by decide +kernel
theorem dX12_changing_18 : decode cX12_changing 18 = .ok (.if_icmp .ge 34, 3) := by decide +kernel
theorem dX12_changing_21 : decode cX12_changing 21 = .ok (.iload_n 1, 1) := by decide +kernel
theorem dX12_changing_22 : decode cX12_changing 22 = .ok (.aload_n 0, 1) := by decide +kernel
theorem dX12_changing_23 : decode cX12_changing 23 = .ok (.getfield 39, 3) := by decide +kernel
theorem dX12_changing_26 : decode cX12_changing 26 = .ok (.iload_n 2, 1) := by decide +kernel
theorem dX12_changing_27 : decode cX12_changing 27 = .ok (.iaload, 1) := by decide +kernel
theorem dX12_changing_28 : decode cX12_changing 28 = .ok (.aload_n 0, 1) := by decide +kernel
theorem dX12_changing_29 : decode cX12_changing 29 = .ok (.getfield 42, 3) := by decide +kernel
theorem dX12_changing_32 : decode cX12_changing 32 = .ok (.iload_n 2, 1) := by decide +kernel
theorem dX12_changing_33 : decode cX12_changing 33 = .ok (.iaload, 1) := by decide +kernel
theorem dX12_changing_34 : decode cX12_changing 34 = .ok (.if_icmp .ne 7, 3) := by decide +kernel
theorem dX12_changing_37 : decode cX12_changing 37 = .ok (.iconst 0, 1) := by decide +kernel
theorem dX12_changing_38 : decode cX12_changing 38 = .ok (.goto 6, 3) := by decide +kernel
theorem dX12_changing_41 : decode cX12_changing 41 = .ok (.iconst 1, 1) := by decide +kernel
theorem dX12_changing_42 : decode cX12_changing 42 = .ok (.iload_n 2, 1) := by decide +kernel
theorem dX12_changing_43 : decode cX12_changing 43 = .ok (.ishl, 1) := by decide +kernel
theorem dX12_changing_44 : decode cX12_changing 44 = .ok (.ior, 1) := by decide +kernel
theorem dX12_changing_45 : decode cX12_changing 45 = .ok (.istore_n 1, 1) := by decide +kernel
theorem dX12_changing_46 : decode cX12_changing 46 = .ok (.iinc 2 1, 3) := by decide +kernel
theorem dX12_changing_49 : decode cX12_changing 49 = .ok (.goto (-36), 3) := by decide +kernel
theorem dX12_changing_52 : decode cX12_changing 52 = .ok (.iload_n 1, 1) := by decide +kernel
theorem dX12_changing_53 : decode cX12_changing 53 = .ok (.ireturn, 1) := by decide +kernel
theorem dX12_greedy_0 : decode cX12_greedy 0 = .ok (.aload_n 0, 1) := by decide +kernel
theorem dX12_greedy_1 : decode cX12_greedy 1 = .ok (.aload_n 0, 1) := by decide +kernel
theorem dX12_greedy_2 : decode cX12_greedy 2 = .ok (.iload_n 1, 1) := by decide +kernel
theorem dX12_greedy_3 : decode cX12_greedy 3 = .ok (.invokevirtual 346, 3) := by decide +kernel
theorem dX12_greedy_6 : decode cX12_greedy 6 = .ok (.putfield 68, 3) := by decide +kernel
theorem dX12_greedy_9 : decode cX12_greedy 9 = .ok (.aload_n 0, 1) := by decide +kernel
theorem dX12_greedy_10 : decode cX12_greedy 10 = .ok (.getfield 68, 3) := by decide +kernel
theorem dX12_greedy_13 : decode cX12_greedy 13 = .ok (.ifCond .le 5, 3) := by decide +kernel
theorem dX12_greedy_16 : decode cX12_greedy 16 = .ok (.iconst 0, 1) := by decide +kernel
theorem dX12_greedy_17 : decode cX12_greedy 17 = .ok (.ireturn, 1) := by decide +kernel
theorem dX12_greedy_18 : decode cX12_greedy 18 = .ok (.aload_n 0, 1) := by decide +kernel
theorem dX12_greedy_19 : decode cX12_greedy 19 = .ok (.invokevirtual 306, 3) := by decide +kernel
theorem dX12_greedy_22 : decode cX12_greedy 22 = .ok (.iconst 0, 1) := by decide +kernel
theorem dX12_greedy_23 : decode cX12_greedy 23 = .ok (.istore_n 2, 1) := by decide +kernel
theorem dX12_greedy_24 : decode cX12_greedy 24 = .ok (.aload_n 0, 1) := by decide +kernel
theorem dX12_greedy_25 : decode cX12_greedy 25 = .ok (.iload_n 2, 1) := by decide +kernel
theorem dX12_greedy_26 : decode cX12_greedy 26 = .ok (.aload_n 0, 1) := by decide +kernel
theorem dX12_greedy_27 : decode cX12_greedy 27 = .ok (.getfield 36, 3) := by decide +kernel
theorem dX12_greedy_30 : decode cX12_greedy 30 = .ok (.invokevirtual 326, 3) := by decide +kernel
theorem dX12_greedy_33 : decode cX12_greedy 33 = .ok (.iconst 1, 1) := by decide +kernel
theorem dX12_greedy_34 : decode cX12_greedy 34 = .ok (.iload_n 1, 1) := by decide +kernel
theorem dX12_greedy_35 : decode cX12_greedy 35 = .ok (.ishl, 1) := by decide +kernel
theorem dX12_greedy_36 : decode cX12_greedy 36 = .ok (.if_icmp .eq 117, 3) := by decide +kernel
theorem dX12_greedy_39 : decode cX12_greedy 39 = .ok (.iconst (-1), 1) := by decide +kernel
theorem dX12_greedy_40 : decode cX12_greedy 40 = .ok (.istore_n 3, 1) := by decide +kernel
theorem dX12_greedy_41 : decode cX12_greedy 41 = .ok (.iconst 0, 1) := by decide +kernel
theorem dX12_greedy_42 : decode cX12_greedy 42 = .ok (.istore 4, 2) := by decide +kernel
theorem dX12_greedy_44 : decode cX12_greedy 44 = .ok (.iload 4, 2) := by decide +kernel
theorem dX12_greedy_46 : decode cX12_greedy 46 = .ok (.aload_n 0, 1) := by decide +kernel
theorem dX12_greedy_47 : decode cX12_greedy 47 = .ok (.invokevirtual 242, 3) := by decide +kernel
theorem dX12_greedy_50 : decode cX12_greedy 50 = .ok (.if_icmp .ge 91, 3) := by decide +kernel
theorem dX12_greedy_53 : decode cX12_greedy 53 = .ok (.iload_n 2, 1) := by decide +kernel
theorem dX12_greedy_54 : decode cX12_greedy 54 = .ok (.aload_n 0, 1) := by decide +kernel
theorem dX12_greedy_55 : decode cX12_greedy 55 = .ok (.iload_n 1, 1) := by decide +kernel
theorem dX12_greedy_56 : decode cX12_greedy 56 = .ok (.iconst 1, 1) := by decide +kernel
theorem dX12_greedy_57 : decode cX12_greedy 57 = .ok (.iload 4, 2) := by decide +kernel
theorem dX12_greedy_59 : decode cX12_greedy 59 = .ok (.ishl, 1) := by decide +kernel
theorem dX12_greedy_60 : decode cX12_greedy 60 = .ok (.invokevirtual 343, 3) := by decide +kernel
theorem dX12_greedy_63 : decode cX12_greedy 63 = .ok (.ior, 1) := by decide +kernel
theorem dX12_greedy_64 : decode cX12_greedy 64 = .ok (.istore 5, 2) := by decide +kernel
theorem dX12_greedy_66 : decode cX12_greedy 66 = .ok (.aload_n 0, 1) := by decide +kernel
theorem dX12_greedy_67 : decode cX12_greedy 67 = .ok (.iload 5, 2) := by decide +kernel
theorem dX12_greedy_69 : decode cX12_greedy 69 = .ok (.aload_n 0, 1) := by decide +kernel
theorem dX12_greedy_70 : decode cX12_greedy 70 = .ok (.getfield 36, 3) := by decide +kernel
theorem dX12_greedy_73 : decode cX12_greedy 73 = .ok (.invokevirtual 326, 3) := by decide +kernel
theorem dX12_greedy_76 : decode cX12_greedy 76 = .ok (.invokestatic 330, 3) := by decide +kernel
theorem dX12_greedy_79 : decode cX12_greedy 79 = .ok (.aload_n 0, 1) := by decide +kernel
theorem dX12_greedy_80 : decode cX12_greedy 80 = .ok (.iload_n 3, 1) := by decide +kernel
theorem dX12_greedy_81 : decode cX12_greedy 81 = .ok (.iconst (-1), 1) := by decide +kernel
theorem dX12_greedy_82 : decode cX12_greedy 82 = .ok (.if_icmp .ne 7, 3) := by decide +kernel
theorem dX12_greedy_85 : decode cX12_greedy 85 = .ok (.iload_n 2, 1) := by decide +kernel
theorem dX12_greedy_86 : decode cX12_greedy 86 = .ok (.goto 4, 3) := by decide +kernel
theorem dX12_greedy_89 : decode cX12_greedy 89 = .ok (.iload_n 3, 1) := by decide +kernel
theorem dX12_greedy_90 : decode cX12_greedy 90 = .ok (.aload_n 0, 1) := by decide +kernel
theorem dX12_greedy_91 : decode cX12_greedy 91 = .ok (.getfield 36, 3) := by decide +kernel
theorem dX12_greedy_94 : decode cX12_greedy 94 = .ok (.invokevirtual 326, 3) := by decide +kernel
theorem dX12_greedy_97 : decode cX12_greedy 97 = .ok (.invokestatic 330, 3) := by decide +kernel
theorem dX12_greedy_100 : decode cX12_greedy 100 = .ok (.isub, 1) := by decide +kernel
theorem dX12_greedy_101 : decode cX12_greedy 101 = .ok (.istore 6, 2) := by decide +kernel
theorem dX12_greedy_103 : decode cX12_greedy 103 = .ok (.iload 6, 2) := by decide +kernel
theorem dX12_greedy_105 : decode cX12_greedy 105 = .ok (.ifCond .lt 27, 3) := by decide +kernel
theorem dX12_greedy_108 : decode cX12_greedy 108 = .ok (.iload 6, 2) := by decide +kernel
theorem dX12_greedy_110 : decode cX12_greedy 110 = .ok (.ifCond .ne 25, 3) := by decide +kernel
theorem dX12_greedy_113 : decode cX12_greedy 113 = .ok (.iload_n 3, 1) := by decide +kernel
theorem dX12_greedy_114 : decode cX12_greedy 114 = .ok (.iconst (-1), 1) := by decide +kernel
theorem dX12_greedy_115 : decode cX12_greedy 115 = .ok (.if_icmp .eq 20, 3) := by decide +kernel
theorem dX12_greedy_118 : decode cX12_greedy 118 = .ok (.aload_n 0, 1) := by decide +kernel
theorem dX12_greedy_119 : decode cX12_greedy 119 = .ok (.iload 5, 2) := by decide +kernel
theorem dX12_greedy_121 : decode cX12_greedy 121 = .ok (.invokevirtual 339, 3) := by decide +kernel
theorem dX12_greedy_124 : decode cX12_greedy 124 = .ok (.aload_n 0, 1) := by decide +kernel
theorem dX12_greedy_125 : decode cX12_greedy 125 = .ok (.iload_n 3, 1) := by decide +kernel
theorem dX12_greedy_126 : decode cX12_greedy 126 = .ok (.invokevirtual 339, 3) := by decide +kernel
theorem dX12_greedy_129 : decode cX12_greedy 129 = .ok (.if_icmp .ge 6, 3) := by decide +kernel
theorem dX12_greedy_132 : decode cX12_greedy 132 = .ok (.iload 5, 2) := by decide +kernel
theorem dX12_greedy_134 : decode cX12_greedy 134 = .ok (.istore_n 3, 1) := by decide +kernel
theorem dX12_greedy_135 : decode cX12_greedy 135 = .ok (.iinc 4 1, 3) := by decide +kernel
theorem dX12_greedy_138 : decode cX12_greedy 138 = .ok (.goto (-94), 3) := by decide +kernel
theorem dX12_greedy_141 : decode cX12_greedy 141 = .ok (.iload_n 3, 1) := by decide +kernel
theorem dX12_greedy_142 : decode cX12_greedy 142 = .ok (.iconst (-1), 1) := by decide +kernel
theorem dX12_greedy_143 : decode cX12_greedy 143 = .ok (.if_icmp .ne 5, 3) := by decide +kernel
theorem dX12_greedy_146 : decode cX12_greedy 146 = .ok (.iconst (-1), 1) := by decide +kernel
theorem dX12_greedy_147 : decode cX12_greedy 147 = .ok (.ireturn, 1) := by decide +kernel
theorem dX12_greedy_148 : decode cX12_greedy 148 = .ok (.iload_n 3, 1) := by decide +kernel
theorem dX12_greedy_149 : decode cX12_greedy 149 = .ok (.istore_n 2, 1) := by decide +kernel
theorem dX12_greedy_150 : decode cX12_greedy 150 = .ok (.goto (-126), 3) := by decide +kernel
theorem dX12_greedy_153 : decode cX12_greedy 153 = .ok (.iload_n 2, 1) := by decide +kernel
theorem dX12_greedy_154 : decode cX12_greedy 154 = .ok (.ireturn, 1) := by decide +kernel
theorem dX12_isTray_0 : decode cX12_isTray 0 = .ok (.iload_n 0, 1) := by decide +kernel
theorem dX12_isTray_1 : decode cX12_isTray 1 = .ok (.i2l, 1) := by decide +kernel
theorem dX12_isTray_2 : decode cX12_isTray 2 = .ok (.lconst 0, 1) := by decide +kernel
theorem dX12_isTray_3 : decode cX12_isTray 3 = .ok (.ldc2_w 315, 3) := by decide +kernel
theorem dX12_isTray_6 : decode cX12_isTray 6 = .ok (.invokestatic 132, 3) := by decide +kernel
theorem dX12_isTray_9 : decode cX12_isTray 9 = .ok (.ireturn, 1) := by decide +kernel
theorem dX12_tray_0 : decode cX12_tray 0 = .ok (.aload_n 0, 1) := by decide +kernel
theorem dX12_tray_1 : decode cX12_tray 1 = .ok (.iload_n 1, 1) := by decide +kernel
theorem dX12_tray_2 : decode cX12_tray 2 = .ok (.invokestatic 383, 3) := by decide +kernel
theorem dX12_tray_5 : decode cX12_tray 5 = .ok (.ifCond .ne 7, 3) := by decide +kernel
theorem dX12_tray_8 : decode cX12_tray 8 = .ok (.iconst 1, 1) := by decide +kernel
theorem dX12_tray_9 : decode cX12_tray 9 = .ok (.goto 32, 3) := by decide +kernel
theorem dX12_tray_12 : decode cX12_tray 12 = .ok (.iload_n 2, 1) := by decide +kernel
theorem dX12_tray_13 : decode cX12_tray 13 = .ok (.i2l, 1) := by decide +kernel
theorem dX12_tray_14 : decode cX12_tray 14 = .ok (.lconst 0, 1) := by decide +kernel
theorem dX12_tray_15 : decode cX12_tray 15 = .ok (.ldc2_w 315, 3) := by decide +kernel
theorem dX12_tray_18 : decode cX12_tray 18 = .ok (.invokestatic 132, 3) := by decide +kernel
theorem dX12_tray_21 : decode cX12_tray 21 = .ok (.ifCond .eq 15, 3) := by decide +kernel
theorem dX12_tray_24 : decode cX12_tray 24 = .ok (.iload_n 3, 1) := by decide +kernel
theorem dX12_tray_25 : decode cX12_tray 25 = .ok (.i2l, 1) := by decide +kernel
theorem dX12_tray_26 : decode cX12_tray 26 = .ok (.lconst 0, 1) := by decide +kernel
theorem dX12_tray_27 : decode cX12_tray 27 = .ok (.ldc2_w 417, 3) := by decide +kernel
theorem dX12_tray_30 : decode cX12_tray 30 = .ok (.invokestatic 132, 3) := by decide +kernel
theorem dX12_tray_33 : decode cX12_tray 33 = .ok (.ifCond .ne 7, 3) := by decide +kernel
theorem dX12_tray_36 : decode cX12_tray 36 = .ok (.iconst 2, 1) := by decide +kernel
theorem dX12_tray_37 : decode cX12_tray 37 = .ok (.goto 4, 3) := by decide +kernel
theorem dX12_tray_40 : decode cX12_tray 40 = .ok (.iconst 0, 1) := by decide +kernel
theorem dX12_tray_41 : decode cX12_tray 41 = .ok (.putfield 68, 3) := by decide +kernel
theorem dX12_tray_44 : decode cX12_tray 44 = .ok (.aload_n 0, 1) := by decide +kernel
theorem dX12_tray_45 : decode cX12_tray 45 = .ok (.getfield 68, 3) := by decide +kernel
theorem dX12_tray_48 : decode cX12_tray 48 = .ok (.ifCond .le 4, 3) := by decide +kernel
theorem dX12_tray_51 : decode cX12_tray 51 = .ok (.return_, 1) := by decide +kernel
theorem dX12_tray_52 : decode cX12_tray 52 = .ok (.aload_n 0, 1) := by decide +kernel
theorem dX12_tray_53 : decode cX12_tray 53 = .ok (.getfield 54, 3) := by decide +kernel
theorem dX12_tray_56 : decode cX12_tray 56 = .ok (.iload_n 1, 1) := by decide +kernel
theorem dX12_tray_57 : decode cX12_tray 57 = .ok (.iload_n 2, 1) := by decide +kernel
theorem dX12_tray_58 : decode cX12_tray 58 = .ok (.iastore, 1) := by decide +kernel
theorem dX12_tray_59 : decode cX12_tray 59 = .ok (.aload_n 0, 1) := by decide +kernel
theorem dX12_tray_60 : decode cX12_tray 60 = .ok (.getfield 57, 3) := by decide +kernel
theorem dX12_tray_63 : decode cX12_tray 63 = .ok (.iload_n 1, 1) := by decide +kernel
theorem dX12_tray_64 : decode cX12_tray 64 = .ok (.iload_n 3, 1) := by decide +kernel
theorem dX12_tray_65 : decode cX12_tray 65 = .ok (.iastore, 1) := by decide +kernel
theorem dX12_tray_66 : decode cX12_tray 66 = .ok (.iconst 0, 1) := by decide +kernel
theorem dX12_tray_67 : decode cX12_tray 67 = .ok (.istore 4, 2) := by decide +kernel
theorem dX12_tray_69 : decode cX12_tray 69 = .ok (.iload 4, 2) := by decide +kernel
theorem dX12_tray_71 : decode cX12_tray 71 = .ok (.bipush 30, 2) := by decide +kernel
theorem dX12_tray_73 : decode cX12_tray 73 = .ok (.if_icmp .ge 22, 3) := by decide +kernel
theorem dX12_tray_76 : decode cX12_tray 76 = .ok (.aload_n 0, 1) := by decide +kernel
theorem dX12_tray_77 : decode cX12_tray 77 = .ok (.getfield 60, 3) := by decide +kernel
theorem dX12_tray_80 : decode cX12_tray 80 = .ok (.bipush 30, 2) := by decide +kernel
theorem dX12_tray_82 : decode cX12_tray 82 = .ok (.iload_n 1, 1) := by decide +kernel
theorem dX12_tray_83 : decode cX12_tray 83 = .ok (.imul, 1) := by decide +kernel
theorem dX12_tray_84 : decode cX12_tray 84 = .ok (.iload 4, 2) := by decide +kernel
theorem dX12_tray_86 : decode cX12_tray 86 = .ok (.iadd, 1) := by decide +kernel
theorem dX12_tray_87 : decode cX12_tray 87 = .ok (.lconst 0, 1) := by decide +kernel
theorem dX12_tray_88 : decode cX12_tray 88 = .ok (.lastore, 1) := by decide +kernel
theorem dX12_tray_89 : decode cX12_tray 89 = .ok (.iinc 4 1, 3) := by decide +kernel
theorem dX12_tray_92 : decode cX12_tray 92 = .ok (.goto (-23), 3) := by decide +kernel
theorem dX12_tray_95 : decode cX12_tray 95 = .ok (.return_, 1) := by decide +kernel
theorem dX12_cut_0 : decode cX12_cut 0 = .ok (.bipush 64, 2) := by decide +kernel
theorem dX12_cut_2 : decode cX12_cut 2 = .ok (.bipush 8, 2) := by decide +kernel
theorem dX12_cut_4 : decode cX12_cut 4 = .ok (.aload_n 0, 1) := by decide +kernel
theorem dX12_cut_5 : decode cX12_cut 5 = .ok (.getfield 54, 3) := by decide +kernel
theorem dX12_cut_8 : decode cX12_cut 8 = .ok (.iload_n 1, 1) := by decide +kernel
theorem dX12_cut_9 : decode cX12_cut 9 = .ok (.iaload, 1) := by decide +kernel
theorem dX12_cut_10 : decode cX12_cut 10 = .ok (.ishl, 1) := by decide +kernel
theorem dX12_cut_11 : decode cX12_cut 11 = .ok (.isub, 1) := by decide +kernel
theorem dX12_cut_12 : decode cX12_cut 12 = .ok (.istore 5, 2) := by decide +kernel
theorem dX12_cut_14 : decode cX12_cut 14 = .ok (.aload_n 0, 1) := by decide +kernel
theorem dX12_cut_15 : decode cX12_cut 15 = .ok (.getfield 60, 3) := by decide +kernel
theorem dX12_cut_18 : decode cX12_cut 18 = .ok (.bipush 30, 2) := by decide +kernel
theorem dX12_cut_20 : decode cX12_cut 20 = .ok (.iload_n 1, 1) := by decide +kernel
theorem dX12_cut_21 : decode cX12_cut 21 = .ok (.imul, 1) := by decide +kernel
theorem dX12_cut_22 : decode cX12_cut 22 = .ok (.iload_n 2, 1) := by decide +kernel
theorem dX12_cut_23 : decode cX12_cut 23 = .ok (.iadd, 1) := by decide +kernel
theorem dX12_cut_24 : decode cX12_cut 24 = .ok (.lload_n 3, 1) := by decide +kernel
theorem dX12_cut_25 : decode cX12_cut 25 = .ok (.iload 5, 2) := by decide +kernel
theorem dX12_cut_27 : decode cX12_cut 27 = .ok (.lshl, 1) := by decide +kernel
theorem dX12_cut_28 : decode cX12_cut 28 = .ok (.iload 5, 2) := by decide +kernel
theorem dX12_cut_30 : decode cX12_cut 30 = .ok (.lshr, 1) := by decide +kernel
theorem dX12_cut_31 : decode cX12_cut 31 = .ok (.lastore, 1) := by decide +kernel
theorem dX12_cut_32 : decode cX12_cut 32 = .ok (.aload_n 0, 1) := by decide +kernel
theorem dX12_cut_33 : decode cX12_cut 33 = .ok (.getfield 60, 3) := by decide +kernel
theorem dX12_cut_36 : decode cX12_cut 36 = .ok (.bipush 30, 2) := by decide +kernel
theorem dX12_cut_38 : decode cX12_cut 38 = .ok (.iload_n 1, 1) := by decide +kernel
theorem dX12_cut_39 : decode cX12_cut 39 = .ok (.imul, 1) := by decide +kernel
theorem dX12_cut_40 : decode cX12_cut 40 = .ok (.iload_n 2, 1) := by decide +kernel
theorem dX12_cut_41 : decode cX12_cut 41 = .ok (.iadd, 1) := by decide +kernel
theorem dX12_cut_42 : decode cX12_cut 42 = .ok (.laload, 1) := by decide +kernel
theorem dX12_cut_43 : decode cX12_cut 43 = .ok (.lreturn, 1) := by decide +kernel
theorem dX12_write_0 : decode cX12_write 0 = .ok (.aload_n 0, 1) := by decide +kernel
theorem dX12_write_1 : decode cX12_write 1 = .ok (.aload_n 0, 1) := by decide +kernel
theorem dX12_write_2 : decode cX12_write 2 = .ok (.iload_n 1, 1) := by decide +kernel
theorem dX12_write_3 : decode cX12_write 3 = .ok (.invokevirtual 398, 3) := by decide +kernel
theorem dX12_write_6 : decode cX12_write 6 = .ok (.putfield 68, 3) := by decide +kernel
theorem dX12_write_9 : decode cX12_write 9 = .ok (.aload_n 0, 1) := by decide +kernel
theorem dX12_write_10 : decode cX12_write 10 = .ok (.getfield 68, 3) := by decide +kernel
theorem dX12_write_13 : decode cX12_write 13 = .ok (.ifCond .le 5, 3) := by decide +kernel
theorem dX12_write_16 : decode cX12_write 16 = .ok (.lconst 0, 1) := by decide +kernel
theorem dX12_write_17 : decode cX12_write 17 = .ok (.lreturn, 1) := by decide +kernel
theorem dX12_write_18 : decode cX12_write 18 = .ok (.iload_n 2, 1) := by decide +kernel
theorem dX12_write_19 : decode cX12_write 19 = .ok (.i2l, 1) := by decide +kernel
theorem dX12_write_20 : decode cX12_write 20 = .ok (.lconst 0, 1) := by decide +kernel
theorem dX12_write_21 : decode cX12_write 21 = .ok (.aload_n 0, 1) := by decide +kernel
theorem dX12_write_22 : decode cX12_write 22 = .ok (.getfield 57, 3) := by decide +kernel
theorem dX12_write_25 : decode cX12_write 25 = .ok (.iload_n 1, 1) := by decide +kernel
theorem dX12_write_26 : decode cX12_write 26 = .ok (.iaload, 1) := by decide +kernel
theorem dX12_write_27 : decode cX12_write 27 = .ok (.iconst 1, 1) := by decide +kernel
theorem dX12_write_28 : decode cX12_write 28 = .ok (.isub, 1) := by decide +kernel
theorem dX12_write_29 : decode cX12_write 29 = .ok (.i2l, 1) := by decide +kernel
theorem dX12_write_30 : decode cX12_write 30 = .ok (.invokestatic 132, 3) := by decide +kernel
theorem dX12_write_33 : decode cX12_write 33 = .ok (.ifCond .eq 13, 3) := by decide +kernel
theorem dX12_write_36 : decode cX12_write 36 = .ok (.aload_n 0, 1) := by decide +kernel
theorem dX12_write_37 : decode cX12_write 37 = .ok (.iload_n 1, 1) := by decide +kernel
theorem dX12_write_38 : decode cX12_write 38 = .ok (.iload_n 2, 1) := by decide +kernel
theorem dX12_write_39 : decode cX12_write 39 = .ok (.lload_n 3, 1) := by decide +kernel
theorem dX12_write_40 : decode cX12_write 40 = .ok (.invokevirtual 450, 3) := by decide +kernel
theorem dX12_write_43 : decode cX12_write 43 = .ok (.goto 9, 3) := by decide +kernel
theorem dX12_write_46 : decode cX12_write 46 = .ok (.aload_n 0, 1) := by decide +kernel
theorem dX12_write_47 : decode cX12_write 47 = .ok (.iconst 3, 1) := by decide +kernel
theorem dX12_write_48 : decode cX12_write 48 = .ok (.invokevirtual 224, 3) := by decide +kernel
theorem dX12_write_51 : decode cX12_write 51 = .ok (.i2l, 1) := by decide +kernel
theorem dX12_write_52 : decode cX12_write 52 = .ok (.lreturn, 1) := by decide +kernel
theorem dX12_copy_0 : decode cX12_copy 0 = .ok (.aload_n 0, 1) := by decide +kernel
theorem dX12_copy_1 : decode cX12_copy 1 = .ok (.aload_n 0, 1) := by decide +kernel
theorem dX12_copy_2 : decode cX12_copy 2 = .ok (.iload_n 1, 1) := by decide +kernel
theorem dX12_copy_3 : decode cX12_copy 3 = .ok (.invokevirtual 398, 3) := by decide +kernel
theorem dX12_copy_6 : decode cX12_copy 6 = .ok (.putfield 68, 3) := by decide +kernel
theorem dX12_copy_9 : decode cX12_copy 9 = .ok (.aload_n 0, 1) := by decide +kernel
theorem dX12_copy_10 : decode cX12_copy 10 = .ok (.getfield 68, 3) := by decide +kernel
theorem dX12_copy_13 : decode cX12_copy 13 = .ok (.ifCond .le 5, 3) := by decide +kernel
theorem dX12_copy_16 : decode cX12_copy 16 = .ok (.iconst 0, 1) := by decide +kernel
theorem dX12_copy_17 : decode cX12_copy 17 = .ok (.ireturn, 1) := by decide +kernel
theorem dX12_copy_18 : decode cX12_copy 18 = .ok (.iconst 0, 1) := by decide +kernel
theorem dX12_copy_19 : decode cX12_copy 19 = .ok (.istore_n 2, 1) := by decide +kernel
theorem dX12_copy_20 : decode cX12_copy 20 = .ok (.iconst 0, 1) := by decide +kernel
theorem dX12_copy_21 : decode cX12_copy 21 = .ok (.istore_n 3, 1) := by decide +kernel
theorem dX12_copy_22 : decode cX12_copy 22 = .ok (.iload_n 3, 1) := by decide +kernel
theorem dX12_copy_23 : decode cX12_copy 23 = .ok (.aload_n 0, 1) := by decide +kernel
theorem dX12_copy_24 : decode cX12_copy 24 = .ok (.invokevirtual 245, 3) := by decide +kernel
theorem dX12_copy_27 : decode cX12_copy 27 = .ok (.if_icmp .ge 42, 3) := by decide +kernel
theorem dX12_copy_30 : decode cX12_copy 30 = .ok (.iload_n 2, 1) := by decide +kernel
theorem dX12_copy_31 : decode cX12_copy 31 = .ok (.aload_n 0, 1) := by decide +kernel
theorem dX12_copy_32 : decode cX12_copy 32 = .ok (.getfield 57, 3) := by decide +kernel
theorem dX12_copy_35 : decode cX12_copy 35 = .ok (.iload_n 1, 1) := by decide +kernel
theorem dX12_copy_36 : decode cX12_copy 36 = .ok (.iaload, 1) := by decide +kernel
theorem dX12_copy_37 : decode cX12_copy 37 = .ok (.if_icmp .ge 32, 3) := by decide +kernel
theorem dX12_copy_40 : decode cX12_copy 40 = .ok (.aload_n 0, 1) := by decide +kernel
theorem dX12_copy_41 : decode cX12_copy 41 = .ok (.iload_n 3, 1) := by decide +kernel
theorem dX12_copy_42 : decode cX12_copy 42 = .ok (.invokevirtual 250, 3) := by decide +kernel
theorem dX12_copy_45 : decode cX12_copy 45 = .ok (.ifCond .ne 6, 3) := by decide +kernel
theorem dX12_copy_48 : decode cX12_copy 48 = .ok (.goto 15, 3) := by decide +kernel
theorem dX12_copy_51 : decode cX12_copy 51 = .ok (.aload_n 0, 1) := by decide +kernel
theorem dX12_copy_52 : decode cX12_copy 52 = .ok (.iload_n 1, 1) := by decide +kernel
theorem dX12_copy_53 : decode cX12_copy 53 = .ok (.iload_n 2, 1) := by decide +kernel
theorem dX12_copy_54 : decode cX12_copy 54 = .ok (.iload_n 3, 1) := by decide +kernel
theorem dX12_copy_55 : decode cX12_copy 55 = .ok (.i2l, 1) := by decide +kernel
theorem dX12_copy_56 : decode cX12_copy 56 = .ok (.invokevirtual 450, 3) := by decide +kernel
theorem dX12_copy_59 : decode cX12_copy 59 = .ok (.pop2, 1) := by decide +kernel
theorem dX12_copy_60 : decode cX12_copy 60 = .ok (.iinc 2 1, 3) := by decide +kernel
theorem dX12_copy_63 : decode cX12_copy 63 = .ok (.iinc 3 1, 3) := by decide +kernel
theorem dX12_copy_66 : decode cX12_copy 66 = .ok (.goto (-44), 3) := by decide +kernel
theorem dX12_copy_69 : decode cX12_copy 69 = .ok (.iload_n 2, 1) := by decide +kernel
theorem dX12_copy_70 : decode cX12_copy 70 = .ok (.ireturn, 1) := by decide +kernel
theorem dX12_image_0 : decode cX12_image 0 = .ok (.aload_n 0, 1) := by decide +kernel
theorem dX12_image_1 : decode cX12_image 1 = .ok (.iload_n 1, 1) := by decide +kernel
theorem dX12_image_2 : decode cX12_image 2 = .ok (.i2l, 1) := by decide +kernel
theorem dX12_image_3 : decode cX12_image 3 = .ok (.lconst 0, 1) := by decide +kernel
theorem dX12_image_4 : decode cX12_image 4 = .ok (.ldc2_w 304, 3) := by decide +kernel
theorem dX12_image_7 : decode cX12_image 7 = .ok (.invokestatic 132, 3) := by decide +kernel
theorem dX12_image_10 : decode cX12_image 10 = .ok (.ifCond .eq 7, 3) := by decide +kernel
theorem dX12_image_13 : decode cX12_image 13 = .ok (.iconst 0, 1) := by decide +kernel
theorem dX12_image_14 : decode cX12_image 14 = .ok (.goto 4, 3) := by decide +kernel
theorem dX12_image_17 : decode cX12_image 17 = .ok (.iconst 1, 1) := by decide +kernel
theorem dX12_image_18 : decode cX12_image 18 = .ok (.putfield 68, 3) := by decide +kernel
theorem dX12_image_21 : decode cX12_image 21 = .ok (.aload_n 0, 1) := by decide +kernel
theorem dX12_image_22 : decode cX12_image 22 = .ok (.getfield 68, 3) := by decide +kernel
theorem dX12_image_25 : decode cX12_image 25 = .ok (.ifCond .le 4, 3) := by decide +kernel
theorem dX12_image_28 : decode cX12_image 28 = .ok (.return_, 1) := by decide +kernel
theorem dX12_image_29 : decode cX12_image 29 = .ok (.aload_n 0, 1) := by decide +kernel
theorem dX12_image_30 : decode cX12_image 30 = .ok (.getfield 19, 3) := by decide +kernel
theorem dX12_image_33 : decode cX12_image 33 = .ok (.iload_n 1, 1) := by decide +kernel
theorem dX12_image_34 : decode cX12_image 34 = .ok (.iconst 1, 1) := by decide +kernel
theorem dX12_image_35 : decode cX12_image 35 = .ok (.bastore, 1) := by decide +kernel
theorem dX12_image_36 : decode cX12_image 36 = .ok (.iconst 0, 1) := by decide +kernel
theorem dX12_image_37 : decode cX12_image 37 = .ok (.istore_n 2, 1) := by decide +kernel
theorem dX12_image_38 : decode cX12_image 38 = .ok (.iload_n 2, 1) := by decide +kernel
theorem dX12_image_39 : decode cX12_image 39 = .ok (.sipush 2120, 3) := by decide +kernel
theorem dX12_image_42 : decode cX12_image 42 = .ok (.if_icmp .ge 27, 3) := by decide +kernel
theorem dX12_image_45 : decode cX12_image 45 = .ok (.aload_n 0, 1) := by decide +kernel
theorem dX12_image_46 : decode cX12_image 46 = .ok (.getfield 16, 3) := by decide +kernel
theorem dX12_image_49 : decode cX12_image 49 = .ok (.sipush 2120, 3) := by decide +kernel
theorem dX12_image_52 : decode cX12_image 52 = .ok (.iload_n 1, 1) := by decide +kernel
theorem dX12_image_53 : decode cX12_image 53 = .ok (.imul, 1) := by decide +kernel
theorem dX12_image_54 : decode cX12_image 54 = .ok (.iload_n 2, 1) := by decide +kernel
theorem dX12_image_55 : decode cX12_image 55 = .ok (.iadd, 1) := by decide +kernel
theorem dX12_image_56 : decode cX12_image 56 = .ok (.aload_n 0, 1) := by decide +kernel
theorem dX12_image_57 : decode cX12_image 57 = .ok (.getfield 9, 3) := by decide +kernel
theorem dX12_image_60 : decode cX12_image 60 = .ok (.iload_n 2, 1) := by decide +kernel
theorem dX12_image_61 : decode cX12_image 61 = .ok (.iaload, 1) := by decide +kernel
theorem dX12_image_62 : decode cX12_image 62 = .ok (.iastore, 1) := by decide +kernel
theorem dX12_image_63 : decode cX12_image 63 = .ok (.iinc 2 1, 3) := by decide +kernel
theorem dX12_image_66 : decode cX12_image 66 = .ok (.goto (-28), 3) := by decide +kernel
theorem dX12_image_69 : decode cX12_image 69 = .ok (.return_, 1) := by decide +kernel
theorem dX12_restore_0 : decode cX12_restore 0 = .ok (.aload_n 0, 1) := by decide +kernel
theorem dX12_restore_1 : decode cX12_restore 1 = .ok (.iload_n 1, 1) := by decide +kernel
theorem dX12_restore_2 : decode cX12_restore 2 = .ok (.i2l, 1) := by decide +kernel
theorem dX12_restore_3 : decode cX12_restore 3 = .ok (.lconst 0, 1) := by decide +kernel
theorem dX12_restore_4 : decode cX12_restore 4 = .ok (.ldc2_w 304, 3) := by decide +kernel
theorem dX12_restore_7 : decode cX12_restore 7 = .ok (.invokestatic 132, 3) := by decide +kernel
theorem dX12_restore_10 : decode cX12_restore 10 = .ok (.ifCond .ne 7, 3) := by decide +kernel
theorem dX12_restore_13 : decode cX12_restore 13 = .ok (.iconst 1, 1) := by decide +kernel
theorem dX12_restore_14 : decode cX12_restore 14 = .ok (.goto 17, 3) := by decide +kernel
theorem dX12_restore_17 : decode cX12_restore 17 = .ok (.aload_n 0, 1) := by decide +kernel
theorem dX12_restore_18 : decode cX12_restore 18 = .ok (.getfield 19, 3) := by decide +kernel
theorem dX12_restore_21 : decode cX12_restore 21 = .ok (.iload_n 1, 1) := by decide +kernel
theorem dX12_restore_22 : decode cX12_restore 22 = .ok (.baload, 1) := by decide +kernel
theorem dX12_restore_23 : decode cX12_restore 23 = .ok (.ifCond .ne 7, 3) := by decide +kernel
theorem dX12_restore_26 : decode cX12_restore 26 = .ok (.iconst 2, 1) := by decide +kernel
theorem dX12_restore_27 : decode cX12_restore 27 = .ok (.goto 4, 3) := by decide +kernel
theorem dX12_restore_30 : decode cX12_restore 30 = .ok (.iconst 0, 1) := by decide +kernel
theorem dX12_restore_31 : decode cX12_restore 31 = .ok (.putfield 68, 3) := by decide +kernel
theorem dX12_restore_34 : decode cX12_restore 34 = .ok (.aload_n 0, 1) := by decide +kernel
theorem dX12_restore_35 : decode cX12_restore 35 = .ok (.getfield 68, 3) := by decide +kernel
theorem dX12_restore_38 : decode cX12_restore 38 = .ok (.ifCond .le 4, 3) := by decide +kernel
theorem dX12_restore_41 : decode cX12_restore 41 = .ok (.return_, 1) := by decide +kernel
theorem dX12_restore_42 : decode cX12_restore 42 = .ok (.iconst 0, 1) := by decide +kernel
theorem dX12_restore_43 : decode cX12_restore 43 = .ok (.istore_n 2, 1) := by decide +kernel
theorem dX12_restore_44 : decode cX12_restore 44 = .ok (.iload_n 2, 1) := by decide +kernel
theorem dX12_restore_45 : decode cX12_restore 45 = .ok (.sipush 2120, 3) := by decide +kernel
theorem dX12_restore_48 : decode cX12_restore 48 = .ok (.if_icmp .ge 27, 3) := by decide +kernel
theorem dX12_restore_51 : decode cX12_restore 51 = .ok (.aload_n 0, 1) := by decide +kernel
theorem dX12_restore_52 : decode cX12_restore 52 = .ok (.getfield 9, 3) := by decide +kernel
theorem dX12_restore_55 : decode cX12_restore 55 = .ok (.iload_n 2, 1) := by decide +kernel
theorem dX12_restore_56 : decode cX12_restore 56 = .ok (.aload_n 0, 1) := by decide +kernel
theorem dX12_restore_57 : decode cX12_restore 57 = .ok (.getfield 16, 3) := by decide +kernel
theorem dX12_restore_60 : decode cX12_restore 60 = .ok (.sipush 2120, 3) := by decide +kernel
theorem dX12_restore_63 : decode cX12_restore 63 = .ok (.iload_n 1, 1) := by decide +kernel
theorem dX12_restore_64 : decode cX12_restore 64 = .ok (.imul, 1) := by decide +kernel
theorem dX12_restore_65 : decode cX12_restore 65 = .ok (.iload_n 2, 1) := by decide +kernel
theorem dX12_restore_66 : decode cX12_restore 66 = .ok (.iadd, 1) := by decide +kernel
theorem dX12_restore_67 : decode cX12_restore 67 = .ok (.iaload, 1) := by decide +kernel
theorem dX12_restore_68 : decode cX12_restore 68 = .ok (.iastore, 1) := by decide +kernel
theorem dX12_restore_69 : decode cX12_restore 69 = .ok (.iinc 2 1, 3) := by decide +kernel
theorem dX12_restore_72 : decode cX12_restore 72 = .ok (.goto (-28), 3) := by decide +kernel
theorem dX12_restore_75 : decode cX12_restore 75 = .ok (.return_, 1) := by decide +kernel
theorem dX12_claims_0 : decode cX12_claims 0 = .ok (.iconst 0, 1) := by decide +kernel
theorem dX12_claims_1 : decode cX12_claims 1 = .ok (.istore_n 1, 1) := by decide +kernel
theorem dX12_claims_2 : decode cX12_claims 2 = .ok (.iconst 0, 1) := by decide +kernel
theorem dX12_claims_3 : decode cX12_claims 3 = .ok (.istore_n 2, 1) := by decide +kernel
theorem dX12_claims_4 : decode cX12_claims 4 = .ok (.iload_n 2, 1) := by decide +kernel
theorem dX12_claims_5 : decode cX12_claims 5 = .ok (.aload_n 0, 1) := by decide +kernel
theorem dX12_claims_6 : decode cX12_claims 6 = .ok (.getfield 9, 3) := by decide +kernel
theorem dX12_claims_9 : decode cX12_claims 9 = .ok (.bipush 6, 2) := by decide +kernel
theorem dX12_claims_11 : decode cX12_claims 11 = .ok (.iaload, 1) := by decide +kernel
theorem dX12_claims_12 : decode cX12_claims 12 = .ok (.if_icmp .ge 30, 3) := by decide +kernel
theorem dX12_claims_15 : decode cX12_claims 15 = .ok (.iload_n 1, 1) := by decide +kernel
theorem dX12_claims_16 : decode cX12_claims 16 = .ok (.aload_n 0, 1) := by decide +kernel
theorem dX12_claims_17 : decode cX12_claims 17 = .ok (.getfield 9, 3) := by decide +kernel
theorem dX12_claims_20 : decode cX12_claims 20 = .ok (.bipush 97, 2) := by decide +kernel
theorem dX12_claims_22 : decode cX12_claims 22 = .ok (.iload_n 2, 1) := by decide +kernel
theorem dX12_claims_23 : decode cX12_claims 23 = .ok (.iadd, 1) := by decide +kernel
theorem dX12_claims_24 : decode cX12_claims 24 = .ok (.iaload, 1) := by decide +kernel
theorem dX12_claims_25 : decode cX12_claims 25 = .ok (.iconst (-1), 1) := by decide +kernel
theorem dX12_claims_26 : decode cX12_claims 26 = .ok (.if_icmp .ne 7, 3) := by decide +kernel
theorem dX12_claims_29 : decode cX12_claims 29 = .ok (.iconst 0, 1) := by decide +kernel
theorem dX12_claims_30 : decode cX12_claims 30 = .ok (.goto 4, 3) := by decide +kernel
theorem dX12_claims_33 : decode cX12_claims 33 = .ok (.iconst 1, 1) := by decide +kernel
theorem dX12_claims_34 : decode cX12_claims 34 = .ok (.iadd, 1) := by decide +kernel
theorem dX12_claims_35 : decode cX12_claims 35 = .ok (.istore_n 1, 1) := by decide +kernel
theorem dX12_claims_36 : decode cX12_claims 36 = .ok (.iinc 2 1, 3) := by decide +kernel
theorem dX12_claims_39 : decode cX12_claims 39 = .ok (.goto (-35), 3) := by decide +kernel
theorem dX12_claims_42 : decode cX12_claims 42 = .ok (.iload_n 1, 1) := by decide +kernel
theorem dX12_claims_43 : decode cX12_claims 43 = .ok (.ireturn, 1) := by decide +kernel
theorem dX12_count_0 : decode cX12_count 0 = .ok (.aload_n 0, 1) := by decide +kernel
theorem dX12_count_1 : decode cX12_count 1 = .ok (.iconst 0, 1) := by decide +kernel
theorem dX12_count_2 : decode cX12_count 2 = .ok (.putfield 68, 3) := by decide +kernel
theorem dX12_count_5 : decode cX12_count 5 = .ok (.iload_n 1, 1) := by decide +kernel
theorem dX12_count_6 : decode cX12_count 6 = .ok (.tableswitch 161 0 12 #[66, 73, 80, 85, 96, 101, 112, 120, 128, 136, 141, 148, 156], 66) := by decide +kernel
theorem dX12_count_72 : decode cX12_count 72 = .ok (.aload_n 0, 1) := by decide +kernel
theorem dX12_count_73 : decode cX12_count 73 = .ok (.getfield 9, 3) := by decide +kernel
theorem dX12_count_76 : decode cX12_count 76 = .ok (.iconst 0, 1) := by decide +kernel
theorem dX12_count_77 : decode cX12_count 77 = .ok (.iaload, 1) := by decide +kernel
theorem dX12_count_78 : decode cX12_count 78 = .ok (.ireturn, 1) := by decide +kernel
theorem dX12_count_79 : decode cX12_count 79 = .ok (.aload_n 0, 1) := by decide +kernel
theorem dX12_count_80 : decode cX12_count 80 = .ok (.getfield 9, 3) := by decide +kernel
theorem dX12_count_83 : decode cX12_count 83 = .ok (.iconst 1, 1) := by decide +kernel
theorem dX12_count_84 : decode cX12_count 84 = .ok (.iaload, 1) := by decide +kernel
theorem dX12_count_85 : decode cX12_count 85 = .ok (.ireturn, 1) := by decide +kernel
theorem dX12_count_86 : decode cX12_count 86 = .ok (.aload_n 0, 1) := by decide +kernel
theorem dX12_count_87 : decode cX12_count 87 = .ok (.invokevirtual 245, 3) := by decide +kernel
theorem dX12_count_90 : decode cX12_count 90 = .ok (.ireturn, 1) := by decide +kernel
theorem dX12_count_91 : decode cX12_count 91 = .ok (.aload_n 0, 1) := by decide +kernel
theorem dX12_count_92 : decode cX12_count 92 = .ok (.getfield 9, 3) := by decide +kernel
theorem dX12_count_95 : decode cX12_count 95 = .ok (.bipush 93, 2) := by decide +kernel
theorem dX12_count_97 : decode cX12_count 97 = .ok (.iaload, 1) := by decide +kernel
theorem dX12_count_98 : decode cX12_count 98 = .ok (.invokestatic 330, 3) := by decide +kernel
theorem dX12_count_101 : decode cX12_count 101 = .ok (.ireturn, 1) := by decide +kernel
theorem dX12_count_102 : decode cX12_count 102 = .ok (.aload_n 0, 1) := by decide +kernel
theorem dX12_count_103 : decode cX12_count 103 = .ok (.invokevirtual 242, 3) := by decide +kernel
theorem dX12_count_106 : decode cX12_count 106 = .ok (.ireturn, 1) := by decide +kernel
theorem dX12_count_107 : decode cX12_count 107 = .ok (.aload_n 0, 1) := by decide +kernel
theorem dX12_count_108 : decode cX12_count 108 = .ok (.getfield 9, 3) := by decide +kernel
theorem dX12_count_111 : decode cX12_count 111 = .ok (.bipush 95, 2) := by decide +kernel
theorem dX12_count_113 : decode cX12_count 113 = .ok (.iaload, 1) := by decide +kernel
theorem dX12_count_114 : decode cX12_count 114 = .ok (.invokestatic 330, 3) := by decide +kernel
theorem dX12_count_117 : decode cX12_count 117 = .ok (.ireturn, 1) := by decide +kernel
theorem dX12_count_118 : decode cX12_count 118 = .ok (.aload_n 0, 1) := by decide +kernel
theorem dX12_count_119 : decode cX12_count 119 = .ok (.getfield 9, 3) := by decide +kernel
theorem dX12_count_122 : decode cX12_count 122 = .ok (.bipush 6, 2) := by decide +kernel
theorem dX12_count_124 : decode cX12_count 124 = .ok (.iaload, 1) := by decide +kernel
theorem dX12_count_125 : decode cX12_count 125 = .ok (.ireturn, 1) := by decide +kernel
theorem dX12_count_126 : decode cX12_count 126 = .ok (.aload_n 0, 1) := by decide +kernel
theorem dX12_count_127 : decode cX12_count 127 = .ok (.getfield 9, 3) := by decide +kernel
theorem dX12_count_130 : decode cX12_count 130 = .ok (.bipush 96, 2) := by decide +kernel
theorem dX12_count_132 : decode cX12_count 132 = .ok (.iaload, 1) := by decide +kernel
theorem dX12_count_133 : decode cX12_count 133 = .ok (.ireturn, 1) := by decide +kernel
theorem dX12_count_134 : decode cX12_count 134 = .ok (.aload_n 0, 1) := by decide +kernel
theorem dX12_count_135 : decode cX12_count 135 = .ok (.getfield 9, 3) := by decide +kernel
theorem dX12_count_138 : decode cX12_count 138 = .ok (.bipush 94, 2) := by decide +kernel
theorem dX12_count_140 : decode cX12_count 140 = .ok (.iaload, 1) := by decide +kernel
theorem dX12_count_141 : decode cX12_count 141 = .ok (.ireturn, 1) := by decide +kernel
theorem dX12_count_142 : decode cX12_count 142 = .ok (.aload_n 0, 1) := by decide +kernel
theorem dX12_count_143 : decode cX12_count 143 = .ok (.invokevirtual 454, 3) := by decide +kernel
theorem dX12_count_146 : decode cX12_count 146 = .ok (.ireturn, 1) := by decide +kernel
theorem dX12_count_147 : decode cX12_count 147 = .ok (.aload_n 0, 1) := by decide +kernel
theorem dX12_count_148 : decode cX12_count 148 = .ok (.getfield 9, 3) := by decide +kernel
theorem dX12_count_151 : decode cX12_count 151 = .ok (.iconst 5, 1) := by decide +kernel
theorem dX12_count_152 : decode cX12_count 152 = .ok (.iaload, 1) := by decide +kernel
theorem dX12_count_153 : decode cX12_count 153 = .ok (.ireturn, 1) := by decide +kernel
theorem dX12_count_154 : decode cX12_count 154 = .ok (.aload_n 0, 1) := by decide +kernel
theorem dX12_count_155 : decode cX12_count 155 = .ok (.getfield 9, 3) := by decide +kernel
theorem dX12_count_158 : decode cX12_count 158 = .ok (.bipush 8, 2) := by decide +kernel
theorem dX12_count_160 : decode cX12_count 160 = .ok (.iaload, 1) := by decide +kernel
theorem dX12_count_161 : decode cX12_count 161 = .ok (.ireturn, 1) := by decide +kernel
theorem dX12_count_162 : decode cX12_count 162 = .ok (.aload_n 0, 1) := by decide +kernel
theorem dX12_count_163 : decode cX12_count 163 = .ok (.getfield 71, 3) := by decide +kernel
theorem dX12_count_166 : decode cX12_count 166 = .ok (.ireturn, 1) := by decide +kernel
theorem dX12_count_167 : decode cX12_count 167 = .ok (.iconst (-1), 1) := by decide +kernel
theorem dX12_count_168 : decode cX12_count 168 = .ok (.ireturn, 1) := by decide +kernel
