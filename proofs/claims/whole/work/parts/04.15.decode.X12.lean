theorem dX12_allWords_8 : decode cX12_allWords 8 = .ok (.ireturn, 1) := by decide +kernel
theorem dX12_isChest_0 : decode cX12_isChest 0 = .ok (.lload_n 1, 1) := by decide +kernel
theorem dX12_isChest_1 : decode cX12_isChest 1 = .ok (.lconst 0, 1) := by decide +kernel
theorem dX12_isChest_2 : decode cX12_isChest 2 = .ok (.aload_n 0, 1) := by decide +kernel
theorem dX12_isChest_3 : decode cX12_isChest 3 = .ok (.invokevirtual 245, 3) := by decide +kernel
theorem dX12_isChest_6 : decode cX12_isChest 6 = .ok (.iconst 1, 1) := by decide +kernel
theorem dX12_isChest_7 : decode cX12_isChest 7 = .ok (.isub, 1) := by decide +kernel
theorem dX12_isChest_8 : decode cX12_isChest 8 = .ok (.i2l, 1) := by decide +kernel
theorem dX12_isChest_9 : decode cX12_isChest 9 = .ok (.invokestatic 132, 3) := by decide +kernel
theorem dX12_isChest_12 : decode cX12_isChest 12 = .ok (.ireturn, 1) := by decide +kernel
theorem dX12_isMark_0 : decode cX12_isMark 0 = .ok (.lload_n 1, 1) := by decide +kernel
theorem dX12_isMark_1 : decode cX12_isMark 1 = .ok (.lconst 0, 1) := by decide +kernel
theorem dX12_isMark_2 : decode cX12_isMark 2 = .ok (.aload_n 0, 1) := by decide +kernel
theorem dX12_isMark_3 : decode cX12_isMark 3 = .ok (.getfield 9, 3) := by decide +kernel
theorem dX12_isMark_6 : decode cX12_isMark 6 = .ok (.iconst 1, 1) := by decide +kernel
theorem dX12_isMark_7 : decode cX12_isMark 7 = .ok (.iaload, 1) := by decide +kernel
theorem dX12_isMark_8 : decode cX12_isMark 8 = .ok (.iconst 1, 1) := by decide +kernel
theorem dX12_isMark_9 : decode cX12_isMark 9 = .ok (.isub, 1) := by decide +kernel
theorem dX12_isMark_10 : decode cX12_isMark 10 = .ok (.i2l, 1) := by decide +kernel
theorem dX12_isMark_11 : decode cX12_isMark 11 = .ok (.invokestatic 132, 3) := by decide +kernel
theorem dX12_isMark_14 : decode cX12_isMark 14 = .ok (.ireturn, 1) := by decide +kernel
theorem dX12_isHallWord_0 : decode cX12_isHallWord 0 = .ok (.iload_n 1, 1) := by decide +kernel
theorem dX12_isHallWord_1 : decode cX12_isHallWord 1 = .ok (.i2l, 1) := by decide +kernel
theorem dX12_isHallWord_2 : decode cX12_isHallWord 2 = .ok (.lconst 0, 1) := by decide +kernel
theorem dX12_isHallWord_3 : decode cX12_isHallWord 3 = .ok (.aload_n 0, 1) := by decide +kernel
theorem dX12_isHallWord_4 : decode cX12_isHallWord 4 = .ok (.invokevirtual 242, 3) := by decide +kernel
theorem dX12_isHallWord_7 : decode cX12_isHallWord 7 = .ok (.iconst 1, 1) := by decide +kernel
theorem dX12_isHallWord_8 : decode cX12_isHallWord 8 = .ok (.isub, 1) := by decide +kernel
theorem dX12_isHallWord_9 : decode cX12_isHallWord 9 = .ok (.i2l, 1) := by decide +kernel
theorem dX12_isHallWord_10 : decode cX12_isHallWord 10 = .ok (.invokestatic 132, 3) := by decide +kernel
theorem dX12_isHallWord_13 : decode cX12_isHallWord 13 = .ok (.ireturn, 1) := by decide +kernel
theorem dX12_isBody_0 : decode cX12_isBody 0 = .ok (.iload_n 1, 1) := by decide +kernel
theorem dX12_isBody_1 : decode cX12_isBody 1 = .ok (.i2l, 1) := by decide +kernel
theorem dX12_isBody_2 : decode cX12_isBody 2 = .ok (.lconst 0, 1) := by decide +kernel
theorem dX12_isBody_3 : decode cX12_isBody 3 = .ok (.aload_n 0, 1) := by decide +kernel
theorem dX12_isBody_4 : decode cX12_isBody 4 = .ok (.getfield 9, 3) := by decide +kernel
theorem dX12_isBody_7 : decode cX12_isBody 7 = .ok (.bipush 6, 2) := by decide +kernel
theorem dX12_isBody_9 : decode cX12_isBody 9 = .ok (.iaload, 1) := by decide +kernel
theorem dX12_isBody_10 : decode cX12_isBody 10 = .ok (.iconst 1, 1) := by decide +kernel
theorem dX12_isBody_11 : decode cX12_isBody 11 = .ok (.isub, 1) := by decide +kernel
theorem dX12_isBody_12 : decode cX12_isBody 12 = .ok (.i2l, 1) := by decide +kernel
theorem dX12_isBody_13 : decode cX12_isBody 13 = .ok (.invokestatic 132, 3) := by decide +kernel
theorem dX12_isBody_16 : decode cX12_isBody 16 = .ok (.ireturn, 1) := by decide +kernel
theorem dX12_isIn_0 : decode cX12_isIn 0 = .ok (.aload_n 0, 1) := by decide +kernel
theorem dX12_isIn_1 : decode cX12_isIn 1 = .ok (.getfield 9, 3) := by decide +kernel
theorem dX12_isIn_4 : decode cX12_isIn 4 = .ok (.bipush 93, 2) := by decide +kernel
theorem dX12_isIn_6 : decode cX12_isIn 6 = .ok (.iaload, 1) := by decide +kernel
theorem dX12_isIn_7 : decode cX12_isIn 7 = .ok (.iload_n 1, 1) := by decide +kernel
theorem dX12_isIn_8 : decode cX12_isIn 8 = .ok (.invokestatic 248, 3) := by decide +kernel
theorem dX12_isIn_11 : decode cX12_isIn 11 = .ok (.ireturn, 1) := by decide +kernel
theorem dX12_firstIn_0 : decode cX12_firstIn 0 = .ok (.iconst 0, 1) := by decide +kernel
theorem dX12_firstIn_1 : decode cX12_firstIn 1 = .ok (.istore_n 1, 1) := by decide +kernel
theorem dX12_firstIn_2 : decode cX12_firstIn 2 = .ok (.iload_n 1, 1) := by decide +kernel
theorem dX12_firstIn_3 : decode cX12_firstIn 3 = .ok (.aload_n 0, 1) := by decide +kernel
theorem dX12_firstIn_4 : decode cX12_firstIn 4 = .ok (.invokevirtual 245, 3) := by decide +kernel
theorem dX12_firstIn_7 : decode cX12_firstIn 7 = .ok (.if_icmp .ge 19, 3) := by decide +kernel
theorem dX12_firstIn_10 : decode cX12_firstIn 10 = .ok (.aload_n 0, 1) := by decide +kernel
theorem dX12_firstIn_11 : decode cX12_firstIn 11 = .ok (.iload_n 1, 1) := by decide +kernel
theorem dX12_firstIn_12 : decode cX12_firstIn 12 = .ok (.invokevirtual 250, 3) := by decide +kernel
theorem dX12_firstIn_15 : decode cX12_firstIn 15 = .ok (.ifCond .eq 5, 3) := by decide +kernel
theorem dX12_firstIn_18 : decode cX12_firstIn 18 = .ok (.iload_n 1, 1) := by decide +kernel
theorem dX12_firstIn_19 : decode cX12_firstIn 19 = .ok (.ireturn, 1) := by decide +kernel
theorem dX12_firstIn_20 : decode cX12_firstIn 20 = .ok (.iinc 1 1, 3) := by decide +kernel
theorem dX12_firstIn_23 : decode cX12_firstIn 23 = .ok (.goto (-21), 3) := by decide +kernel
theorem dX12_firstIn_26 : decode cX12_firstIn 26 = .ok (.iconst (-1), 1) := by decide +kernel
theorem dX12_firstIn_27 : decode cX12_firstIn 27 = .ok (.ireturn, 1) := by decide +kernel
theorem dX12_looksBy_0 : decode cX12_looksBy 0 = .ok (.iconst 0, 1) := by decide +kernel
theorem dX12_looksBy_1 : decode cX12_looksBy 1 = .ok (.istore_n 3, 1) := by decide +kernel
theorem dX12_looksBy_2 : decode cX12_looksBy 2 = .ok (.iload_n 3, 1) := by decide +kernel
theorem dX12_looksBy_3 : decode cX12_looksBy 3 = .ok (.aload_n 0, 1) := by decide +kernel
theorem dX12_looksBy_4 : decode cX12_looksBy 4 = .ok (.getfield 9, 3) := by decide +kernel
theorem dX12_looksBy_7 : decode cX12_looksBy 7 = .ok (.iconst 4, 1) := by decide +kernel
theorem dX12_looksBy_8 : decode cX12_looksBy 8 = .ok (.iaload, 1) := by decide +kernel
theorem dX12_looksBy_9 : decode cX12_looksBy 9 = .ok (.if_icmp .ge 55, 3) := by decide +kernel
theorem dX12_looksBy_12 : decode cX12_looksBy 12 = .ok (.aload_n 0, 1) := by decide +kernel
theorem dX12_looksBy_13 : decode cX12_looksBy 13 = .ok (.getfield 9, 3) := by decide +kernel
theorem dX12_looksBy_16 : decode cX12_looksBy 16 = .ok (.bipush 120, 2) := by decide +kernel
theorem dX12_looksBy_18 : decode cX12_looksBy 18 = .ok (.iconst 3, 1) := by decide +kernel
theorem dX12_looksBy_19 : decode cX12_looksBy 19 = .ok (.iload_n 3, 1) := by decide +kernel
theorem dX12_looksBy_20 : decode cX12_looksBy 20 = .ok (.imul, 1) := by decide +kernel
theorem dX12_looksBy_21 : decode cX12_looksBy 21 = .ok (.iadd, 1) := by decide +kernel
theorem dX12_looksBy_22 : decode cX12_looksBy 22 = .ok (.iaload, 1) := by decide +kernel
theorem dX12_looksBy_23 : decode cX12_looksBy 23 = .ok (.iload_n 1, 1) := by decide +kernel
theorem dX12_looksBy_24 : decode cX12_looksBy 24 = .ok (.if_icmp .ne 34, 3) := by decide +kernel
theorem dX12_looksBy_27 : decode cX12_looksBy 27 = .ok (.aload_n 0, 1) := by decide +kernel
theorem dX12_looksBy_28 : decode cX12_looksBy 28 = .ok (.getfield 9, 3) := by decide +kernel
theorem dX12_looksBy_31 : decode cX12_looksBy 31 = .ok (.bipush 120, 2) := by decide +kernel
theorem dX12_looksBy_33 : decode cX12_looksBy 33 = .ok (.iconst 3, 1) := by decide +kernel
theorem dX12_looksBy_34 : decode cX12_looksBy 34 = .ok (.iload_n 3, 1) := by decide +kernel
theorem dX12_looksBy_35 : decode cX12_looksBy 35 = .ok (.imul, 1) := by decide +kernel
theorem dX12_looksBy_36 : decode cX12_looksBy 36 = .ok (.iadd, 1) := by decide +kernel
theorem dX12_looksBy_37 : decode cX12_looksBy 37 = .ok (.iconst 1, 1) := by decide +kernel
theorem dX12_looksBy_38 : decode cX12_looksBy 38 = .ok (.iadd, 1) := by decide +kernel
theorem dX12_looksBy_39 : decode cX12_looksBy 39 = .ok (.iaload, 1) := by decide +kernel
theorem dX12_looksBy_40 : decode cX12_looksBy 40 = .ok (.iload_n 2, 1) := by decide +kernel
theorem dX12_looksBy_41 : decode cX12_looksBy 41 = .ok (.if_icmp .ne 17, 3) := by decide +kernel
theorem dX12_looksBy_44 : decode cX12_looksBy 44 = .ok (.aload_n 0, 1) := by decide +kernel
theorem dX12_looksBy_45 : decode cX12_looksBy 45 = .ok (.getfield 9, 3) := by decide +kernel
theorem dX12_looksBy_48 : decode cX12_looksBy 48 = .ok (.bipush 120, 2) := by decide +kernel
theorem dX12_looksBy_50 : decode cX12_looksBy 50 = .ok (.iconst 3, 1) := by decide +kernel
theorem dX12_looksBy_51 : decode cX12_looksBy 51 = .ok (.iload_n 3, 1) := by decide +kernel
theorem dX12_looksBy_52 : decode cX12_looksBy 52 = .ok (.imul, 1) := by decide +kernel
theorem dX12_looksBy_53 : decode cX12_looksBy 53 = .ok (.iadd, 1) := by decide +kernel
theorem dX12_looksBy_54 : decode cX12_looksBy 54 = .ok (.iconst 2, 1) := by decide +kernel
theorem dX12_looksBy_55 : decode cX12_looksBy 55 = .ok (.iadd, 1) := by decide +kernel
theorem dX12_looksBy_56 : decode cX12_looksBy 56 = .ok (.iaload, 1) := by decide +kernel
theorem dX12_looksBy_57 : decode cX12_looksBy 57 = .ok (.ireturn, 1) := by decide +kernel
theorem dX12_looksBy_58 : decode cX12_looksBy 58 = .ok (.iinc 3 1, 3) := by decide +kernel
theorem dX12_looksBy_61 : decode cX12_looksBy 61 = .ok (.goto (-59), 3) := by decide +kernel
theorem dX12_looksBy_64 : decode cX12_looksBy 64 = .ok (.iload_n 2, 1) := by decide +kernel
theorem dX12_looksBy_65 : decode cX12_looksBy 65 = .ok (.ireturn, 1) := by decide +kernel
theorem dX12_look_0 : decode cX12_look 0 = .ok (.aload_n 0, 1) := by decide +kernel
theorem dX12_look_1 : decode cX12_look 1 = .ok (.getfield 9, 3) := by decide +kernel
theorem dX12_look_4 : decode cX12_look 4 = .ok (.bipush 9, 2) := by decide +kernel
theorem dX12_look_6 : decode cX12_look 6 = .ok (.bipush 6, 2) := by decide +kernel
theorem dX12_look_8 : decode cX12_look 8 = .ok (.iload_n 1, 1) := by decide +kernel
theorem dX12_look_9 : decode cX12_look 9 = .ok (.imul, 1) := by decide +kernel
theorem dX12_look_10 : decode cX12_look 10 = .ok (.iadd, 1) := by decide +kernel
theorem dX12_look_11 : decode cX12_look 11 = .ok (.iload_n 2, 1) := by decide +kernel
theorem dX12_look_12 : decode cX12_look 12 = .ok (.iadd, 1) := by decide +kernel
theorem dX12_look_13 : decode cX12_look 13 = .ok (.iaload, 1) := by decide +kernel
theorem dX12_look_14 : decode cX12_look 14 = .ok (.istore 4, 2) := by decide +kernel
theorem dX12_look_16 : decode cX12_look 16 = .ok (.iload_n 3, 1) := by decide +kernel
theorem dX12_look_17 : decode cX12_look 17 = .ok (.ifCond .eq 13, 3) := by decide +kernel
theorem dX12_look_20 : decode cX12_look 20 = .ok (.aload_n 0, 1) := by decide +kernel
theorem dX12_look_21 : decode cX12_look 21 = .ok (.iload_n 2, 1) := by decide +kernel
theorem dX12_look_22 : decode cX12_look 22 = .ok (.iload 4, 2) := by decide +kernel
theorem dX12_look_24 : decode cX12_look 24 = .ok (.invokevirtual 253, 3) := by decide +kernel
theorem dX12_look_27 : decode cX12_look 27 = .ok (.goto 5, 3) := by decide +kernel
theorem dX12_look_30 : decode cX12_look 30 = .ok (.iload 4, 2) := by decide +kernel
theorem dX12_look_32 : decode cX12_look 32 = .ok (.ireturn, 1) := by decide +kernel
theorem dX12_bound_0 : decode cX12_bound 0 = .ok (.ldc2_w 256, 3) := by decide +kernel
theorem dX12_bound_3 : decode cX12_bound 3 = .ok (.ldc2_w 258, 3) := by decide +kernel
theorem dX12_bound_6 : decode cX12_bound 6 = .ok (.lload_n 0, 1) := by decide +kernel
theorem dX12_bound_7 : decode cX12_bound 7 = .ok (.invokestatic 260, 3) := by decide +kernel
theorem dX12_bound_10 : decode cX12_bound 10 = .ok (.invokestatic 266, 3) := by decide +kernel
theorem dX12_bound_13 : decode cX12_bound 13 = .ok (.l2i, 1) := by decide +kernel
theorem dX12_bound_14 : decode cX12_bound 14 = .ok (.ireturn, 1) := by decide +kernel
theorem dX12_done_0 : decode cX12_done 0 = .ok (.iload_n 0, 1) := by decide +kernel
theorem dX12_done_1 : decode cX12_done 1 = .ok (.tableswitch 114 10 16 #[43, 50, 57, 64, 76, 88, 100], 43) := by decide +kernel
theorem dX12_done_44 : decode cX12_done 44 = .ok (.lload_n 1, 1) := by decide +kernel
theorem dX12_done_45 : decode cX12_done 45 = .ok (.lload_n 3, 1) := by decide +kernel
theorem dX12_done_46 : decode cX12_done 46 = .ok (.ladd, 1) := by decide +kernel
theorem dX12_done_47 : decode cX12_done 47 = .ok (.invokestatic 269, 3) := by decide +kernel
theorem dX12_done_50 : decode cX12_done 50 = .ok (.ireturn, 1) := by decide +kernel
theorem dX12_done_51 : decode cX12_done 51 = .ok (.lload_n 1, 1) := by decide +kernel
theorem dX12_done_52 : decode cX12_done 52 = .ok (.lload_n 3, 1) := by decide +kernel
theorem dX12_done_53 : decode cX12_done 53 = .ok (.lsub, 1) := by decide +kernel
theorem dX12_done_54 : decode cX12_done 54 = .ok (.invokestatic 269, 3) := by decide +kernel
theorem dX12_done_57 : decode cX12_done 57 = .ok (.ireturn, 1) := by decide +kernel
theorem dX12_done_58 : decode cX12_done 58 = .ok (.lload_n 1, 1) := by decide +kernel
theorem dX12_done_59 : decode cX12_done 59 = .ok (.lload_n 3, 1) := by decide +kernel
theorem dX12_done_60 : decode cX12_done 60 = .ok (.lmul, 1) := by decide +kernel
theorem dX12_done_61 : decode cX12_done 61 = .ok (.invokestatic 269, 3) := by decide +kernel
theorem dX12_done_64 : decode cX12_done 64 = .ok (.ireturn, 1) := by decide +kernel
theorem dX12_done_65 : decode cX12_done 65 = .ok (.lload_n 1, 1) := by decide +kernel
theorem dX12_done_66 : decode cX12_done 66 = .ok (.lload_n 3, 1) := by decide +kernel
theorem dX12_done_67 : decode cX12_done 67 = .ok (.lcmp, 1) := by decide +kernel
theorem dX12_done_68 : decode cX12_done 68 = .ok (.ifCond .ne 7, 3) := by decide +kernel
theorem dX12_done_71 : decode cX12_done 71 = .ok (.iconst 1, 1) := by decide +kernel
theorem dX12_done_72 : decode cX12_done 72 = .ok (.goto 4, 3) := by decide +kernel
theorem dX12_done_75 : decode cX12_done 75 = .ok (.iconst 0, 1) := by decide +kernel
theorem dX12_done_76 : decode cX12_done 76 = .ok (.ireturn, 1) := by decide +kernel
theorem dX12_done_77 : decode cX12_done 77 = .ok (.lload_n 1, 1) := by decide +kernel
theorem dX12_done_78 : decode cX12_done 78 = .ok (.lload_n 3, 1) := by decide +kernel
theorem dX12_done_79 : decode cX12_done 79 = .ok (.lcmp, 1) := by decide +kernel
theorem dX12_done_80 : decode cX12_done 80 = .ok (.ifCond .ge 7, 3) := by decide +kernel
theorem dX12_done_83 : decode cX12_done 83 = .ok (.iconst 1, 1) := by decide +kernel
theorem dX12_done_84 : decode cX12_done 84 = .ok (.goto 4, 3) := by decide +kernel
theorem dX12_done_87 : decode cX12_done 87 = .ok (.iconst 0, 1) := by decide +kernel
theorem dX12_done_88 : decode cX12_done 88 = .ok (.ireturn, 1) := by decide +kernel
theorem dX12_done_89 : decode cX12_done 89 = .ok (.lload_n 1, 1) := by decide +kernel
theorem dX12_done_90 : decode cX12_done 90 = .ok (.lload_n 3, 1) := by decide +kernel
theorem dX12_done_91 : decode cX12_done 91 = .ok (.lcmp, 1) := by decide +kernel
theorem dX12_done_92 : decode cX12_done 92 = .ok (.ifCond .le 7, 3) := by decide +kernel
theorem dX12_done_95 : decode cX12_done 95 = .ok (.iconst 1, 1) := by decide +kernel
theorem dX12_done_96 : decode cX12_done 96 = .ok (.goto 4, 3) := by decide +kernel
theorem dX12_done_99 : decode cX12_done 99 = .ok (.iconst 0, 1) := by decide +kernel
theorem dX12_done_100 : decode cX12_done 100 = .ok (.ireturn, 1) := by decide +kernel
theorem dX12_done_101 : decode cX12_done 101 = .ok (.lload_n 1, 1) := by decide +kernel
theorem dX12_done_102 : decode cX12_done 102 = .ok (.lload_n 3, 1) := by decide +kernel
theorem dX12_done_103 : decode cX12_done 103 = .ok (.ladd, 1) := by decide +kernel
theorem dX12_done_104 : decode cX12_done 104 = .ok (.lconst 1, 1) := by decide +kernel
theorem dX12_done_105 : decode cX12_done 105 = .ok (.lcmp, 1) := by decide +kernel
theorem dX12_done_106 : decode cX12_done 106 = .ok (.ifCond .le 7, 3) := by decide +kernel
theorem dX12_done_109 : decode cX12_done 109 = .ok (.iconst 1, 1) := by decide +kernel
theorem dX12_done_110 : decode cX12_done 110 = .ok (.goto 4, 3) := by decide +kernel
theorem dX12_done_113 : decode cX12_done 113 = .ok (.iconst 0, 1) := by decide +kernel
theorem dX12_done_114 : decode cX12_done 114 = .ok (.ireturn, 1) := by decide +kernel
theorem dX12_done_115 : decode cX12_done 115 = .ok (.lload_n 1, 1) := by decide +kernel
theorem dX12_done_116 : decode cX12_done 116 = .ok (.lload_n 3, 1) := by decide +kernel
theorem dX12_done_117 : decode cX12_done 117 = .ok (.ladd, 1) := by decide +kernel
theorem dX12_done_118 : decode cX12_done 118 = .ok (.lconst 0, 1) := by decide +kernel
theorem dX12_done_119 : decode cX12_done 119 = .ok (.lcmp, 1) := by decide +kernel
theorem dX12_done_120 : decode cX12_done 120 = .ok (.ifCond .le 7, 3) := by decide +kernel
theorem dX12_done_123 : decode cX12_done 123 = .ok (.iconst 1, 1) := by decide +kernel
theorem dX12_done_124 : decode cX12_done 124 = .ok (.goto 4, 3) := by decide +kernel
theorem dX12_done_127 : decode cX12_done 127 = .ok (.iconst 0, 1) := by decide +kernel
theorem dX12_done_128 : decode cX12_done 128 = .ok (.ireturn, 1) := by decide +kernel
theorem dX12_plain_0 : decode cX12_plain 0 = .ok (.iload_n 1, 1) := by decide +kernel
theorem dX12_plain_1 : decode cX12_plain 1 = .ok (.sipush 1000, 3) := by decide +kernel
theorem dX12_plain_4 : decode cX12_plain 4 = .ok (.if_icmp .lt 9, 3) := by decide +kernel
theorem dX12_plain_7 : decode cX12_plain 7 = .ok (.iload_n 1, 1) := by decide +kernel
theorem dX12_plain_8 : decode cX12_plain 8 = .ok (.sipush 1000, 3) := by decide +kernel
theorem dX12_plain_11 : decode cX12_plain 11 = .ok (.isub, 1) := by decide +kernel
theorem dX12_plain_12 : decode cX12_plain 12 = .ok (.ireturn, 1) := by decide +kernel
theorem dX12_plain_13 : decode cX12_plain 13 = .ok (.iload_n 1, 1) := by decide +kernel
theorem dX12_plain_14 : decode cX12_plain 14 = .ok (.sipush 200, 3) := by decide +kernel
theorem dX12_plain_17 : decode cX12_plain 17 = .ok (.if_icmp .ge 13, 3) := by decide +kernel
theorem dX12_plain_20 : decode cX12_plain 20 = .ok (.aload_n 0, 1) := by decide +kernel
theorem dX12_plain_21 : decode cX12_plain 21 = .ok (.getfield 30, 3) := by decide +kernel
theorem dX12_plain_24 : decode cX12_plain 24 = .ok (.iload_n 1, 1) := by decide +kernel
theorem dX12_plain_25 : decode cX12_plain 25 = .ok (.bipush 100, 2) := by decide +kernel
theorem dX12_plain_27 : decode cX12_plain 27 = .ok (.isub, 1) := by decide +kernel
theorem dX12_plain_28 : decode cX12_plain 28 = .ok (.iaload, 1) := by decide +kernel
theorem dX12_plain_29 : decode cX12_plain 29 = .ok (.ireturn, 1) := by decide +kernel
theorem dX12_plain_30 : decode cX12_plain 30 = .ok (.iload_n 1, 1) := by decide +kernel
theorem dX12_plain_31 : decode cX12_plain 31 = .ok (.sipush 302, 3) := by decide +kernel
theorem dX12_plain_34 : decode cX12_plain 34 = .ok (.if_icmp .ne 8, 3) := by decide +kernel
theorem dX12_plain_37 : decode cX12_plain 37 = .ok (.aload_n 0, 1) := by decide +kernel
theorem dX12_plain_38 : decode cX12_plain 38 = .ok (.getfield 273, 3) := by decide +kernel
theorem dX12_plain_41 : decode cX12_plain 41 = .ok (.ireturn, 1) := by decide +kernel
theorem dX12_plain_42 : decode cX12_plain 42 = .ok (.iconst 0, 1) := by decide +kernel
theorem dX12_plain_43 : decode cX12_plain 43 = .ok (.istore_n 2, 1) := by decide +kernel
theorem dX12_plain_44 : decode cX12_plain 44 = .ok (.iconst 0, 1) := by decide +kernel
theorem dX12_plain_45 : decode cX12_plain 45 = .ok (.istore_n 3, 1) := by decide +kernel
theorem dX12_plain_46 : decode cX12_plain 46 = .ok (.iload_n 3, 1) := by decide +kernel
theorem dX12_plain_47 : decode cX12_plain 47 = .ok (.aload_n 0, 1) := by decide +kernel
theorem dX12_plain_48 : decode cX12_plain 48 = .ok (.getfield 9, 3) := by decide +kernel
theorem dX12_plain_51 : decode cX12_plain 51 = .ok (.iconst 1, 1) := by decide +kernel
theorem dX12_plain_52 : decode cX12_plain 52 = .ok (.iaload, 1) := by decide +kernel
theorem dX12_plain_53 : decode cX12_plain 53 = .ok (.if_icmp .ge 103, 3) := by decide +kernel
theorem dX12_plain_56 : decode cX12_plain 56 = .ok (.iload_n 1, 1) := by decide +kernel
theorem dX12_plain_57 : decode cX12_plain 57 = .ok (.sipush 300, 3) := by decide +kernel
theorem dX12_plain_60 : decode cX12_plain 60 = .ok (.if_icmp .ge 28, 3) := by decide +kernel
theorem dX12_plain_63 : decode cX12_plain 63 = .ok (.iload_n 2, 1) := by decide +kernel
theorem dX12_plain_64 : decode cX12_plain 64 = .ok (.aload_n 0, 1) := by decide +kernel
theorem dX12_plain_65 : decode cX12_plain 65 = .ok (.getfield 30, 3) := by decide +kernel
theorem dX12_plain_68 : decode cX12_plain 68 = .ok (.iload_n 3, 1) := by decide +kernel
theorem dX12_plain_69 : decode cX12_plain 69 = .ok (.iaload, 1) := by decide +kernel
theorem dX12_plain_70 : decode cX12_plain 70 = .ok (.iload_n 1, 1) := by decide +kernel
theorem dX12_plain_71 : decode cX12_plain 71 = .ok (.sipush 200, 3) := by decide +kernel
theorem dX12_plain_74 : decode cX12_plain 74 = .ok (.isub, 1) := by decide +kernel
theorem dX12_plain_75 : decode cX12_plain 75 = .ok (.if_icmp .ne 7, 3) := by decide +kernel
theorem dX12_plain_78 : decode cX12_plain 78 = .ok (.iconst 1, 1) := by decide +kernel
theorem dX12_plain_79 : decode cX12_plain 79 = .ok (.goto 4, 3) := by decide +kernel
theorem dX12_plain_82 : decode cX12_plain 82 = .ok (.iconst 0, 1) := by decide +kernel
theorem dX12_plain_83 : decode cX12_plain 83 = .ok (.ior, 1) := by decide +kernel
theorem dX12_plain_84 : decode cX12_plain 84 = .ok (.istore_n 2, 1) := by decide +kernel
theorem dX12_plain_85 : decode cX12_plain 85 = .ok (.goto 19, 3) := by decide +kernel
theorem dX12_plain_88 : decode cX12_plain 88 = .ok (.iload_n 1, 1) := by decide +kernel
theorem dX12_plain_89 : decode cX12_plain 89 = .ok (.sipush 300, 3) := by decide +kernel
theorem dX12_plain_92 : decode cX12_plain 92 = .ok (.if_icmp .ne 12, 3) := by decide +kernel
theorem dX12_plain_95 : decode cX12_plain 95 = .ok (.iload_n 2, 1) := by decide +kernel
theorem dX12_plain_96 : decode cX12_plain 96 = .ok (.aload_n 0, 1) := by decide +kernel
theorem dX12_plain_97 : decode cX12_plain 97 = .ok (.getfield 30, 3) := by decide +kernel
theorem dX12_plain_100 : decode cX12_plain 100 = .ok (.iload_n 3, 1) := by decide +kernel
theorem dX12_plain_101 : decode cX12_plain 101 = .ok (.iaload, 1) := by decide +kernel
theorem dX12_plain_102 : decode cX12_plain 102 = .ok (.iadd, 1) := by decide +kernel
theorem dX12_plain_103 : decode cX12_plain 103 = .ok (.istore_n 2, 1) := by decide +kernel
theorem dX12_plain_104 : decode cX12_plain 104 = .ok (.iconst 0, 1) := by decide +kernel
theorem dX12_plain_105 : decode cX12_plain 105 = .ok (.istore 4, 2) := by decide +kernel
theorem dX12_plain_107 : decode cX12_plain 107 = .ok (.iload 4, 2) := by decide +kernel
theorem dX12_plain_109 : decode cX12_plain 109 = .ok (.iload_n 3, 1) := by decide +kernel
theorem dX12_plain_110 : decode cX12_plain 110 = .ok (.if_icmp .ge 40, 3) := by decide +kernel
theorem dX12_plain_113 : decode cX12_plain 113 = .ok (.iload_n 1, 1) := by decide +kernel
theorem dX12_plain_114 : decode cX12_plain 114 = .ok (.sipush 301, 3) := by decide +kernel
theorem dX12_plain_117 : decode cX12_plain 117 = .ok (.if_icmp .ne 33, 3) := by decide +kernel
theorem dX12_plain_120 : decode cX12_plain 120 = .ok (.iload_n 2, 1) := by decide +kernel
theorem dX12_plain_121 : decode cX12_plain 121 = .ok (.aload_n 0, 1) := by decide +kernel
theorem dX12_plain_122 : decode cX12_plain 122 = .ok (.getfield 30, 3) := by decide +kernel
theorem dX12_plain_125 : decode cX12_plain 125 = .ok (.iload 4, 2) := by decide +kernel
theorem dX12_plain_127 : decode cX12_plain 127 = .ok (.iaload, 1) := by decide +kernel
theorem dX12_plain_128 : decode cX12_plain 128 = .ok (.aload_n 0, 1) := by decide +kernel
theorem dX12_plain_129 : decode cX12_plain 129 = .ok (.getfield 30, 3) := by decide +kernel
theorem dX12_plain_132 : decode cX12_plain 132 = .ok (.iload_n 3, 1) := by decide +kernel
theorem dX12_plain_133 : decode cX12_plain 133 = .ok (.iaload, 1) := by decide +kernel
theorem dX12_plain_134 : decode cX12_plain 134 = .ok (.if_icmp .ne 7, 3) := by decide +kernel
theorem dX12_plain_137 : decode cX12_plain 137 = .ok (.iconst 1, 1) := by decide +kernel
theorem dX12_plain_138 : decode cX12_plain 138 = .ok (.goto 4, 3) := by decide +kernel
theorem dX12_plain_141 : decode cX12_plain 141 = .ok (.iconst 0, 1) := by decide +kernel
theorem dX12_plain_142 : decode cX12_plain 142 = .ok (.iadd, 1) := by decide +kernel
theorem dX12_plain_143 : decode cX12_plain 143 = .ok (.istore_n 2, 1) := by decide +kernel
theorem dX12_plain_144 : decode cX12_plain 144 = .ok (.iinc 4 1, 3) := by decide +kernel
theorem dX12_plain_147 : decode cX12_plain 147 = .ok (.goto (-40), 3) := by decide +kernel
theorem dX12_plain_150 : decode cX12_plain 150 = .ok (.iinc 3 1, 3) := by decide +kernel
theorem dX12_plain_153 : decode cX12_plain 153 = .ok (.goto (-107), 3) := by decide +kernel
theorem dX12_plain_156 : decode cX12_plain 156 = .ok (.iload_n 2, 1) := by decide +kernel
theorem dX12_plain_157 : decode cX12_plain 157 = .ok (.ireturn, 1) := by decide +kernel
theorem dX12_holdsNow_0 : decode cX12_holdsNow 0 = .ok (.iconst 0, 1) := by decide +kernel
theorem dX12_holdsNow_1 : decode cX12_holdsNow 1 = .ok (.istore_n 2, 1) := by decide +kernel
theorem dX12_holdsNow_2 : decode cX12_holdsNow 2 = .ok (.aload_n 0, 1) := by decide +kernel
theorem dX12_holdsNow_3 : decode cX12_holdsNow 3 = .ok (.getfield 9, 3) := by decide +kernel
theorem dX12_holdsNow_6 : decode cX12_holdsNow 6 = .ok (.sipush 144, 3) := by decide +kernel
theorem dX12_holdsNow_9 : decode cX12_holdsNow 9 = .ok (.iload_n 1, 1) := by decide +kernel
theorem dX12_holdsNow_10 : decode cX12_holdsNow 10 = .ok (.iadd, 1) := by decide +kernel
theorem dX12_holdsNow_11 : decode cX12_holdsNow 11 = .ok (.iaload, 1) := by decide +kernel
theorem dX12_holdsNow_12 : decode cX12_holdsNow 12 = .ok (.istore_n 3, 1) := by decide +kernel
theorem dX12_holdsNow_13 : decode cX12_holdsNow 13 = .ok (.iload_n 3, 1) := by decide +kernel
theorem dX12_holdsNow_14 : decode cX12_holdsNow 14 = .ok (.aload_n 0, 1) := by decide +kernel
theorem dX12_holdsNow_15 : decode cX12_holdsNow 15 = .ok (.getfield 9, 3) := by decide +kernel
theorem dX12_holdsNow_18 : decode cX12_holdsNow 18 = .ok (.sipush 144, 3) := by decide +kernel
theorem dX12_holdsNow_21 : decode cX12_holdsNow 21 = .ok (.iload_n 1, 1) := by decide +kernel
theorem dX12_holdsNow_22 : decode cX12_holdsNow 22 = .ok (.iadd, 1) := by decide +kernel
theorem dX12_holdsNow_23 : decode cX12_holdsNow 23 = .ok (.iconst 1, 1) := by decide +kernel
theorem dX12_holdsNow_24 : decode cX12_holdsNow 24 = .ok (.iadd, 1) := by decide +kernel
theorem dX12_holdsNow_25 : decode cX12_holdsNow 25 = .ok (.iaload, 1) := by decide +kernel
theorem dX12_holdsNow_26 : decode cX12_holdsNow 26 = .ok (.if_icmp .ge 106, 3) := by decide +kernel
theorem dX12_holdsNow_29 : decode cX12_holdsNow 29 = .ok (.aload_n 0, 1) := by decide +kernel
theorem dX12_holdsNow_30 : decode cX12_holdsNow 30 = .ok (.getfield 9, 3) := by decide +kernel
theorem dX12_holdsNow_33 : decode cX12_holdsNow 33 = .ok (.sipush 1155, 3) := by decide +kernel
theorem dX12_holdsNow_36 : decode cX12_holdsNow 36 = .ok (.iload_n 3, 1) := by decide +kernel
theorem dX12_holdsNow_37 : decode cX12_holdsNow 37 = .ok (.iadd, 1) := by decide +kernel
theorem dX12_holdsNow_38 : decode cX12_holdsNow 38 = .ok (.iaload, 1) := by decide +kernel
theorem dX12_holdsNow_39 : decode cX12_holdsNow 39 = .ok (.istore 4, 2) := by decide +kernel
theorem dX12_holdsNow_41 : decode cX12_holdsNow 41 = .ok (.iload 4, 2) := by decide +kernel
theorem dX12_holdsNow_43 : decode cX12_holdsNow 43 = .ok (.bipush 100, 2) := by decide +kernel
theorem dX12_holdsNow_45 : decode cX12_holdsNow 45 = .ok (.if_icmp .lt 21, 3) := by decide +kernel
theorem dX12_holdsNow_48 : decode cX12_holdsNow 48 = .ok (.aload_n 0, 1) := by decide +kernel
theorem dX12_holdsNow_49 : decode cX12_holdsNow 49 = .ok (.getfield 33, 3) := by decide +kernel
theorem dX12_holdsNow_52 : decode cX12_holdsNow 52 = .ok (.iload_n 2, 1) := by decide +kernel
theorem dX12_holdsNow_53 : decode cX12_holdsNow 53 = .ok (.aload_n 0, 1) := by decide +kernel
theorem dX12_holdsNow_54 : decode cX12_holdsNow 54 = .ok (.iload 4, 2) := by decide +kernel
theorem dX12_holdsNow_56 : decode cX12_holdsNow 56 = .ok (.invokevirtual 276, 3) := by decide +kernel
theorem dX12_holdsNow_59 : decode cX12_holdsNow 59 = .ok (.iastore, 1) := by decide +kernel
theorem dX12_holdsNow_60 : decode cX12_holdsNow 60 = .ok (.iinc 2 1, 3) := by decide +kernel
theorem dX12_holdsNow_63 : decode cX12_holdsNow 63 = .ok (.goto 63, 3) := by decide +kernel
theorem dX12_holdsNow_66 : decode cX12_holdsNow 66 = .ok (.iload 4, 2) := by decide +kernel
theorem dX12_holdsNow_68 : decode cX12_holdsNow 68 = .ok (.bipush 18, 2) := by decide +kernel
theorem dX12_holdsNow_70 : decode cX12_holdsNow 70 = .ok (.if_icmp .ne 24, 3) := by decide +kernel
theorem dX12_holdsNow_73 : decode cX12_holdsNow 73 = .ok (.aload_n 0, 1) := by decide +kernel
theorem dX12_holdsNow_74 : decode cX12_holdsNow 74 = .ok (.getfield 33, 3) := by decide +kernel
theorem dX12_holdsNow_77 : decode cX12_holdsNow 77 = .ok (.iload_n 2, 1) := by decide +kernel
theorem dX12_holdsNow_78 : decode cX12_holdsNow 78 = .ok (.iconst 1, 1) := by decide +kernel
theorem dX12_holdsNow_79 : decode cX12_holdsNow 79 = .ok (.isub, 1) := by decide +kernel
theorem dX12_holdsNow_80 : decode cX12_holdsNow 80 = .ok (.iconst 1, 1) := by decide +kernel
theorem dX12_holdsNow_81 : decode cX12_holdsNow 81 = .ok (.aload_n 0, 1) := by decide +kernel
theorem dX12_holdsNow_82 : decode cX12_holdsNow 82 = .ok (.getfield 33, 3) := by decide +kernel
theorem dX12_holdsNow_85 : decode cX12_holdsNow 85 = .ok (.iload_n 2, 1) := by decide +kernel
theorem dX12_holdsNow_86 : decode cX12_holdsNow 86 = .ok (.iconst 1, 1) := by decide +kernel
theorem dX12_holdsNow_87 : decode cX12_holdsNow 87 = .ok (.isub, 1) := by decide +kernel
theorem dX12_holdsNow_88 : decode cX12_holdsNow 88 = .ok (.iaload, 1) := by decide +kernel
theorem dX12_holdsNow_89 : decode cX12_holdsNow 89 = .ok (.isub, 1) := by decide +kernel
theorem dX12_holdsNow_90 : decode cX12_holdsNow 90 = .ok (.iastore, 1) := by decide +kernel
theorem dX12_holdsNow_91 : decode cX12_holdsNow 91 = .ok (.goto 35, 3) := by decide +kernel
theorem dX12_holdsNow_94 : decode cX12_holdsNow 94 = .ok (.iinc 2 (-1), 3) := by decide +kernel
theorem dX12_holdsNow_97 : decode cX12_holdsNow 97 = .ok (.aload_n 0, 1) := by decide +kernel
theorem dX12_holdsNow_98 : decode cX12_holdsNow 98 = .ok (.getfield 33, 3) := by decide +kernel
theorem dX12_holdsNow_101 : decode cX12_holdsNow 101 = .ok (.iload_n 2, 1) := by decide +kernel
theorem dX12_holdsNow_102 : decode cX12_holdsNow 102 = .ok (.iconst 1, 1) := by decide +kernel
theorem dX12_holdsNow_103 : decode cX12_holdsNow 103 = .ok (.isub, 1) := by decide +kernel
theorem dX12_holdsNow_104 : decode cX12_holdsNow 104 = .ok (.iload 4, 2) := by decide +kernel
theorem dX12_holdsNow_106 : decode cX12_holdsNow 106 = .ok (.aload_n 0, 1) := by decide +kernel
theorem dX12_holdsNow_107 : decode cX12_holdsNow 107 = .ok (.getfield 33, 3) := by decide +kernel
theorem dX12_holdsNow_110 : decode cX12_holdsNow 110 = .ok (.iload_n 2, 1) := by decide +kernel
theorem dX12_holdsNow_111 : decode cX12_holdsNow 111 = .ok (.iconst 1, 1) := by decide +kernel
theorem dX12_holdsNow_112 : decode cX12_holdsNow 112 = .ok (.isub, 1) := by decide +kernel
theorem dX12_holdsNow_113 : decode cX12_holdsNow 113 = .ok (.iaload, 1) := by decide +kernel
theorem dX12_holdsNow_114 : decode cX12_holdsNow 114 = .ok (.i2l, 1) := by decide +kernel
theorem dX12_holdsNow_115 : decode cX12_holdsNow 115 = .ok (.aload_n 0, 1) := by decide +kernel
theorem dX12_holdsNow_116 : decode cX12_holdsNow 116 = .ok (.getfield 33, 3) := by decide +kernel
theorem dX12_holdsNow_119 : decode cX12_holdsNow 119 = .ok (.iload_n 2, 1) := by decide +kernel
theorem dX12_holdsNow_120 : decode cX12_holdsNow 120 = .ok (.iaload, 1) := by decide +kernel
theorem dX12_holdsNow_121 : decode cX12_holdsNow 121 = .ok (.i2l, 1) := by decide +kernel
theorem dX12_holdsNow_122 : decode cX12_holdsNow 122 = .ok (.invokestatic 279, 3) := by decide +kernel
theorem dX12_holdsNow_125 : decode cX12_holdsNow 125 = .ok (.iastore, 1) := by decide +kernel
theorem dX12_holdsNow_126 : decode cX12_holdsNow 126 = .ok (.iinc 3 1, 3) := by decide +kernel
theorem dX12_holdsNow_129 : decode cX12_holdsNow 129 = .ok (.goto (-116), 3) := by decide +kernel
theorem dX12_holdsNow_132 : decode cX12_holdsNow 132 = .ok (.aload_n 0, 1) := by decide +kernel
theorem dX12_holdsNow_133 : decode cX12_holdsNow 133 = .ok (.getfield 33, 3) := by decide +kernel
theorem dX12_holdsNow_136 : decode cX12_holdsNow 136 = .ok (.iconst 0, 1) := by decide +kernel
theorem dX12_holdsNow_137 : decode cX12_holdsNow 137 = .ok (.iaload, 1) := by decide +kernel
theorem dX12_holdsNow_138 : decode cX12_holdsNow 138 = .ok (.iconst 1, 1) := by decide +kernel
theorem dX12_holdsNow_139 : decode cX12_holdsNow 139 = .ok (.if_icmp .ne 7, 3) := by decide +kernel
theorem dX12_holdsNow_142 : decode cX12_holdsNow 142 = .ok (.iconst 1, 1) := by decide +kernel
theorem dX12_holdsNow_143 : decode cX12_holdsNow 143 = .ok (.goto 4, 3) := by decide +kernel
theorem dX12_holdsNow_146 : decode cX12_holdsNow 146 = .ok (.iconst 0, 1) := by decide +kernel
theorem dX12_holdsNow_147 : decode cX12_holdsNow 147 = .ok (.ireturn, 1) := by decide +kernel
theorem dX12_seenWords_0 : decode cX12_seenWords 0 = .ok (.iconst 0, 1) := by decide +kernel
theorem dX12_seenWords_1 : decode cX12_seenWords 1 = .ok (.istore_n 1, 1) := by decide +kernel
theorem dX12_seenWords_2 : decode cX12_seenWords 2 = .ok (.iconst 0, 1) := by decide +kernel
theorem dX12_seenWords_3 : decode cX12_seenWords 3 = .ok (.istore_n 2, 1) := by decide +kernel
theorem dX12_seenWords_4 : decode cX12_seenWords 4 = .ok (.iload_n 2, 1) := by decide +kernel
theorem dX12_seenWords_5 : decode cX12_seenWords 5 = .ok (.aload_n 0, 1) := by decide +kernel
theorem dX12_seenWords_6 : decode cX12_seenWords 6 = .ok (.invokevirtual 242, 3) := by decide +kernel
theorem dX12_seenWords_9 : decode cX12_seenWords 9 = .ok (.if_icmp .ge 27, 3) := by decide +kernel
theorem dX12_seenWords_12 : decode cX12_seenWords 12 = .ok (.iload_n 1, 1) := by decide +kernel
theorem dX12_seenWords_13 : decode cX12_seenWords 13 = .ok (.aload_n 0, 1) := by decide +kernel
theorem dX12_seenWords_14 : decode cX12_seenWords 14 = .ok (.iload_n 2, 1) := by decide +kernel
theorem dX12_seenWords_15 : decode cX12_seenWords 15 = .ok (.invokevirtual 283, 3) := by decide +kernel
theorem dX12_seenWords_18 : decode cX12_seenWords 18 = .ok (.ifCond .eq 9, 3) := by decide +kernel
theorem dX12_seenWords_21 : decode cX12_seenWords 21 = .ok (.iconst 1, 1) := by decide +kernel
theorem dX12_seenWords_22 : decode cX12_seenWords 22 = .ok (.iload_n 2, 1) := by decide +kernel
theorem dX12_seenWords_23 : decode cX12_seenWords 23 = .ok (.ishl, 1) := by decide +kernel
theorem dX12_seenWords_24 : decode cX12_seenWords 24 = .ok (.goto 4, 3) := by decide +kernel
theorem dX12_seenWords_27 : decode cX12_seenWords 27 = .ok (.iconst 0, 1) := by decide +kernel
theorem dX12_seenWords_28 : decode cX12_seenWords 28 = .ok (.ior, 1) := by decide +kernel
theorem dX12_seenWords_29 : decode cX12_seenWords 29 = .ok (.istore_n 1, 1) := by decide +kernel
theorem dX12_seenWords_30 : decode cX12_seenWords 30 = .ok (.iinc 2 1, 3) := by decide +kernel
theorem dX12_seenWords_33 : decode cX12_seenWords 33 = .ok (.goto (-29), 3) := by decide +kernel
theorem dX12_seenWords_36 : decode cX12_seenWords 36 = .ok (.iload_n 1, 1) := by decide +kernel
theorem dX12_seenWords_37 : decode cX12_seenWords 37 = .ok (.ireturn, 1) := by decide +kernel
theorem dX12_wordsOf_0 : decode cX12_wordsOf 0 = .ok (.iconst 0, 1) := by decide +kernel
theorem dX12_wordsOf_1 : decode cX12_wordsOf 1 = .ok (.istore_n 3, 1) := by decide +kernel
theorem dX12_wordsOf_2 : decode cX12_wordsOf 2 = .ok (.iload_n 3, 1) := by decide +kernel
theorem dX12_wordsOf_3 : decode cX12_wordsOf 3 = .ok (.aload_n 0, 1) := by decide +kernel
theorem dX12_wordsOf_4 : decode cX12_wordsOf 4 = .ok (.getfield 9, 3) := by decide +kernel
theorem dX12_wordsOf_7 : decode cX12_wordsOf 7 = .ok (.iconst 1, 1) := by decide +kernel
theorem dX12_wordsOf_8 : decode cX12_wordsOf 8 = .ok (.iaload, 1) := by decide +kernel
theorem dX12_wordsOf_9 : decode cX12_wordsOf 9 = .ok (.if_icmp .ge 22, 3) := by decide +kernel
theorem dX12_wordsOf_12 : decode cX12_wordsOf 12 = .ok (.aload_n 0, 1) := by decide +kernel
theorem dX12_wordsOf_13 : decode cX12_wordsOf 13 = .ok (.getfield 30, 3) := by decide +kernel
theorem dX12_wordsOf_16 : decode cX12_wordsOf 16 = .ok (.iload_n 3, 1) := by decide +kernel
theorem dX12_wordsOf_17 : decode cX12_wordsOf 17 = .ok (.aload_n 0, 1) := by decide +kernel
theorem dX12_wordsOf_18 : decode cX12_wordsOf 18 = .ok (.iload_n 1, 1) := by decide +kernel
theorem dX12_wordsOf_19 : decode cX12_wordsOf 19 = .ok (.iload_n 3, 1) := by decide +kernel
theorem dX12_wordsOf_20 : decode cX12_wordsOf 20 = .ok (.iload_n 2, 1) := by decide +kernel
theorem dX12_wordsOf_21 : decode cX12_wordsOf 21 = .ok (.invokevirtual 286, 3) := by decide +kernel
theorem dX12_wordsOf_24 : decode cX12_wordsOf 24 = .ok (.iastore, 1) := by decide +kernel
theorem dX12_wordsOf_25 : decode cX12_wordsOf 25 = .ok (.iinc 3 1, 3) := by decide +kernel
theorem dX12_wordsOf_28 : decode cX12_wordsOf 28 = .ok (.goto (-26), 3) := by decide +kernel
theorem dX12_wordsOf_31 : decode cX12_wordsOf 31 = .ok (.aload_n 0, 1) := by decide +kernel
theorem dX12_wordsOf_32 : decode cX12_wordsOf 32 = .ok (.iload_n 1, 1) := by decide +kernel
theorem dX12_wordsOf_33 : decode cX12_wordsOf 33 = .ok (.putfield 273, 3) := by decide +kernel
theorem dX12_wordsOf_36 : decode cX12_wordsOf 36 = .ok (.aload_n 0, 1) := by decide +kernel
theorem dX12_wordsOf_37 : decode cX12_wordsOf 37 = .ok (.invokevirtual 290, 3) := by decide +kernel
theorem dX12_wordsOf_40 : decode cX12_wordsOf 40 = .ok (.ireturn, 1) := by decide +kernel
theorem dX12_laysHold_0 : decode cX12_laysHold 0 = .ok (.iconst 0, 1) := by decide +kernel
theorem dX12_laysHold_1 : decode cX12_laysHold 1 = .ok (.istore_n 1, 1) := by decide +kernel
theorem dX12_laysHold_2 : decode cX12_laysHold 2 = .ok (.iload_n 1, 1) := by decide +kernel
theorem dX12_laysHold_3 : decode cX12_laysHold 3 = .ok (.aload_n 0, 1) := by decide +kernel
theorem dX12_laysHold_4 : decode cX12_laysHold 4 = .ok (.invokevirtual 245, 3) := by decide +kernel
theorem dX12_laysHold_7 : decode cX12_laysHold 7 = .ok (.if_icmp .ge 65, 3) := by decide +kernel
theorem dX12_laysHold_10 : decode cX12_laysHold 10 = .ok (.aload_n 0, 1) := by decide +kernel
theorem dX12_laysHold_11 : decode cX12_laysHold 11 = .ok (.getfield 39, 3) := by decide +kernel
theorem dX12_laysHold_14 : decode cX12_laysHold 14 = .ok (.iload_n 1, 1) := by decide +kernel
theorem dX12_laysHold_15 : decode cX12_laysHold 15 = .ok (.aload_n 0, 1) := by decide +kernel
theorem dX12_laysHold_16 : decode cX12_laysHold 16 = .ok (.iload_n 1, 1) := by decide +kernel
theorem dX12_laysHold_17 : decode cX12_laysHold 17 = .ok (.iconst 0, 1) := by decide +kernel
theorem dX12_laysHold_18 : decode cX12_laysHold 18 = .ok (.invokevirtual 293, 3) := by decide +kernel
theorem dX12_laysHold_21 : decode cX12_laysHold 21 = .ok (.iastore, 1) := by decide +kernel
theorem dX12_laysHold_22 : decode cX12_laysHold 22 = .ok (.aload_n 0, 1) := by decide +kernel
theorem dX12_laysHold_23 : decode cX12_laysHold 23 = .ok (.getfield 42, 3) := by decide +kernel
theorem dX12_laysHold_26 : decode cX12_laysHold 26 = .ok (.iload_n 1, 1) := by decide +kernel
theorem dX12_laysHold_27 : decode cX12_laysHold 27 = .ok (.aload_n 0, 1) := by decide +kernel
theorem dX12_laysHold_28 : decode cX12_laysHold 28 = .ok (.iload_n 1, 1) := by decide +kernel
theorem dX12_laysHold_29 : decode cX12_laysHold 29 = .ok (.iconst 1, 1) := by decide +kernel
theorem dX12_laysHold_30 : decode cX12_laysHold 30 = .ok (.invokevirtual 293, 3) := by decide +kernel
theorem dX12_laysHold_33 : decode cX12_laysHold 33 = .ok (.iastore, 1) := by decide +kernel
theorem dX12_laysHold_34 : decode cX12_laysHold 34 = .ok (.aload_n 0, 1) := by decide +kernel
theorem dX12_laysHold_35 : decode cX12_laysHold 35 = .ok (.getfield 36, 3) := by decide +kernel
theorem dX12_laysHold_38 : decode cX12_laysHold 38 = .ok (.iload_n 1, 1) := by decide +kernel
theorem dX12_laysHold_39 : decode cX12_laysHold 39 = .ok (.aload_n 0, 1) := by decide +kernel
theorem dX12_laysHold_40 : decode cX12_laysHold 40 = .ok (.getfield 9, 3) := by decide +kernel
theorem dX12_laysHold_43 : decode cX12_laysHold 43 = .ok (.bipush 94, 2) := by decide +kernel
theorem dX12_laysHold_45 : decode cX12_laysHold 45 = .ok (.iaload, 1) := by decide +kernel
theorem dX12_laysHold_46 : decode cX12_laysHold 46 = .ok (.iconst 1, 1) := by decide +kernel
theorem dX12_laysHold_47 : decode cX12_laysHold 47 = .ok (.if_icmp .ne 12, 3) := by decide +kernel
theorem dX12_laysHold_50 : decode cX12_laysHold 50 = .ok (.aload_n 0, 1) := by decide +kernel
theorem dX12_laysHold_51 : decode cX12_laysHold 51 = .ok (.getfield 42, 3) := by decide +kernel
theorem dX12_laysHold_54 : decode cX12_laysHold 54 = .ok (.iload_n 1, 1) := by decide +kernel
theorem dX12_laysHold_55 : decode cX12_laysHold 55 = .ok (.iaload, 1) := by decide +kernel
theorem dX12_laysHold_56 : decode cX12_laysHold 56 = .ok (.goto 9, 3) := by decide +kernel
theorem dX12_laysHold_59 : decode cX12_laysHold 59 = .ok (.aload_n 0, 1) := by decide +kernel
theorem dX12_laysHold_60 : decode cX12_laysHold 60 = .ok (.getfield 39, 3) := by decide +kernel
theorem dX12_laysHold_63 : decode cX12_laysHold 63 = .ok (.iload_n 1, 1) := by decide +kernel
theorem dX12_laysHold_64 : decode cX12_laysHold 64 = .ok (.iaload, 1) := by decide +kernel
theorem dX12_laysHold_65 : decode cX12_laysHold 65 = .ok (.iastore, 1) := by decide +kernel
theorem dX12_laysHold_66 : decode cX12_laysHold 66 = .ok (.iinc 1 1, 3) := by decide +kernel
theorem dX12_laysHold_69 : decode cX12_laysHold 69 = .ok (.goto (-67), 3) := by decide +kernel
theorem dX12_laysHold_72 : decode cX12_laysHold 72 = .ok (.return_, 1) := by decide +kernel
theorem dX12_likeIt_0 : decode cX12_likeIt 0 = .ok (.iconst 0, 1) := by decide +kernel
theorem dX12_likeIt_1 : decode cX12_likeIt 1 = .ok (.istore_n 2, 1) := by decide +kernel
theorem dX12_likeIt_2 : decode cX12_likeIt 2 = .ok (.iconst 0, 1) := by decide +kernel
theorem dX12_likeIt_3 : decode cX12_likeIt 3 = .ok (.istore_n 3, 1) := by decide +kernel
theorem dX12_likeIt_4 : decode cX12_likeIt 4 = .ok (.iload_n 3, 1) := by decide +kernel
theorem dX12_likeIt_5 : decode cX12_likeIt 5 = .ok (.aload_n 0, 1) := by decide +kernel
theorem dX12_likeIt_6 : decode cX12_likeIt 6 = .ok (.invokevirtual 245, 3) := by decide +kernel
theorem dX12_likeIt_9 : decode cX12_likeIt 9 = .ok (.if_icmp .ge 45, 3) := by decide +kernel
theorem dX12_likeIt_12 : decode cX12_likeIt 12 = .ok (.iload_n 2, 1) := by decide +kernel
theorem dX12_likeIt_13 : decode cX12_likeIt 13 = .ok (.iload_n 3, 1) := by decide +kernel
theorem dX12_likeIt_14 : decode cX12_likeIt 14 = .ok (.iload_n 1, 1) := by decide +kernel
theorem dX12_likeIt_15 : decode cX12_likeIt 15 = .ok (.if_icmp .eq 30, 3) := by decide +kernel
theorem dX12_likeIt_18 : decode cX12_likeIt 18 = .ok (.aload_n 0, 1) := by decide +kernel
theorem dX12_likeIt_19 : decode cX12_likeIt 19 = .ok (.iload_n 3, 1) := by decide +kernel
theorem dX12_likeIt_20 : decode cX12_likeIt 20 = .ok (.invokevirtual 250, 3) := by decide +kernel
theorem dX12_likeIt_23 : decode cX12_likeIt 23 = .ok (.ifCond .eq 22, 3) := by decide +kernel
theorem dX12_likeIt_26 : decode cX12_likeIt 26 = .ok (.aload_n 0, 1) := by decide +kernel
theorem dX12_likeIt_27 : decode cX12_likeIt 27 = .ok (.getfield 36, 3) := by decide +kernel
theorem dX12_likeIt_30 : decode cX12_likeIt 30 = .ok (.iload_n 3, 1) := by decide +kernel
theorem dX12_likeIt_31 : decode cX12_likeIt 31 = .ok (.iaload, 1) := by decide +kernel
theorem dX12_likeIt_32 : decode cX12_likeIt 32 = .ok (.aload_n 0, 1) := by decide +kernel
theorem dX12_likeIt_33 : decode cX12_likeIt 33 = .ok (.getfield 36, 3) := by decide +kernel
theorem dX12_likeIt_36 : decode cX12_likeIt 36 = .ok (.iload_n 1, 1) := by decide +kernel
theorem dX12_likeIt_37 : decode cX12_likeIt 37 = .ok (.iaload, 1) := by decide +kernel
theorem dX12_likeIt_38 : decode cX12_likeIt 38 = .ok (.if_icmp .ne 7, 3) := by decide +kernel
theorem dX12_likeIt_41 : decode cX12_likeIt 41 = .ok (.iconst 1, 1) := by decide +kernel
theorem dX12_likeIt_42 : decode cX12_likeIt 42 = .ok (.goto 4, 3) := by decide +kernel
theorem dX12_likeIt_45 : decode cX12_likeIt 45 = .ok (.iconst 0, 1) := by decide +kernel
theorem dX12_likeIt_46 : decode cX12_likeIt 46 = .ok (.iadd, 1) := by decide +kernel
theorem dX12_likeIt_47 : decode cX12_likeIt 47 = .ok (.istore_n 2, 1) := by decide +kernel
theorem dX12_likeIt_48 : decode cX12_likeIt 48 = .ok (.iinc 3 1, 3) := by decide +kernel
theorem dX12_likeIt_51 : decode cX12_likeIt 51 = .ok (.goto (-47), 3) := by decide +kernel
theorem dX12_likeIt_54 : decode cX12_likeIt 54 = .ok (.iload_n 2, 1) := by decide +kernel
theorem dX12_likeIt_55 : decode cX12_likeIt 55 = .ok (.ireturn, 1) := by decide +kernel
theorem dX12_mark_0 : decode cX12_mark 0 = .ok (.aload_n 0, 1) := by decide +kernel
theorem dX12_mark_1 : decode cX12_mark 1 = .ok (.iconst 0, 1) := by decide +kernel
theorem dX12_mark_2 : decode cX12_mark 2 = .ok (.putfield 68, 3) := by decide +kernel
theorem dX12_mark_5 : decode cX12_mark 5 = .ok (.aload_n 0, 1) := by decide +kernel
theorem dX12_mark_6 : decode cX12_mark 6 = .ok (.iload_n 1, 1) := by decide +kernel
theorem dX12_mark_7 : decode cX12_mark 7 = .ok (.i2l, 1) := by decide +kernel
theorem dX12_mark_8 : decode cX12_mark 8 = .ok (.invokevirtual 297, 3) := by decide +kernel
theorem dX12_mark_11 : decode cX12_mark 11 = .ok (.ifCond .eq 41, 3) := by decide +kernel
theorem dX12_mark_14 : decode cX12_mark 14 = .ok (.aload_n 0, 1) := by decide +kernel
theorem dX12_mark_15 : decode cX12_mark 15 = .ok (.iload_n 2, 1) := by decide +kernel
theorem dX12_mark_16 : decode cX12_mark 16 = .ok (.i2l, 1) := by decide +kernel
theorem dX12_mark_17 : decode cX12_mark 17 = .ok (.invokevirtual 301, 3) := by decide +kernel
theorem dX12_mark_20 : decode cX12_mark 20 = .ok (.ifCond .eq 32, 3) := by decide +kernel
theorem dX12_mark_23 : decode cX12_mark 23 = .ok (.aload_n 0, 1) := by decide +kernel
theorem dX12_mark_24 : decode cX12_mark 24 = .ok (.iload_n 1, 1) := by decide +kernel
theorem dX12_mark_25 : decode cX12_mark 25 = .ok (.iload_n 2, 1) := by decide +kernel
theorem dX12_mark_26 : decode cX12_mark 26 = .ok (.iload_n 3, 1) := by decide +kernel
theorem dX12_mark_27 : decode cX12_mark 27 = .ok (.ifCond .eq 18, 3) := by decide +kernel
theorem dX12_mark_30 : decode cX12_mark 30 = .ok (.aload_n 0, 1) := by decide +kernel
theorem dX12_mark_31 : decode cX12_mark 31 = .ok (.getfield 9, 3) := by decide +kernel
theorem dX12_mark_34 : decode cX12_mark 34 = .ok (.bipush 94, 2) := by decide +kernel
theorem dX12_mark_36 : decode cX12_mark 36 = .ok (.iaload, 1) := by decide +kernel
theorem dX12_mark_37 : decode cX12_mark 37 = .ok (.iconst 1, 1) := by decide +kernel
theorem dX12_mark_38 : decode cX12_mark 38 = .ok (.if_icmp .ne 7, 3) := by decide +kernel
theorem dX12_mark_41 : decode cX12_mark 41 = .ok (.iconst 1, 1) := by decide +kernel
theorem dX12_mark_42 : decode cX12_mark 42 = .ok (.goto 4, 3) := by decide +kernel
theorem dX12_mark_45 : decode cX12_mark 45 = .ok (.iconst 0, 1) := by decide +kernel
theorem dX12_mark_46 : decode cX12_mark 46 = .ok (.invokevirtual 286, 3) := by decide +kernel
theorem dX12_mark_49 : decode cX12_mark 49 = .ok (.goto 8, 3) := by decide +kernel
theorem dX12_mark_52 : decode cX12_mark 52 = .ok (.aload_n 0, 1) := by decide +kernel
theorem dX12_mark_53 : decode cX12_mark 53 = .ok (.iconst 1, 1) := by decide +kernel
theorem dX12_mark_54 : decode cX12_mark 54 = .ok (.invokevirtual 224, 3) := by decide +kernel
theorem dX12_mark_57 : decode cX12_mark 57 = .ok (.ireturn, 1) := by decide +kernel
theorem dX12_chest_0 : decode cX12_chest 0 = .ok (.aload_n 0, 1) := by decide +kernel
theorem dX12_chest_1 : decode cX12_chest 1 = .ok (.aload_n 0, 1) := by decide +kernel
theorem dX12_chest_2 : decode cX12_chest 2 = .ok (.iload_n 1, 1) := by decide +kernel
theorem dX12_chest_3 : decode cX12_chest 3 = .ok (.i2l, 1) := by decide +kernel
theorem dX12_chest_4 : decode cX12_chest 4 = .ok (.invokevirtual 297, 3) := by decide +kernel
theorem dX12_chest_7 : decode cX12_chest 7 = .ok (.ifCond .ne 7, 3) := by decide +kernel
theorem dX12_chest_10 : decode cX12_chest 10 = .ok (.iconst 1, 1) := by decide +kernel
theorem dX12_chest_11 : decode cX12_chest 11 = .ok (.goto 20, 3) := by decide +kernel
theorem dX12_chest_14 : decode cX12_chest 14 = .ok (.iload_n 2, 1) := by decide +kernel
theorem dX12_chest_15 : decode cX12_chest 15 = .ok (.i2l, 1) := by decide +kernel
theorem dX12_chest_16 : decode cX12_chest 16 = .ok (.lconst 0, 1) := by decide +kernel
theorem dX12_chest_17 : decode cX12_chest 17 = .ok (.ldc2_w 304, 3) := by decide +kernel
theorem dX12_chest_20 : decode cX12_chest 20 = .ok (.invokestatic 132, 3) := by decide +kernel
theorem dX12_chest_23 : decode cX12_chest 23 = .ok (.ifCond .eq 7, 3) := by decide +kernel
theorem dX12_chest_26 : decode cX12_chest 26 = .ok (.iconst 0, 1) := by decide +kernel
theorem dX12_chest_27 : decode cX12_chest 27 = .ok (.goto 4, 3) := by decide +kernel
theorem dX12_chest_30 : decode cX12_chest 30 = .ok (.iconst 2, 1) := by decide +kernel
theorem dX12_chest_31 : decode cX12_chest 31 = .ok (.putfield 68, 3) := by decide +kernel
theorem dX12_chest_34 : decode cX12_chest 34 = .ok (.aload_n 0, 1) := by decide +kernel
theorem dX12_chest_35 : decode cX12_chest 35 = .ok (.getfield 68, 3) := by decide +kernel
theorem dX12_chest_38 : decode cX12_chest 38 = .ok (.ifCond .le 5, 3) := by decide +kernel
theorem dX12_chest_41 : decode cX12_chest 41 = .ok (.iconst 0, 1) := by decide +kernel
theorem dX12_chest_42 : decode cX12_chest 42 = .ok (.ireturn, 1) := by decide +kernel
theorem dX12_chest_43 : decode cX12_chest 43 = .ok (.aload_n 0, 1) := by decide +kernel
theorem dX12_chest_44 : decode cX12_chest 44 = .ok (.invokevirtual 306, 3) := by decide +kernel
theorem dX12_chest_47 : decode cX12_chest 47 = .ok (.iload_n 2, 1) := by decide +kernel
theorem dX12_chest_48 : decode cX12_chest 48 = .ok (.ifCond .ne 19, 3) := by decide +kernel
theorem dX12_chest_51 : decode cX12_chest 51 = .ok (.aload_n 0, 1) := by decide +kernel
theorem dX12_chest_52 : decode cX12_chest 52 = .ok (.iload_n 1, 1) := by decide +kernel
theorem dX12_chest_53 : decode cX12_chest 53 = .ok (.invokevirtual 250, 3) := by decide +kernel
theorem dX12_chest_56 : decode cX12_chest 56 = .ok (.ifCond .eq 7, 3) := by decide +kernel
theorem dX12_chest_59 : decode cX12_chest 59 = .ok (.iconst 1, 1) := by decide +kernel
theorem dX12_chest_60 : decode cX12_chest 60 = .ok (.goto 26, 3) := by decide +kernel
theorem dX12_chest_63 : decode cX12_chest 63 = .ok (.iconst 0, 1) := by decide +kernel
theorem dX12_chest_64 : decode cX12_chest 64 = .ok (.goto 22, 3) := by decide +kernel
theorem dX12_chest_67 : decode cX12_chest 67 = .ok (.iload_n 2, 1) := by decide +kernel
theorem dX12_chest_68 : decode cX12_chest 68 = .ok (.iconst 1, 1) := by decide +kernel
theorem dX12_chest_69 : decode cX12_chest 69 = .ok (.if_icmp .ne 12, 3) := by decide +kernel
theorem dX12_chest_72 : decode cX12_chest 72 = .ok (.aload_n 0, 1) := by decide +kernel
theorem dX12_chest_73 : decode cX12_chest 73 = .ok (.getfield 36, 3) := by decide +kernel
theorem dX12_chest_76 : decode cX12_chest 76 = .ok (.iload_n 1, 1) := by decide +kernel
theorem dX12_chest_77 : decode cX12_chest 77 = .ok (.iaload, 1) := by decide +kernel
theorem dX12_chest_78 : decode cX12_chest 78 = .ok (.goto 8, 3) := by decide +kernel
theorem dX12_chest_81 : decode cX12_chest 81 = .ok (.aload_n 0, 1) := by decide +kernel
theorem dX12_chest_82 : decode cX12_chest 82 = .ok (.iload_n 1, 1) := by decide +kernel
theorem dX12_chest_83 : decode cX12_chest 83 = .ok (.invokevirtual 309, 3) := by decide +kernel
theorem dX12_chest_86 : decode cX12_chest 86 = .ok (.ireturn, 1) := by decide +kernel
theorem dX12_word_0 : decode cX12_word 0 = .ok (.aload_n 0, 1) := by decide +kernel
theorem dX12_word_1 : decode cX12_word 1 = .ok (.aload_n 0, 1) := by decide +kernel
theorem dX12_word_2 : decode cX12_word 2 = .ok (.iload_n 1, 1) := by decide +kernel
theorem dX12_word_3 : decode cX12_word 3 = .ok (.invokevirtual 312, 3) := by decide +kernel
theorem dX12_word_6 : decode cX12_word 6 = .ok (.ifCond .ne 7, 3) := by decide +kernel
theorem dX12_word_9 : decode cX12_word 9 = .ok (.iconst 1, 1) := by decide +kernel
theorem dX12_word_10 : decode cX12_word 10 = .ok (.goto 20, 3) := by decide +kernel
theorem dX12_word_13 : decode cX12_word 13 = .ok (.iload_n 2, 1) := by decide +kernel
theorem dX12_word_14 : decode cX12_word 14 = .ok (.i2l, 1) := by decide +kernel
theorem dX12_word_15 : decode cX12_word 15 = .ok (.lconst 0, 1) := by decide +kernel
theorem dX12_word_16 : decode cX12_word 16 = .ok (.ldc2_w 315, 3) := by decide +kernel
theorem dX12_word_19 : decode cX12_word 19 = .ok (.invokestatic 132, 3) := by decide +kernel
theorem dX12_word_22 : decode cX12_word 22 = .ok (.ifCond .eq 7, 3) := by decide +kernel
theorem dX12_word_25 : decode cX12_word 25 = .ok (.iconst 0, 1) := by decide +kernel
theorem dX12_word_26 : decode cX12_word 26 = .ok (.goto 4, 3) := by decide +kernel
theorem dX12_word_29 : decode cX12_word 29 = .ok (.iconst 2, 1) := by decide +kernel
theorem dX12_word_30 : decode cX12_word 30 = .ok (.putfield 68, 3) := by decide +kernel
theorem dX12_word_33 : decode cX12_word 33 = .ok (.aload_n 0, 1) := by decide +kernel
theorem dX12_word_34 : decode cX12_word 34 = .ok (.getfield 68, 3) := by decide +kernel
theorem dX12_word_37 : decode cX12_word 37 = .ok (.ifCond .le 5, 3) := by decide +kernel
theorem dX12_word_40 : decode cX12_word 40 = .ok (.iconst 0, 1) := by decide +kernel
theorem dX12_word_41 : decode cX12_word 41 = .ok (.ireturn, 1) := by decide +kernel
theorem dX12_word_42 : decode cX12_word 42 = .ok (.aload_n 0, 1) := by decide +kernel
theorem dX12_word_43 : decode cX12_word 43 = .ok (.invokevirtual 306, 3) := by decide +kernel
theorem dX12_word_46 : decode cX12_word 46 = .ok (.iload_n 2, 1) := by decide +kernel
theorem dX12_word_47 : decode cX12_word 47 = .ok (.tableswitch 75 0 2 #[25, 35, 55], 25) := by decide +kernel
theorem dX12_word_72 : decode cX12_word 72 = .ok (.aload_n 0, 1) := by decide +kernel
theorem dX12_word_73 : decode cX12_word 73 = .ok (.getfield 9, 3) := by decide +kernel
theorem dX12_word_76 : decode cX12_word 76 = .ok (.bipush 109, 2) := by decide +kernel
theorem dX12_word_78 : decode cX12_word 78 = .ok (.iload_n 1, 1) := by decide +kernel
theorem dX12_word_79 : decode cX12_word 79 = .ok (.iadd, 1) := by decide +kernel
theorem dX12_word_80 : decode cX12_word 80 = .ok (.iaload, 1) := by decide +kernel
theorem dX12_word_81 : decode cX12_word 81 = .ok (.ireturn, 1) := by decide +kernel
theorem dX12_word_82 : decode cX12_word 82 = .ok (.aload_n 0, 1) := by decide +kernel
theorem dX12_word_83 : decode cX12_word 83 = .ok (.getfield 9, 3) := by decide +kernel
theorem dX12_word_86 : decode cX12_word 86 = .ok (.bipush 119, 2) := by decide +kernel
theorem dX12_word_88 : decode cX12_word 88 = .ok (.iaload, 1) := by decide +kernel
theorem dX12_word_89 : decode cX12_word 89 = .ok (.iload_n 1, 1) := by decide +kernel
theorem dX12_word_90 : decode cX12_word 90 = .ok (.invokestatic 248, 3) := by decide +kernel
theorem dX12_word_93 : decode cX12_word 93 = .ok (.ifCond .eq 7, 3) := by decide +kernel
theorem dX12_word_96 : decode cX12_word 96 = .ok (.iconst 1, 1) := by decide +kernel
theorem dX12_word_97 : decode cX12_word 97 = .ok (.goto 4, 3) := by decide +kernel
theorem dX12_word_100 : decode cX12_word 100 = .ok (.iconst 0, 1) := by decide +kernel
theorem dX12_word_101 : decode cX12_word 101 = .ok (.ireturn, 1) := by decide +kernel
theorem dX12_word_102 : decode cX12_word 102 = .ok (.aload_n 0, 1) := by decide +kernel
theorem dX12_word_103 : decode cX12_word 103 = .ok (.getfield 9, 3) := by decide +kernel
theorem dX12_word_106 : decode cX12_word 106 = .ok (.bipush 95, 2) := by decide +kernel
theorem dX12_word_108 : decode cX12_word 108 = .ok (.iaload, 1) := by decide +kernel
theorem dX12_word_109 : decode cX12_word 109 = .ok (.iload_n 1, 1) := by decide +kernel
theorem dX12_word_110 : decode cX12_word 110 = .ok (.invokestatic 248, 3) := by decide +kernel
theorem dX12_word_113 : decode cX12_word 113 = .ok (.ifCond .eq 7, 3) := by decide +kernel
theorem dX12_word_116 : decode cX12_word 116 = .ok (.iconst 1, 1) := by decide +kernel
theorem dX12_word_117 : decode cX12_word 117 = .ok (.goto 4, 3) := by decide +kernel
theorem dX12_word_120 : decode cX12_word 120 = .ok (.iconst 0, 1) := by decide +kernel
theorem dX12_word_121 : decode cX12_word 121 = .ok (.ireturn, 1) := by decide +kernel
theorem dX12_word_122 : decode cX12_word 122 = .ok (.aload_n 0, 1) := by decide +kernel
theorem dX12_word_123 : decode cX12_word 123 = .ok (.iload_n 1, 1) := by decide +kernel
theorem dX12_word_124 : decode cX12_word 124 = .ok (.invokevirtual 317, 3) := by decide +kernel
theorem dX12_word_127 : decode cX12_word 127 = .ok (.ireturn, 1) := by decide +kernel
theorem dX12_inBy_0 : decode cX12_inBy 0 = .ok (.iconst 0, 1) := by decide +kernel
theorem dX12_inBy_1 : decode cX12_inBy 1 = .ok (.istore_n 2, 1) := by decide +kernel
theorem dX12_inBy_2 : decode cX12_inBy 2 = .ok (.iconst 0, 1) := by decide +kernel
theorem dX12_inBy_3 : decode cX12_inBy 3 = .ok (.istore_n 3, 1) := by decide +kernel
theorem dX12_inBy_4 : decode cX12_inBy 4 = .ok (.iload_n 3, 1) := by decide +kernel
theorem dX12_inBy_5 : decode cX12_inBy 5 = .ok (.aload_n 0, 1) := by decide +kernel
theorem dX12_inBy_6 : decode cX12_inBy 6 = .ok (.invokevirtual 245, 3) := by decide +kernel
theorem dX12_inBy_9 : decode cX12_inBy 9 = .ok (.if_icmp .ge 40, 3) := by decide +kernel
theorem dX12_inBy_12 : decode cX12_inBy 12 = .ok (.iload_n 2, 1) := by decide +kernel
theorem dX12_inBy_13 : decode cX12_inBy 13 = .ok (.aload_n 0, 1) := by decide +kernel
theorem dX12_inBy_14 : decode cX12_inBy 14 = .ok (.iload_n 3, 1) := by decide +kernel
theorem dX12_inBy_15 : decode cX12_inBy 15 = .ok (.invokevirtual 250, 3) := by decide +kernel
theorem dX12_inBy_18 : decode cX12_inBy 18 = .ok (.ifCond .eq 22, 3) := by decide +kernel
theorem dX12_inBy_21 : decode cX12_inBy 21 = .ok (.aload_n 0, 1) := by decide +kernel
theorem dX12_inBy_22 : decode cX12_inBy 22 = .ok (.getfield 36, 3) := by decide +kernel
theorem dX12_inBy_25 : decode cX12_inBy 25 = .ok (.iload_n 3, 1) := by decide +kernel
theorem dX12_inBy_26 : decode cX12_inBy 26 = .ok (.iaload, 1) := by decide +kernel
theorem dX12_inBy_27 : decode cX12_inBy 27 = .ok (.iload_n 1, 1) := by decide +kernel
theorem dX12_inBy_28 : decode cX12_inBy 28 = .ok (.invokestatic 248, 3) := by decide +kernel
theorem dX12_inBy_31 : decode cX12_inBy 31 = .ok (.ifCond .eq 9, 3) := by decide +kernel
theorem dX12_inBy_34 : decode cX12_inBy 34 = .ok (.iconst 1, 1) := by decide +kernel
theorem dX12_inBy_35 : decode cX12_inBy 35 = .ok (.iload_n 3, 1) := by decide +kernel
theorem dX12_inBy_36 : decode cX12_inBy 36 = .ok (.ishl, 1) := by decide +kernel
theorem dX12_inBy_37 : decode cX12_inBy 37 = .ok (.goto 4, 3) := by decide +kernel
theorem dX12_inBy_40 : decode cX12_inBy 40 = .ok (.iconst 0, 1) := by decide +kernel
theorem dX12_inBy_41 : decode cX12_inBy 41 = .ok (.ior, 1) := by decide +kernel
theorem dX12_inBy_42 : decode cX12_inBy 42 = .ok (.istore_n 2, 1) := by decide +kernel
theorem dX12_inBy_43 : decode cX12_inBy 43 = .ok (.iinc 3 1, 3) := by decide +kernel
theorem dX12_inBy_46 : decode cX12_inBy 46 = .ok (.goto (-42), 3) := by decide +kernel
theorem dX12_inBy_49 : decode cX12_inBy 49 = .ok (.iload_n 2, 1) := by decide +kernel
theorem dX12_inBy_50 : decode cX12_inBy 50 = .ok (.ireturn, 1) := by decide +kernel
theorem dX12_holds_0 : decode cX12_holds 0 = .ok (.aload_n 0, 1) := by decide +kernel
theorem dX12_holds_1 : decode cX12_holds 1 = .ok (.aload_n 0, 1) := by decide +kernel
theorem dX12_holds_2 : decode cX12_holds 2 = .ok (.iload_n 1, 1) := by decide +kernel
theorem dX12_holds_3 : decode cX12_holds 3 = .ok (.invokevirtual 312, 3) := by decide +kernel
theorem dX12_holds_6 : decode cX12_holds 6 = .ok (.ifCond .eq 16, 3) := by decide +kernel
theorem dX12_holds_9 : decode cX12_holds 9 = .ok (.aload_n 0, 1) := by decide +kernel
theorem dX12_holds_10 : decode cX12_holds 10 = .ok (.iload_n 2, 1) := by decide +kernel
theorem dX12_holds_11 : decode cX12_holds 11 = .ok (.i2l, 1) := by decide +kernel
theorem dX12_holds_12 : decode cX12_holds 12 = .ok (.invokevirtual 297, 3) := by decide +kernel
theorem dX12_holds_15 : decode cX12_holds 15 = .ok (.ifCond .eq 7, 3) := by decide +kernel
theorem dX12_holds_18 : decode cX12_holds 18 = .ok (.iconst 0, 1) := by decide +kernel
theorem dX12_holds_19 : decode cX12_holds 19 = .ok (.goto 4, 3) := by decide +kernel
theorem dX12_holds_22 : decode cX12_holds 22 = .ok (.iconst 1, 1) := by decide +kernel
theorem dX12_holds_23 : decode cX12_holds 23 = .ok (.putfield 68, 3) := by decide +kernel
theorem dX12_holds_26 : decode cX12_holds 26 = .ok (.aload_n 0, 1) := by decide +kernel
theorem dX12_holds_27 : decode cX12_holds 27 = .ok (.getfield 68, 3) := by decide +kernel
theorem dX12_holds_30 : decode cX12_holds 30 = .ok (.ifCond .ne 20, 3) := by decide +kernel
theorem dX12_holds_33 : decode cX12_holds 33 = .ok (.aload_n 0, 1) := by decide +kernel
theorem dX12_holds_34 : decode cX12_holds 34 = .ok (.iload_n 2, 1) := by decide +kernel
theorem dX12_holds_35 : decode cX12_holds 35 = .ok (.iload_n 3, 1) := by decide +kernel
theorem dX12_holds_36 : decode cX12_holds 36 = .ok (.invokevirtual 293, 3) := by decide +kernel
theorem dX12_holds_39 : decode cX12_holds 39 = .ok (.iload_n 1, 1) := by decide +kernel
theorem dX12_holds_40 : decode cX12_holds 40 = .ok (.invokestatic 248, 3) := by decide +kernel
theorem dX12_holds_43 : decode cX12_holds 43 = .ok (.ifCond .eq 7, 3) := by decide +kernel
theorem dX12_holds_46 : decode cX12_holds 46 = .ok (.iconst 1, 1) := by decide +kernel
theorem dX12_holds_47 : decode cX12_holds 47 = .ok (.goto 4, 3) := by decide +kernel
theorem dX12_holds_50 : decode cX12_holds 50 = .ok (.iconst 0, 1) := by decide +kernel
theorem dX12_holds_51 : decode cX12_holds 51 = .ok (.ireturn, 1) := by decide +kernel
theorem dX12_isDescription_0 : decode cX12_isDescription 0 = .ok (.iload_n 1, 1) := by decide +kernel
theorem dX12_isDescription_1 : decode cX12_isDescription 1 = .ok (.sipush 1023, 3) := by decide +kernel
theorem dX12_isDescription_4 : decode cX12_isDescription 4 = .ok (.iand, 1) := by decide +kernel
theorem dX12_isDescription_5 : decode cX12_isDescription 5 = .ok (.istore_n 2, 1) := by decide +kernel
theorem dX12_isDescription_6 : decode cX12_isDescription 6 = .ok (.iload_n 1, 1) := by decide +kernel
theorem dX12_isDescription_7 : decode cX12_isDescription 7 = .ok (.bipush 10, 2) := by decide +kernel
theorem dX12_isDescription_9 : decode cX12_isDescription 9 = .ok (.ishr, 1) := by decide +kernel
theorem dX12_isDescription_10 : decode cX12_isDescription 10 = .ok (.istore_n 3, 1) := by decide +kernel
theorem dX12_isDescription_11 : decode cX12_isDescription 11 = .ok (.iload_n 1, 1) := by decide +kernel
theorem dX12_isDescription_12 : decode cX12_isDescription 12 = .ok (.ifCond .lt 33, 3) := by decide +kernel
theorem dX12_isDescription_15 : decode cX12_isDescription 15 = .ok (.iload_n 3, 1) := by decide +kernel
theorem dX12_isDescription_16 : decode cX12_isDescription 16 = .ok (.sipush 1024, 3) := by decide +kernel
theorem dX12_isDescription_19 : decode cX12_isDescription 19 = .ok (.if_icmp .ge 26, 3) := by decide +kernel
theorem dX12_isDescription_22 : decode cX12_isDescription 22 = .ok (.iload_n 2, 1) := by decide +kernel
theorem dX12_isDescription_23 : decode cX12_isDescription 23 = .ok (.iload_n 3, 1) := by decide +kernel
theorem dX12_isDescription_24 : decode cX12_isDescription 24 = .ok (.iand, 1) := by decide +kernel
theorem dX12_isDescription_25 : decode cX12_isDescription 25 = .ok (.ifCond .ne 20, 3) := by decide +kernel
theorem dX12_isDescription_28 : decode cX12_isDescription 28 = .ok (.iload_n 2, 1) := by decide +kernel
theorem dX12_isDescription_29 : decode cX12_isDescription 29 = .ok (.iload_n 3, 1) := by decide +kernel
theorem dX12_isDescription_30 : decode cX12_isDescription 30 = .ok (.ior, 1) := by decide +kernel
theorem dX12_isDescription_31 : decode cX12_isDescription 31 = .ok (.aload_n 0, 1) := by decide +kernel
theorem dX12_isDescription_32 : decode cX12_isDescription 32 = .ok (.invokevirtual 320, 3) := by decide +kernel
theorem dX12_isDescription_35 : decode cX12_isDescription 35 = .ok (.iconst (-1), 1) := by decide +kernel
theorem dX12_isDescription_36 : decode cX12_isDescription 36 = .ok (.ixor, 1) := by decide +kernel
theorem dX12_isDescription_37 : decode cX12_isDescription 37 = .ok (.iand, 1) := by decide +kernel
theorem dX12_isDescription_38 : decode cX12_isDescription 38 = .ok (.ifCond .ne 7, 3) := by decide +kernel
theorem dX12_isDescription_41 : decode cX12_isDescription 41 = .ok (.iconst 1, 1) := by decide +kernel
theorem dX12_isDescription_42 : decode cX12_isDescription 42 = .ok (.goto 4, 3) := by decide +kernel
theorem dX12_isDescription_45 : decode cX12_isDescription 45 = .ok (.iconst 0, 1) := by decide +kernel
theorem dX12_isDescription_46 : decode cX12_isDescription 46 = .ok (.ireturn, 1) := by decide +kernel
theorem dX12_fitsBy_0 : decode cX12_fitsBy 0 = .ok (.iload_n 0, 1) := by decide +kernel
theorem dX12_fitsBy_1 : decode cX12_fitsBy 1 = .ok (.sipush 1023, 3) := by decide +kernel
theorem dX12_fitsBy_4 : decode cX12_fitsBy 4 = .ok (.iand, 1) := by decide +kernel
theorem dX12_fitsBy_5 : decode cX12_fitsBy 5 = .ok (.iload_n 1, 1) := by decide +kernel
theorem dX12_fitsBy_6 : decode cX12_fitsBy 6 = .ok (.iconst (-1), 1) := by decide +kernel
theorem dX12_fitsBy_7 : decode cX12_fitsBy 7 = .ok (.ixor, 1) := by decide +kernel
theorem dX12_fitsBy_8 : decode cX12_fitsBy 8 = .ok (.iand, 1) := by decide +kernel
theorem dX12_fitsBy_9 : decode cX12_fitsBy 9 = .ok (.ifCond .ne 16, 3) := by decide +kernel
theorem dX12_fitsBy_12 : decode cX12_fitsBy 12 = .ok (.iload_n 0, 1) := by decide +kernel
theorem dX12_fitsBy_13 : decode cX12_fitsBy 13 = .ok (.bipush 10, 2) := by decide +kernel
theorem dX12_fitsBy_15 : decode cX12_fitsBy 15 = .ok (.ishr, 1) := by decide +kernel
theorem dX12_fitsBy_16 : decode cX12_fitsBy 16 = .ok (.iload_n 1, 1) := by decide +kernel
theorem dX12_fitsBy_17 : decode cX12_fitsBy 17 = .ok (.iand, 1) := by decide +kernel
theorem dX12_fitsBy_18 : decode cX12_fitsBy 18 = .ok (.ifCond .ne 7, 3) := by decide +kernel
theorem dX12_fitsBy_21 : decode cX12_fitsBy 21 = .ok (.iconst 1, 1) := by decide +kernel
theorem dX12_fitsBy_22 : decode cX12_fitsBy 22 = .ok (.goto 4, 3) := by decide +kernel
theorem dX12_fitsBy_25 : decode cX12_fitsBy 25 = .ok (.iconst 0, 1) := by decide +kernel
theorem dX12_fitsBy_26 : decode cX12_fitsBy 26 = .ok (.ireturn, 1) := by decide +kernel
theorem dX12_fitsOf_0 : decode cX12_fitsOf 0 = .ok (.iconst 0, 1) := by decide +kernel
theorem dX12_fitsOf_1 : decode cX12_fitsOf 1 = .ok (.istore_n 3, 1) := by decide +kernel
theorem dX12_fitsOf_2 : decode cX12_fitsOf 2 = .ok (.iconst 0, 1) := by decide +kernel
theorem dX12_fitsOf_3 : decode cX12_fitsOf 3 = .ok (.istore 4, 2) := by decide +kernel
theorem dX12_fitsOf_5 : decode cX12_fitsOf 5 = .ok (.iload 4, 2) := by decide +kernel
theorem dX12_fitsOf_7 : decode cX12_fitsOf 7 = .ok (.aload_n 0, 1) := by decide +kernel
theorem dX12_fitsOf_8 : decode cX12_fitsOf 8 = .ok (.invokevirtual 245, 3) := by decide +kernel
theorem dX12_fitsOf_11 : decode cX12_fitsOf 11 = .ok (.if_icmp .ge 40, 3) := by decide +kernel
theorem dX12_fitsOf_14 : decode cX12_fitsOf 14 = .ok (.iload_n 3, 1) := by decide +kernel
theorem dX12_fitsOf_15 : decode cX12_fitsOf 15 = .ok (.aload_n 0, 1) := by decide +kernel
theorem dX12_fitsOf_16 : decode cX12_fitsOf 16 = .ok (.iload 4, 2) := by decide +kernel
theorem dX12_fitsOf_18 : decode cX12_fitsOf 18 = .ok (.invokevirtual 250, 3) := by decide +kernel
theorem dX12_fitsOf_21 : decode cX12_fitsOf 21 = .ok (.ifCond .eq 21, 3) := by decide +kernel
theorem dX12_fitsOf_24 : decode cX12_fitsOf 24 = .ok (.iload_n 1, 1) := by decide +kernel
theorem dX12_fitsOf_25 : decode cX12_fitsOf 25 = .ok (.aload_n 2, 1) := by decide +kernel
theorem dX12_fitsOf_26 : decode cX12_fitsOf 26 = .ok (.iload 4, 2) := by decide +kernel
theorem dX12_fitsOf_28 : decode cX12_fitsOf 28 = .ok (.iaload, 1) := by decide +kernel
theorem dX12_fitsOf_29 : decode cX12_fitsOf 29 = .ok (.invokestatic 323, 3) := by decide +kernel
theorem dX12_fitsOf_32 : decode cX12_fitsOf 32 = .ok (.ifCond .eq 10, 3) := by decide +kernel
theorem dX12_fitsOf_35 : decode cX12_fitsOf 35 = .ok (.iconst 1, 1) := by decide +kernel
theorem dX12_fitsOf_36 : decode cX12_fitsOf 36 = .ok (.iload 4, 2) := by decide +kernel
theorem dX12_fitsOf_38 : decode cX12_fitsOf 38 = .ok (.ishl, 1) := by decide +kernel
theorem dX12_fitsOf_39 : decode cX12_fitsOf 39 = .ok (.goto 4, 3) := by decide +kernel
theorem dX12_fitsOf_42 : decode cX12_fitsOf 42 = .ok (.iconst 0, 1) := by decide +kernel
theorem dX12_fitsOf_43 : decode cX12_fitsOf 43 = .ok (.ior, 1) := by decide +kernel
theorem dX12_fitsOf_44 : decode cX12_fitsOf 44 = .ok (.istore_n 3, 1) := by decide +kernel
theorem dX12_fitsOf_45 : decode cX12_fitsOf 45 = .ok (.iinc 4 1, 3) := by decide +kernel
theorem dX12_fitsOf_48 : decode cX12_fitsOf 48 = .ok (.goto (-43), 3) := by decide +kernel
theorem dX12_fitsOf_51 : decode cX12_fitsOf 51 = .ok (.iload_n 3, 1) := by decide +kernel
theorem dX12_fitsOf_52 : decode cX12_fitsOf 52 = .ok (.ireturn, 1) := by decide +kernel
theorem dX12_toldBy_0 : decode cX12_toldBy 0 = .ok (.aload_n 0, 1) := by decide +kernel
theorem dX12_toldBy_1 : decode cX12_toldBy 1 = .ok (.iload_n 1, 1) := by decide +kernel
theorem dX12_toldBy_2 : decode cX12_toldBy 2 = .ok (.aload_n 0, 1) := by decide +kernel
theorem dX12_toldBy_3 : decode cX12_toldBy 3 = .ok (.getfield 36, 3) := by decide +kernel
theorem dX12_toldBy_6 : decode cX12_toldBy 6 = .ok (.invokevirtual 326, 3) := by decide +kernel
theorem dX12_toldBy_9 : decode cX12_toldBy 9 = .ok (.istore_n 2, 1) := by decide +kernel
theorem dX12_toldBy_10 : decode cX12_toldBy 10 = .ok (.iload_n 2, 1) := by decide +kernel
theorem dX12_toldBy_11 : decode cX12_toldBy 11 = .ok (.invokestatic 330, 3) := by decide +kernel
theorem dX12_toldBy_14 : decode cX12_toldBy 14 = .ok (.iconst 1, 1) := by decide +kernel
theorem dX12_toldBy_15 : decode cX12_toldBy 15 = .ok (.if_icmp .eq 5, 3) := by decide +kernel
theorem dX12_toldBy_18 : decode cX12_toldBy 18 = .ok (.iconst (-1), 1) := by decide +kernel
theorem dX12_toldBy_19 : decode cX12_toldBy 19 = .ok (.ireturn, 1) := by decide +kernel
theorem dX12_toldBy_20 : decode cX12_toldBy 20 = .ok (.iconst 0, 1) := by decide +kernel
theorem dX12_toldBy_21 : decode cX12_toldBy 21 = .ok (.istore_n 3, 1) := by decide +kernel
theorem dX12_toldBy_22 : decode cX12_toldBy 22 = .ok (.iload_n 2, 1) := by decide +kernel
theorem dX12_toldBy_23 : decode cX12_toldBy 23 = .ok (.iload_n 3, 1) := by decide +kernel
theorem dX12_toldBy_24 : decode cX12_toldBy 24 = .ok (.invokestatic 248, 3) := by decide +kernel
theorem dX12_toldBy_27 : decode cX12_toldBy 27 = .ok (.ifCond .ne 9, 3) := by decide +kernel
theorem dX12_toldBy_30 : decode cX12_toldBy 30 = .ok (.iinc 3 1, 3) := by decide +kernel
theorem dX12_toldBy_33 : decode cX12_toldBy 33 = .ok (.goto (-11), 3) := by decide +kernel
theorem dX12_toldBy_36 : decode cX12_toldBy 36 = .ok (.iload_n 3, 1) := by decide +kernel
theorem dX12_toldBy_37 : decode cX12_toldBy 37 = .ok (.ireturn, 1) := by decide +kernel
theorem dX12_costOf_0 : decode cX12_costOf 0 = .ok (.iconst 0, 1) := by decide +kernel
theorem dX12_costOf_1 : decode cX12_costOf 1 = .ok (.istore_n 2, 1) := by decide +kernel
theorem dX12_costOf_2 : decode cX12_costOf 2 = .ok (.iconst 0, 1) := by decide +kernel
theorem dX12_costOf_3 : decode cX12_costOf 3 = .ok (.istore_n 3, 1) := by decide +kernel
theorem dX12_costOf_4 : decode cX12_costOf 4 = .ok (.iload_n 3, 1) := by decide +kernel
theorem dX12_costOf_5 : decode cX12_costOf 5 = .ok (.aload_n 0, 1) := by decide +kernel
theorem dX12_costOf_6 : decode cX12_costOf 6 = .ok (.invokevirtual 242, 3) := by decide +kernel
theorem dX12_costOf_9 : decode cX12_costOf 9 = .ok (.if_icmp .ge 82, 3) := by decide +kernel
theorem dX12_costOf_12 : decode cX12_costOf 12 = .ok (.iload_n 1, 1) := by decide +kernel
theorem dX12_costOf_13 : decode cX12_costOf 13 = .ok (.iload_n 3, 1) := by decide +kernel
theorem dX12_costOf_14 : decode cX12_costOf 14 = .ok (.invokestatic 248, 3) := by decide +kernel
theorem dX12_costOf_17 : decode cX12_costOf 17 = .ok (.ifCond .ne 17, 3) := by decide +kernel
theorem dX12_costOf_20 : decode cX12_costOf 20 = .ok (.iload_n 1, 1) := by decide +kernel
theorem dX12_costOf_21 : decode cX12_costOf 21 = .ok (.iload_n 3, 1) := by decide +kernel
theorem dX12_costOf_22 : decode cX12_costOf 22 = .ok (.bipush 10, 2) := by decide +kernel
theorem dX12_costOf_24 : decode cX12_costOf 24 = .ok (.iadd, 1) := by decide +kernel
theorem dX12_costOf_25 : decode cX12_costOf 25 = .ok (.invokestatic 248, 3) := by decide +kernel
theorem dX12_costOf_28 : decode cX12_costOf 28 = .ok (.ifCond .ne 6, 3) := by decide +kernel
theorem dX12_costOf_31 : decode cX12_costOf 31 = .ok (.goto 54, 3) := by decide +kernel
theorem dX12_costOf_34 : decode cX12_costOf 34 = .ok (.iload_n 2, 1) := by decide +kernel
theorem dX12_costOf_35 : decode cX12_costOf 35 = .ok (.aload_n 0, 1) := by decide +kernel
theorem dX12_costOf_36 : decode cX12_costOf 36 = .ok (.getfield 9, 3) := by decide +kernel
theorem dX12_costOf_39 : decode cX12_costOf 39 = .ok (.bipush 109, 2) := by decide +kernel
theorem dX12_costOf_41 : decode cX12_costOf 41 = .ok (.iload_n 3, 1) := by decide +kernel
theorem dX12_costOf_42 : decode cX12_costOf 42 = .ok (.iadd, 1) := by decide +kernel
theorem dX12_costOf_43 : decode cX12_costOf 43 = .ok (.iaload, 1) := by decide +kernel
theorem dX12_costOf_44 : decode cX12_costOf 44 = .ok (.iload_n 1, 1) := by decide +kernel
theorem dX12_costOf_45 : decode cX12_costOf 45 = .ok (.iload_n 3, 1) := by decide +kernel
theorem dX12_costOf_46 : decode cX12_costOf 46 = .ok (.invokestatic 248, 3) := by decide +kernel
theorem dX12_costOf_49 : decode cX12_costOf 49 = .ok (.ifCond .eq 7, 3) := by decide +kernel
theorem dX12_costOf_52 : decode cX12_costOf 52 = .ok (.iconst 0, 1) := by decide +kernel
theorem dX12_costOf_53 : decode cX12_costOf 53 = .ok (.goto 4, 3) := by decide +kernel
theorem dX12_costOf_56 : decode cX12_costOf 56 = .ok (.iconst 1, 1) := by decide +kernel
theorem dX12_costOf_57 : decode cX12_costOf 57 = .ok (.iadd, 1) := by decide +kernel
theorem dX12_costOf_58 : decode cX12_costOf 58 = .ok (.aload_n 0, 1) := by decide +kernel
theorem dX12_costOf_59 : decode cX12_costOf 59 = .ok (.getfield 9, 3) := by decide +kernel
theorem dX12_costOf_62 : decode cX12_costOf 62 = .ok (.bipush 95, 2) := by decide +kernel
theorem dX12_costOf_64 : decode cX12_costOf 64 = .ok (.iaload, 1) := by decide +kernel
theorem dX12_costOf_65 : decode cX12_costOf 65 = .ok (.iload_n 3, 1) := by decide +kernel
theorem dX12_costOf_66 : decode cX12_costOf 66 = .ok (.invokestatic 248, 3) := by decide +kernel
theorem dX12_costOf_69 : decode cX12_costOf 69 = .ok (.ifCond .eq 12, 3) := by decide +kernel
theorem dX12_costOf_72 : decode cX12_costOf 72 = .ok (.aload_n 0, 1) := by decide +kernel
theorem dX12_costOf_73 : decode cX12_costOf 73 = .ok (.getfield 9, 3) := by decide +kernel
theorem dX12_costOf_76 : decode cX12_costOf 76 = .ok (.iconst 5, 1) := by decide +kernel
theorem dX12_costOf_77 : decode cX12_costOf 77 = .ok (.iaload, 1) := by decide +kernel
theorem dX12_costOf_78 : decode cX12_costOf 78 = .ok (.goto 4, 3) := by decide +kernel
theorem dX12_costOf_81 : decode cX12_costOf 81 = .ok (.iconst 0, 1) := by decide +kernel
theorem dX12_costOf_82 : decode cX12_costOf 82 = .ok (.iadd, 1) := by decide +kernel
theorem dX12_costOf_83 : decode cX12_costOf 83 = .ok (.iadd, 1) := by decide +kernel
theorem dX12_costOf_84 : decode cX12_costOf 84 = .ok (.istore_n 2, 1) := by decide +kernel
theorem dX12_costOf_85 : decode cX12_costOf 85 = .ok (.iinc 3 1, 3) := by decide +kernel
theorem dX12_costOf_88 : decode cX12_costOf 88 = .ok (.goto (-84), 3) := by decide +kernel
theorem dX12_costOf_91 : decode cX12_costOf 91 = .ok (.iload_n 2, 1) := by decide +kernel
theorem dX12_costOf_92 : decode cX12_costOf 92 = .ok (.ireturn, 1) := by decide +kernel
theorem dX12_fits_0 : decode cX12_fits 0 = .ok (.aload_n 0, 1) := by decide +kernel
theorem dX12_fits_1 : decode cX12_fits 1 = .ok (.iconst 0, 1) := by decide +kernel
theorem dX12_fits_2 : decode cX12_fits 2 = .ok (.putfield 68, 3) := by decide +kernel
theorem dX12_fits_5 : decode cX12_fits 5 = .ok (.aload_n 0, 1) := by decide +kernel
theorem dX12_fits_6 : decode cX12_fits 6 = .ok (.iload_n 1, 1) := by decide +kernel
theorem dX12_fits_7 : decode cX12_fits 7 = .ok (.invokevirtual 333, 3) := by decide +kernel
theorem dX12_fits_10 : decode cX12_fits 10 = .ok (.ifCond .ne 9, 3) := by decide +kernel
theorem dX12_fits_13 : decode cX12_fits 13 = .ok (.aload_n 0, 1) := by decide +kernel
theorem dX12_fits_14 : decode cX12_fits 14 = .ok (.iconst 1, 1) := by decide +kernel
theorem dX12_fits_15 : decode cX12_fits 15 = .ok (.invokevirtual 224, 3) := by decide +kernel
theorem dX12_fits_18 : decode cX12_fits 18 = .ok (.ireturn, 1) := by decide +kernel
theorem dX12_fits_19 : decode cX12_fits 19 = .ok (.aload_n 0, 1) := by decide +kernel
theorem dX12_fits_20 : decode cX12_fits 20 = .ok (.invokevirtual 306, 3) := by decide +kernel
theorem dX12_fits_23 : decode cX12_fits 23 = .ok (.aload_n 0, 1) := by decide +kernel
theorem dX12_fits_24 : decode cX12_fits 24 = .ok (.iload_n 1, 1) := by decide +kernel
theorem dX12_fits_25 : decode cX12_fits 25 = .ok (.aload_n 0, 1) := by decide +kernel
theorem dX12_fits_26 : decode cX12_fits 26 = .ok (.getfield 36, 3) := by decide +kernel
theorem dX12_fits_29 : decode cX12_fits 29 = .ok (.invokevirtual 326, 3) := by decide +kernel
theorem dX12_fits_32 : decode cX12_fits 32 = .ok (.ireturn, 1) := by decide +kernel
theorem dX12_tells_0 : decode cX12_tells 0 = .ok (.aload_n 0, 1) := by decide +kernel
theorem dX12_tells_1 : decode cX12_tells 1 = .ok (.iconst 0, 1) := by decide +kernel
theorem dX12_tells_2 : decode cX12_tells 2 = .ok (.putfield 68, 3) := by decide +kernel
theorem dX12_tells_5 : decode cX12_tells 5 = .ok (.aload_n 0, 1) := by decide +kernel
theorem dX12_tells_6 : decode cX12_tells 6 = .ok (.iload_n 1, 1) := by decide +kernel
theorem dX12_tells_7 : decode cX12_tells 7 = .ok (.invokevirtual 333, 3) := by decide +kernel
theorem dX12_tells_10 : decode cX12_tells 10 = .ok (.ifCond .ne 9, 3) := by decide +kernel
theorem dX12_tells_13 : decode cX12_tells 13 = .ok (.aload_n 0, 1) := by decide +kernel
theorem dX12_tells_14 : decode cX12_tells 14 = .ok (.iconst 1, 1) := by decide +kernel
theorem dX12_tells_15 : decode cX12_tells 15 = .ok (.invokevirtual 224, 3) := by decide +kernel
theorem dX12_tells_18 : decode cX12_tells 18 = .ok (.ireturn, 1) := by decide +kernel
theorem dX12_tells_19 : decode cX12_tells 19 = .ok (.aload_n 0, 1) := by decide +kernel
theorem dX12_tells_20 : decode cX12_tells 20 = .ok (.invokevirtual 306, 3) := by decide +kernel
theorem dX12_tells_23 : decode cX12_tells 23 = .ok (.aload_n 0, 1) := by decide +kernel
theorem dX12_tells_24 : decode cX12_tells 24 = .ok (.iload_n 1, 1) := by decide +kernel
theorem dX12_tells_25 : decode cX12_tells 25 = .ok (.invokevirtual 336, 3) := by decide +kernel
theorem dX12_tells_28 : decode cX12_tells 28 = .ok (.ireturn, 1) := by decide +kernel
theorem dX12_cost_0 : decode cX12_cost 0 = .ok (.aload_n 0, 1) := by decide +kernel
theorem dX12_cost_1 : decode cX12_cost 1 = .ok (.iconst 0, 1) := by decide +kernel
theorem dX12_cost_2 : decode cX12_cost 2 = .ok (.putfield 68, 3) := by decide +kernel
theorem dX12_cost_5 : decode cX12_cost 5 = .ok (.aload_n 0, 1) := by decide +kernel
theorem dX12_cost_6 : decode cX12_cost 6 = .ok (.iload_n 1, 1) := by decide +kernel
theorem dX12_cost_7 : decode cX12_cost 7 = .ok (.invokevirtual 333, 3) := by decide +kernel
theorem dX12_cost_10 : decode cX12_cost 10 = .ok (.ifCond .eq 11, 3) := by decide +kernel
theorem dX12_cost_13 : decode cX12_cost 13 = .ok (.aload_n 0, 1) := by decide +kernel
theorem dX12_cost_14 : decode cX12_cost 14 = .ok (.iload_n 1, 1) := by decide +kernel
theorem dX12_cost_15 : decode cX12_cost 15 = .ok (.invokevirtual 339, 3) := by decide +kernel
theorem dX12_cost_18 : decode cX12_cost 18 = .ok (.goto 8, 3) := by decide +kernel
theorem dX12_cost_21 : decode cX12_cost 21 = .ok (.aload_n 0, 1) := by decide +kernel
theorem dX12_cost_22 : decode cX12_cost 22 = .ok (.iconst 1, 1) := by decide +kernel
theorem dX12_cost_23 : decode cX12_cost 23 = .ok (.invokevirtual 224, 3) := by decide +kernel
theorem dX12_cost_26 : decode cX12_cost 26 = .ok (.ireturn, 1) := by decide +kernel
theorem dX12_chestFault_0 : decode cX12_chestFault 0 = .ok (.aload_n 0, 1) := by decide +kernel
theorem dX12_chestFault_1 : decode cX12_chestFault 1 = .ok (.iload_n 1, 1) := by decide +kernel
theorem dX12_chestFault_2 : decode cX12_chestFault 2 = .ok (.i2l, 1) := by decide +kernel
theorem dX12_chestFault_3 : decode cX12_chestFault 3 = .ok (.invokevirtual 297, 3) := by decide +kernel
theorem dX12_chestFault_6 : decode cX12_chestFault 6 = .ok (.ifCond .ne 7, 3) := by decide +kernel
theorem dX12_chestFault_9 : decode cX12_chestFault 9 = .ok (.iconst 1, 1) := by decide +kernel
theorem dX12_chestFault_10 : decode cX12_chestFault 10 = .ok (.goto 16, 3) := by decide +kernel
theorem dX12_chestFault_13 : decode cX12_chestFault 13 = .ok (.aload_n 0, 1) := by decide +kernel
theorem dX12_chestFault_14 : decode cX12_chestFault 14 = .ok (.iload_n 1, 1) := by decide +kernel
theorem dX12_chestFault_15 : decode cX12_chestFault 15 = .ok (.invokevirtual 250, 3) := by decide +kernel
theorem dX12_chestFault_18 : decode cX12_chestFault 18 = .ok (.ifCond .eq 7, 3) := by decide +kernel
theorem dX12_chestFault_21 : decode cX12_chestFault 21 = .ok (.iconst 0, 1) := by decide +kernel
theorem dX12_chestFault_22 : decode cX12_chestFault 22 = .ok (.goto 4, 3) := by decide +kernel
theorem dX12_chestFault_25 : decode cX12_chestFault 25 = .ok (.iconst 2, 1) := by decide +kernel
theorem dX12_chestFault_26 : decode cX12_chestFault 26 = .ok (.ireturn, 1) := by decide +kernel
theorem dX12_described_0 : decode cX12_described 0 = .ok (.iload_n 2, 1) := by decide +kernel
theorem dX12_described_1 : decode cX12_described 1 = .ok (.aload_n 0, 1) := by decide +kernel
theorem dX12_described_2 : decode cX12_described 2 = .ok (.getfield 36, 3) := by decide +kernel
theorem dX12_described_5 : decode cX12_described 5 = .ok (.iload_n 1, 1) := by decide +kernel
theorem dX12_described_6 : decode cX12_described 6 = .ok (.iaload, 1) := by decide +kernel
theorem dX12_described_7 : decode cX12_described 7 = .ok (.iand, 1) := by decide +kernel
theorem dX12_described_8 : decode cX12_described 8 = .ok (.iload_n 2, 1) := by decide +kernel
theorem dX12_described_9 : decode cX12_described 9 = .ok (.aload_n 0, 1) := by decide +kernel
theorem dX12_described_10 : decode cX12_described 10 = .ok (.getfield 36, 3) := by decide +kernel
theorem dX12_described_13 : decode cX12_described 13 = .ok (.iload_n 1, 1) := by decide +kernel
theorem dX12_described_14 : decode cX12_described 14 = .ok (.iaload, 1) := by decide +kernel
theorem dX12_described_15 : decode cX12_described 15 = .ok (.iconst (-1), 1) := by decide +kernel
theorem dX12_described_16 : decode cX12_described 16 = .ok (.ixor, 1) := by decide +kernel
theorem dX12_described_17 : decode cX12_described 17 = .ok (.iand, 1) := by decide +kernel
theorem dX12_described_18 : decode cX12_described 18 = .ok (.bipush 10, 2) := by decide +kernel
theorem dX12_described_20 : decode cX12_described 20 = .ok (.ishl, 1) := by decide +kernel
theorem dX12_described_21 : decode cX12_described 21 = .ok (.ior, 1) := by decide +kernel
theorem dX12_described_22 : decode cX12_described 22 = .ok (.ireturn, 1) := by decide +kernel
theorem dX12_leastOf_0 : decode cX12_leastOf 0 = .ok (.iconst (-1), 1) := by decide +kernel
theorem dX12_leastOf_1 : decode cX12_leastOf 1 = .ok (.istore 4, 2) := by decide +kernel
theorem dX12_leastOf_3 : decode cX12_leastOf 3 = .ok (.ldc_w 342, 3) := by decide +kernel
theorem dX12_leastOf_6 : decode cX12_leastOf 6 = .ok (.istore 5, 2) := by decide +kernel
theorem dX12_leastOf_8 : decode cX12_leastOf 8 = .ok (.iconst 0, 1) := by decide +kernel
theorem dX12_leastOf_9 : decode cX12_leastOf 9 = .ok (.istore 6, 2) := by decide +kernel
theorem dX12_leastOf_11 : decode cX12_leastOf 11 = .ok (.iload 6, 2) := by decide +kernel
theorem dX12_leastOf_13 : decode cX12_leastOf 13 = .ok (.iload_n 2, 1) := by decide +kernel
theorem dX12_leastOf_14 : decode cX12_leastOf 14 = .ok (.if_icmp .gt 145, 3) := by decide +kernel
theorem dX12_leastOf_17 : decode cX12_leastOf 17 = .ok (.iload 6, 2) := by decide +kernel
theorem dX12_leastOf_19 : decode cX12_leastOf 19 = .ok (.iload_n 2, 1) := by decide +kernel
theorem dX12_leastOf_20 : decode cX12_leastOf 20 = .ok (.iconst (-1), 1) := by decide +kernel
theorem dX12_leastOf_21 : decode cX12_leastOf 21 = .ok (.ixor, 1) := by decide +kernel
theorem dX12_leastOf_22 : decode cX12_leastOf 22 = .ok (.iand, 1) := by decide +kernel
theorem dX12_leastOf_23 : decode cX12_leastOf 23 = .ok (.ifCond .eq 6, 3) := by decide +kernel
theorem dX12_leastOf_26 : decode cX12_leastOf 26 = .ok (.goto 127, 3) := by decide +kernel
theorem dX12_leastOf_29 : decode cX12_leastOf 29 = .ok (.aload_n 0, 1) := by decide +kernel
theorem dX12_leastOf_30 : decode cX12_leastOf 30 = .ok (.iload_n 1, 1) := by decide +kernel
theorem dX12_leastOf_31 : decode cX12_leastOf 31 = .ok (.iload 6, 2) := by decide +kernel
theorem dX12_leastOf_33 : decode cX12_leastOf 33 = .ok (.invokevirtual 343, 3) := by decide +kernel
theorem dX12_leastOf_36 : decode cX12_leastOf 36 = .ok (.istore 7, 2) := by decide +kernel
theorem dX12_leastOf_38 : decode cX12_leastOf 38 = .ok (.iload_n 3, 1) := by decide +kernel
theorem dX12_leastOf_39 : decode cX12_leastOf 39 = .ok (.ifCond .eq 43, 3) := by decide +kernel
theorem dX12_leastOf_42 : decode cX12_leastOf 42 = .ok (.aload_n 0, 1) := by decide +kernel
theorem dX12_leastOf_43 : decode cX12_leastOf 43 = .ok (.iload 7, 2) := by decide +kernel
theorem dX12_leastOf_45 : decode cX12_leastOf 45 = .ok (.aload_n 0, 1) := by decide +kernel
theorem dX12_leastOf_46 : decode cX12_leastOf 46 = .ok (.getfield 39, 3) := by decide +kernel
theorem dX12_leastOf_49 : decode cX12_leastOf 49 = .ok (.invokevirtual 326, 3) := by decide +kernel
theorem dX12_leastOf_52 : decode cX12_leastOf 52 = .ok (.iconst 1, 1) := by decide +kernel
theorem dX12_leastOf_53 : decode cX12_leastOf 53 = .ok (.iload_n 1, 1) := by decide +kernel
theorem dX12_leastOf_54 : decode cX12_leastOf 54 = .ok (.ishl, 1) := by decide +kernel
theorem dX12_leastOf_55 : decode cX12_leastOf 55 = .ok (.if_icmp .ne 23, 3) := by decide +kernel
theorem dX12_leastOf_58 : decode cX12_leastOf 58 = .ok (.aload_n 0, 1) := by decide +kernel
theorem dX12_leastOf_59 : decode cX12_leastOf 59 = .ok (.iload 7, 2) := by decide +kernel
theorem dX12_leastOf_61 : decode cX12_leastOf 61 = .ok (.aload_n 0, 1) := by decide +kernel
theorem dX12_leastOf_62 : decode cX12_leastOf 62 = .ok (.getfield 42, 3) := by decide +kernel
theorem dX12_leastOf_65 : decode cX12_leastOf 65 = .ok (.invokevirtual 326, 3) := by decide +kernel
theorem dX12_leastOf_68 : decode cX12_leastOf 68 = .ok (.iconst 1, 1) := by decide +kernel
theorem dX12_leastOf_69 : decode cX12_leastOf 69 = .ok (.iload_n 1, 1) := by decide +kernel
theorem dX12_leastOf_70 : decode cX12_leastOf 70 = .ok (.ishl, 1) := by decide +kernel
theorem dX12_leastOf_71 : decode cX12_leastOf 71 = .ok (.if_icmp .ne 7, 3) := by decide +kernel
theorem dX12_leastOf_74 : decode cX12_leastOf 74 = .ok (.iconst 1, 1) := by decide +kernel
theorem dX12_leastOf_75 : decode cX12_leastOf 75 = .ok (.goto 28, 3) := by decide +kernel
theorem dX12_leastOf_78 : decode cX12_leastOf 78 = .ok (.iconst 0, 1) := by decide +kernel
theorem dX12_leastOf_79 : decode cX12_leastOf 79 = .ok (.goto 24, 3) := by decide +kernel
theorem dX12_leastOf_82 : decode cX12_leastOf 82 = .ok (.aload_n 0, 1) := by decide +kernel
theorem dX12_leastOf_83 : decode cX12_leastOf 83 = .ok (.iload 7, 2) := by decide +kernel
theorem dX12_leastOf_85 : decode cX12_leastOf 85 = .ok (.aload_n 0, 1) := by decide +kernel
theorem dX12_leastOf_86 : decode cX12_leastOf 86 = .ok (.getfield 36, 3) := by decide +kernel
theorem dX12_leastOf_89 : decode cX12_leastOf 89 = .ok (.invokevirtual 326, 3) := by decide +kernel
theorem dX12_leastOf_92 : decode cX12_leastOf 92 = .ok (.iconst 1, 1) := by decide +kernel
theorem dX12_leastOf_93 : decode cX12_leastOf 93 = .ok (.iload_n 1, 1) := by decide +kernel
theorem dX12_leastOf_94 : decode cX12_leastOf 94 = .ok (.ishl, 1) := by decide +kernel
theorem dX12_leastOf_95 : decode cX12_leastOf 95 = .ok (.if_icmp .ne 7, 3) := by decide +kernel
theorem dX12_leastOf_98 : decode cX12_leastOf 98 = .ok (.iconst 1, 1) := by decide +kernel
theorem dX12_leastOf_99 : decode cX12_leastOf 99 = .ok (.goto 4, 3) := by decide +kernel
theorem dX12_leastOf_102 : decode cX12_leastOf 102 = .ok (.iconst 0, 1) := by decide +kernel
theorem dX12_leastOf_103 : decode cX12_leastOf 103 = .ok (.istore 8, 2) := by decide +kernel
theorem dX12_leastOf_105 : decode cX12_leastOf 105 = .ok (.iload 8, 2) := by decide +kernel
theorem dX12_leastOf_107 : decode cX12_leastOf 107 = .ok (.ifCond .ne 6, 3) := by decide +kernel
theorem dX12_leastOf_110 : decode cX12_leastOf 110 = .ok (.goto 43, 3) := by decide +kernel
theorem dX12_leastOf_113 : decode cX12_leastOf 113 = .ok (.aload_n 0, 1) := by decide +kernel
theorem dX12_leastOf_114 : decode cX12_leastOf 114 = .ok (.iload 7, 2) := by decide +kernel
theorem dX12_leastOf_116 : decode cX12_leastOf 116 = .ok (.invokevirtual 339, 3) := by decide +kernel
theorem dX12_leastOf_119 : decode cX12_leastOf 119 = .ok (.istore 9, 2) := by decide +kernel
theorem dX12_leastOf_121 : decode cX12_leastOf 121 = .ok (.iload 9, 2) := by decide +kernel
theorem dX12_leastOf_123 : decode cX12_leastOf 123 = .ok (.iload 5, 2) := by decide +kernel
theorem dX12_leastOf_125 : decode cX12_leastOf 125 = .ok (.if_icmp .gt 28, 3) := by decide +kernel
theorem dX12_leastOf_128 : decode cX12_leastOf 128 = .ok (.iload 9, 2) := by decide +kernel
theorem dX12_leastOf_130 : decode cX12_leastOf 130 = .ok (.iload 5, 2) := by decide +kernel
theorem dX12_leastOf_132 : decode cX12_leastOf 132 = .ok (.if_icmp .ne 13, 3) := by decide +kernel
theorem dX12_leastOf_135 : decode cX12_leastOf 135 = .ok (.iload 7, 2) := by decide +kernel
theorem dX12_leastOf_137 : decode cX12_leastOf 137 = .ok (.iload 4, 2) := by decide +kernel
theorem dX12_leastOf_139 : decode cX12_leastOf 139 = .ok (.if_icmp .lt 6, 3) := by decide +kernel
theorem dX12_leastOf_142 : decode cX12_leastOf 142 = .ok (.goto 11, 3) := by decide +kernel
theorem dX12_leastOf_145 : decode cX12_leastOf 145 = .ok (.iload 7, 2) := by decide +kernel
theorem dX12_leastOf_147 : decode cX12_leastOf 147 = .ok (.istore 4, 2) := by decide +kernel
theorem dX12_leastOf_149 : decode cX12_leastOf 149 = .ok (.iload 9, 2) := by decide +kernel
theorem dX12_leastOf_151 : decode cX12_leastOf 151 = .ok (.istore 5, 2) := by decide +kernel
theorem dX12_leastOf_153 : decode cX12_leastOf 153 = .ok (.iinc 6 1, 3) := by decide +kernel
theorem dX12_leastOf_156 : decode cX12_leastOf 156 = .ok (.goto (-145), 3) := by decide +kernel
theorem dX12_leastOf_159 : decode cX12_leastOf 159 = .ok (.iload 4, 2) := by decide +kernel
theorem dX12_leastOf_161 : decode cX12_leastOf 161 = .ok (.ireturn, 1) := by decide +kernel
theorem dX12_least_0 : decode cX12_least 0 = .ok (.aload_n 0, 1) := by decide +kernel
theorem dX12_least_1 : decode cX12_least 1 = .ok (.aload_n 0, 1) := by decide +kernel
theorem dX12_least_2 : decode cX12_least 2 = .ok (.iload_n 1, 1) := by decide +kernel
theorem dX12_least_3 : decode cX12_least 3 = .ok (.invokevirtual 346, 3) := by decide +kernel
theorem dX12_least_6 : decode cX12_least 6 = .ok (.putfield 68, 3) := by decide +kernel
theorem dX12_least_9 : decode cX12_least 9 = .ok (.aload_n 0, 1) := by decide +kernel
theorem dX12_least_10 : decode cX12_least 10 = .ok (.getfield 68, 3) := by decide +kernel
theorem dX12_least_13 : decode cX12_least 13 = .ok (.ifCond .le 5, 3) := by decide +kernel
theorem dX12_least_16 : decode cX12_least 16 = .ok (.iconst 0, 1) := by decide +kernel
theorem dX12_least_17 : decode cX12_least 17 = .ok (.ireturn, 1) := by decide +kernel
theorem dX12_least_18 : decode cX12_least 18 = .ok (.aload_n 0, 1) := by decide +kernel
theorem dX12_least_19 : decode cX12_least 19 = .ok (.invokevirtual 306, 3) := by decide +kernel
theorem dX12_least_22 : decode cX12_least 22 = .ok (.aload_n 0, 1) := by decide +kernel
theorem dX12_least_23 : decode cX12_least 23 = .ok (.iload_n 1, 1) := by decide +kernel
theorem dX12_least_24 : decode cX12_least 24 = .ok (.aload_n 0, 1) := by decide +kernel
theorem dX12_least_25 : decode cX12_least 25 = .ok (.invokevirtual 320, 3) := by decide +kernel
theorem dX12_least_28 : decode cX12_least 28 = .ok (.iconst 0, 1) := by decide +kernel
theorem dX12_least_29 : decode cX12_least 29 = .ok (.invokevirtual 349, 3) := by decide +kernel
theorem dX12_least_32 : decode cX12_least 32 = .ok (.ireturn, 1) := by decide +kernel
theorem dX12_blind_0 : decode cX12_blind 0 = .ok (.aload_n 0, 1) := by decide +kernel
theorem dX12_blind_1 : decode cX12_blind 1 = .ok (.aload_n 0, 1) := by decide +kernel
theorem dX12_blind_2 : decode cX12_blind 2 = .ok (.iload_n 1, 1) := by decide +kernel
theorem dX12_blind_3 : decode cX12_blind 3 = .ok (.invokevirtual 346, 3) := by decide +kernel
theorem dX12_blind_6 : decode cX12_blind 6 = .ok (.putfield 68, 3) := by decide +kernel
theorem dX12_blind_9 : decode cX12_blind 9 = .ok (.aload_n 0, 1) := by decide +kernel
theorem dX12_blind_10 : decode cX12_blind 10 = .ok (.getfield 68, 3) := by decide +kernel
theorem dX12_blind_13 : decode cX12_blind 13 = .ok (.ifCond .le 5, 3) := by decide +kernel
theorem dX12_blind_16 : decode cX12_blind 16 = .ok (.iconst 0, 1) := by decide +kernel
theorem dX12_blind_17 : decode cX12_blind 17 = .ok (.ireturn, 1) := by decide +kernel
theorem dX12_blind_18 : decode cX12_blind 18 = .ok (.aload_n 0, 1) := by decide +kernel
theorem dX12_blind_19 : decode cX12_blind 19 = .ok (.invokevirtual 306, 3) := by decide +kernel
theorem dX12_blind_22 : decode cX12_blind 22 = .ok (.aload_n 0, 1) := by decide +kernel
theorem dX12_blind_23 : decode cX12_blind 23 = .ok (.iload_n 1, 1) := by decide +kernel
theorem dX12_blind_24 : decode cX12_blind 24 = .ok (.aload_n 0, 1) := by decide +kernel
theorem dX12_blind_25 : decode cX12_blind 25 = .ok (.getfield 9, 3) := by decide +kernel
theorem dX12_blind_28 : decode cX12_blind 28 = .ok (.bipush 119, 2) := by decide +kernel
theorem dX12_blind_30 : decode cX12_blind 30 = .ok (.iaload, 1) := by decide +kernel
theorem dX12_blind_31 : decode cX12_blind 31 = .ok (.aload_n 0, 1) := by decide +kernel
theorem dX12_blind_32 : decode cX12_blind 32 = .ok (.invokevirtual 320, 3) := by decide +kernel
theorem dX12_blind_35 : decode cX12_blind 35 = .ok (.iand, 1) := by decide +kernel
theorem dX12_blind_36 : decode cX12_blind 36 = .ok (.iconst 0, 1) := by decide +kernel
theorem dX12_blind_37 : decode cX12_blind 37 = .ok (.invokevirtual 349, 3) := by decide +kernel
theorem dX12_blind_40 : decode cX12_blind 40 = .ok (.ireturn, 1) := by decide +kernel
theorem dX12_sure_0 : decode cX12_sure 0 = .ok (.aload_n 0, 1) := by decide +kernel
theorem dX12_sure_1 : decode cX12_sure 1 = .ok (.aload_n 0, 1) := by decide +kernel
theorem dX12_sure_2 : decode cX12_sure 2 = .ok (.iload_n 1, 1) := by decide +kernel
theorem dX12_sure_3 : decode cX12_sure 3 = .ok (.invokevirtual 346, 3) := by decide +kernel
theorem dX12_sure_6 : decode cX12_sure 6 = .ok (.putfield 68, 3) := by decide +kernel
theorem dX12_sure_9 : decode cX12_sure 9 = .ok (.aload_n 0, 1) := by decide +kernel
theorem dX12_sure_10 : decode cX12_sure 10 = .ok (.getfield 68, 3) := by decide +kernel
theorem dX12_sure_13 : decode cX12_sure 13 = .ok (.ifCond .le 5, 3) := by decide +kernel
theorem dX12_sure_16 : decode cX12_sure 16 = .ok (.iconst 0, 1) := by decide +kernel
theorem dX12_sure_17 : decode cX12_sure 17 = .ok (.ireturn, 1) := by decide +kernel
theorem dX12_sure_18 : decode cX12_sure 18 = .ok (.aload_n 0, 1) := by decide +kernel
theorem dX12_sure_19 : decode cX12_sure 19 = .ok (.invokevirtual 306, 3) := by decide +kernel
theorem dX12_sure_22 : decode cX12_sure 22 = .ok (.aload_n 0, 1) := by decide +kernel
theorem dX12_sure_23 : decode cX12_sure 23 = .ok (.iload_n 1, 1) := by decide +kernel
theorem dX12_sure_24 : decode cX12_sure 24 = .ok (.aload_n 0, 1) := by decide +kernel
theorem dX12_sure_25 : decode cX12_sure 25 = .ok (.invokevirtual 320, 3) := by decide +kernel
theorem dX12_sure_28 : decode cX12_sure 28 = .ok (.iconst 1, 1) := by decide +kernel
theorem dX12_sure_29 : decode cX12_sure 29 = .ok (.invokevirtual 349, 3) := by decide +kernel
theorem dX12_sure_32 : decode cX12_sure 32 = .ok (.ireturn, 1) := by decide +kernel
theorem dX12_priceOf_0 : decode cX12_priceOf 0 = .ok (.aload_n 0, 1) := by decide +kernel
theorem dX12_priceOf_1 : decode cX12_priceOf 1 = .ok (.iload_n 1, 1) := by decide +kernel
theorem dX12_priceOf_2 : decode cX12_priceOf 2 = .ok (.aload_n 0, 1) := by decide +kernel
theorem dX12_priceOf_3 : decode cX12_priceOf 3 = .ok (.invokevirtual 320, 3) := by decide +kernel
theorem dX12_priceOf_6 : decode cX12_priceOf 6 = .ok (.iconst 0, 1) := by decide +kernel
theorem dX12_priceOf_7 : decode cX12_priceOf 7 = .ok (.invokevirtual 349, 3) := by decide +kernel
theorem dX12_priceOf_10 : decode cX12_priceOf 10 = .ok (.istore_n 2, 1) := by decide +kernel
theorem dX12_priceOf_11 : decode cX12_priceOf 11 = .ok (.iload_n 2, 1) := by decide +kernel
theorem dX12_priceOf_12 : decode cX12_priceOf 12 = .ok (.iconst (-1), 1) := by decide +kernel
theorem dX12_priceOf_13 : decode cX12_priceOf 13 = .ok (.if_icmp .ne 7, 3) := by decide +kernel
theorem dX12_priceOf_16 : decode cX12_priceOf 16 = .ok (.iconst (-1), 1) := by decide +kernel
theorem dX12_priceOf_17 : decode cX12_priceOf 17 = .ok (.goto 8, 3) := by decide +kernel
theorem dX12_priceOf_20 : decode cX12_priceOf 20 = .ok (.aload_n 0, 1) := by decide +kernel
theorem dX12_priceOf_21 : decode cX12_priceOf 21 = .ok (.iload_n 2, 1) := by decide +kernel
theorem dX12_priceOf_22 : decode cX12_priceOf 22 = .ok (.invokevirtual 339, 3) := by decide +kernel
theorem dX12_priceOf_25 : decode cX12_priceOf 25 = .ok (.ireturn, 1) := by decide +kernel
theorem dX12_price_0 : decode cX12_price 0 = .ok (.aload_n 0, 1) := by decide +kernel
theorem dX12_price_1 : decode cX12_price 1 = .ok (.aload_n 0, 1) := by decide +kernel
theorem dX12_price_2 : decode cX12_price 2 = .ok (.iload_n 1, 1) := by decide +kernel
theorem dX12_price_3 : decode cX12_price 3 = .ok (.invokevirtual 346, 3) := by decide +kernel
theorem dX12_price_6 : decode cX12_price 6 = .ok (.putfield 68, 3) := by decide +kernel
theorem dX12_price_9 : decode cX12_price 9 = .ok (.aload_n 0, 1) := by decide +kernel
theorem dX12_price_10 : decode cX12_price 10 = .ok (.getfield 68, 3) := by decide +kernel
theorem dX12_price_13 : decode cX12_price 13 = .ok (.ifCond .le 5, 3) := by decide +kernel
theorem dX12_price_16 : decode cX12_price 16 = .ok (.iconst 0, 1) := by decide +kernel
theorem dX12_price_17 : decode cX12_price 17 = .ok (.ireturn, 1) := by decide +kernel
theorem dX12_price_18 : decode cX12_price 18 = .ok (.aload_n 0, 1) := by decide +kernel
theorem dX12_price_19 : decode cX12_price 19 = .ok (.invokevirtual 306, 3) := by decide +kernel
theorem dX12_price_22 : decode cX12_price 22 = .ok (.aload_n 0, 1) := by decide +kernel
theorem dX12_price_23 : decode cX12_price 23 = .ok (.iload_n 1, 1) := by decide +kernel
theorem dX12_price_24 : decode cX12_price 24 = .ok (.invokevirtual 352, 3) := by decide +kernel
theorem dX12_price_27 : decode cX12_price 27 = .ok (.ireturn, 1) := by decide +kernel
theorem dX12_hardest_0 : decode cX12_hardest 0 = .ok (.aload_n 0, 1) := by decide +kernel
theorem dX12_hardest_1 : decode cX12_hardest 1 = .ok (.iconst 0, 1) := by decide +kernel
theorem dX12_hardest_2 : decode cX12_hardest 2 = .ok (.putfield 68, 3) := by decide +kernel
theorem dX12_hardest_5 : decode cX12_hardest 5 = .ok (.aload_n 0, 1) := by decide +kernel
theorem dX12_hardest_6 : decode cX12_hardest 6 = .ok (.invokevirtual 306, 3) := by decide +kernel
theorem dX12_hardest_9 : decode cX12_hardest 9 = .ok (.iconst (-1), 1) := by decide +kernel
theorem dX12_hardest_10 : decode cX12_hardest 10 = .ok (.istore_n 1, 1) := by decide +kernel
theorem dX12_hardest_11 : decode cX12_hardest 11 = .ok (.iconst 0, 1) := by decide +kernel
theorem dX12_hardest_12 : decode cX12_hardest 12 = .ok (.istore_n 2, 1) := by decide +kernel
theorem dX12_hardest_13 : decode cX12_hardest 13 = .ok (.iconst 0, 1) := by decide +kernel
theorem dX12_hardest_14 : decode cX12_hardest 14 = .ok (.istore_n 3, 1) := by decide +kernel
theorem dX12_hardest_15 : decode cX12_hardest 15 = .ok (.iload_n 3, 1) := by decide +kernel
theorem dX12_hardest_16 : decode cX12_hardest 16 = .ok (.aload_n 0, 1) := by decide +kernel
theorem dX12_hardest_17 : decode cX12_hardest 17 = .ok (.invokevirtual 245, 3) := by decide +kernel
theorem dX12_hardest_20 : decode cX12_hardest 20 = .ok (.if_icmp .ge 57, 3) := by decide +kernel
theorem dX12_hardest_23 : decode cX12_hardest 23 = .ok (.aload_n 0, 1) := by decide +kernel
theorem dX12_hardest_24 : decode cX12_hardest 24 = .ok (.iload_n 3, 1) := by decide +kernel
theorem dX12_hardest_25 : decode cX12_hardest 25 = .ok (.invokevirtual 250, 3) := by decide +kernel
theorem dX12_hardest_28 : decode cX12_hardest 28 = .ok (.ifCond .ne 6, 3) := by decide +kernel
theorem dX12_hardest_31 : decode cX12_hardest 31 = .ok (.goto 40, 3) := by decide +kernel
theorem dX12_hardest_34 : decode cX12_hardest 34 = .ok (.aload_n 0, 1) := by decide +kernel
theorem dX12_hardest_35 : decode cX12_hardest 35 = .ok (.iload_n 3, 1) := by decide +kernel
theorem dX12_hardest_36 : decode cX12_hardest 36 = .ok (.invokevirtual 352, 3) := by decide +kernel
theorem dX12_hardest_39 : decode cX12_hardest 39 = .ok (.istore 4, 2) := by decide +kernel
theorem dX12_hardest_41 : decode cX12_hardest 41 = .ok (.iload 4, 2) := by decide +kernel
theorem dX12_hardest_43 : decode cX12_hardest 43 = .ok (.iconst (-1), 1) := by decide +kernel
theorem dX12_hardest_44 : decode cX12_hardest 44 = .ok (.if_icmp .ne 8, 3) := by decide +kernel
theorem dX12_hardest_47 : decode cX12_hardest 47 = .ok (.ldc_w 342, 3) := by decide +kernel
theorem dX12_hardest_50 : decode cX12_hardest 50 = .ok (.istore 4, 2) := by decide +kernel
theorem dX12_hardest_52 : decode cX12_hardest 52 = .ok (.iload_n 1, 1) := by decide +kernel
theorem dX12_hardest_53 : decode cX12_hardest 53 = .ok (.iconst (-1), 1) := by decide +kernel
theorem dX12_hardest_54 : decode cX12_hardest 54 = .ok (.if_icmp .eq 12, 3) := by decide +kernel
theorem dX12_hardest_57 : decode cX12_hardest 57 = .ok (.iload 4, 2) := by decide +kernel
theorem dX12_hardest_59 : decode cX12_hardest 59 = .ok (.iload_n 2, 1) := by decide +kernel
theorem dX12_hardest_60 : decode cX12_hardest 60 = .ok (.if_icmp .gt 6, 3) := by decide +kernel
theorem dX12_hardest_63 : decode cX12_hardest 63 = .ok (.goto 8, 3) := by decide +kernel
theorem dX12_hardest_66 : decode cX12_hardest 66 = .ok (.iload_n 3, 1) := by decide +kernel
theorem dX12_hardest_67 : decode cX12_hardest 67 = .ok (.istore_n 1, 1) := by decide +kernel
theorem dX12_hardest_68 : decode cX12_hardest 68 = .ok (.iload 4, 2) := by decide +kernel
theorem dX12_hardest_70 : decode cX12_hardest 70 = .ok (.istore_n 2, 1) := by decide +kernel
theorem dX12_hardest_71 : decode cX12_hardest 71 = .ok (.iinc 3 1, 3) := by decide +kernel
theorem dX12_hardest_74 : decode cX12_hardest 74 = .ok (.goto (-59), 3) := by decide +kernel
theorem dX12_hardest_77 : decode cX12_hardest 77 = .ok (.iload_n 1, 1) := by decide +kernel
theorem dX12_hardest_78 : decode cX12_hardest 78 = .ok (.ireturn, 1) := by decide +kernel
theorem dX12_cheaper_0 : decode cX12_cheaper 0 = .ok (.iconst 0, 1) := by decide +kernel
theorem dX12_cheaper_1 : decode cX12_cheaper 1 = .ok (.istore_n 3, 1) := by decide +kernel
theorem dX12_cheaper_2 : decode cX12_cheaper 2 = .ok (.iconst 0, 1) := by decide +kernel
theorem dX12_cheaper_3 : decode cX12_cheaper 3 = .ok (.istore 4, 2) := by decide +kernel
theorem dX12_cheaper_5 : decode cX12_cheaper 5 = .ok (.iload 4, 2) := by decide +kernel
theorem dX12_cheaper_7 : decode cX12_cheaper 7 = .ok (.aload_n 0, 1) := by decide +kernel
theorem dX12_cheaper_8 : decode cX12_cheaper 8 = .ok (.invokevirtual 320, 3) := by decide +kernel
theorem dX12_cheaper_11 : decode cX12_cheaper 11 = .ok (.if_icmp .gt 52, 3) := by decide +kernel
theorem dX12_cheaper_14 : decode cX12_cheaper 14 = .ok (.aload_n 0, 1) := by decide +kernel
theorem dX12_cheaper_15 : decode cX12_cheaper 15 = .ok (.iload_n 1, 1) := by decide +kernel
theorem dX12_cheaper_16 : decode cX12_cheaper 16 = .ok (.iload 4, 2) := by decide +kernel
theorem dX12_cheaper_18 : decode cX12_cheaper 18 = .ok (.invokevirtual 343, 3) := by decide +kernel
theorem dX12_cheaper_21 : decode cX12_cheaper 21 = .ok (.istore 5, 2) := by decide +kernel
theorem dX12_cheaper_23 : decode cX12_cheaper 23 = .ok (.iload_n 3, 1) := by decide +kernel
theorem dX12_cheaper_24 : decode cX12_cheaper 24 = .ok (.aload_n 0, 1) := by decide +kernel
theorem dX12_cheaper_25 : decode cX12_cheaper 25 = .ok (.iload 5, 2) := by decide +kernel
theorem dX12_cheaper_27 : decode cX12_cheaper 27 = .ok (.aload_n 0, 1) := by decide +kernel
theorem dX12_cheaper_28 : decode cX12_cheaper 28 = .ok (.getfield 36, 3) := by decide +kernel
theorem dX12_cheaper_31 : decode cX12_cheaper 31 = .ok (.invokevirtual 326, 3) := by decide +kernel
theorem dX12_cheaper_34 : decode cX12_cheaper 34 = .ok (.iconst 1, 1) := by decide +kernel
theorem dX12_cheaper_35 : decode cX12_cheaper 35 = .ok (.iload_n 1, 1) := by decide +kernel
theorem dX12_cheaper_36 : decode cX12_cheaper 36 = .ok (.ishl, 1) := by decide +kernel
theorem dX12_cheaper_37 : decode cX12_cheaper 37 = .ok (.if_icmp .ne 17, 3) := by decide +kernel
theorem dX12_cheaper_40 : decode cX12_cheaper 40 = .ok (.aload_n 0, 1) := by decide +kernel
theorem dX12_cheaper_41 : decode cX12_cheaper 41 = .ok (.iload 5, 2) := by decide +kernel
theorem dX12_cheaper_43 : decode cX12_cheaper 43 = .ok (.invokevirtual 339, 3) := by decide +kernel
theorem dX12_cheaper_46 : decode cX12_cheaper 46 = .ok (.iload_n 2, 1) := by decide +kernel
theorem dX12_cheaper_47 : decode cX12_cheaper 47 = .ok (.if_icmp .ge 7, 3) := by decide +kernel
theorem dX12_cheaper_50 : decode cX12_cheaper 50 = .ok (.iconst 1, 1) := by decide +kernel
theorem dX12_cheaper_51 : decode cX12_cheaper 51 = .ok (.goto 4, 3) := by decide +kernel
theorem dX12_cheaper_54 : decode cX12_cheaper 54 = .ok (.iconst 0, 1) := by decide +kernel
theorem dX12_cheaper_55 : decode cX12_cheaper 55 = .ok (.iadd, 1) := by decide +kernel
theorem dX12_cheaper_56 : decode cX12_cheaper 56 = .ok (.istore_n 3, 1) := by decide +kernel
theorem dX12_cheaper_57 : decode cX12_cheaper 57 = .ok (.iinc 4 1, 3) := by decide +kernel
theorem dX12_cheaper_60 : decode cX12_cheaper 60 = .ok (.goto (-55), 3) := by decide +kernel
theorem dX12_cheaper_63 : decode cX12_cheaper 63 = .ok (.iload_n 3, 1) := by decide +kernel
theorem dX12_cheaper_64 : decode cX12_cheaper 64 = .ok (.ireturn, 1) := by decide +kernel
theorem dX12_ways_0 : decode cX12_ways 0 = .ok (.aload_n 0, 1) := by decide +kernel
theorem dX12_ways_1 : decode cX12_ways 1 = .ok (.aload_n 0, 1) := by decide +kernel
theorem dX12_ways_2 : decode cX12_ways 2 = .ok (.iload_n 1, 1) := by decide +kernel
theorem dX12_ways_3 : decode cX12_ways 3 = .ok (.invokevirtual 346, 3) := by decide +kernel
theorem dX12_ways_6 : decode cX12_ways 6 = .ok (.putfield 68, 3) := by decide +kernel
theorem dX12_ways_9 : decode cX12_ways 9 = .ok (.aload_n 0, 1) := by decide +kernel
theorem dX12_ways_10 : decode cX12_ways 10 = .ok (.getfield 68, 3) := by decide +kernel
theorem dX12_ways_13 : decode cX12_ways 13 = .ok (.ifCond .le 5, 3) := by decide +kernel
theorem dX12_ways_16 : decode cX12_ways 16 = .ok (.iconst 0, 1) := by decide +kernel
theorem dX12_ways_17 : decode cX12_ways 17 = .ok (.ireturn, 1) := by decide +kernel
theorem dX12_ways_18 : decode cX12_ways 18 = .ok (.aload_n 0, 1) := by decide +kernel
theorem dX12_ways_19 : decode cX12_ways 19 = .ok (.invokevirtual 306, 3) := by decide +kernel
theorem dX12_ways_22 : decode cX12_ways 22 = .ok (.aload_n 0, 1) := by decide +kernel
theorem dX12_ways_23 : decode cX12_ways 23 = .ok (.iload_n 1, 1) := by decide +kernel
theorem dX12_ways_24 : decode cX12_ways 24 = .ok (.ldc_w 342, 3) := by decide +kernel
theorem dX12_ways_27 : decode cX12_ways 27 = .ok (.invokevirtual 355, 3) := by decide +kernel
theorem dX12_ways_30 : decode cX12_ways 30 = .ok (.ireturn, 1) := by decide +kernel
theorem dX12_rank_0 : decode cX12_rank 0 = .ok (.aload_n 0, 1) := by decide +kernel
theorem dX12_rank_1 : decode cX12_rank 1 = .ok (.iconst 0, 1) := by decide +kernel
theorem dX12_rank_2 : decode cX12_rank 2 = .ok (.putfield 68, 3) := by decide +kernel
theorem dX12_rank_5 : decode cX12_rank 5 = .ok (.aload_n 0, 1) := by decide +kernel
theorem dX12_rank_6 : decode cX12_rank 6 = .ok (.iload_n 1, 1) := by decide +kernel
theorem dX12_rank_7 : decode cX12_rank 7 = .ok (.invokevirtual 333, 3) := by decide +kernel
theorem dX12_rank_10 : decode cX12_rank 10 = .ok (.ifCond .ne 9, 3) := by decide +kernel
theorem dX12_rank_13 : decode cX12_rank 13 = .ok (.aload_n 0, 1) := by decide +kernel
theorem dX12_rank_14 : decode cX12_rank 14 = .ok (.iconst 1, 1) := by decide +kernel
theorem dX12_rank_15 : decode cX12_rank 15 = .ok (.invokevirtual 224, 3) := by decide +kernel
theorem dX12_rank_18 : decode cX12_rank 18 = .ok (.ireturn, 1) := by decide +kernel
theorem dX12_rank_19 : decode cX12_rank 19 = .ok (.aload_n 0, 1) := by decide +kernel
theorem dX12_rank_20 : decode cX12_rank 20 = .ok (.invokevirtual 306, 3) := by decide +kernel
theorem dX12_rank_23 : decode cX12_rank 23 = .ok (.aload_n 0, 1) := by decide +kernel
theorem dX12_rank_24 : decode cX12_rank 24 = .ok (.iload_n 1, 1) := by decide +kernel
theorem dX12_rank_25 : decode cX12_rank 25 = .ok (.invokevirtual 336, 3) := by decide +kernel
theorem dX12_rank_28 : decode cX12_rank 28 = .ok (.istore_n 2, 1) := by decide +kernel
theorem dX12_rank_29 : decode cX12_rank 29 = .ok (.iload_n 2, 1) := by decide +kernel
theorem dX12_rank_30 : decode cX12_rank 30 = .ok (.iconst (-1), 1) := by decide +kernel
theorem dX12_rank_31 : decode cX12_rank 31 = .ok (.if_icmp .ne 7, 3) := by decide +kernel
theorem dX12_rank_34 : decode cX12_rank 34 = .ok (.iconst (-1), 1) := by decide +kernel
theorem dX12_rank_35 : decode cX12_rank 35 = .ok (.goto 13, 3) := by decide +kernel
theorem dX12_rank_38 : decode cX12_rank 38 = .ok (.aload_n 0, 1) := by decide +kernel
theorem dX12_rank_39 : decode cX12_rank 39 = .ok (.iload_n 2, 1) := by decide +kernel
theorem dX12_rank_40 : decode cX12_rank 40 = .ok (.aload_n 0, 1) := by decide +kernel
theorem dX12_rank_41 : decode cX12_rank 41 = .ok (.iload_n 1, 1) := by decide +kernel
theorem dX12_rank_42 : decode cX12_rank 42 = .ok (.invokevirtual 339, 3) := by decide +kernel
theorem dX12_rank_45 : decode cX12_rank 45 = .ok (.invokevirtual 355, 3) := by decide +kernel
theorem dX12_rank_48 : decode cX12_rank 48 = .ok (.ireturn, 1) := by decide +kernel
theorem dX12_shorter_0 : decode cX12_shorter 0 = .ok (.aload_n 0, 1) := by decide +kernel
theorem dX12_shorter_1 : decode cX12_shorter 1 = .ok (.iconst 0, 1) := by decide +kernel
theorem dX12_shorter_2 : decode cX12_shorter 2 = .ok (.putfield 68, 3) := by decide +kernel
theorem dX12_shorter_5 : decode cX12_shorter 5 = .ok (.aload_n 0, 1) := by decide +kernel
theorem dX12_shorter_6 : decode cX12_shorter 6 = .ok (.iload_n 1, 1) := by decide +kernel
theorem dX12_shorter_7 : decode cX12_shorter 7 = .ok (.invokevirtual 333, 3) := by decide +kernel
theorem dX12_shorter_10 : decode cX12_shorter 10 = .ok (.ifCond .ne 9, 3) := by decide +kernel
theorem dX12_shorter_13 : decode cX12_shorter 13 = .ok (.aload_n 0, 1) := by decide +kernel
theorem dX12_shorter_14 : decode cX12_shorter 14 = .ok (.iconst 1, 1) := by decide +kernel
theorem dX12_shorter_15 : decode cX12_shorter 15 = .ok (.invokevirtual 224, 3) := by decide +kernel
theorem dX12_shorter_18 : decode cX12_shorter 18 = .ok (.ireturn, 1) := by decide +kernel
theorem dX12_shorter_19 : decode cX12_shorter 19 = .ok (.aload_n 0, 1) := by decide +kernel
theorem dX12_shorter_20 : decode cX12_shorter 20 = .ok (.invokevirtual 306, 3) := by decide +kernel
theorem dX12_shorter_23 : decode cX12_shorter 23 = .ok (.aload_n 0, 1) := by decide +kernel
theorem dX12_shorter_24 : decode cX12_shorter 24 = .ok (.iload_n 1, 1) := by decide +kernel
theorem dX12_shorter_25 : decode cX12_shorter 25 = .ok (.aload_n 0, 1) := by decide +kernel
theorem dX12_shorter_26 : decode cX12_shorter 26 = .ok (.getfield 36, 3) := by decide +kernel
theorem dX12_shorter_29 : decode cX12_shorter 29 = .ok (.invokevirtual 326, 3) := by decide +kernel
theorem dX12_shorter_32 : decode cX12_shorter 32 = .ok (.istore_n 2, 1) := by decide +kernel
theorem dX12_shorter_33 : decode cX12_shorter 33 = .ok (.iload_n 1, 1) := by decide +kernel
theorem dX12_shorter_34 : decode cX12_shorter 34 = .ok (.istore_n 3, 1) := by decide +kernel
theorem dX12_shorter_35 : decode cX12_shorter 35 = .ok (.bipush 19, 2) := by decide +kernel
theorem dX12_shorter_37 : decode cX12_shorter 37 = .ok (.istore 4, 2) := by decide +kernel
theorem dX12_shorter_39 : decode cX12_shorter 39 = .ok (.iload 4, 2) := by decide +kernel
theorem dX12_shorter_41 : decode cX12_shorter 41 = .ok (.ifCond .lt 47, 3) := by decide +kernel
theorem dX12_shorter_44 : decode cX12_shorter 44 = .ok (.iload_n 3, 1) := by decide +kernel
theorem dX12_shorter_45 : decode cX12_shorter 45 = .ok (.iload 4, 2) := by decide +kernel
theorem dX12_shorter_47 : decode cX12_shorter 47 = .ok (.invokestatic 248, 3) := by decide +kernel
theorem dX12_shorter_50 : decode cX12_shorter 50 = .ok (.ifCond .eq 32, 3) := by decide +kernel
theorem dX12_shorter_53 : decode cX12_shorter 53 = .ok (.aload_n 0, 1) := by decide +kernel
theorem dX12_shorter_54 : decode cX12_shorter 54 = .ok (.iload_n 3, 1) := by decide +kernel
theorem dX12_shorter_55 : decode cX12_shorter 55 = .ok (.iconst 1, 1) := by decide +kernel
theorem dX12_shorter_56 : decode cX12_shorter 56 = .ok (.iload 4, 2) := by decide +kernel
theorem dX12_shorter_58 : decode cX12_shorter 58 = .ok (.ishl, 1) := by decide +kernel
theorem dX12_shorter_59 : decode cX12_shorter 59 = .ok (.iconst (-1), 1) := by decide +kernel
theorem dX12_shorter_60 : decode cX12_shorter 60 = .ok (.ixor, 1) := by decide +kernel
theorem dX12_shorter_61 : decode cX12_shorter 61 = .ok (.iand, 1) := by decide +kernel
theorem dX12_shorter_62 : decode cX12_shorter 62 = .ok (.aload_n 0, 1) := by decide +kernel
theorem dX12_shorter_63 : decode cX12_shorter 63 = .ok (.getfield 36, 3) := by decide +kernel
theorem dX12_shorter_66 : decode cX12_shorter 66 = .ok (.invokevirtual 326, 3) := by decide +kernel
theorem dX12_shorter_69 : decode cX12_shorter 69 = .ok (.iload_n 2, 1) := by decide +kernel
theorem dX12_shorter_70 : decode cX12_shorter 70 = .ok (.if_icmp .ne 12, 3) := by decide +kernel
theorem dX12_shorter_73 : decode cX12_shorter 73 = .ok (.iload_n 3, 1) := by decide +kernel
theorem dX12_shorter_74 : decode cX12_shorter 74 = .ok (.iconst 1, 1) := by decide +kernel
theorem dX12_shorter_75 : decode cX12_shorter 75 = .ok (.iload 4, 2) := by decide +kernel
theorem dX12_shorter_77 : decode cX12_shorter 77 = .ok (.ishl, 1) := by decide +kernel
theorem dX12_shorter_78 : decode cX12_shorter 78 = .ok (.iconst (-1), 1) := by decide +kernel
theorem dX12_shorter_79 : decode cX12_shorter 79 = .ok (.ixor, 1) := by decide +kernel
theorem dX12_shorter_80 : decode cX12_shorter 80 = .ok (.iand, 1) := by decide +kernel
theorem dX12_shorter_81 : decode cX12_shorter 81 = .ok (.istore_n 3, 1) := by decide +kernel
theorem dX12_shorter_82 : decode cX12_shorter 82 = .ok (.iinc 4 (-1), 3) := by decide +kernel
theorem dX12_shorter_85 : decode cX12_shorter 85 = .ok (.goto (-46), 3) := by decide +kernel
theorem dX12_shorter_88 : decode cX12_shorter 88 = .ok (.iload_n 3, 1) := by decide +kernel
theorem dX12_shorter_89 : decode cX12_shorter 89 = .ok (.ireturn, 1) := by decide +kernel
theorem dX12_keeps_0 : decode cX12_keeps 0 = .ok (.aload_n 0, 1) := by decide +kernel
