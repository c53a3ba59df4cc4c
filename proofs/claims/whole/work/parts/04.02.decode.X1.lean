theorem dX1_init_0 : decode cX1_init 0 = .ok (.aload_n 0, 1) := by decide +kernel
theorem dX1_init_1 : decode cX1_init 1 = .ok (.invokespecial 3, 3) := by decide +kernel
theorem dX1_init_4 : decode cX1_init 4 = .ok (.aload_n 0, 1) := by decide +kernel
theorem dX1_init_5 : decode cX1_init 5 = .ok (.sipush 1024, 3) := by decide +kernel
theorem dX1_init_8 : decode cX1_init 8 = .ok (.newarray .long, 2) := by decide +kernel
theorem dX1_init_10 : decode cX1_init 10 = .ok (.putfield 9, 3) := by decide +kernel
theorem dX1_init_13 : decode cX1_init 13 = .ok (.aload_n 0, 1) := by decide +kernel
theorem dX1_init_14 : decode cX1_init 14 = .ok (.bipush 10, 2) := by decide +kernel
theorem dX1_init_16 : decode cX1_init 16 = .ok (.newarray .int, 2) := by decide +kernel
theorem dX1_init_18 : decode cX1_init 18 = .ok (.putfield 15, 3) := by decide +kernel
theorem dX1_init_21 : decode cX1_init 21 = .ok (.aload_n 0, 1) := by decide +kernel
theorem dX1_init_22 : decode cX1_init 22 = .ok (.bipush 10, 2) := by decide +kernel
theorem dX1_init_24 : decode cX1_init 24 = .ok (.newarray .int, 2) := by decide +kernel
theorem dX1_init_26 : decode cX1_init 26 = .ok (.putfield 19, 3) := by decide +kernel
theorem dX1_init_29 : decode cX1_init 29 = .ok (.return_, 1) := by decide +kernel
theorem dX1_numberIn_0 : decode cX1_numberIn 0 = .ok (.lload_n 0, 1) := by decide +kernel
theorem dX1_numberIn_1 : decode cX1_numberIn 1 = .ok (.ldc2_w 22, 3) := by decide +kernel
theorem dX1_numberIn_4 : decode cX1_numberIn 4 = .ok (.lcmp, 1) := by decide +kernel
theorem dX1_numberIn_5 : decode cX1_numberIn 5 = .ok (.ifCond .ne 7, 3) := by decide +kernel
theorem dX1_numberIn_8 : decode cX1_numberIn 8 = .ok (.iconst (-1), 1) := by decide +kernel
theorem dX1_numberIn_9 : decode cX1_numberIn 9 = .ok (.goto 9, 3) := by decide +kernel
theorem dX1_numberIn_12 : decode cX1_numberIn 12 = .ok (.lload_n 0, 1) := by decide +kernel
theorem dX1_numberIn_13 : decode cX1_numberIn 13 = .ok (.ldc2_w 24, 3) := by decide +kernel
theorem dX1_numberIn_16 : decode cX1_numberIn 16 = .ok (.land, 1) := by decide +kernel
theorem dX1_numberIn_17 : decode cX1_numberIn 17 = .ok (.l2i, 1) := by decide +kernel
theorem dX1_numberIn_18 : decode cX1_numberIn 18 = .ok (.ireturn, 1) := by decide +kernel
theorem dX1_costIn_0 : decode cX1_costIn 0 = .ok (.lload_n 0, 1) := by decide +kernel
theorem dX1_costIn_1 : decode cX1_costIn 1 = .ok (.ldc2_w 22, 3) := by decide +kernel
theorem dX1_costIn_4 : decode cX1_costIn 4 = .ok (.lcmp, 1) := by decide +kernel
theorem dX1_costIn_5 : decode cX1_costIn 5 = .ok (.ifCond .ne 7, 3) := by decide +kernel
theorem dX1_costIn_8 : decode cX1_costIn 8 = .ok (.iconst (-1), 1) := by decide +kernel
theorem dX1_costIn_9 : decode cX1_costIn 9 = .ok (.goto 8, 3) := by decide +kernel
theorem dX1_costIn_12 : decode cX1_costIn 12 = .ok (.lload_n 0, 1) := by decide +kernel
theorem dX1_costIn_13 : decode cX1_costIn 13 = .ok (.bipush 20, 2) := by decide +kernel
theorem dX1_costIn_15 : decode cX1_costIn 15 = .ok (.lshr, 1) := by decide +kernel
theorem dX1_costIn_16 : decode cX1_costIn 16 = .ok (.l2i, 1) := by decide +kernel
theorem dX1_costIn_17 : decode cX1_costIn 17 = .ok (.ireturn, 1) := by decide +kernel
theorem dX1_cheapest_0 : decode cX1_cheapest 0 = .ok (.iload 4, 2) := by decide +kernel
theorem dX1_cheapest_2 : decode cX1_cheapest 2 = .ok (.aload_n 1, 1) := by decide +kernel
theorem dX1_cheapest_3 : decode cX1_cheapest 3 = .ok (.invokevirtual 26, 3) := by decide +kernel
theorem dX1_cheapest_6 : decode cX1_cheapest 6 = .ok (.iand, 1) := by decide +kernel
theorem dX1_cheapest_7 : decode cX1_cheapest 7 = .ok (.istore 5, 2) := by decide +kernel
theorem dX1_cheapest_9 : decode cX1_cheapest 9 = .ok (.aload_n 0, 1) := by decide +kernel
theorem dX1_cheapest_10 : decode cX1_cheapest 10 = .ok (.aload_n 1, 1) := by decide +kernel
theorem dX1_cheapest_11 : decode cX1_cheapest 11 = .ok (.aload_n 2, 1) := by decide +kernel
theorem dX1_cheapest_12 : decode cX1_cheapest 12 = .ok (.iload_n 3, 1) := by decide +kernel
theorem dX1_cheapest_13 : decode cX1_cheapest 13 = .ok (.invokevirtual 32, 3) := by decide +kernel
theorem dX1_cheapest_16 : decode cX1_cheapest 16 = .ok (.aload_n 0, 1) := by decide +kernel
theorem dX1_cheapest_17 : decode cX1_cheapest 17 = .ok (.aload_n 1, 1) := by decide +kernel
theorem dX1_cheapest_18 : decode cX1_cheapest 18 = .ok (.iload 5, 2) := by decide +kernel
theorem dX1_cheapest_20 : decode cX1_cheapest 20 = .ok (.aload_n 2, 1) := by decide +kernel
theorem dX1_cheapest_21 : decode cX1_cheapest 21 = .ok (.getfield 36, 3) := by decide +kernel
theorem dX1_cheapest_24 : decode cX1_cheapest 24 = .ok (.invokevirtual 42, 3) := by decide +kernel
theorem dX1_cheapest_27 : decode cX1_cheapest 27 = .ok (.aload_n 0, 1) := by decide +kernel
theorem dX1_cheapest_28 : decode cX1_cheapest 28 = .ok (.iload 5, 2) := by decide +kernel
theorem dX1_cheapest_30 : decode cX1_cheapest 30 = .ok (.aload_n 2, 1) := by decide +kernel
theorem dX1_cheapest_31 : decode cX1_cheapest 31 = .ok (.iload_n 3, 1) := by decide +kernel
theorem dX1_cheapest_32 : decode cX1_cheapest 32 = .ok (.invokevirtual 46, 3) := by decide +kernel
theorem dX1_cheapest_35 : decode cX1_cheapest 35 = .ok (.iconst 1, 1) := by decide +kernel
theorem dX1_cheapest_36 : decode cX1_cheapest 36 = .ok (.iload_n 3, 1) := by decide +kernel
theorem dX1_cheapest_37 : decode cX1_cheapest 37 = .ok (.ishl, 1) := by decide +kernel
theorem dX1_cheapest_38 : decode cX1_cheapest 38 = .ok (.invokevirtual 50, 3) := by decide +kernel
theorem dX1_cheapest_41 : decode cX1_cheapest 41 = .ok (.lreturn, 1) := by decide +kernel
theorem dX1_cheapestByAnyLight_0 : decode cX1_cheapestByAnyLight 0 = .ok (.aload_n 2, 1) := by decide +kernel
theorem dX1_cheapestByAnyLight_1 : decode cX1_cheapestByAnyLight 1 = .ok (.iload_n 3, 1) := by decide +kernel
theorem dX1_cheapestByAnyLight_2 : decode cX1_cheapestByAnyLight 2 = .ok (.iconst 0, 1) := by decide +kernel
theorem dX1_cheapestByAnyLight_3 : decode cX1_cheapestByAnyLight 3 = .ok (.invokevirtual 54, 3) := by decide +kernel
theorem dX1_cheapestByAnyLight_6 : decode cX1_cheapestByAnyLight 6 = .ok (.istore 4, 2) := by decide +kernel
theorem dX1_cheapestByAnyLight_8 : decode cX1_cheapestByAnyLight 8 = .ok (.aload_n 1, 1) := by decide +kernel
theorem dX1_cheapestByAnyLight_9 : decode cX1_cheapestByAnyLight 9 = .ok (.invokevirtual 26, 3) := by decide +kernel
theorem dX1_cheapestByAnyLight_12 : decode cX1_cheapestByAnyLight 12 = .ok (.iload 4, 2) := by decide +kernel
theorem dX1_cheapestByAnyLight_14 : decode cX1_cheapestByAnyLight 14 = .ok (.aload_n 2, 1) := by decide +kernel
theorem dX1_cheapestByAnyLight_15 : decode cX1_cheapestByAnyLight 15 = .ok (.iload_n 3, 1) := by decide +kernel
theorem dX1_cheapestByAnyLight_16 : decode cX1_cheapestByAnyLight 16 = .ok (.iconst 1, 1) := by decide +kernel
theorem dX1_cheapestByAnyLight_17 : decode cX1_cheapestByAnyLight 17 = .ok (.invokevirtual 54, 3) := by decide +kernel
theorem dX1_cheapestByAnyLight_20 : decode cX1_cheapestByAnyLight 20 = .ok (.ixor, 1) := by decide +kernel
theorem dX1_cheapestByAnyLight_21 : decode cX1_cheapestByAnyLight 21 = .ok (.iconst (-1), 1) := by decide +kernel
theorem dX1_cheapestByAnyLight_22 : decode cX1_cheapestByAnyLight 22 = .ok (.ixor, 1) := by decide +kernel
theorem dX1_cheapestByAnyLight_23 : decode cX1_cheapestByAnyLight 23 = .ok (.iand, 1) := by decide +kernel
theorem dX1_cheapestByAnyLight_24 : decode cX1_cheapestByAnyLight 24 = .ok (.istore 5, 2) := by decide +kernel
theorem dX1_cheapestByAnyLight_26 : decode cX1_cheapestByAnyLight 26 = .ok (.iconst 0, 1) := by decide +kernel
theorem dX1_cheapestByAnyLight_27 : decode cX1_cheapestByAnyLight 27 = .ok (.istore 6, 2) := by decide +kernel
theorem dX1_cheapestByAnyLight_29 : decode cX1_cheapestByAnyLight 29 = .ok (.iload 6, 2) := by decide +kernel
theorem dX1_cheapestByAnyLight_31 : decode cX1_cheapestByAnyLight 31 = .ok (.aload_n 1, 1) := by decide +kernel
theorem dX1_cheapestByAnyLight_32 : decode cX1_cheapestByAnyLight 32 = .ok (.getfield 58, 3) := by decide +kernel
theorem dX1_cheapestByAnyLight_35 : decode cX1_cheapestByAnyLight 35 = .ok (.if_icmp .ge 65, 3) := by decide +kernel
theorem dX1_cheapestByAnyLight_38 : decode cX1_cheapestByAnyLight 38 = .ok (.aload_n 0, 1) := by decide +kernel
theorem dX1_cheapestByAnyLight_39 : decode cX1_cheapestByAnyLight 39 = .ok (.getfield 15, 3) := by decide +kernel
theorem dX1_cheapestByAnyLight_42 : decode cX1_cheapestByAnyLight 42 = .ok (.iload 6, 2) := by decide +kernel
theorem dX1_cheapestByAnyLight_44 : decode cX1_cheapestByAnyLight 44 = .ok (.aload_n 2, 1) := by decide +kernel
theorem dX1_cheapestByAnyLight_45 : decode cX1_cheapestByAnyLight 45 = .ok (.iload_n 3, 1) := by decide +kernel
theorem dX1_cheapestByAnyLight_46 : decode cX1_cheapestByAnyLight 46 = .ok (.iload 6, 2) := by decide +kernel
theorem dX1_cheapestByAnyLight_48 : decode cX1_cheapestByAnyLight 48 = .ok (.iconst 0, 1) := by decide +kernel
theorem dX1_cheapestByAnyLight_49 : decode cX1_cheapestByAnyLight 49 = .ok (.invokestatic 61, 3) := by decide +kernel
theorem dX1_cheapestByAnyLight_52 : decode cX1_cheapestByAnyLight 52 = .ok (.aload_n 2, 1) := by decide +kernel
theorem dX1_cheapestByAnyLight_53 : decode cX1_cheapestByAnyLight 53 = .ok (.iload_n 3, 1) := by decide +kernel
theorem dX1_cheapestByAnyLight_54 : decode cX1_cheapestByAnyLight 54 = .ok (.iload 6, 2) := by decide +kernel
theorem dX1_cheapestByAnyLight_56 : decode cX1_cheapestByAnyLight 56 = .ok (.iconst 1, 1) := by decide +kernel
theorem dX1_cheapestByAnyLight_57 : decode cX1_cheapestByAnyLight 57 = .ok (.invokestatic 61, 3) := by decide +kernel
theorem dX1_cheapestByAnyLight_60 : decode cX1_cheapestByAnyLight 60 = .ok (.bipush 14, 2) := by decide +kernel
theorem dX1_cheapestByAnyLight_62 : decode cX1_cheapestByAnyLight 62 = .ok (.ishl, 1) := by decide +kernel
theorem dX1_cheapestByAnyLight_63 : decode cX1_cheapestByAnyLight 63 = .ok (.ior, 1) := by decide +kernel
theorem dX1_cheapestByAnyLight_64 : decode cX1_cheapestByAnyLight 64 = .ok (.iastore, 1) := by decide +kernel
theorem dX1_cheapestByAnyLight_65 : decode cX1_cheapestByAnyLight 65 = .ok (.aload_n 0, 1) := by decide +kernel
theorem dX1_cheapestByAnyLight_66 : decode cX1_cheapestByAnyLight 66 = .ok (.getfield 19, 3) := by decide +kernel
theorem dX1_cheapestByAnyLight_69 : decode cX1_cheapestByAnyLight 69 = .ok (.iload 6, 2) := by decide +kernel
theorem dX1_cheapestByAnyLight_71 : decode cX1_cheapestByAnyLight 71 = .ok (.aload_n 2, 1) := by decide +kernel
theorem dX1_cheapestByAnyLight_72 : decode cX1_cheapestByAnyLight 72 = .ok (.aload_n 1, 1) := by decide +kernel
theorem dX1_cheapestByAnyLight_73 : decode cX1_cheapestByAnyLight 73 = .ok (.iload 6, 2) := by decide +kernel
theorem dX1_cheapestByAnyLight_75 : decode cX1_cheapestByAnyLight 75 = .ok (.iload 4, 2) := by decide +kernel
theorem dX1_cheapestByAnyLight_77 : decode cX1_cheapestByAnyLight 77 = .ok (.iload 6, 2) := by decide +kernel
theorem dX1_cheapestByAnyLight_79 : decode cX1_cheapestByAnyLight 79 = .ok (.ishr, 1) := by decide +kernel
theorem dX1_cheapestByAnyLight_80 : decode cX1_cheapestByAnyLight 80 = .ok (.iconst 1, 1) := by decide +kernel
theorem dX1_cheapestByAnyLight_81 : decode cX1_cheapestByAnyLight 81 = .ok (.iand, 1) := by decide +kernel
theorem dX1_cheapestByAnyLight_82 : decode cX1_cheapestByAnyLight 82 = .ok (.ifCond .ne 7, 3) := by decide +kernel
theorem dX1_cheapestByAnyLight_85 : decode cX1_cheapestByAnyLight 85 = .ok (.iconst 1, 1) := by decide +kernel
theorem dX1_cheapestByAnyLight_86 : decode cX1_cheapestByAnyLight 86 = .ok (.goto 4, 3) := by decide +kernel
theorem dX1_cheapestByAnyLight_89 : decode cX1_cheapestByAnyLight 89 = .ok (.iconst 0, 1) := by decide +kernel
theorem dX1_cheapestByAnyLight_90 : decode cX1_cheapestByAnyLight 90 = .ok (.invokevirtual 65, 3) := by decide +kernel
theorem dX1_cheapestByAnyLight_93 : decode cX1_cheapestByAnyLight 93 = .ok (.iastore, 1) := by decide +kernel
theorem dX1_cheapestByAnyLight_94 : decode cX1_cheapestByAnyLight 94 = .ok (.iinc 6 1, 3) := by decide +kernel
theorem dX1_cheapestByAnyLight_97 : decode cX1_cheapestByAnyLight 97 = .ok (.goto (-68), 3) := by decide +kernel
theorem dX1_cheapestByAnyLight_100 : decode cX1_cheapestByAnyLight 100 = .ok (.aload_n 0, 1) := by decide +kernel
theorem dX1_cheapestByAnyLight_101 : decode cX1_cheapestByAnyLight 101 = .ok (.aload_n 1, 1) := by decide +kernel
theorem dX1_cheapestByAnyLight_102 : decode cX1_cheapestByAnyLight 102 = .ok (.iload 5, 2) := by decide +kernel
theorem dX1_cheapestByAnyLight_104 : decode cX1_cheapestByAnyLight 104 = .ok (.aload_n 2, 1) := by decide +kernel
theorem dX1_cheapestByAnyLight_105 : decode cX1_cheapestByAnyLight 105 = .ok (.getfield 36, 3) := by decide +kernel
theorem dX1_cheapestByAnyLight_108 : decode cX1_cheapestByAnyLight 108 = .ok (.aload_n 2, 1) := by decide +kernel
theorem dX1_cheapestByAnyLight_109 : decode cX1_cheapestByAnyLight 109 = .ok (.getfield 36, 3) := by decide +kernel
theorem dX1_cheapestByAnyLight_112 : decode cX1_cheapestByAnyLight 112 = .ok (.bipush 14, 2) := by decide +kernel
theorem dX1_cheapestByAnyLight_114 : decode cX1_cheapestByAnyLight 114 = .ok (.ishl, 1) := by decide +kernel
theorem dX1_cheapestByAnyLight_115 : decode cX1_cheapestByAnyLight 115 = .ok (.ior, 1) := by decide +kernel
theorem dX1_cheapestByAnyLight_116 : decode cX1_cheapestByAnyLight 116 = .ok (.invokevirtual 42, 3) := by decide +kernel
theorem dX1_cheapestByAnyLight_119 : decode cX1_cheapestByAnyLight 119 = .ok (.aload_n 0, 1) := by decide +kernel
theorem dX1_cheapestByAnyLight_120 : decode cX1_cheapestByAnyLight 120 = .ok (.iload 5, 2) := by decide +kernel
theorem dX1_cheapestByAnyLight_122 : decode cX1_cheapestByAnyLight 122 = .ok (.iload 4, 2) := by decide +kernel
theorem dX1_cheapestByAnyLight_124 : decode cX1_cheapestByAnyLight 124 = .ok (.iconst 1, 1) := by decide +kernel
theorem dX1_cheapestByAnyLight_125 : decode cX1_cheapestByAnyLight 125 = .ok (.iload_n 3, 1) := by decide +kernel
theorem dX1_cheapestByAnyLight_126 : decode cX1_cheapestByAnyLight 126 = .ok (.ishl, 1) := by decide +kernel
theorem dX1_cheapestByAnyLight_127 : decode cX1_cheapestByAnyLight 127 = .ok (.iconst 1, 1) := by decide +kernel
theorem dX1_cheapestByAnyLight_128 : decode cX1_cheapestByAnyLight 128 = .ok (.iload_n 3, 1) := by decide +kernel
theorem dX1_cheapestByAnyLight_129 : decode cX1_cheapestByAnyLight 129 = .ok (.bipush 14, 2) := by decide +kernel
theorem dX1_cheapestByAnyLight_131 : decode cX1_cheapestByAnyLight 131 = .ok (.iadd, 1) := by decide +kernel
theorem dX1_cheapestByAnyLight_132 : decode cX1_cheapestByAnyLight 132 = .ok (.ishl, 1) := by decide +kernel
theorem dX1_cheapestByAnyLight_133 : decode cX1_cheapestByAnyLight 133 = .ok (.ior, 1) := by decide +kernel
theorem dX1_cheapestByAnyLight_134 : decode cX1_cheapestByAnyLight 134 = .ok (.invokevirtual 50, 3) := by decide +kernel
theorem dX1_cheapestByAnyLight_137 : decode cX1_cheapestByAnyLight 137 = .ok (.lreturn, 1) := by decide +kernel
theorem dX1_tellingBelow_0 : decode cX1_tellingBelow 0 = .ok (.aload_n 0, 1) := by decide +kernel
theorem dX1_tellingBelow_1 : decode cX1_tellingBelow 1 = .ok (.aload_n 1, 1) := by decide +kernel
theorem dX1_tellingBelow_2 : decode cX1_tellingBelow 2 = .ok (.aload_n 2, 1) := by decide +kernel
theorem dX1_tellingBelow_3 : decode cX1_tellingBelow 3 = .ok (.iload_n 3, 1) := by decide +kernel
theorem dX1_tellingBelow_4 : decode cX1_tellingBelow 4 = .ok (.invokevirtual 32, 3) := by decide +kernel
theorem dX1_tellingBelow_7 : decode cX1_tellingBelow 7 = .ok (.aload_n 0, 1) := by decide +kernel
theorem dX1_tellingBelow_8 : decode cX1_tellingBelow 8 = .ok (.aload_n 1, 1) := by decide +kernel
theorem dX1_tellingBelow_9 : decode cX1_tellingBelow 9 = .ok (.aload_n 1, 1) := by decide +kernel
theorem dX1_tellingBelow_10 : decode cX1_tellingBelow 10 = .ok (.invokevirtual 26, 3) := by decide +kernel
theorem dX1_tellingBelow_13 : decode cX1_tellingBelow 13 = .ok (.aload_n 2, 1) := by decide +kernel
theorem dX1_tellingBelow_14 : decode cX1_tellingBelow 14 = .ok (.getfield 36, 3) := by decide +kernel
theorem dX1_tellingBelow_17 : decode cX1_tellingBelow 17 = .ok (.invokevirtual 42, 3) := by decide +kernel
theorem dX1_tellingBelow_20 : decode cX1_tellingBelow 20 = .ok (.iconst 0, 1) := by decide +kernel
theorem dX1_tellingBelow_21 : decode cX1_tellingBelow 21 = .ok (.istore 5, 2) := by decide +kernel
theorem dX1_tellingBelow_23 : decode cX1_tellingBelow 23 = .ok (.iconst 0, 1) := by decide +kernel
theorem dX1_tellingBelow_24 : decode cX1_tellingBelow 24 = .ok (.istore 6, 2) := by decide +kernel
theorem dX1_tellingBelow_26 : decode cX1_tellingBelow 26 = .ok (.iload 6, 2) := by decide +kernel
theorem dX1_tellingBelow_28 : decode cX1_tellingBelow 28 = .ok (.aload_n 1, 1) := by decide +kernel
theorem dX1_tellingBelow_29 : decode cX1_tellingBelow 29 = .ok (.invokevirtual 26, 3) := by decide +kernel
theorem dX1_tellingBelow_32 : decode cX1_tellingBelow 32 = .ok (.if_icmp .gt 43, 3) := by decide +kernel
theorem dX1_tellingBelow_35 : decode cX1_tellingBelow 35 = .ok (.aload_n 0, 1) := by decide +kernel
theorem dX1_tellingBelow_36 : decode cX1_tellingBelow 36 = .ok (.getfield 9, 3) := by decide +kernel
theorem dX1_tellingBelow_39 : decode cX1_tellingBelow 39 = .ok (.iload 6, 2) := by decide +kernel
theorem dX1_tellingBelow_41 : decode cX1_tellingBelow 41 = .ok (.laload, 1) := by decide +kernel
theorem dX1_tellingBelow_42 : decode cX1_tellingBelow 42 = .ok (.l2i, 1) := by decide +kernel
theorem dX1_tellingBelow_43 : decode cX1_tellingBelow 43 = .ok (.iconst 1, 1) := by decide +kernel
theorem dX1_tellingBelow_44 : decode cX1_tellingBelow 44 = .ok (.iload_n 3, 1) := by decide +kernel
theorem dX1_tellingBelow_45 : decode cX1_tellingBelow 45 = .ok (.ishl, 1) := by decide +kernel
theorem dX1_tellingBelow_46 : decode cX1_tellingBelow 46 = .ok (.if_icmp .ne 23, 3) := by decide +kernel
theorem dX1_tellingBelow_49 : decode cX1_tellingBelow 49 = .ok (.aload_n 0, 1) := by decide +kernel
theorem dX1_tellingBelow_50 : decode cX1_tellingBelow 50 = .ok (.getfield 9, 3) := by decide +kernel
theorem dX1_tellingBelow_53 : decode cX1_tellingBelow 53 = .ok (.iload 6, 2) := by decide +kernel
theorem dX1_tellingBelow_55 : decode cX1_tellingBelow 55 = .ok (.laload, 1) := by decide +kernel
theorem dX1_tellingBelow_56 : decode cX1_tellingBelow 56 = .ok (.bipush 32, 2) := by decide +kernel
theorem dX1_tellingBelow_58 : decode cX1_tellingBelow 58 = .ok (.lshr, 1) := by decide +kernel
theorem dX1_tellingBelow_59 : decode cX1_tellingBelow 59 = .ok (.iload 4, 2) := by decide +kernel
theorem dX1_tellingBelow_61 : decode cX1_tellingBelow 61 = .ok (.i2l, 1) := by decide +kernel
theorem dX1_tellingBelow_62 : decode cX1_tellingBelow 62 = .ok (.lcmp, 1) := by decide +kernel
theorem dX1_tellingBelow_63 : decode cX1_tellingBelow 63 = .ok (.ifCond .ge 6, 3) := by decide +kernel
theorem dX1_tellingBelow_66 : decode cX1_tellingBelow 66 = .ok (.iinc 5 1, 3) := by decide +kernel
theorem dX1_tellingBelow_69 : decode cX1_tellingBelow 69 = .ok (.iinc 6 1, 3) := by decide +kernel
theorem dX1_tellingBelow_72 : decode cX1_tellingBelow 72 = .ok (.goto (-46), 3) := by decide +kernel
theorem dX1_tellingBelow_75 : decode cX1_tellingBelow 75 = .ok (.iload 5, 2) := by decide +kernel
theorem dX1_tellingBelow_77 : decode cX1_tellingBelow 77 = .ok (.ireturn, 1) := by decide +kernel
theorem dX1_fewestThatHarden_0 : decode cX1_fewestThatHarden 0 = .ok (.aload_n 1, 1) := by decide +kernel
theorem dX1_fewestThatHarden_1 : decode cX1_fewestThatHarden 1 = .ok (.invokevirtual 69, 3) := by decide +kernel
theorem dX1_fewestThatHarden_4 : decode cX1_fewestThatHarden 4 = .ok (.aload_n 2, 1) := by decide +kernel
theorem dX1_fewestThatHarden_5 : decode cX1_fewestThatHarden 5 = .ok (.getfield 36, 3) := by decide +kernel
theorem dX1_fewestThatHarden_8 : decode cX1_fewestThatHarden 8 = .ok (.iconst (-1), 1) := by decide +kernel
theorem dX1_fewestThatHarden_9 : decode cX1_fewestThatHarden 9 = .ok (.ixor, 1) := by decide +kernel
theorem dX1_fewestThatHarden_10 : decode cX1_fewestThatHarden 10 = .ok (.iand, 1) := by decide +kernel
theorem dX1_fewestThatHarden_11 : decode cX1_fewestThatHarden 11 = .ok (.istore 5, 2) := by decide +kernel
theorem dX1_fewestThatHarden_13 : decode cX1_fewestThatHarden 13 = .ok (.aload_n 0, 1) := by decide +kernel
theorem dX1_fewestThatHarden_14 : decode cX1_fewestThatHarden 14 = .ok (.aload_n 1, 1) := by decide +kernel
theorem dX1_fewestThatHarden_15 : decode cX1_fewestThatHarden 15 = .ok (.aload_n 2, 1) := by decide +kernel
theorem dX1_fewestThatHarden_16 : decode cX1_fewestThatHarden 16 = .ok (.iload_n 3, 1) := by decide +kernel
theorem dX1_fewestThatHarden_17 : decode cX1_fewestThatHarden 17 = .ok (.invokevirtual 32, 3) := by decide +kernel
theorem dX1_fewestThatHarden_20 : decode cX1_fewestThatHarden 20 = .ok (.aload_n 0, 1) := by decide +kernel
theorem dX1_fewestThatHarden_21 : decode cX1_fewestThatHarden 21 = .ok (.aload_n 1, 1) := by decide +kernel
theorem dX1_fewestThatHarden_22 : decode cX1_fewestThatHarden 22 = .ok (.aload_n 1, 1) := by decide +kernel
theorem dX1_fewestThatHarden_23 : decode cX1_fewestThatHarden 23 = .ok (.invokevirtual 26, 3) := by decide +kernel
theorem dX1_fewestThatHarden_26 : decode cX1_fewestThatHarden 26 = .ok (.aload_n 1, 1) := by decide +kernel
theorem dX1_fewestThatHarden_27 : decode cX1_fewestThatHarden 27 = .ok (.invokevirtual 69, 3) := by decide +kernel
theorem dX1_fewestThatHarden_30 : decode cX1_fewestThatHarden 30 = .ok (.invokevirtual 42, 3) := by decide +kernel
theorem dX1_fewestThatHarden_33 : decode cX1_fewestThatHarden 33 = .ok (.iconst (-1), 1) := by decide +kernel
theorem dX1_fewestThatHarden_34 : decode cX1_fewestThatHarden 34 = .ok (.istore 6, 2) := by decide +kernel
theorem dX1_fewestThatHarden_36 : decode cX1_fewestThatHarden 36 = .ok (.bipush 15, 2) := by decide +kernel
theorem dX1_fewestThatHarden_38 : decode cX1_fewestThatHarden 38 = .ok (.istore 7, 2) := by decide +kernel
theorem dX1_fewestThatHarden_40 : decode cX1_fewestThatHarden 40 = .ok (.iconst 0, 1) := by decide +kernel
theorem dX1_fewestThatHarden_41 : decode cX1_fewestThatHarden 41 = .ok (.istore 8, 2) := by decide +kernel
theorem dX1_fewestThatHarden_43 : decode cX1_fewestThatHarden 43 = .ok (.iconst 0, 1) := by decide +kernel
theorem dX1_fewestThatHarden_44 : decode cX1_fewestThatHarden 44 = .ok (.istore 9, 2) := by decide +kernel
theorem dX1_fewestThatHarden_46 : decode cX1_fewestThatHarden 46 = .ok (.iload 9, 2) := by decide +kernel
theorem dX1_fewestThatHarden_48 : decode cX1_fewestThatHarden 48 = .ok (.bipush 64, 2) := by decide +kernel
theorem dX1_fewestThatHarden_50 : decode cX1_fewestThatHarden 50 = .ok (.if_icmp .ge 66, 3) := by decide +kernel
theorem dX1_fewestThatHarden_53 : decode cX1_fewestThatHarden 53 = .ok (.iload 8, 2) := by decide +kernel
theorem dX1_fewestThatHarden_55 : decode cX1_fewestThatHarden 55 = .ok (.invokestatic 72, 3) := by decide +kernel
theorem dX1_fewestThatHarden_58 : decode cX1_fewestThatHarden 58 = .ok (.iload 7, 2) := by decide +kernel
theorem dX1_fewestThatHarden_60 : decode cX1_fewestThatHarden 60 = .ok (.if_icmp .ge 32, 3) := by decide +kernel
theorem dX1_fewestThatHarden_63 : decode cX1_fewestThatHarden 63 = .ok (.aload_n 0, 1) := by decide +kernel
theorem dX1_fewestThatHarden_64 : decode cX1_fewestThatHarden 64 = .ok (.aload_n 1, 1) := by decide +kernel
theorem dX1_fewestThatHarden_65 : decode cX1_fewestThatHarden 65 = .ok (.aload_n 2, 1) := by decide +kernel
theorem dX1_fewestThatHarden_66 : decode cX1_fewestThatHarden 66 = .ok (.getfield 36, 3) := by decide +kernel
theorem dX1_fewestThatHarden_69 : decode cX1_fewestThatHarden 69 = .ok (.iload 8, 2) := by decide +kernel
theorem dX1_fewestThatHarden_71 : decode cX1_fewestThatHarden 71 = .ok (.ior, 1) := by decide +kernel
theorem dX1_fewestThatHarden_72 : decode cX1_fewestThatHarden 72 = .ok (.iload_n 3, 1) := by decide +kernel
theorem dX1_fewestThatHarden_73 : decode cX1_fewestThatHarden 73 = .ok (.iload 4, 2) := by decide +kernel
theorem dX1_fewestThatHarden_75 : decode cX1_fewestThatHarden 75 = .ok (.invokevirtual 77, 3) := by decide +kernel
theorem dX1_fewestThatHarden_78 : decode cX1_fewestThatHarden 78 = .ok (.ifCond .eq 14, 3) := by decide +kernel
theorem dX1_fewestThatHarden_81 : decode cX1_fewestThatHarden 81 = .ok (.iload 8, 2) := by decide +kernel
theorem dX1_fewestThatHarden_83 : decode cX1_fewestThatHarden 83 = .ok (.istore 6, 2) := by decide +kernel
theorem dX1_fewestThatHarden_85 : decode cX1_fewestThatHarden 85 = .ok (.iload 8, 2) := by decide +kernel
theorem dX1_fewestThatHarden_87 : decode cX1_fewestThatHarden 87 = .ok (.invokestatic 72, 3) := by decide +kernel
theorem dX1_fewestThatHarden_90 : decode cX1_fewestThatHarden 90 = .ok (.istore 7, 2) := by decide +kernel
theorem dX1_fewestThatHarden_92 : decode cX1_fewestThatHarden 92 = .ok (.iload 8, 2) := by decide +kernel
theorem dX1_fewestThatHarden_94 : decode cX1_fewestThatHarden 94 = .ok (.iload 5, 2) := by decide +kernel
theorem dX1_fewestThatHarden_96 : decode cX1_fewestThatHarden 96 = .ok (.isub, 1) := by decide +kernel
theorem dX1_fewestThatHarden_97 : decode cX1_fewestThatHarden 97 = .ok (.iload 5, 2) := by decide +kernel
theorem dX1_fewestThatHarden_99 : decode cX1_fewestThatHarden 99 = .ok (.iand, 1) := by decide +kernel
theorem dX1_fewestThatHarden_100 : decode cX1_fewestThatHarden 100 = .ok (.istore 8, 2) := by decide +kernel
theorem dX1_fewestThatHarden_102 : decode cX1_fewestThatHarden 102 = .ok (.iload 8, 2) := by decide +kernel
theorem dX1_fewestThatHarden_104 : decode cX1_fewestThatHarden 104 = .ok (.ifCond .ne 6, 3) := by decide +kernel
theorem dX1_fewestThatHarden_107 : decode cX1_fewestThatHarden 107 = .ok (.goto 9, 3) := by decide +kernel
theorem dX1_fewestThatHarden_110 : decode cX1_fewestThatHarden 110 = .ok (.iinc 9 1, 3) := by decide +kernel
theorem dX1_fewestThatHarden_113 : decode cX1_fewestThatHarden 113 = .ok (.goto (-67), 3) := by decide +kernel
theorem dX1_fewestThatHarden_116 : decode cX1_fewestThatHarden 116 = .ok (.iload 6, 2) := by decide +kernel
theorem dX1_fewestThatHarden_118 : decode cX1_fewestThatHarden 118 = .ok (.ireturn, 1) := by decide +kernel
theorem dX1_isHard_0 : decode cX1_isHard 0 = .ok (.iconst 0, 1) := by decide +kernel
theorem dX1_isHard_1 : decode cX1_isHard 1 = .ok (.istore 5, 2) := by decide +kernel
theorem dX1_isHard_3 : decode cX1_isHard 3 = .ok (.iload 5, 2) := by decide +kernel
theorem dX1_isHard_5 : decode cX1_isHard 5 = .ok (.aload_n 1, 1) := by decide +kernel
theorem dX1_isHard_6 : decode cX1_isHard 6 = .ok (.invokevirtual 26, 3) := by decide +kernel
theorem dX1_isHard_9 : decode cX1_isHard 9 = .ok (.if_icmp .gt 44, 3) := by decide +kernel
theorem dX1_isHard_12 : decode cX1_isHard 12 = .ok (.aload_n 0, 1) := by decide +kernel
theorem dX1_isHard_13 : decode cX1_isHard 13 = .ok (.getfield 9, 3) := by decide +kernel
theorem dX1_isHard_16 : decode cX1_isHard 16 = .ok (.iload 5, 2) := by decide +kernel
theorem dX1_isHard_18 : decode cX1_isHard 18 = .ok (.laload, 1) := by decide +kernel
theorem dX1_isHard_19 : decode cX1_isHard 19 = .ok (.l2i, 1) := by decide +kernel
theorem dX1_isHard_20 : decode cX1_isHard 20 = .ok (.iload_n 2, 1) := by decide +kernel
theorem dX1_isHard_21 : decode cX1_isHard 21 = .ok (.iand, 1) := by decide +kernel
theorem dX1_isHard_22 : decode cX1_isHard 22 = .ok (.iconst 1, 1) := by decide +kernel
theorem dX1_isHard_23 : decode cX1_isHard 23 = .ok (.iload_n 3, 1) := by decide +kernel
theorem dX1_isHard_24 : decode cX1_isHard 24 = .ok (.ishl, 1) := by decide +kernel
theorem dX1_isHard_25 : decode cX1_isHard 25 = .ok (.if_icmp .ne 22, 3) := by decide +kernel
theorem dX1_isHard_28 : decode cX1_isHard 28 = .ok (.aload_n 0, 1) := by decide +kernel
theorem dX1_isHard_29 : decode cX1_isHard 29 = .ok (.getfield 9, 3) := by decide +kernel
theorem dX1_isHard_32 : decode cX1_isHard 32 = .ok (.iload 5, 2) := by decide +kernel
theorem dX1_isHard_34 : decode cX1_isHard 34 = .ok (.laload, 1) := by decide +kernel
theorem dX1_isHard_35 : decode cX1_isHard 35 = .ok (.bipush 32, 2) := by decide +kernel
theorem dX1_isHard_37 : decode cX1_isHard 37 = .ok (.lshr, 1) := by decide +kernel
theorem dX1_isHard_38 : decode cX1_isHard 38 = .ok (.iload 4, 2) := by decide +kernel
theorem dX1_isHard_40 : decode cX1_isHard 40 = .ok (.i2l, 1) := by decide +kernel
theorem dX1_isHard_41 : decode cX1_isHard 41 = .ok (.lcmp, 1) := by decide +kernel
theorem dX1_isHard_42 : decode cX1_isHard 42 = .ok (.ifCond .ge 5, 3) := by decide +kernel
theorem dX1_isHard_45 : decode cX1_isHard 45 = .ok (.iconst 0, 1) := by decide +kernel
theorem dX1_isHard_46 : decode cX1_isHard 46 = .ok (.ireturn, 1) := by decide +kernel
theorem dX1_isHard_47 : decode cX1_isHard 47 = .ok (.iinc 5 1, 3) := by decide +kernel
theorem dX1_isHard_50 : decode cX1_isHard 50 = .ok (.goto (-47), 3) := by decide +kernel
theorem dX1_isHard_53 : decode cX1_isHard 53 = .ok (.iconst 1, 1) := by decide +kernel
theorem dX1_isHard_54 : decode cX1_isHard 54 = .ok (.ireturn, 1) := by decide +kernel
theorem dX1_wordByWord_0 : decode cX1_wordByWord 0 = .ok (.aload_n 0, 1) := by decide +kernel
theorem dX1_wordByWord_1 : decode cX1_wordByWord 1 = .ok (.aload_n 1, 1) := by decide +kernel
theorem dX1_wordByWord_2 : decode cX1_wordByWord 2 = .ok (.aload_n 2, 1) := by decide +kernel
theorem dX1_wordByWord_3 : decode cX1_wordByWord 3 = .ok (.iload_n 3, 1) := by decide +kernel
theorem dX1_wordByWord_4 : decode cX1_wordByWord 4 = .ok (.invokevirtual 32, 3) := by decide +kernel
theorem dX1_wordByWord_7 : decode cX1_wordByWord 7 = .ok (.aload_n 2, 1) := by decide +kernel
theorem dX1_wordByWord_8 : decode cX1_wordByWord 8 = .ok (.getfield 36, 3) := by decide +kernel
theorem dX1_wordByWord_11 : decode cX1_wordByWord 11 = .ok (.istore 4, 2) := by decide +kernel
theorem dX1_wordByWord_13 : decode cX1_wordByWord 13 = .ok (.iconst 0, 1) := by decide +kernel
theorem dX1_wordByWord_14 : decode cX1_wordByWord 14 = .ok (.istore 5, 2) := by decide +kernel
theorem dX1_wordByWord_16 : decode cX1_wordByWord 16 = .ok (.iconst 0, 1) := by decide +kernel
theorem dX1_wordByWord_17 : decode cX1_wordByWord 17 = .ok (.istore 6, 2) := by decide +kernel
theorem dX1_wordByWord_19 : decode cX1_wordByWord 19 = .ok (.iload 6, 2) := by decide +kernel
theorem dX1_wordByWord_21 : decode cX1_wordByWord 21 = .ok (.aload_n 1, 1) := by decide +kernel
theorem dX1_wordByWord_22 : decode cX1_wordByWord 22 = .ok (.getfield 58, 3) := by decide +kernel
theorem dX1_wordByWord_25 : decode cX1_wordByWord 25 = .ok (.if_icmp .ge 56, 3) := by decide +kernel
theorem dX1_wordByWord_28 : decode cX1_wordByWord 28 = .ok (.iload 4, 2) := by decide +kernel
theorem dX1_wordByWord_30 : decode cX1_wordByWord 30 = .ok (.invokestatic 72, 3) := by decide +kernel
theorem dX1_wordByWord_33 : decode cX1_wordByWord 33 = .ok (.iconst 1, 1) := by decide +kernel
theorem dX1_wordByWord_34 : decode cX1_wordByWord 34 = .ok (.if_icmp .le 47, 3) := by decide +kernel
theorem dX1_wordByWord_37 : decode cX1_wordByWord 37 = .ok (.aload_n 0, 1) := by decide +kernel
theorem dX1_wordByWord_38 : decode cX1_wordByWord 38 = .ok (.aload_n 1, 1) := by decide +kernel
theorem dX1_wordByWord_39 : decode cX1_wordByWord 39 = .ok (.iload 4, 2) := by decide +kernel
theorem dX1_wordByWord_41 : decode cX1_wordByWord 41 = .ok (.invokevirtual 81, 3) := by decide +kernel
theorem dX1_wordByWord_44 : decode cX1_wordByWord 44 = .ok (.istore 7, 2) := by decide +kernel
theorem dX1_wordByWord_46 : decode cX1_wordByWord 46 = .ok (.iload 7, 2) := by decide +kernel
theorem dX1_wordByWord_48 : decode cX1_wordByWord 48 = .ok (.iconst (-1), 1) := by decide +kernel
theorem dX1_wordByWord_49 : decode cX1_wordByWord 49 = .ok (.if_icmp .ne 5, 3) := by decide +kernel
theorem dX1_wordByWord_52 : decode cX1_wordByWord 52 = .ok (.iconst (-1), 1) := by decide +kernel
theorem dX1_wordByWord_53 : decode cX1_wordByWord 53 = .ok (.ireturn, 1) := by decide +kernel
theorem dX1_wordByWord_54 : decode cX1_wordByWord 54 = .ok (.iload 5, 2) := by decide +kernel
theorem dX1_wordByWord_56 : decode cX1_wordByWord 56 = .ok (.iconst 1, 1) := by decide +kernel
theorem dX1_wordByWord_57 : decode cX1_wordByWord 57 = .ok (.iload 7, 2) := by decide +kernel
theorem dX1_wordByWord_59 : decode cX1_wordByWord 59 = .ok (.ishl, 1) := by decide +kernel
theorem dX1_wordByWord_60 : decode cX1_wordByWord 60 = .ok (.ior, 1) := by decide +kernel
theorem dX1_wordByWord_61 : decode cX1_wordByWord 61 = .ok (.istore 5, 2) := by decide +kernel
theorem dX1_wordByWord_63 : decode cX1_wordByWord 63 = .ok (.iload 4, 2) := by decide +kernel
theorem dX1_wordByWord_65 : decode cX1_wordByWord 65 = .ok (.aload_n 0, 1) := by decide +kernel
theorem dX1_wordByWord_66 : decode cX1_wordByWord 66 = .ok (.getfield 15, 3) := by decide +kernel
theorem dX1_wordByWord_69 : decode cX1_wordByWord 69 = .ok (.iload 7, 2) := by decide +kernel
theorem dX1_wordByWord_71 : decode cX1_wordByWord 71 = .ok (.iaload, 1) := by decide +kernel
theorem dX1_wordByWord_72 : decode cX1_wordByWord 72 = .ok (.iand, 1) := by decide +kernel
theorem dX1_wordByWord_73 : decode cX1_wordByWord 73 = .ok (.istore 4, 2) := by decide +kernel
theorem dX1_wordByWord_75 : decode cX1_wordByWord 75 = .ok (.iinc 6 1, 3) := by decide +kernel
theorem dX1_wordByWord_78 : decode cX1_wordByWord 78 = .ok (.goto (-59), 3) := by decide +kernel
theorem dX1_wordByWord_81 : decode cX1_wordByWord 81 = .ok (.iload 4, 2) := by decide +kernel
theorem dX1_wordByWord_83 : decode cX1_wordByWord 83 = .ok (.iconst 1, 1) := by decide +kernel
theorem dX1_wordByWord_84 : decode cX1_wordByWord 84 = .ok (.iload_n 3, 1) := by decide +kernel
theorem dX1_wordByWord_85 : decode cX1_wordByWord 85 = .ok (.ishl, 1) := by decide +kernel
theorem dX1_wordByWord_86 : decode cX1_wordByWord 86 = .ok (.if_icmp .ne 16, 3) := by decide +kernel
theorem dX1_wordByWord_89 : decode cX1_wordByWord 89 = .ok (.iload 5, 2) := by decide +kernel
theorem dX1_wordByWord_91 : decode cX1_wordByWord 91 = .ok (.aload_n 2, 1) := by decide +kernel
theorem dX1_wordByWord_92 : decode cX1_wordByWord 92 = .ok (.iload_n 3, 1) := by decide +kernel
theorem dX1_wordByWord_93 : decode cX1_wordByWord 93 = .ok (.invokevirtual 46, 3) := by decide +kernel
theorem dX1_wordByWord_96 : decode cX1_wordByWord 96 = .ok (.invokestatic 85, 3) := by decide +kernel
theorem dX1_wordByWord_99 : decode cX1_wordByWord 99 = .ok (.goto 4, 3) := by decide +kernel
theorem dX1_wordByWord_102 : decode cX1_wordByWord 102 = .ok (.iconst (-1), 1) := by decide +kernel
theorem dX1_wordByWord_103 : decode cX1_wordByWord 103 = .ok (.ireturn, 1) := by decide +kernel
theorem dX1_sharpest_0 : decode cX1_sharpest 0 = .ok (.iconst (-1), 1) := by decide +kernel
theorem dX1_sharpest_1 : decode cX1_sharpest 1 = .ok (.istore_n 3, 1) := by decide +kernel
theorem dX1_sharpest_2 : decode cX1_sharpest 2 = .ok (.iload_n 2, 1) := by decide +kernel
theorem dX1_sharpest_3 : decode cX1_sharpest 3 = .ok (.invokestatic 72, 3) := by decide +kernel
theorem dX1_sharpest_6 : decode cX1_sharpest 6 = .ok (.istore 4, 2) := by decide +kernel
theorem dX1_sharpest_8 : decode cX1_sharpest 8 = .ok (.iconst 0, 1) := by decide +kernel
theorem dX1_sharpest_9 : decode cX1_sharpest 9 = .ok (.istore 5, 2) := by decide +kernel
theorem dX1_sharpest_11 : decode cX1_sharpest 11 = .ok (.iload 5, 2) := by decide +kernel
theorem dX1_sharpest_13 : decode cX1_sharpest 13 = .ok (.aload_n 1, 1) := by decide +kernel
theorem dX1_sharpest_14 : decode cX1_sharpest 14 = .ok (.getfield 58, 3) := by decide +kernel
theorem dX1_sharpest_17 : decode cX1_sharpest 17 = .ok (.if_icmp .ge 65, 3) := by decide +kernel
theorem dX1_sharpest_20 : decode cX1_sharpest 20 = .ok (.iload_n 2, 1) := by decide +kernel
theorem dX1_sharpest_21 : decode cX1_sharpest 21 = .ok (.aload_n 0, 1) := by decide +kernel
theorem dX1_sharpest_22 : decode cX1_sharpest 22 = .ok (.getfield 15, 3) := by decide +kernel
theorem dX1_sharpest_25 : decode cX1_sharpest 25 = .ok (.iload 5, 2) := by decide +kernel
theorem dX1_sharpest_27 : decode cX1_sharpest 27 = .ok (.iaload, 1) := by decide +kernel
theorem dX1_sharpest_28 : decode cX1_sharpest 28 = .ok (.iand, 1) := by decide +kernel
theorem dX1_sharpest_29 : decode cX1_sharpest 29 = .ok (.invokestatic 72, 3) := by decide +kernel
theorem dX1_sharpest_32 : decode cX1_sharpest 32 = .ok (.istore 6, 2) := by decide +kernel
theorem dX1_sharpest_34 : decode cX1_sharpest 34 = .ok (.iload 6, 2) := by decide +kernel
theorem dX1_sharpest_36 : decode cX1_sharpest 36 = .ok (.iload 4, 2) := by decide +kernel
theorem dX1_sharpest_38 : decode cX1_sharpest 38 = .ok (.if_icmp .lt 31, 3) := by decide +kernel
theorem dX1_sharpest_41 : decode cX1_sharpest 41 = .ok (.iload_n 3, 1) := by decide +kernel
theorem dX1_sharpest_42 : decode cX1_sharpest 42 = .ok (.iconst (-1), 1) := by decide +kernel
theorem dX1_sharpest_43 : decode cX1_sharpest 43 = .ok (.if_icmp .eq 33, 3) := by decide +kernel
theorem dX1_sharpest_46 : decode cX1_sharpest 46 = .ok (.iload 6, 2) := by decide +kernel
theorem dX1_sharpest_48 : decode cX1_sharpest 48 = .ok (.iload 4, 2) := by decide +kernel
theorem dX1_sharpest_50 : decode cX1_sharpest 50 = .ok (.if_icmp .ne 26, 3) := by decide +kernel
theorem dX1_sharpest_53 : decode cX1_sharpest 53 = .ok (.aload_n 0, 1) := by decide +kernel
theorem dX1_sharpest_54 : decode cX1_sharpest 54 = .ok (.getfield 19, 3) := by decide +kernel
theorem dX1_sharpest_57 : decode cX1_sharpest 57 = .ok (.iload 5, 2) := by decide +kernel
theorem dX1_sharpest_59 : decode cX1_sharpest 59 = .ok (.iaload, 1) := by decide +kernel
theorem dX1_sharpest_60 : decode cX1_sharpest 60 = .ok (.aload_n 0, 1) := by decide +kernel
theorem dX1_sharpest_61 : decode cX1_sharpest 61 = .ok (.getfield 19, 3) := by decide +kernel
theorem dX1_sharpest_64 : decode cX1_sharpest 64 = .ok (.iload_n 3, 1) := by decide +kernel
theorem dX1_sharpest_65 : decode cX1_sharpest 65 = .ok (.iaload, 1) := by decide +kernel
theorem dX1_sharpest_66 : decode cX1_sharpest 66 = .ok (.if_icmp .ge 10, 3) := by decide +kernel
theorem dX1_sharpest_69 : decode cX1_sharpest 69 = .ok (.iload 5, 2) := by decide +kernel
theorem dX1_sharpest_71 : decode cX1_sharpest 71 = .ok (.istore_n 3, 1) := by decide +kernel
theorem dX1_sharpest_72 : decode cX1_sharpest 72 = .ok (.iload 6, 2) := by decide +kernel
theorem dX1_sharpest_74 : decode cX1_sharpest 74 = .ok (.istore 4, 2) := by decide +kernel
theorem dX1_sharpest_76 : decode cX1_sharpest 76 = .ok (.iinc 5 1, 3) := by decide +kernel
theorem dX1_sharpest_79 : decode cX1_sharpest 79 = .ok (.goto (-68), 3) := by decide +kernel
theorem dX1_sharpest_82 : decode cX1_sharpest 82 = .ok (.iload_n 3, 1) := by decide +kernel
theorem dX1_sharpest_83 : decode cX1_sharpest 83 = .ok (.ireturn, 1) := by decide +kernel
theorem dX1_weighNow_0 : decode cX1_weighNow 0 = .ok (.iconst 0, 1) := by decide +kernel
theorem dX1_weighNow_1 : decode cX1_weighNow 1 = .ok (.istore 4, 2) := by decide +kernel
theorem dX1_weighNow_3 : decode cX1_weighNow 3 = .ok (.iload 4, 2) := by decide +kernel
theorem dX1_weighNow_5 : decode cX1_weighNow 5 = .ok (.aload_n 1, 1) := by decide +kernel
theorem dX1_weighNow_6 : decode cX1_weighNow 6 = .ok (.getfield 58, 3) := by decide +kernel
theorem dX1_weighNow_9 : decode cX1_weighNow 9 = .ok (.if_icmp .ge 59, 3) := by decide +kernel
theorem dX1_weighNow_12 : decode cX1_weighNow 12 = .ok (.aload_n 0, 1) := by decide +kernel
theorem dX1_weighNow_13 : decode cX1_weighNow 13 = .ok (.getfield 15, 3) := by decide +kernel
theorem dX1_weighNow_16 : decode cX1_weighNow 16 = .ok (.iload 4, 2) := by decide +kernel
theorem dX1_weighNow_18 : decode cX1_weighNow 18 = .ok (.aload_n 2, 1) := by decide +kernel
theorem dX1_weighNow_19 : decode cX1_weighNow 19 = .ok (.iload_n 3, 1) := by decide +kernel
theorem dX1_weighNow_20 : decode cX1_weighNow 20 = .ok (.iload 4, 2) := by decide +kernel
theorem dX1_weighNow_22 : decode cX1_weighNow 22 = .ok (.aload_n 2, 1) := by decide +kernel
theorem dX1_weighNow_23 : decode cX1_weighNow 23 = .ok (.getfield 89, 3) := by decide +kernel
theorem dX1_weighNow_26 : decode cX1_weighNow 26 = .ok (.invokestatic 61, 3) := by decide +kernel
theorem dX1_weighNow_29 : decode cX1_weighNow 29 = .ok (.iastore, 1) := by decide +kernel
theorem dX1_weighNow_30 : decode cX1_weighNow 30 = .ok (.aload_n 0, 1) := by decide +kernel
theorem dX1_weighNow_31 : decode cX1_weighNow 31 = .ok (.getfield 19, 3) := by decide +kernel
theorem dX1_weighNow_34 : decode cX1_weighNow 34 = .ok (.iload 4, 2) := by decide +kernel
theorem dX1_weighNow_36 : decode cX1_weighNow 36 = .ok (.aload_n 2, 1) := by decide +kernel
theorem dX1_weighNow_37 : decode cX1_weighNow 37 = .ok (.aload_n 1, 1) := by decide +kernel
theorem dX1_weighNow_38 : decode cX1_weighNow 38 = .ok (.iload 4, 2) := by decide +kernel
theorem dX1_weighNow_40 : decode cX1_weighNow 40 = .ok (.aload_n 2, 1) := by decide +kernel
theorem dX1_weighNow_41 : decode cX1_weighNow 41 = .ok (.iload_n 3, 1) := by decide +kernel
theorem dX1_weighNow_42 : decode cX1_weighNow 42 = .ok (.invokevirtual 46, 3) := by decide +kernel
theorem dX1_weighNow_45 : decode cX1_weighNow 45 = .ok (.iload 4, 2) := by decide +kernel
theorem dX1_weighNow_47 : decode cX1_weighNow 47 = .ok (.ishr, 1) := by decide +kernel
theorem dX1_weighNow_48 : decode cX1_weighNow 48 = .ok (.iconst 1, 1) := by decide +kernel
theorem dX1_weighNow_49 : decode cX1_weighNow 49 = .ok (.iand, 1) := by decide +kernel
theorem dX1_weighNow_50 : decode cX1_weighNow 50 = .ok (.ifCond .ne 7, 3) := by decide +kernel
theorem dX1_weighNow_53 : decode cX1_weighNow 53 = .ok (.iconst 1, 1) := by decide +kernel
theorem dX1_weighNow_54 : decode cX1_weighNow 54 = .ok (.goto 4, 3) := by decide +kernel
theorem dX1_weighNow_57 : decode cX1_weighNow 57 = .ok (.iconst 0, 1) := by decide +kernel
theorem dX1_weighNow_58 : decode cX1_weighNow 58 = .ok (.invokevirtual 65, 3) := by decide +kernel
theorem dX1_weighNow_61 : decode cX1_weighNow 61 = .ok (.iastore, 1) := by decide +kernel
theorem dX1_weighNow_62 : decode cX1_weighNow 62 = .ok (.iinc 4 1, 3) := by decide +kernel
theorem dX1_weighNow_65 : decode cX1_weighNow 65 = .ok (.goto (-62), 3) := by decide +kernel
theorem dX1_weighNow_68 : decode cX1_weighNow 68 = .ok (.return_, 1) := by decide +kernel
theorem dX1_agreeing_0 : decode cX1_agreeing 0 = .ok (.iconst 0, 1) := by decide +kernel
theorem dX1_agreeing_1 : decode cX1_agreeing 1 = .ok (.istore 4, 2) := by decide +kernel
theorem dX1_agreeing_3 : decode cX1_agreeing 3 = .ok (.iconst 0, 1) := by decide +kernel
theorem dX1_agreeing_4 : decode cX1_agreeing 4 = .ok (.istore 5, 2) := by decide +kernel
theorem dX1_agreeing_6 : decode cX1_agreeing 6 = .ok (.iload 5, 2) := by decide +kernel
theorem dX1_agreeing_8 : decode cX1_agreeing 8 = .ok (.bipush 14, 2) := by decide +kernel
theorem dX1_agreeing_10 : decode cX1_agreeing 10 = .ok (.if_icmp .ge 39, 3) := by decide +kernel
theorem dX1_agreeing_13 : decode cX1_agreeing 13 = .ok (.aload_n 0, 1) := by decide +kernel
theorem dX1_agreeing_14 : decode cX1_agreeing 14 = .ok (.iload_n 1, 1) := by decide +kernel
theorem dX1_agreeing_15 : decode cX1_agreeing 15 = .ok (.iload_n 3, 1) := by decide +kernel
theorem dX1_agreeing_16 : decode cX1_agreeing 16 = .ok (.invokevirtual 54, 3) := by decide +kernel
theorem dX1_agreeing_19 : decode cX1_agreeing 19 = .ok (.aload_n 0, 1) := by decide +kernel
theorem dX1_agreeing_20 : decode cX1_agreeing 20 = .ok (.iload 5, 2) := by decide +kernel
theorem dX1_agreeing_22 : decode cX1_agreeing 22 = .ok (.iload_n 3, 1) := by decide +kernel
theorem dX1_agreeing_23 : decode cX1_agreeing 23 = .ok (.invokevirtual 54, 3) := by decide +kernel
theorem dX1_agreeing_26 : decode cX1_agreeing 26 = .ok (.ixor, 1) := by decide +kernel
theorem dX1_agreeing_27 : decode cX1_agreeing 27 = .ok (.iload_n 2, 1) := by decide +kernel
theorem dX1_agreeing_28 : decode cX1_agreeing 28 = .ok (.ishr, 1) := by decide +kernel
theorem dX1_agreeing_29 : decode cX1_agreeing 29 = .ok (.iconst 1, 1) := by decide +kernel
theorem dX1_agreeing_30 : decode cX1_agreeing 30 = .ok (.iand, 1) := by decide +kernel
theorem dX1_agreeing_31 : decode cX1_agreeing 31 = .ok (.ifCond .ne 12, 3) := by decide +kernel
theorem dX1_agreeing_34 : decode cX1_agreeing 34 = .ok (.iload 4, 2) := by decide +kernel
theorem dX1_agreeing_36 : decode cX1_agreeing 36 = .ok (.iconst 1, 1) := by decide +kernel
theorem dX1_agreeing_37 : decode cX1_agreeing 37 = .ok (.iload 5, 2) := by decide +kernel
theorem dX1_agreeing_39 : decode cX1_agreeing 39 = .ok (.ishl, 1) := by decide +kernel
theorem dX1_agreeing_40 : decode cX1_agreeing 40 = .ok (.ior, 1) := by decide +kernel
theorem dX1_agreeing_41 : decode cX1_agreeing 41 = .ok (.istore 4, 2) := by decide +kernel
theorem dX1_agreeing_43 : decode cX1_agreeing 43 = .ok (.iinc 5 1, 3) := by decide +kernel
theorem dX1_agreeing_46 : decode cX1_agreeing 46 = .ok (.goto (-40), 3) := by decide +kernel
theorem dX1_agreeing_49 : decode cX1_agreeing 49 = .ok (.iload 4, 2) := by decide +kernel
theorem dX1_agreeing_51 : decode cX1_agreeing 51 = .ok (.ireturn, 1) := by decide +kernel
theorem dX1_spread_0 : decode cX1_spread 0 = .ok (.aload_n 0, 1) := by decide +kernel
theorem dX1_spread_1 : decode cX1_spread 1 = .ok (.getfield 9, 3) := by decide +kernel
theorem dX1_spread_4 : decode cX1_spread 4 = .ok (.iconst 0, 1) := by decide +kernel
theorem dX1_spread_5 : decode cX1_spread 5 = .ok (.iload_n 3, 1) := by decide +kernel
theorem dX1_spread_6 : decode cX1_spread 6 = .ok (.i2l, 1) := by decide +kernel
theorem dX1_spread_7 : decode cX1_spread 7 = .ok (.lastore, 1) := by decide +kernel
theorem dX1_spread_8 : decode cX1_spread 8 = .ok (.iconst 1, 1) := by decide +kernel
theorem dX1_spread_9 : decode cX1_spread 9 = .ok (.istore 4, 2) := by decide +kernel
theorem dX1_spread_11 : decode cX1_spread 11 = .ok (.iload 4, 2) := by decide +kernel
theorem dX1_spread_13 : decode cX1_spread 13 = .ok (.aload_n 1, 1) := by decide +kernel
theorem dX1_spread_14 : decode cX1_spread 14 = .ok (.invokevirtual 26, 3) := by decide +kernel
theorem dX1_spread_17 : decode cX1_spread 17 = .ok (.if_icmp .gt 80, 3) := by decide +kernel
theorem dX1_spread_20 : decode cX1_spread 20 = .ok (.iload 4, 2) := by decide +kernel
theorem dX1_spread_22 : decode cX1_spread 22 = .ok (.iload_n 2, 1) := by decide +kernel
theorem dX1_spread_23 : decode cX1_spread 23 = .ok (.iconst (-1), 1) := by decide +kernel
theorem dX1_spread_24 : decode cX1_spread 24 = .ok (.ixor, 1) := by decide +kernel
theorem dX1_spread_25 : decode cX1_spread 25 = .ok (.iand, 1) := by decide +kernel
theorem dX1_spread_26 : decode cX1_spread 26 = .ok (.ifCond .ne 65, 3) := by decide +kernel
theorem dX1_spread_29 : decode cX1_spread 29 = .ok (.iload 4, 2) := by decide +kernel
theorem dX1_spread_31 : decode cX1_spread 31 = .ok (.invokestatic 93, 3) := by decide +kernel
theorem dX1_spread_34 : decode cX1_spread 34 = .ok (.istore 5, 2) := by decide +kernel
theorem dX1_spread_36 : decode cX1_spread 36 = .ok (.aload_n 0, 1) := by decide +kernel
theorem dX1_spread_37 : decode cX1_spread 37 = .ok (.getfield 9, 3) := by decide +kernel
theorem dX1_spread_40 : decode cX1_spread 40 = .ok (.iload 4, 2) := by decide +kernel
theorem dX1_spread_42 : decode cX1_spread 42 = .ok (.iload 4, 2) := by decide +kernel
theorem dX1_spread_44 : decode cX1_spread 44 = .ok (.iconst 1, 1) := by decide +kernel
theorem dX1_spread_45 : decode cX1_spread 45 = .ok (.isub, 1) := by decide +kernel
theorem dX1_spread_46 : decode cX1_spread 46 = .ok (.iand, 1) := by decide +kernel
theorem dX1_spread_47 : decode cX1_spread 47 = .ok (.laload, 1) := by decide +kernel
theorem dX1_spread_48 : decode cX1_spread 48 = .ok (.lstore 6, 2) := by decide +kernel
theorem dX1_spread_50 : decode cX1_spread 50 = .ok (.lload 6, 2) := by decide +kernel
theorem dX1_spread_52 : decode cX1_spread 52 = .ok (.bipush 32, 2) := by decide +kernel
theorem dX1_spread_54 : decode cX1_spread 54 = .ok (.lshr, 1) := by decide +kernel
theorem dX1_spread_55 : decode cX1_spread 55 = .ok (.aload_n 0, 1) := by decide +kernel
theorem dX1_spread_56 : decode cX1_spread 56 = .ok (.getfield 19, 3) := by decide +kernel
theorem dX1_spread_59 : decode cX1_spread 59 = .ok (.iload 5, 2) := by decide +kernel
theorem dX1_spread_61 : decode cX1_spread 61 = .ok (.iaload, 1) := by decide +kernel
theorem dX1_spread_62 : decode cX1_spread 62 = .ok (.i2l, 1) := by decide +kernel
theorem dX1_spread_63 : decode cX1_spread 63 = .ok (.ladd, 1) := by decide +kernel
theorem dX1_spread_64 : decode cX1_spread 64 = .ok (.lstore 8, 2) := by decide +kernel
theorem dX1_spread_66 : decode cX1_spread 66 = .ok (.aload_n 0, 1) := by decide +kernel
theorem dX1_spread_67 : decode cX1_spread 67 = .ok (.getfield 9, 3) := by decide +kernel
theorem dX1_spread_70 : decode cX1_spread 70 = .ok (.iload 4, 2) := by decide +kernel
theorem dX1_spread_72 : decode cX1_spread 72 = .ok (.lload 8, 2) := by decide +kernel
theorem dX1_spread_74 : decode cX1_spread 74 = .ok (.bipush 32, 2) := by decide +kernel
theorem dX1_spread_76 : decode cX1_spread 76 = .ok (.lshl, 1) := by decide +kernel
theorem dX1_spread_77 : decode cX1_spread 77 = .ok (.lload 6, 2) := by decide +kernel
theorem dX1_spread_79 : decode cX1_spread 79 = .ok (.l2i, 1) := by decide +kernel
theorem dX1_spread_80 : decode cX1_spread 80 = .ok (.aload_n 0, 1) := by decide +kernel
theorem dX1_spread_81 : decode cX1_spread 81 = .ok (.getfield 15, 3) := by decide +kernel
theorem dX1_spread_84 : decode cX1_spread 84 = .ok (.iload 5, 2) := by decide +kernel
theorem dX1_spread_86 : decode cX1_spread 86 = .ok (.iaload, 1) := by decide +kernel
theorem dX1_spread_87 : decode cX1_spread 87 = .ok (.iand, 1) := by decide +kernel
theorem dX1_spread_88 : decode cX1_spread 88 = .ok (.i2l, 1) := by decide +kernel
theorem dX1_spread_89 : decode cX1_spread 89 = .ok (.lor, 1) := by decide +kernel
theorem dX1_spread_90 : decode cX1_spread 90 = .ok (.lastore, 1) := by decide +kernel
theorem dX1_spread_91 : decode cX1_spread 91 = .ok (.iinc 4 1, 3) := by decide +kernel
theorem dX1_spread_94 : decode cX1_spread 94 = .ok (.goto (-83), 3) := by decide +kernel
theorem dX1_spread_97 : decode cX1_spread 97 = .ok (.return_, 1) := by decide +kernel
theorem dX1_leastOfRows_0 : decode cX1_leastOfRows 0 = .ok (.ldc2_w 22, 3) := by decide +kernel
theorem dX1_leastOfRows_3 : decode cX1_leastOfRows 3 = .ok (.lstore 4, 2) := by decide +kernel
theorem dX1_leastOfRows_5 : decode cX1_leastOfRows 5 = .ok (.iconst 0, 1) := by decide +kernel
theorem dX1_leastOfRows_6 : decode cX1_leastOfRows 6 = .ok (.istore 6, 2) := by decide +kernel
theorem dX1_leastOfRows_8 : decode cX1_leastOfRows 8 = .ok (.iload 6, 2) := by decide +kernel
theorem dX1_leastOfRows_10 : decode cX1_leastOfRows 10 = .ok (.iload_n 1, 1) := by decide +kernel
theorem dX1_leastOfRows_11 : decode cX1_leastOfRows 11 = .ok (.if_icmp .gt 74, 3) := by decide +kernel
theorem dX1_leastOfRows_14 : decode cX1_leastOfRows 14 = .ok (.iload 6, 2) := by decide +kernel
theorem dX1_leastOfRows_16 : decode cX1_leastOfRows 16 = .ok (.iload_n 1, 1) := by decide +kernel
theorem dX1_leastOfRows_17 : decode cX1_leastOfRows 17 = .ok (.iconst (-1), 1) := by decide +kernel
theorem dX1_leastOfRows_18 : decode cX1_leastOfRows 18 = .ok (.ixor, 1) := by decide +kernel
theorem dX1_leastOfRows_19 : decode cX1_leastOfRows 19 = .ok (.iand, 1) := by decide +kernel
theorem dX1_leastOfRows_20 : decode cX1_leastOfRows 20 = .ok (.ifCond .ne 59, 3) := by decide +kernel
theorem dX1_leastOfRows_23 : decode cX1_leastOfRows 23 = .ok (.aload_n 0, 1) := by decide +kernel
theorem dX1_leastOfRows_24 : decode cX1_leastOfRows 24 = .ok (.getfield 9, 3) := by decide +kernel
theorem dX1_leastOfRows_27 : decode cX1_leastOfRows 27 = .ok (.iload 6, 2) := by decide +kernel
theorem dX1_leastOfRows_29 : decode cX1_leastOfRows 29 = .ok (.laload, 1) := by decide +kernel
theorem dX1_leastOfRows_30 : decode cX1_leastOfRows 30 = .ok (.l2i, 1) := by decide +kernel
theorem dX1_leastOfRows_31 : decode cX1_leastOfRows 31 = .ok (.iload_n 3, 1) := by decide +kernel
theorem dX1_leastOfRows_32 : decode cX1_leastOfRows 32 = .ok (.if_icmp .ne 47, 3) := by decide +kernel
theorem dX1_leastOfRows_35 : decode cX1_leastOfRows 35 = .ok (.aload_n 0, 1) := by decide +kernel
theorem dX1_leastOfRows_36 : decode cX1_leastOfRows 36 = .ok (.getfield 9, 3) := by decide +kernel
theorem dX1_leastOfRows_39 : decode cX1_leastOfRows 39 = .ok (.iload 6, 2) := by decide +kernel
theorem dX1_leastOfRows_41 : decode cX1_leastOfRows 41 = .ok (.laload, 1) := by decide +kernel
theorem dX1_leastOfRows_42 : decode cX1_leastOfRows 42 = .ok (.bipush 32, 2) := by decide +kernel
theorem dX1_leastOfRows_44 : decode cX1_leastOfRows 44 = .ok (.lshr, 1) := by decide +kernel
theorem dX1_leastOfRows_45 : decode cX1_leastOfRows 45 = .ok (.bipush 20, 2) := by decide +kernel
theorem dX1_leastOfRows_47 : decode cX1_leastOfRows 47 = .ok (.lshl, 1) := by decide +kernel
theorem dX1_leastOfRows_48 : decode cX1_leastOfRows 48 = .ok (.iload 6, 2) := by decide +kernel
theorem dX1_leastOfRows_50 : decode cX1_leastOfRows 50 = .ok (.iload_n 2, 1) := by decide +kernel
theorem dX1_leastOfRows_51 : decode cX1_leastOfRows 51 = .ok (.invokestatic 85, 3) := by decide +kernel
theorem dX1_leastOfRows_54 : decode cX1_leastOfRows 54 = .ok (.i2l, 1) := by decide +kernel
theorem dX1_leastOfRows_55 : decode cX1_leastOfRows 55 = .ok (.lor, 1) := by decide +kernel
theorem dX1_leastOfRows_56 : decode cX1_leastOfRows 56 = .ok (.lstore 7, 2) := by decide +kernel
theorem dX1_leastOfRows_58 : decode cX1_leastOfRows 58 = .ok (.lload 4, 2) := by decide +kernel
theorem dX1_leastOfRows_60 : decode cX1_leastOfRows 60 = .ok (.ldc2_w 22, 3) := by decide +kernel
theorem dX1_leastOfRows_63 : decode cX1_leastOfRows 63 = .ok (.lcmp, 1) := by decide +kernel
theorem dX1_leastOfRows_64 : decode cX1_leastOfRows 64 = .ok (.ifCond .eq 11, 3) := by decide +kernel
theorem dX1_leastOfRows_67 : decode cX1_leastOfRows 67 = .ok (.lload 7, 2) := by decide +kernel
theorem dX1_leastOfRows_69 : decode cX1_leastOfRows 69 = .ok (.lload 4, 2) := by decide +kernel
theorem dX1_leastOfRows_71 : decode cX1_leastOfRows 71 = .ok (.lcmp, 1) := by decide +kernel
theorem dX1_leastOfRows_72 : decode cX1_leastOfRows 72 = .ok (.ifCond .ge 7, 3) := by decide +kernel
theorem dX1_leastOfRows_75 : decode cX1_leastOfRows 75 = .ok (.lload 7, 2) := by decide +kernel
theorem dX1_leastOfRows_77 : decode cX1_leastOfRows 77 = .ok (.lstore 4, 2) := by decide +kernel
theorem dX1_leastOfRows_79 : decode cX1_leastOfRows 79 = .ok (.iinc 6 1, 3) := by decide +kernel
theorem dX1_leastOfRows_82 : decode cX1_leastOfRows 82 = .ok (.goto (-74), 3) := by decide +kernel
theorem dX1_leastOfRows_85 : decode cX1_leastOfRows 85 = .ok (.lload 4, 2) := by decide +kernel
theorem dX1_leastOfRows_87 : decode cX1_leastOfRows 87 = .ok (.lreturn, 1) := by decide +kernel
theorem dX1_described_0 : decode cX1_described 0 = .ok (.iload_n 0, 1) := by decide +kernel
theorem dX1_described_1 : decode cX1_described 1 = .ok (.iload_n 1, 1) := by decide +kernel
theorem dX1_described_2 : decode cX1_described 2 = .ok (.iand, 1) := by decide +kernel
theorem dX1_described_3 : decode cX1_described 3 = .ok (.iload_n 0, 1) := by decide +kernel
theorem dX1_described_4 : decode cX1_described 4 = .ok (.iload_n 1, 1) := by decide +kernel
theorem dX1_described_5 : decode cX1_described 5 = .ok (.iconst (-1), 1) := by decide +kernel
theorem dX1_described_6 : decode cX1_described 6 = .ok (.ixor, 1) := by decide +kernel
theorem dX1_described_7 : decode cX1_described 7 = .ok (.iand, 1) := by decide +kernel
theorem dX1_described_8 : decode cX1_described 8 = .ok (.bipush 10, 2) := by decide +kernel
theorem dX1_described_10 : decode cX1_described 10 = .ok (.ishl, 1) := by decide +kernel
theorem dX1_described_11 : decode cX1_described 11 = .ok (.ior, 1) := by decide +kernel
theorem dX1_described_12 : decode cX1_described 12 = .ok (.ireturn, 1) := by decide +kernel
