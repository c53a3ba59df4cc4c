theorem dX2_init_0 : decode cX2_init 0 = .ok (.aload_n 0, 1) := by decide +kernel
theorem dX2_init_1 : decode cX2_init 1 = .ok (.invokespecial 3, 3) := by decide +kernel
theorem dX2_init_4 : decode cX2_init 4 = .ok (.aload_n 0, 1) := by decide +kernel
theorem dX2_init_5 : decode cX2_init 5 = .ok (.new 9, 3) := by decide +kernel
theorem dX2_init_8 : decode cX2_init 8 = .ok (.dup, 1) := by decide +kernel
theorem dX2_init_9 : decode cX2_init 9 = .ok (.invokespecial 11, 3) := by decide +kernel
theorem dX2_init_12 : decode cX2_init 12 = .ok (.putfield 12, 3) := by decide +kernel
theorem dX2_init_15 : decode cX2_init 15 = .ok (.aload_n 0, 1) := by decide +kernel
theorem dX2_init_16 : decode cX2_init 16 = .ok (.bipush 6, 2) := by decide +kernel
theorem dX2_init_18 : decode cX2_init 18 = .ok (.newarray .int, 2) := by decide +kernel
theorem dX2_init_20 : decode cX2_init 20 = .ok (.putfield 18, 3) := by decide +kernel
theorem dX2_init_23 : decode cX2_init 23 = .ok (.aload_n 0, 1) := by decide +kernel
theorem dX2_init_24 : decode cX2_init 24 = .ok (.bipush 10, 2) := by decide +kernel
theorem dX2_init_26 : decode cX2_init 26 = .ok (.newarray .int, 2) := by decide +kernel
theorem dX2_init_28 : decode cX2_init 28 = .ok (.putfield 22, 3) := by decide +kernel
theorem dX2_init_31 : decode cX2_init 31 = .ok (.aload_n 0, 1) := by decide +kernel
theorem dX2_init_32 : decode cX2_init 32 = .ok (.new 25, 3) := by decide +kernel
theorem dX2_init_35 : decode cX2_init 35 = .ok (.dup, 1) := by decide +kernel
theorem dX2_init_36 : decode cX2_init 36 = .ok (.invokespecial 27, 3) := by decide +kernel
theorem dX2_init_39 : decode cX2_init 39 = .ok (.putfield 28, 3) := by decide +kernel
theorem dX2_init_42 : decode cX2_init 42 = .ok (.return_, 1) := by decide +kernel
theorem dX2_make_0 : decode cX2_make 0 = .ok (.aload_n 0, 1) := by decide +kernel
theorem dX2_make_1 : decode cX2_make 1 = .ok (.aload_n 1, 1) := by decide +kernel
theorem dX2_make_2 : decode cX2_make 2 = .ok (.putfield 28, 3) := by decide +kernel
theorem dX2_make_5 : decode cX2_make 5 = .ok (.iconst 0, 1) := by decide +kernel
theorem dX2_make_6 : decode cX2_make 6 = .ok (.istore 4, 2) := by decide +kernel
theorem dX2_make_8 : decode cX2_make 8 = .ok (.iload 4, 2) := by decide +kernel
theorem dX2_make_10 : decode cX2_make 10 = .ok (.aload_n 0, 1) := by decide +kernel
theorem dX2_make_11 : decode cX2_make 11 = .ok (.getfield 28, 3) := by decide +kernel
theorem dX2_make_14 : decode cX2_make 14 = .ok (.getfield 32, 3) := by decide +kernel
theorem dX2_make_17 : decode cX2_make 17 = .ok (.if_icmp .ge 22, 3) := by decide +kernel
theorem dX2_make_20 : decode cX2_make 20 = .ok (.aload_n 0, 1) := by decide +kernel
theorem dX2_make_21 : decode cX2_make 21 = .ok (.getfield 22, 3) := by decide +kernel
theorem dX2_make_24 : decode cX2_make 24 = .ok (.iload 4, 2) := by decide +kernel
theorem dX2_make_26 : decode cX2_make 26 = .ok (.aload_n 2, 1) := by decide +kernel
theorem dX2_make_27 : decode cX2_make 27 = .ok (.iload 4, 2) := by decide +kernel
theorem dX2_make_29 : decode cX2_make 29 = .ok (.invokevirtual 36, 3) := by decide +kernel
theorem dX2_make_32 : decode cX2_make 32 = .ok (.iastore, 1) := by decide +kernel
theorem dX2_make_33 : decode cX2_make 33 = .ok (.iinc 4 1, 3) := by decide +kernel
theorem dX2_make_36 : decode cX2_make 36 = .ok (.goto (-28), 3) := by decide +kernel
theorem dX2_make_39 : decode cX2_make 39 = .ok (.aload_n 0, 1) := by decide +kernel
theorem dX2_make_40 : decode cX2_make 40 = .ok (.getfield 12, 3) := by decide +kernel
theorem dX2_make_43 : decode cX2_make 43 = .ok (.aload_n 0, 1) := by decide +kernel
theorem dX2_make_44 : decode cX2_make 44 = .ok (.getfield 28, 3) := by decide +kernel
theorem dX2_make_47 : decode cX2_make 47 = .ok (.aload_n 2, 1) := by decide +kernel
theorem dX2_make_48 : decode cX2_make 48 = .ok (.getfield 41, 3) := by decide +kernel
theorem dX2_make_51 : decode cX2_make 51 = .ok (.iload_n 3, 1) := by decide +kernel
theorem dX2_make_52 : decode cX2_make 52 = .ok (.iaload, 1) := by decide +kernel
theorem dX2_make_53 : decode cX2_make 53 = .ok (.aload_n 2, 1) := by decide +kernel
theorem dX2_make_54 : decode cX2_make 54 = .ok (.getfield 44, 3) := by decide +kernel
theorem dX2_make_57 : decode cX2_make 57 = .ok (.iconst (-1), 1) := by decide +kernel
theorem dX2_make_58 : decode cX2_make 58 = .ok (.invokevirtual 48, 3) := by decide +kernel
theorem dX2_make_61 : decode cX2_make 61 = .ok (.aload_n 0, 1) := by decide +kernel
theorem dX2_make_62 : decode cX2_make 62 = .ok (.getfield 12, 3) := by decide +kernel
theorem dX2_make_65 : decode cX2_make 65 = .ok (.getfield 52, 3) := by decide +kernel
theorem dX2_make_68 : decode cX2_make 68 = .ok (.iconst 0, 1) := by decide +kernel
theorem dX2_make_69 : decode cX2_make 69 = .ok (.aload_n 0, 1) := by decide +kernel
theorem dX2_make_70 : decode cX2_make 70 = .ok (.getfield 18, 3) := by decide +kernel
theorem dX2_make_73 : decode cX2_make 73 = .ok (.iconst 0, 1) := by decide +kernel
theorem dX2_make_74 : decode cX2_make 74 = .ok (.bipush 6, 2) := by decide +kernel
theorem dX2_make_76 : decode cX2_make 76 = .ok (.invokestatic 55, 3) := by decide +kernel
theorem dX2_make_79 : decode cX2_make 79 = .ok (.aload_n 0, 1) := by decide +kernel
theorem dX2_make_80 : decode cX2_make 80 = .ok (.iconst (-1), 1) := by decide +kernel
theorem dX2_make_81 : decode cX2_make 81 = .ok (.aload_n 2, 1) := by decide +kernel
theorem dX2_make_82 : decode cX2_make 82 = .ok (.getfield 61, 3) := by decide +kernel
theorem dX2_make_85 : decode cX2_make 85 = .ok (.invokevirtual 64, 3) := by decide +kernel
theorem dX2_make_88 : decode cX2_make 88 = .ok (.istore 4, 2) := by decide +kernel
theorem dX2_make_90 : decode cX2_make 90 = .ok (.iconst 0, 1) := by decide +kernel
theorem dX2_make_91 : decode cX2_make 91 = .ok (.istore 5, 2) := by decide +kernel
theorem dX2_make_93 : decode cX2_make 93 = .ok (.iload 5, 2) := by decide +kernel
theorem dX2_make_95 : decode cX2_make 95 = .ok (.iconst 3, 1) := by decide +kernel
theorem dX2_make_96 : decode cX2_make 96 = .ok (.if_icmp .gt 24, 3) := by decide +kernel
theorem dX2_make_99 : decode cX2_make 99 = .ok (.aload_n 0, 1) := by decide +kernel
theorem dX2_make_100 : decode cX2_make 100 = .ok (.iconst 0, 1) := by decide +kernel
theorem dX2_make_101 : decode cX2_make 101 = .ok (.iload 5, 2) := by decide +kernel
theorem dX2_make_103 : decode cX2_make 103 = .ok (.iload 4, 2) := by decide +kernel
theorem dX2_make_105 : decode cX2_make 105 = .ok (.invokevirtual 68, 3) := by decide +kernel
theorem dX2_make_108 : decode cX2_make 108 = .ok (.ifCond .eq 6, 3) := by decide +kernel
theorem dX2_make_111 : decode cX2_make 111 = .ok (.iload 5, 2) := by decide +kernel
theorem dX2_make_113 : decode cX2_make 113 = .ok (.ireturn, 1) := by decide +kernel
theorem dX2_make_114 : decode cX2_make 114 = .ok (.iinc 5 1, 3) := by decide +kernel
theorem dX2_make_117 : decode cX2_make 117 = .ok (.goto (-24), 3) := by decide +kernel
theorem dX2_make_120 : decode cX2_make 120 = .ok (.iconst (-1), 1) := by decide +kernel
theorem dX2_make_121 : decode cX2_make 121 = .ok (.ireturn, 1) := by decide +kernel
theorem dX2_isMade_0 : decode cX2_isMade 0 = .ok (.iload_n 1, 1) := by decide +kernel
theorem dX2_isMade_1 : decode cX2_isMade 1 = .ok (.aload_n 0, 1) := by decide +kernel
theorem dX2_isMade_2 : decode cX2_isMade 2 = .ok (.getfield 28, 3) := by decide +kernel
theorem dX2_isMade_5 : decode cX2_isMade 5 = .ok (.getfield 72, 3) := by decide +kernel
theorem dX2_isMade_8 : decode cX2_isMade 8 = .ok (.if_icmp .ge 9, 3) := by decide +kernel
theorem dX2_isMade_11 : decode cX2_isMade 11 = .ok (.iload_n 1, 1) := by decide +kernel
theorem dX2_isMade_12 : decode cX2_isMade 12 = .ok (.bipush 6, 2) := by decide +kernel
theorem dX2_isMade_14 : decode cX2_isMade 14 = .ok (.if_icmp .lt 17, 3) := by decide +kernel
theorem dX2_isMade_17 : decode cX2_isMade 17 = .ok (.iload_n 2, 1) := by decide +kernel
theorem dX2_isMade_18 : decode cX2_isMade 18 = .ok (.ifCond .ne 11, 3) := by decide +kernel
theorem dX2_isMade_21 : decode cX2_isMade 21 = .ok (.iload_n 3, 1) := by decide +kernel
theorem dX2_isMade_22 : decode cX2_isMade 22 = .ok (.ifCond .ne 7, 3) := by decide +kernel
theorem dX2_isMade_25 : decode cX2_isMade 25 = .ok (.iconst 1, 1) := by decide +kernel
theorem dX2_isMade_26 : decode cX2_isMade 26 = .ok (.goto 4, 3) := by decide +kernel
theorem dX2_isMade_29 : decode cX2_isMade 29 = .ok (.iconst 0, 1) := by decide +kernel
theorem dX2_isMade_30 : decode cX2_isMade 30 = .ok (.ireturn, 1) := by decide +kernel
theorem dX2_isMade_31 : decode cX2_isMade 31 = .ok (.iconst 0, 1) := by decide +kernel
theorem dX2_isMade_32 : decode cX2_isMade 32 = .ok (.istore 4, 2) := by decide +kernel
theorem dX2_isMade_34 : decode cX2_isMade 34 = .ok (.iload 4, 2) := by decide +kernel
theorem dX2_isMade_36 : decode cX2_isMade 36 = .ok (.bipush 10, 2) := by decide +kernel
theorem dX2_isMade_38 : decode cX2_isMade 38 = .ok (.if_icmp .ge 117, 3) := by decide +kernel
theorem dX2_isMade_41 : decode cX2_isMade 41 = .ok (.iload 4, 2) := by decide +kernel
theorem dX2_isMade_43 : decode cX2_isMade 43 = .ok (.aload_n 0, 1) := by decide +kernel
theorem dX2_isMade_44 : decode cX2_isMade 44 = .ok (.getfield 18, 3) := by decide +kernel
theorem dX2_isMade_47 : decode cX2_isMade 47 = .ok (.iload_n 1, 1) := by decide +kernel
theorem dX2_isMade_48 : decode cX2_isMade 48 = .ok (.iaload, 1) := by decide +kernel
theorem dX2_isMade_49 : decode cX2_isMade 49 = .ok (.if_icmp .ne 7, 3) := by decide +kernel
theorem dX2_isMade_52 : decode cX2_isMade 52 = .ok (.iload_n 2, 1) := by decide +kernel
theorem dX2_isMade_53 : decode cX2_isMade 53 = .ok (.goto 6, 3) := by decide +kernel
theorem dX2_isMade_56 : decode cX2_isMade 56 = .ok (.iload_n 2, 1) := by decide +kernel
theorem dX2_isMade_57 : decode cX2_isMade 57 = .ok (.iconst 1, 1) := by decide +kernel
theorem dX2_isMade_58 : decode cX2_isMade 58 = .ok (.isub, 1) := by decide +kernel
theorem dX2_isMade_59 : decode cX2_isMade 59 = .ok (.istore 5, 2) := by decide +kernel
theorem dX2_isMade_61 : decode cX2_isMade 61 = .ok (.iload 4, 2) := by decide +kernel
theorem dX2_isMade_63 : decode cX2_isMade 63 = .ok (.aload_n 0, 1) := by decide +kernel
theorem dX2_isMade_64 : decode cX2_isMade 64 = .ok (.getfield 18, 3) := by decide +kernel
theorem dX2_isMade_67 : decode cX2_isMade 67 = .ok (.iload_n 1, 1) := by decide +kernel
theorem dX2_isMade_68 : decode cX2_isMade 68 = .ok (.iaload, 1) := by decide +kernel
theorem dX2_isMade_69 : decode cX2_isMade 69 = .ok (.if_icmp .eq 18, 3) := by decide +kernel
theorem dX2_isMade_72 : decode cX2_isMade 72 = .ok (.aload_n 0, 1) := by decide +kernel
theorem dX2_isMade_73 : decode cX2_isMade 73 = .ok (.getfield 28, 3) := by decide +kernel
theorem dX2_isMade_76 : decode cX2_isMade 76 = .ok (.getfield 75, 3) := by decide +kernel
theorem dX2_isMade_79 : decode cX2_isMade 79 = .ok (.iload_n 1, 1) := by decide +kernel
theorem dX2_isMade_80 : decode cX2_isMade 80 = .ok (.ishr, 1) := by decide +kernel
theorem dX2_isMade_81 : decode cX2_isMade 81 = .ok (.iconst 1, 1) := by decide +kernel
theorem dX2_isMade_82 : decode cX2_isMade 82 = .ok (.iand, 1) := by decide +kernel
theorem dX2_isMade_83 : decode cX2_isMade 83 = .ok (.iconst 1, 1) := by decide +kernel
theorem dX2_isMade_84 : decode cX2_isMade 84 = .ok (.if_icmp .ne 7, 3) := by decide +kernel
theorem dX2_isMade_87 : decode cX2_isMade 87 = .ok (.iconst 1, 1) := by decide +kernel
theorem dX2_isMade_88 : decode cX2_isMade 88 = .ok (.goto 4, 3) := by decide +kernel
theorem dX2_isMade_91 : decode cX2_isMade 91 = .ok (.iconst 0, 1) := by decide +kernel
theorem dX2_isMade_92 : decode cX2_isMade 92 = .ok (.istore 6, 2) := by decide +kernel
theorem dX2_isMade_94 : decode cX2_isMade 94 = .ok (.iload 6, 2) := by decide +kernel
theorem dX2_isMade_96 : decode cX2_isMade 96 = .ok (.ifCond .eq 53, 3) := by decide +kernel
theorem dX2_isMade_99 : decode cX2_isMade 99 = .ok (.iload 5, 2) := by decide +kernel
theorem dX2_isMade_101 : decode cX2_isMade 101 = .ok (.ifCond .lt 48, 3) := by decide +kernel
theorem dX2_isMade_104 : decode cX2_isMade 104 = .ok (.iload 5, 2) := by decide +kernel
theorem dX2_isMade_106 : decode cX2_isMade 106 = .ok (.aload_n 0, 1) := by decide +kernel
theorem dX2_isMade_107 : decode cX2_isMade 107 = .ok (.getfield 28, 3) := by decide +kernel
theorem dX2_isMade_110 : decode cX2_isMade 110 = .ok (.getfield 72, 3) := by decide +kernel
theorem dX2_isMade_113 : decode cX2_isMade 113 = .ok (.iload_n 1, 1) := by decide +kernel
theorem dX2_isMade_114 : decode cX2_isMade 114 = .ok (.isub, 1) := by decide +kernel
theorem dX2_isMade_115 : decode cX2_isMade 115 = .ok (.if_icmp .ge 34, 3) := by decide +kernel
theorem dX2_isMade_118 : decode cX2_isMade 118 = .ok (.aload_n 0, 1) := by decide +kernel
theorem dX2_isMade_119 : decode cX2_isMade 119 = .ok (.getfield 12, 3) := by decide +kernel
theorem dX2_isMade_122 : decode cX2_isMade 122 = .ok (.getfield 52, 3) := by decide +kernel
theorem dX2_isMade_125 : decode cX2_isMade 125 = .ok (.iload_n 1, 1) := by decide +kernel
theorem dX2_isMade_126 : decode cX2_isMade 126 = .ok (.iload 4, 2) := by decide +kernel
theorem dX2_isMade_128 : decode cX2_isMade 128 = .ok (.iastore, 1) := by decide +kernel
theorem dX2_isMade_129 : decode cX2_isMade 129 = .ok (.aload_n 0, 1) := by decide +kernel
theorem dX2_isMade_130 : decode cX2_isMade 130 = .ok (.iload_n 1, 1) := by decide +kernel
theorem dX2_isMade_131 : decode cX2_isMade 131 = .ok (.iconst 1, 1) := by decide +kernel
theorem dX2_isMade_132 : decode cX2_isMade 132 = .ok (.iadd, 1) := by decide +kernel
theorem dX2_isMade_133 : decode cX2_isMade 133 = .ok (.iload 5, 2) := by decide +kernel
theorem dX2_isMade_135 : decode cX2_isMade 135 = .ok (.aload_n 0, 1) := by decide +kernel
theorem dX2_isMade_136 : decode cX2_isMade 136 = .ok (.iload_n 1, 1) := by decide +kernel
theorem dX2_isMade_137 : decode cX2_isMade 137 = .ok (.iload_n 3, 1) := by decide +kernel
theorem dX2_isMade_138 : decode cX2_isMade 138 = .ok (.invokevirtual 64, 3) := by decide +kernel
theorem dX2_isMade_141 : decode cX2_isMade 141 = .ok (.invokevirtual 68, 3) := by decide +kernel
theorem dX2_isMade_144 : decode cX2_isMade 144 = .ok (.ifCond .eq 5, 3) := by decide +kernel
theorem dX2_isMade_147 : decode cX2_isMade 147 = .ok (.iconst 1, 1) := by decide +kernel
theorem dX2_isMade_148 : decode cX2_isMade 148 = .ok (.ireturn, 1) := by decide +kernel
theorem dX2_isMade_149 : decode cX2_isMade 149 = .ok (.iinc 4 1, 3) := by decide +kernel
theorem dX2_isMade_152 : decode cX2_isMade 152 = .ok (.goto (-118), 3) := by decide +kernel
theorem dX2_isMade_155 : decode cX2_isMade 155 = .ok (.iconst 0, 1) := by decide +kernel
theorem dX2_isMade_156 : decode cX2_isMade 156 = .ok (.ireturn, 1) := by decide +kernel
theorem dX2_stillAlike_0 : decode cX2_stillAlike 0 = .ok (.iload_n 2, 1) := by decide +kernel
theorem dX2_stillAlike_1 : decode cX2_stillAlike 1 = .ok (.istore_n 3, 1) := by decide +kernel
theorem dX2_stillAlike_2 : decode cX2_stillAlike 2 = .ok (.iconst 0, 1) := by decide +kernel
theorem dX2_stillAlike_3 : decode cX2_stillAlike 3 = .ok (.istore 4, 2) := by decide +kernel
theorem dX2_stillAlike_5 : decode cX2_stillAlike 5 = .ok (.iload 4, 2) := by decide +kernel
theorem dX2_stillAlike_7 : decode cX2_stillAlike 7 = .ok (.aload_n 0, 1) := by decide +kernel
theorem dX2_stillAlike_8 : decode cX2_stillAlike 8 = .ok (.getfield 28, 3) := by decide +kernel
theorem dX2_stillAlike_11 : decode cX2_stillAlike 11 = .ok (.getfield 32, 3) := by decide +kernel
theorem dX2_stillAlike_14 : decode cX2_stillAlike 14 = .ok (.if_icmp .ge 65, 3) := by decide +kernel
theorem dX2_stillAlike_17 : decode cX2_stillAlike 17 = .ok (.iload_n 3, 1) := by decide +kernel
theorem dX2_stillAlike_18 : decode cX2_stillAlike 18 = .ok (.ifCond .eq 61, 3) := by decide +kernel
theorem dX2_stillAlike_21 : decode cX2_stillAlike 21 = .ok (.aload_n 0, 1) := by decide +kernel
theorem dX2_stillAlike_22 : decode cX2_stillAlike 22 = .ok (.getfield 28, 3) := by decide +kernel
theorem dX2_stillAlike_25 : decode cX2_stillAlike 25 = .ok (.getfield 78, 3) := by decide +kernel
theorem dX2_stillAlike_28 : decode cX2_stillAlike 28 = .ok (.iload 4, 2) := by decide +kernel
theorem dX2_stillAlike_30 : decode cX2_stillAlike 30 = .ok (.iaload, 1) := by decide +kernel
theorem dX2_stillAlike_31 : decode cX2_stillAlike 31 = .ok (.iload_n 1, 1) := by decide +kernel
theorem dX2_stillAlike_32 : decode cX2_stillAlike 32 = .ok (.if_icmp .ne 41, 3) := by decide +kernel
theorem dX2_stillAlike_35 : decode cX2_stillAlike 35 = .ok (.iload_n 3, 1) := by decide +kernel
theorem dX2_stillAlike_36 : decode cX2_stillAlike 36 = .ok (.aload_n 0, 1) := by decide +kernel
theorem dX2_stillAlike_37 : decode cX2_stillAlike 37 = .ok (.getfield 12, 3) := by decide +kernel
theorem dX2_stillAlike_40 : decode cX2_stillAlike 40 = .ok (.aload_n 0, 1) := by decide +kernel
theorem dX2_stillAlike_41 : decode cX2_stillAlike 41 = .ok (.getfield 28, 3) := by decide +kernel
theorem dX2_stillAlike_44 : decode cX2_stillAlike 44 = .ok (.iload 4, 2) := by decide +kernel
theorem dX2_stillAlike_46 : decode cX2_stillAlike 46 = .ok (.invokevirtual 81, 3) := by decide +kernel
theorem dX2_stillAlike_49 : decode cX2_stillAlike 49 = .ok (.ifCond .eq 13, 3) := by decide +kernel
theorem dX2_stillAlike_52 : decode cX2_stillAlike 52 = .ok (.aload_n 0, 1) := by decide +kernel
theorem dX2_stillAlike_53 : decode cX2_stillAlike 53 = .ok (.getfield 22, 3) := by decide +kernel
theorem dX2_stillAlike_56 : decode cX2_stillAlike 56 = .ok (.iload 4, 2) := by decide +kernel
theorem dX2_stillAlike_58 : decode cX2_stillAlike 58 = .ok (.iaload, 1) := by decide +kernel
theorem dX2_stillAlike_59 : decode cX2_stillAlike 59 = .ok (.goto 12, 3) := by decide +kernel
theorem dX2_stillAlike_62 : decode cX2_stillAlike 62 = .ok (.aload_n 0, 1) := by decide +kernel
theorem dX2_stillAlike_63 : decode cX2_stillAlike 63 = .ok (.getfield 22, 3) := by decide +kernel
theorem dX2_stillAlike_66 : decode cX2_stillAlike 66 = .ok (.iload 4, 2) := by decide +kernel
theorem dX2_stillAlike_68 : decode cX2_stillAlike 68 = .ok (.iaload, 1) := by decide +kernel
theorem dX2_stillAlike_69 : decode cX2_stillAlike 69 = .ok (.iconst (-1), 1) := by decide +kernel
theorem dX2_stillAlike_70 : decode cX2_stillAlike 70 = .ok (.ixor, 1) := by decide +kernel
theorem dX2_stillAlike_71 : decode cX2_stillAlike 71 = .ok (.iand, 1) := by decide +kernel
theorem dX2_stillAlike_72 : decode cX2_stillAlike 72 = .ok (.istore_n 3, 1) := by decide +kernel
theorem dX2_stillAlike_73 : decode cX2_stillAlike 73 = .ok (.iinc 4 1, 3) := by decide +kernel
theorem dX2_stillAlike_76 : decode cX2_stillAlike 76 = .ok (.goto (-71), 3) := by decide +kernel
theorem dX2_stillAlike_79 : decode cX2_stillAlike 79 = .ok (.iload_n 3, 1) := by decide +kernel
theorem dX2_stillAlike_80 : decode cX2_stillAlike 80 = .ok (.ireturn, 1) := by decide +kernel
