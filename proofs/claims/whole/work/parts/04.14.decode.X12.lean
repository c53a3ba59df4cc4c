theorem dX12_init_0 : decode cX12_init 0 = .ok (.aload_n 0, 1) := by decide +kernel
theorem dX12_init_1 : decode cX12_init 1 = .ok (.invokespecial 1, 3) := by decide +kernel
theorem dX12_init_4 : decode cX12_init 4 = .ok (.aload_n 0, 1) := by decide +kernel
theorem dX12_init_5 : decode cX12_init 5 = .ok (.sipush 2120, 3) := by decide +kernel
theorem dX12_init_8 : decode cX12_init 8 = .ok (.newarray .int, 2) := by decide +kernel
theorem dX12_init_10 : decode cX12_init 10 = .ok (.putfield 9, 3) := by decide +kernel
theorem dX12_init_13 : decode cX12_init 13 = .ok (.aload_n 0, 1) := by decide +kernel
theorem dX12_init_14 : decode cX12_init 14 = .ok (.sipush 2120, 3) := by decide +kernel
theorem dX12_init_17 : decode cX12_init 17 = .ok (.newarray .int, 2) := by decide +kernel
theorem dX12_init_19 : decode cX12_init 19 = .ok (.putfield 13, 3) := by decide +kernel
theorem dX12_init_22 : decode cX12_init 22 = .ok (.aload_n 0, 1) := by decide +kernel
theorem dX12_init_23 : decode cX12_init 23 = .ok (.sipush 6360, 3) := by decide +kernel
theorem dX12_init_26 : decode cX12_init 26 = .ok (.newarray .int, 2) := by decide +kernel
theorem dX12_init_28 : decode cX12_init 28 = .ok (.putfield 16, 3) := by decide +kernel
theorem dX12_init_31 : decode cX12_init 31 = .ok (.aload_n 0, 1) := by decide +kernel
theorem dX12_init_32 : decode cX12_init 32 = .ok (.iconst 3, 1) := by decide +kernel
theorem dX12_init_33 : decode cX12_init 33 = .ok (.newarray .boolean, 2) := by decide +kernel
theorem dX12_init_35 : decode cX12_init 35 = .ok (.putfield 19, 3) := by decide +kernel
theorem dX12_init_38 : decode cX12_init 38 = .ok (.aload_n 0, 1) := by decide +kernel
theorem dX12_init_39 : decode cX12_init 39 = .ok (.sipush 900, 3) := by decide +kernel
theorem dX12_init_42 : decode cX12_init 42 = .ok (.newarray .int, 2) := by decide +kernel
theorem dX12_init_44 : decode cX12_init 44 = .ok (.putfield 23, 3) := by decide +kernel
theorem dX12_init_47 : decode cX12_init 47 = .ok (.aload_n 0, 1) := by decide +kernel
theorem dX12_init_48 : decode cX12_init 48 = .ok (.iconst (-1), 1) := by decide +kernel
theorem dX12_init_49 : decode cX12_init 49 = .ok (.putfield 26, 3) := by decide +kernel
theorem dX12_init_52 : decode cX12_init 52 = .ok (.aload_n 0, 1) := by decide +kernel
theorem dX12_init_53 : decode cX12_init 53 = .ok (.bipush 6, 2) := by decide +kernel
theorem dX12_init_55 : decode cX12_init 55 = .ok (.newarray .int, 2) := by decide +kernel
theorem dX12_init_57 : decode cX12_init 57 = .ok (.putfield 30, 3) := by decide +kernel
theorem dX12_init_60 : decode cX12_init 60 = .ok (.aload_n 0, 1) := by decide +kernel
theorem dX12_init_61 : decode cX12_init 61 = .ok (.bipush 64, 2) := by decide +kernel
theorem dX12_init_63 : decode cX12_init 63 = .ok (.newarray .int, 2) := by decide +kernel
theorem dX12_init_65 : decode cX12_init 65 = .ok (.putfield 33, 3) := by decide +kernel
theorem dX12_init_68 : decode cX12_init 68 = .ok (.aload_n 0, 1) := by decide +kernel
theorem dX12_init_69 : decode cX12_init 69 = .ok (.bipush 14, 2) := by decide +kernel
theorem dX12_init_71 : decode cX12_init 71 = .ok (.newarray .int, 2) := by decide +kernel
theorem dX12_init_73 : decode cX12_init 73 = .ok (.putfield 36, 3) := by decide +kernel
theorem dX12_init_76 : decode cX12_init 76 = .ok (.aload_n 0, 1) := by decide +kernel
theorem dX12_init_77 : decode cX12_init 77 = .ok (.bipush 14, 2) := by decide +kernel
theorem dX12_init_79 : decode cX12_init 79 = .ok (.newarray .int, 2) := by decide +kernel
theorem dX12_init_81 : decode cX12_init 81 = .ok (.putfield 39, 3) := by decide +kernel
theorem dX12_init_84 : decode cX12_init 84 = .ok (.aload_n 0, 1) := by decide +kernel
theorem dX12_init_85 : decode cX12_init 85 = .ok (.bipush 14, 2) := by decide +kernel
theorem dX12_init_87 : decode cX12_init 87 = .ok (.newarray .int, 2) := by decide +kernel
theorem dX12_init_89 : decode cX12_init 89 = .ok (.putfield 42, 3) := by decide +kernel
theorem dX12_init_92 : decode cX12_init 92 = .ok (.aload_n 0, 1) := by decide +kernel
theorem dX12_init_93 : decode cX12_init 93 = .ok (.bipush 100, 2) := by decide +kernel
theorem dX12_init_95 : decode cX12_init 95 = .ok (.newarray .int, 2) := by decide +kernel
theorem dX12_init_97 : decode cX12_init 97 = .ok (.putfield 45, 3) := by decide +kernel
theorem dX12_init_100 : decode cX12_init 100 = .ok (.aload_n 0, 1) := by decide +kernel
theorem dX12_init_101 : decode cX12_init 101 = .ok (.sipush 16384, 3) := by decide +kernel
theorem dX12_init_104 : decode cX12_init 104 = .ok (.newarray .int, 2) := by decide +kernel
theorem dX12_init_106 : decode cX12_init 106 = .ok (.putfield 48, 3) := by decide +kernel
theorem dX12_init_109 : decode cX12_init 109 = .ok (.aload_n 0, 1) := by decide +kernel
theorem dX12_init_110 : decode cX12_init 110 = .ok (.bipush 6, 2) := by decide +kernel
theorem dX12_init_112 : decode cX12_init 112 = .ok (.newarray .int, 2) := by decide +kernel
theorem dX12_init_114 : decode cX12_init 114 = .ok (.putfield 51, 3) := by decide +kernel
theorem dX12_init_117 : decode cX12_init 117 = .ok (.aload_n 0, 1) := by decide +kernel
theorem dX12_init_118 : decode cX12_init 118 = .ok (.iconst 4, 1) := by decide +kernel
theorem dX12_init_119 : decode cX12_init 119 = .ok (.newarray .int, 2) := by decide +kernel
theorem dX12_init_121 : decode cX12_init 121 = .ok (.dup, 1) := by decide +kernel
theorem dX12_init_122 : decode cX12_init 122 = .ok (.iconst 0, 1) := by decide +kernel
theorem dX12_init_123 : decode cX12_init 123 = .ok (.iconst (-1), 1) := by decide +kernel
theorem dX12_init_124 : decode cX12_init 124 = .ok (.iastore, 1) := by decide +kernel
theorem dX12_init_125 : decode cX12_init 125 = .ok (.dup, 1) := by decide +kernel
theorem dX12_init_126 : decode cX12_init 126 = .ok (.iconst 1, 1) := by decide +kernel
theorem dX12_init_127 : decode cX12_init 127 = .ok (.iconst (-1), 1) := by decide +kernel
theorem dX12_init_128 : decode cX12_init 128 = .ok (.iastore, 1) := by decide +kernel
theorem dX12_init_129 : decode cX12_init 129 = .ok (.dup, 1) := by decide +kernel
theorem dX12_init_130 : decode cX12_init 130 = .ok (.iconst 2, 1) := by decide +kernel
theorem dX12_init_131 : decode cX12_init 131 = .ok (.iconst (-1), 1) := by decide +kernel
theorem dX12_init_132 : decode cX12_init 132 = .ok (.iastore, 1) := by decide +kernel
theorem dX12_init_133 : decode cX12_init 133 = .ok (.dup, 1) := by decide +kernel
theorem dX12_init_134 : decode cX12_init 134 = .ok (.iconst 3, 1) := by decide +kernel
theorem dX12_init_135 : decode cX12_init 135 = .ok (.iconst (-1), 1) := by decide +kernel
theorem dX12_init_136 : decode cX12_init 136 = .ok (.iastore, 1) := by decide +kernel
theorem dX12_init_137 : decode cX12_init 137 = .ok (.putfield 54, 3) := by decide +kernel
theorem dX12_init_140 : decode cX12_init 140 = .ok (.aload_n 0, 1) := by decide +kernel
theorem dX12_init_141 : decode cX12_init 141 = .ok (.iconst 4, 1) := by decide +kernel
theorem dX12_init_142 : decode cX12_init 142 = .ok (.newarray .int, 2) := by decide +kernel
theorem dX12_init_144 : decode cX12_init 144 = .ok (.putfield 57, 3) := by decide +kernel
theorem dX12_init_147 : decode cX12_init 147 = .ok (.aload_n 0, 1) := by decide +kernel
theorem dX12_init_148 : decode cX12_init 148 = .ok (.bipush 120, 2) := by decide +kernel
theorem dX12_init_150 : decode cX12_init 150 = .ok (.newarray .long, 2) := by decide +kernel
theorem dX12_init_152 : decode cX12_init 152 = .ok (.putfield 60, 3) := by decide +kernel
theorem dX12_init_155 : decode cX12_init 155 = .ok (.aload_n 0, 1) := by decide +kernel
theorem dX12_init_156 : decode cX12_init 156 = .ok (.getfield 9, 3) := by decide +kernel
theorem dX12_init_159 : decode cX12_init 159 = .ok (.invokestatic 64, 3) := by decide +kernel
theorem dX12_init_162 : decode cX12_init 162 = .ok (.return_, 1) := by decide +kernel
theorem dX12_tellsNothing_0 : decode cX12_tellsNothing 0 = .ok (.iconst 0, 1) := by decide +kernel
theorem dX12_tellsNothing_1 : decode cX12_tellsNothing 1 = .ok (.istore_n 1, 1) := by decide +kernel
theorem dX12_tellsNothing_2 : decode cX12_tellsNothing 2 = .ok (.iload_n 1, 1) := by decide +kernel
theorem dX12_tellsNothing_3 : decode cX12_tellsNothing 3 = .ok (.sipush 2120, 3) := by decide +kernel
theorem dX12_tellsNothing_6 : decode cX12_tellsNothing 6 = .ok (.if_icmp .ge 13, 3) := by decide +kernel
theorem dX12_tellsNothing_9 : decode cX12_tellsNothing 9 = .ok (.aload_n 0, 1) := by decide +kernel
theorem dX12_tellsNothing_10 : decode cX12_tellsNothing 10 = .ok (.iload_n 1, 1) := by decide +kernel
theorem dX12_tellsNothing_11 : decode cX12_tellsNothing 11 = .ok (.iconst 0, 1) := by decide +kernel
theorem dX12_tellsNothing_12 : decode cX12_tellsNothing 12 = .ok (.iastore, 1) := by decide +kernel
theorem dX12_tellsNothing_13 : decode cX12_tellsNothing 13 = .ok (.iinc 1 1, 3) := by decide +kernel
theorem dX12_tellsNothing_16 : decode cX12_tellsNothing 16 = .ok (.goto (-14), 3) := by decide +kernel
theorem dX12_tellsNothing_19 : decode cX12_tellsNothing 19 = .ok (.aload_n 0, 1) := by decide +kernel
theorem dX12_tellsNothing_20 : decode cX12_tellsNothing 20 = .ok (.iconst 1, 1) := by decide +kernel
theorem dX12_tellsNothing_21 : decode cX12_tellsNothing 21 = .ok (.iconst 1, 1) := by decide +kernel
theorem dX12_tellsNothing_22 : decode cX12_tellsNothing 22 = .ok (.iastore, 1) := by decide +kernel
theorem dX12_tellsNothing_23 : decode cX12_tellsNothing 23 = .ok (.aload_n 0, 1) := by decide +kernel
theorem dX12_tellsNothing_24 : decode cX12_tellsNothing 24 = .ok (.iconst 5, 1) := by decide +kernel
theorem dX12_tellsNothing_25 : decode cX12_tellsNothing 25 = .ok (.iconst 2, 1) := by decide +kernel
theorem dX12_tellsNothing_26 : decode cX12_tellsNothing 26 = .ok (.iastore, 1) := by decide +kernel
theorem dX12_tellsNothing_27 : decode cX12_tellsNothing 27 = .ok (.aload_n 0, 1) := by decide +kernel
theorem dX12_tellsNothing_28 : decode cX12_tellsNothing 28 = .ok (.bipush 6, 2) := by decide +kernel
theorem dX12_tellsNothing_30 : decode cX12_tellsNothing 30 = .ok (.iconst 2, 1) := by decide +kernel
theorem dX12_tellsNothing_31 : decode cX12_tellsNothing 31 = .ok (.iastore, 1) := by decide +kernel
theorem dX12_tellsNothing_32 : decode cX12_tellsNothing 32 = .ok (.aload_n 0, 1) := by decide +kernel
theorem dX12_tellsNothing_33 : decode cX12_tellsNothing 33 = .ok (.bipush 96, 2) := by decide +kernel
theorem dX12_tellsNothing_35 : decode cX12_tellsNothing 35 = .ok (.iconst (-1), 1) := by decide +kernel
theorem dX12_tellsNothing_36 : decode cX12_tellsNothing 36 = .ok (.iastore, 1) := by decide +kernel
theorem dX12_tellsNothing_37 : decode cX12_tellsNothing 37 = .ok (.iconst 0, 1) := by decide +kernel
theorem dX12_tellsNothing_38 : decode cX12_tellsNothing 38 = .ok (.istore_n 1, 1) := by decide +kernel
theorem dX12_tellsNothing_39 : decode cX12_tellsNothing 39 = .ok (.iload_n 1, 1) := by decide +kernel
theorem dX12_tellsNothing_40 : decode cX12_tellsNothing 40 = .ok (.bipush 6, 2) := by decide +kernel
theorem dX12_tellsNothing_42 : decode cX12_tellsNothing 42 = .ok (.if_icmp .ge 16, 3) := by decide +kernel
theorem dX12_tellsNothing_45 : decode cX12_tellsNothing 45 = .ok (.aload_n 0, 1) := by decide +kernel
theorem dX12_tellsNothing_46 : decode cX12_tellsNothing 46 = .ok (.bipush 97, 2) := by decide +kernel
theorem dX12_tellsNothing_48 : decode cX12_tellsNothing 48 = .ok (.iload_n 1, 1) := by decide +kernel
theorem dX12_tellsNothing_49 : decode cX12_tellsNothing 49 = .ok (.iadd, 1) := by decide +kernel
theorem dX12_tellsNothing_50 : decode cX12_tellsNothing 50 = .ok (.iconst (-1), 1) := by decide +kernel
theorem dX12_tellsNothing_51 : decode cX12_tellsNothing 51 = .ok (.iastore, 1) := by decide +kernel
theorem dX12_tellsNothing_52 : decode cX12_tellsNothing 52 = .ok (.iinc 1 1, 3) := by decide +kernel
theorem dX12_tellsNothing_55 : decode cX12_tellsNothing 55 = .ok (.goto (-16), 3) := by decide +kernel
theorem dX12_tellsNothing_58 : decode cX12_tellsNothing 58 = .ok (.return_, 1) := by decide +kernel
theorem dX12_thrown_0 : decode cX12_thrown 0 = .ok (.aload_n 0, 1) := by decide +kernel
theorem dX12_thrown_1 : decode cX12_thrown 1 = .ok (.getfield 68, 3) := by decide +kernel
theorem dX12_thrown_4 : decode cX12_thrown 4 = .ok (.ireturn, 1) := by decide +kernel
theorem dX12_fails_0 : decode cX12_fails 0 = .ok (.aload_n 0, 1) := by decide +kernel
theorem dX12_fails_1 : decode cX12_fails 1 = .ok (.iload_n 1, 1) := by decide +kernel
theorem dX12_fails_2 : decode cX12_fails 2 = .ok (.putfield 68, 3) := by decide +kernel
theorem dX12_fails_5 : decode cX12_fails 5 = .ok (.iconst 0, 1) := by decide +kernel
theorem dX12_fails_6 : decode cX12_fails 6 = .ok (.ireturn, 1) := by decide +kernel
theorem dX12_within_0 : decode cX12_within 0 = .ok (.lload_n 0, 1) := by decide +kernel
theorem dX12_within_1 : decode cX12_within 1 = .ok (.lload_n 2, 1) := by decide +kernel
theorem dX12_within_2 : decode cX12_within 2 = .ok (.lcmp, 1) := by decide +kernel
theorem dX12_within_3 : decode cX12_within 3 = .ok (.ifCond .lt 14, 3) := by decide +kernel
theorem dX12_within_6 : decode cX12_within 6 = .ok (.lload_n 0, 1) := by decide +kernel
theorem dX12_within_7 : decode cX12_within 7 = .ok (.lload 4, 2) := by decide +kernel
theorem dX12_within_9 : decode cX12_within 9 = .ok (.lcmp, 1) := by decide +kernel
theorem dX12_within_10 : decode cX12_within 10 = .ok (.ifCond .gt 7, 3) := by decide +kernel
theorem dX12_within_13 : decode cX12_within 13 = .ok (.iconst 1, 1) := by decide +kernel
theorem dX12_within_14 : decode cX12_within 14 = .ok (.goto 4, 3) := by decide +kernel
theorem dX12_within_17 : decode cX12_within 17 = .ok (.iconst 0, 1) := by decide +kernel
theorem dX12_within_18 : decode cX12_within 18 = .ok (.ireturn, 1) := by decide +kernel
theorem dX12_has_0 : decode cX12_has 0 = .ok (.iload_n 0, 1) := by decide +kernel
theorem dX12_has_1 : decode cX12_has 1 = .ok (.iload_n 1, 1) := by decide +kernel
theorem dX12_has_2 : decode cX12_has 2 = .ok (.ishr, 1) := by decide +kernel
theorem dX12_has_3 : decode cX12_has 3 = .ok (.iconst 1, 1) := by decide +kernel
theorem dX12_has_4 : decode cX12_has 4 = .ok (.iand, 1) := by decide +kernel
theorem dX12_has_5 : decode cX12_has 5 = .ok (.iconst 1, 1) := by decide +kernel
theorem dX12_has_6 : decode cX12_has 6 = .ok (.if_icmp .ne 7, 3) := by decide +kernel
theorem dX12_has_9 : decode cX12_has 9 = .ok (.iconst 1, 1) := by decide +kernel
theorem dX12_has_10 : decode cX12_has 10 = .ok (.goto 4, 3) := by decide +kernel
theorem dX12_has_13 : decode cX12_has 13 = .ok (.iconst 0, 1) := by decide +kernel
theorem dX12_has_14 : decode cX12_has 14 = .ok (.ireturn, 1) := by decide +kernel
theorem dX12_size_0 : decode cX12_size 0 = .ok (.iconst 0, 1) := by decide +kernel
theorem dX12_size_1 : decode cX12_size 1 = .ok (.istore_n 1, 1) := by decide +kernel
theorem dX12_size_2 : decode cX12_size 2 = .ok (.iload_n 0, 1) := by decide +kernel
theorem dX12_size_3 : decode cX12_size 3 = .ok (.istore_n 2, 1) := by decide +kernel
theorem dX12_size_4 : decode cX12_size 4 = .ok (.iload_n 2, 1) := by decide +kernel
theorem dX12_size_5 : decode cX12_size 5 = .ok (.ifCond .eq 15, 3) := by decide +kernel
theorem dX12_size_8 : decode cX12_size 8 = .ok (.iinc 1 1, 3) := by decide +kernel
theorem dX12_size_11 : decode cX12_size 11 = .ok (.iload_n 2, 1) := by decide +kernel
theorem dX12_size_12 : decode cX12_size 12 = .ok (.iload_n 2, 1) := by decide +kernel
theorem dX12_size_13 : decode cX12_size 13 = .ok (.iconst 1, 1) := by decide +kernel
theorem dX12_size_14 : decode cX12_size 14 = .ok (.isub, 1) := by decide +kernel
theorem dX12_size_15 : decode cX12_size 15 = .ok (.iand, 1) := by decide +kernel
theorem dX12_size_16 : decode cX12_size 16 = .ok (.istore_n 2, 1) := by decide +kernel
theorem dX12_size_17 : decode cX12_size 17 = .ok (.goto (-13), 3) := by decide +kernel
theorem dX12_size_20 : decode cX12_size 20 = .ok (.iload_n 1, 1) := by decide +kernel
theorem dX12_size_21 : decode cX12_size 21 = .ok (.ireturn, 1) := by decide +kernel
theorem dX12_feed_0 : decode cX12_feed 0 = .ok (.aload_n 0, 1) := by decide +kernel
theorem dX12_feed_1 : decode cX12_feed 1 = .ok (.iconst 0, 1) := by decide +kernel
theorem dX12_feed_2 : decode cX12_feed 2 = .ok (.putfield 68, 3) := by decide +kernel
theorem dX12_feed_5 : decode cX12_feed 5 = .ok (.aload_n 0, 1) := by decide +kernel
theorem dX12_feed_6 : decode cX12_feed 6 = .ok (.getfield 71, 3) := by decide +kernel
theorem dX12_feed_9 : decode cX12_feed 9 = .ok (.bipush 20, 2) := by decide +kernel
theorem dX12_feed_11 : decode cX12_feed 11 = .ok (.iadd, 1) := by decide +kernel
theorem dX12_feed_12 : decode cX12_feed 12 = .ok (.sipush 900, 3) := by decide +kernel
theorem dX12_feed_15 : decode cX12_feed 15 = .ok (.if_icmp .le 5, 3) := by decide +kernel
theorem dX12_feed_18 : decode cX12_feed 18 = .ok (.iconst (-1), 1) := by decide +kernel
theorem dX12_feed_19 : decode cX12_feed 19 = .ok (.ireturn, 1) := by decide +kernel
theorem dX12_feed_20 : decode cX12_feed 20 = .ok (.iconst 0, 1) := by decide +kernel
theorem dX12_feed_21 : decode cX12_feed 21 = .ok (.istore 6, 2) := by decide +kernel
theorem dX12_feed_23 : decode cX12_feed 23 = .ok (.iload 6, 2) := by decide +kernel
theorem dX12_feed_25 : decode cX12_feed 25 = .ok (.bipush 20, 2) := by decide +kernel
theorem dX12_feed_27 : decode cX12_feed 27 = .ok (.if_icmp .ge 93, 3) := by decide +kernel
theorem dX12_feed_30 : decode cX12_feed 30 = .ok (.iload 6, 2) := by decide +kernel
theorem dX12_feed_32 : decode cX12_feed 32 = .ok (.iconst 4, 1) := by decide +kernel
theorem dX12_feed_33 : decode cX12_feed 33 = .ok (.if_icmp .ge 7, 3) := by decide +kernel
theorem dX12_feed_36 : decode cX12_feed 36 = .ok (.iload_n 1, 1) := by decide +kernel
theorem dX12_feed_37 : decode cX12_feed 37 = .ok (.goto 39, 3) := by decide +kernel
theorem dX12_feed_40 : decode cX12_feed 40 = .ok (.iload 6, 2) := by decide +kernel
theorem dX12_feed_42 : decode cX12_feed 42 = .ok (.bipush 8, 2) := by decide +kernel
theorem dX12_feed_44 : decode cX12_feed 44 = .ok (.if_icmp .ge 7, 3) := by decide +kernel
theorem dX12_feed_47 : decode cX12_feed 47 = .ok (.iload_n 2, 1) := by decide +kernel
theorem dX12_feed_48 : decode cX12_feed 48 = .ok (.goto 28, 3) := by decide +kernel
theorem dX12_feed_51 : decode cX12_feed 51 = .ok (.iload 6, 2) := by decide +kernel
theorem dX12_feed_53 : decode cX12_feed 53 = .ok (.bipush 12, 2) := by decide +kernel
theorem dX12_feed_55 : decode cX12_feed 55 = .ok (.if_icmp .ge 7, 3) := by decide +kernel
theorem dX12_feed_58 : decode cX12_feed 58 = .ok (.iload_n 3, 1) := by decide +kernel
theorem dX12_feed_59 : decode cX12_feed 59 = .ok (.goto 17, 3) := by decide +kernel
theorem dX12_feed_62 : decode cX12_feed 62 = .ok (.iload 6, 2) := by decide +kernel
theorem dX12_feed_64 : decode cX12_feed 64 = .ok (.bipush 16, 2) := by decide +kernel
theorem dX12_feed_66 : decode cX12_feed 66 = .ok (.if_icmp .ge 8, 3) := by decide +kernel
theorem dX12_feed_69 : decode cX12_feed 69 = .ok (.iload 4, 2) := by decide +kernel
theorem dX12_feed_71 : decode cX12_feed 71 = .ok (.goto 5, 3) := by decide +kernel
theorem dX12_feed_74 : decode cX12_feed 74 = .ok (.iload 5, 2) := by decide +kernel
theorem dX12_feed_76 : decode cX12_feed 76 = .ok (.istore 7, 2) := by decide +kernel
theorem dX12_feed_78 : decode cX12_feed 78 = .ok (.aload_n 0, 1) := by decide +kernel
theorem dX12_feed_79 : decode cX12_feed 79 = .ok (.getfield 23, 3) := by decide +kernel
theorem dX12_feed_82 : decode cX12_feed 82 = .ok (.aload_n 0, 1) := by decide +kernel
theorem dX12_feed_83 : decode cX12_feed 83 = .ok (.getfield 71, 3) := by decide +kernel
theorem dX12_feed_86 : decode cX12_feed 86 = .ok (.iload 7, 2) := by decide +kernel
theorem dX12_feed_88 : decode cX12_feed 88 = .ok (.bipush 24, 2) := by decide +kernel
theorem dX12_feed_90 : decode cX12_feed 90 = .ok (.bipush 8, 2) := by decide +kernel
theorem dX12_feed_92 : decode cX12_feed 92 = .ok (.iload 6, 2) := by decide +kernel
theorem dX12_feed_94 : decode cX12_feed 94 = .ok (.iconst 3, 1) := by decide +kernel
theorem dX12_feed_95 : decode cX12_feed 95 = .ok (.iand, 1) := by decide +kernel
theorem dX12_feed_96 : decode cX12_feed 96 = .ok (.imul, 1) := by decide +kernel
theorem dX12_feed_97 : decode cX12_feed 97 = .ok (.isub, 1) := by decide +kernel
theorem dX12_feed_98 : decode cX12_feed 98 = .ok (.iushr, 1) := by decide +kernel
theorem dX12_feed_99 : decode cX12_feed 99 = .ok (.sipush 255, 3) := by decide +kernel
theorem dX12_feed_102 : decode cX12_feed 102 = .ok (.iand, 1) := by decide +kernel
theorem dX12_feed_103 : decode cX12_feed 103 = .ok (.iastore, 1) := by decide +kernel
theorem dX12_feed_104 : decode cX12_feed 104 = .ok (.aload_n 0, 1) := by decide +kernel
theorem dX12_feed_105 : decode cX12_feed 105 = .ok (.dup, 1) := by decide +kernel
theorem dX12_feed_106 : decode cX12_feed 106 = .ok (.getfield 71, 3) := by decide +kernel
theorem dX12_feed_109 : decode cX12_feed 109 = .ok (.iconst 1, 1) := by decide +kernel
theorem dX12_feed_110 : decode cX12_feed 110 = .ok (.iadd, 1) := by decide +kernel
theorem dX12_feed_111 : decode cX12_feed 111 = .ok (.putfield 71, 3) := by decide +kernel
theorem dX12_feed_114 : decode cX12_feed 114 = .ok (.iinc 6 1, 3) := by decide +kernel
theorem dX12_feed_117 : decode cX12_feed 117 = .ok (.goto (-94), 3) := by decide +kernel
theorem dX12_feed_120 : decode cX12_feed 120 = .ok (.aload_n 0, 1) := by decide +kernel
theorem dX12_feed_121 : decode cX12_feed 121 = .ok (.getfield 71, 3) := by decide +kernel
theorem dX12_feed_124 : decode cX12_feed 124 = .ok (.ireturn, 1) := by decide +kernel
theorem dX12_see_0 : decode cX12_see 0 = .ok (.iload_n 1, 1) := by decide +kernel
theorem dX12_see_1 : decode cX12_see 1 = .ok (.aload_n 0, 1) := by decide +kernel
theorem dX12_see_2 : decode cX12_see 2 = .ok (.getfield 74, 3) := by decide +kernel
theorem dX12_see_5 : decode cX12_see 5 = .ok (.if_icmp .ge 12, 3) := by decide +kernel
theorem dX12_see_8 : decode cX12_see 8 = .ok (.aload_n 0, 1) := by decide +kernel
theorem dX12_see_9 : decode cX12_see 9 = .ok (.getfield 23, 3) := by decide +kernel
theorem dX12_see_12 : decode cX12_see 12 = .ok (.iload_n 1, 1) := by decide +kernel
theorem dX12_see_13 : decode cX12_see 13 = .ok (.iaload, 1) := by decide +kernel
theorem dX12_see_14 : decode cX12_see 14 = .ok (.goto 4, 3) := by decide +kernel
theorem dX12_see_17 : decode cX12_see 17 = .ok (.iconst 0, 1) := by decide +kernel
theorem dX12_see_18 : decode cX12_see 18 = .ok (.ireturn, 1) := by decide +kernel
theorem dX12_isLetter_0 : decode cX12_isLetter 0 = .ok (.iload_n 0, 1) := by decide +kernel
theorem dX12_isLetter_1 : decode cX12_isLetter 1 = .ok (.bipush 97, 2) := by decide +kernel
theorem dX12_isLetter_3 : decode cX12_isLetter 3 = .ok (.if_icmp .lt 13, 3) := by decide +kernel
theorem dX12_isLetter_6 : decode cX12_isLetter 6 = .ok (.iload_n 0, 1) := by decide +kernel
theorem dX12_isLetter_7 : decode cX12_isLetter 7 = .ok (.bipush 122, 2) := by decide +kernel
theorem dX12_isLetter_9 : decode cX12_isLetter 9 = .ok (.if_icmp .gt 7, 3) := by decide +kernel
theorem dX12_isLetter_12 : decode cX12_isLetter 12 = .ok (.iconst 1, 1) := by decide +kernel
theorem dX12_isLetter_13 : decode cX12_isLetter 13 = .ok (.goto 4, 3) := by decide +kernel
theorem dX12_isLetter_16 : decode cX12_isLetter 16 = .ok (.iconst 0, 1) := by decide +kernel
theorem dX12_isLetter_17 : decode cX12_isLetter 17 = .ok (.ireturn, 1) := by decide +kernel
theorem dX12_isDigit_0 : decode cX12_isDigit 0 = .ok (.iload_n 0, 1) := by decide +kernel
theorem dX12_isDigit_1 : decode cX12_isDigit 1 = .ok (.bipush 48, 2) := by decide +kernel
theorem dX12_isDigit_3 : decode cX12_isDigit 3 = .ok (.if_icmp .lt 13, 3) := by decide +kernel
theorem dX12_isDigit_6 : decode cX12_isDigit 6 = .ok (.iload_n 0, 1) := by decide +kernel
theorem dX12_isDigit_7 : decode cX12_isDigit 7 = .ok (.bipush 57, 2) := by decide +kernel
theorem dX12_isDigit_9 : decode cX12_isDigit 9 = .ok (.if_icmp .gt 7, 3) := by decide +kernel
theorem dX12_isDigit_12 : decode cX12_isDigit 12 = .ok (.iconst 1, 1) := by decide +kernel
theorem dX12_isDigit_13 : decode cX12_isDigit 13 = .ok (.goto 4, 3) := by decide +kernel
theorem dX12_isDigit_16 : decode cX12_isDigit 16 = .ok (.iconst 0, 1) := by decide +kernel
theorem dX12_isDigit_17 : decode cX12_isDigit 17 = .ok (.ireturn, 1) := by decide +kernel
theorem dX12_isSignByte_0 : decode cX12_isSignByte 0 = .ok (.iload_n 0, 1) := by decide +kernel
theorem dX12_isSignByte_1 : decode cX12_isSignByte 1 = .ok (.bipush 91, 2) := by decide +kernel
theorem dX12_isSignByte_3 : decode cX12_isSignByte 3 = .ok (.if_icmp .eq 27, 3) := by decide +kernel
theorem dX12_isSignByte_6 : decode cX12_isSignByte 6 = .ok (.iload_n 0, 1) := by decide +kernel
theorem dX12_isSignByte_7 : decode cX12_isSignByte 7 = .ok (.bipush 93, 2) := by decide +kernel
theorem dX12_isSignByte_9 : decode cX12_isSignByte 9 = .ok (.if_icmp .eq 21, 3) := by decide +kernel
theorem dX12_isSignByte_12 : decode cX12_isSignByte 12 = .ok (.iload_n 0, 1) := by decide +kernel
theorem dX12_isSignByte_13 : decode cX12_isSignByte 13 = .ok (.bipush 61, 2) := by decide +kernel
theorem dX12_isSignByte_15 : decode cX12_isSignByte 15 = .ok (.if_icmp .eq 15, 3) := by decide +kernel
theorem dX12_isSignByte_18 : decode cX12_isSignByte 18 = .ok (.iload_n 0, 1) := by decide +kernel
theorem dX12_isSignByte_19 : decode cX12_isSignByte 19 = .ok (.bipush 60, 2) := by decide +kernel
theorem dX12_isSignByte_21 : decode cX12_isSignByte 21 = .ok (.if_icmp .eq 9, 3) := by decide +kernel
theorem dX12_isSignByte_24 : decode cX12_isSignByte 24 = .ok (.iload_n 0, 1) := by decide +kernel
theorem dX12_isSignByte_25 : decode cX12_isSignByte 25 = .ok (.bipush 62, 2) := by decide +kernel
theorem dX12_isSignByte_27 : decode cX12_isSignByte 27 = .ok (.if_icmp .ne 7, 3) := by decide +kernel
theorem dX12_isSignByte_30 : decode cX12_isSignByte 30 = .ok (.iconst 1, 1) := by decide +kernel
theorem dX12_isSignByte_31 : decode cX12_isSignByte 31 = .ok (.goto 4, 3) := by decide +kernel
theorem dX12_isSignByte_34 : decode cX12_isSignByte 34 = .ok (.iconst 0, 1) := by decide +kernel
theorem dX12_isSignByte_35 : decode cX12_isSignByte 35 = .ok (.istore_n 1, 1) := by decide +kernel
theorem dX12_isSignByte_36 : decode cX12_isSignByte 36 = .ok (.iload_n 1, 1) := by decide +kernel
theorem dX12_isSignByte_37 : decode cX12_isSignByte 37 = .ok (.ifCond .ne 45, 3) := by decide +kernel
theorem dX12_isSignByte_40 : decode cX12_isSignByte 40 = .ok (.iload_n 0, 1) := by decide +kernel
theorem dX12_isSignByte_41 : decode cX12_isSignByte 41 = .ok (.bipush 59, 2) := by decide +kernel
theorem dX12_isSignByte_43 : decode cX12_isSignByte 43 = .ok (.if_icmp .eq 39, 3) := by decide +kernel
theorem dX12_isSignByte_46 : decode cX12_isSignByte 46 = .ok (.iload_n 0, 1) := by decide +kernel
theorem dX12_isSignByte_47 : decode cX12_isSignByte 47 = .ok (.bipush 58, 2) := by decide +kernel
theorem dX12_isSignByte_49 : decode cX12_isSignByte 49 = .ok (.if_icmp .eq 33, 3) := by decide +kernel
theorem dX12_isSignByte_52 : decode cX12_isSignByte 52 = .ok (.iload_n 0, 1) := by decide +kernel
theorem dX12_isSignByte_53 : decode cX12_isSignByte 53 = .ok (.bipush 43, 2) := by decide +kernel
theorem dX12_isSignByte_55 : decode cX12_isSignByte 55 = .ok (.if_icmp .eq 27, 3) := by decide +kernel
theorem dX12_isSignByte_58 : decode cX12_isSignByte 58 = .ok (.iload_n 0, 1) := by decide +kernel
theorem dX12_isSignByte_59 : decode cX12_isSignByte 59 = .ok (.bipush 45, 2) := by decide +kernel
theorem dX12_isSignByte_61 : decode cX12_isSignByte 61 = .ok (.if_icmp .eq 21, 3) := by decide +kernel
theorem dX12_isSignByte_64 : decode cX12_isSignByte 64 = .ok (.iload_n 0, 1) := by decide +kernel
theorem dX12_isSignByte_65 : decode cX12_isSignByte 65 = .ok (.bipush 42, 2) := by decide +kernel
theorem dX12_isSignByte_67 : decode cX12_isSignByte 67 = .ok (.if_icmp .eq 15, 3) := by decide +kernel
theorem dX12_isSignByte_70 : decode cX12_isSignByte 70 = .ok (.iload_n 0, 1) := by decide +kernel
theorem dX12_isSignByte_71 : decode cX12_isSignByte 71 = .ok (.bipush 40, 2) := by decide +kernel
theorem dX12_isSignByte_73 : decode cX12_isSignByte 73 = .ok (.if_icmp .eq 9, 3) := by decide +kernel
theorem dX12_isSignByte_76 : decode cX12_isSignByte 76 = .ok (.iload_n 0, 1) := by decide +kernel
theorem dX12_isSignByte_77 : decode cX12_isSignByte 77 = .ok (.bipush 41, 2) := by decide +kernel
theorem dX12_isSignByte_79 : decode cX12_isSignByte 79 = .ok (.if_icmp .ne 7, 3) := by decide +kernel
theorem dX12_isSignByte_82 : decode cX12_isSignByte 82 = .ok (.iconst 1, 1) := by decide +kernel
theorem dX12_isSignByte_83 : decode cX12_isSignByte 83 = .ok (.goto 4, 3) := by decide +kernel
theorem dX12_isSignByte_86 : decode cX12_isSignByte 86 = .ok (.iconst 0, 1) := by decide +kernel
theorem dX12_isSignByte_87 : decode cX12_isSignByte 87 = .ok (.ireturn, 1) := by decide +kernel
theorem dX12_readsOn_0 : decode cX12_readsOn 0 = .ok (.aload_n 0, 1) := by decide +kernel
theorem dX12_readsOn_1 : decode cX12_readsOn 1 = .ok (.getfield 77, 3) := by decide +kernel
theorem dX12_readsOn_4 : decode cX12_readsOn 4 = .ok (.aload_n 0, 1) := by decide +kernel
theorem dX12_readsOn_5 : decode cX12_readsOn 5 = .ok (.getfield 74, 3) := by decide +kernel
theorem dX12_readsOn_8 : decode cX12_readsOn 8 = .ok (.if_icmp .ge 44, 3) := by decide +kernel
theorem dX12_readsOn_11 : decode cX12_readsOn 11 = .ok (.aload_n 0, 1) := by decide +kernel
theorem dX12_readsOn_12 : decode cX12_readsOn 12 = .ok (.getfield 23, 3) := by decide +kernel
theorem dX12_readsOn_15 : decode cX12_readsOn 15 = .ok (.aload_n 0, 1) := by decide +kernel
theorem dX12_readsOn_16 : decode cX12_readsOn 16 = .ok (.getfield 77, 3) := by decide +kernel
theorem dX12_readsOn_19 : decode cX12_readsOn 19 = .ok (.iaload, 1) := by decide +kernel
theorem dX12_readsOn_20 : decode cX12_readsOn 20 = .ok (.bipush 32, 2) := by decide +kernel
theorem dX12_readsOn_22 : decode cX12_readsOn 22 = .ok (.if_icmp .eq 17, 3) := by decide +kernel
theorem dX12_readsOn_25 : decode cX12_readsOn 25 = .ok (.aload_n 0, 1) := by decide +kernel
theorem dX12_readsOn_26 : decode cX12_readsOn 26 = .ok (.getfield 23, 3) := by decide +kernel
theorem dX12_readsOn_29 : decode cX12_readsOn 29 = .ok (.aload_n 0, 1) := by decide +kernel
theorem dX12_readsOn_30 : decode cX12_readsOn 30 = .ok (.getfield 77, 3) := by decide +kernel
theorem dX12_readsOn_33 : decode cX12_readsOn 33 = .ok (.iaload, 1) := by decide +kernel
theorem dX12_readsOn_34 : decode cX12_readsOn 34 = .ok (.bipush 10, 2) := by decide +kernel
theorem dX12_readsOn_36 : decode cX12_readsOn 36 = .ok (.if_icmp .ne 16, 3) := by decide +kernel
theorem dX12_readsOn_39 : decode cX12_readsOn 39 = .ok (.aload_n 0, 1) := by decide +kernel
theorem dX12_readsOn_40 : decode cX12_readsOn 40 = .ok (.dup, 1) := by decide +kernel
theorem dX12_readsOn_41 : decode cX12_readsOn 41 = .ok (.getfield 77, 3) := by decide +kernel
theorem dX12_readsOn_44 : decode cX12_readsOn 44 = .ok (.iconst 1, 1) := by decide +kernel
theorem dX12_readsOn_45 : decode cX12_readsOn 45 = .ok (.iadd, 1) := by decide +kernel
theorem dX12_readsOn_46 : decode cX12_readsOn 46 = .ok (.putfield 77, 3) := by decide +kernel
theorem dX12_readsOn_49 : decode cX12_readsOn 49 = .ok (.goto (-49), 3) := by decide +kernel
theorem dX12_readsOn_52 : decode cX12_readsOn 52 = .ok (.aload_n 0, 1) := by decide +kernel
theorem dX12_readsOn_53 : decode cX12_readsOn 53 = .ok (.aload_n 0, 1) := by decide +kernel
theorem dX12_readsOn_54 : decode cX12_readsOn 54 = .ok (.getfield 77, 3) := by decide +kernel
theorem dX12_readsOn_57 : decode cX12_readsOn 57 = .ok (.putfield 80, 3) := by decide +kernel
theorem dX12_readsOn_60 : decode cX12_readsOn 60 = .ok (.aload_n 0, 1) := by decide +kernel
theorem dX12_readsOn_61 : decode cX12_readsOn 61 = .ok (.getfield 77, 3) := by decide +kernel
theorem dX12_readsOn_64 : decode cX12_readsOn 64 = .ok (.aload_n 0, 1) := by decide +kernel
theorem dX12_readsOn_65 : decode cX12_readsOn 65 = .ok (.getfield 74, 3) := by decide +kernel
theorem dX12_readsOn_68 : decode cX12_readsOn 68 = .ok (.if_icmp .lt 9, 3) := by decide +kernel
theorem dX12_readsOn_71 : decode cX12_readsOn 71 = .ok (.aload_n 0, 1) := by decide +kernel
theorem dX12_readsOn_72 : decode cX12_readsOn 72 = .ok (.iconst 0, 1) := by decide +kernel
theorem dX12_readsOn_73 : decode cX12_readsOn 73 = .ok (.putfield 83, 3) := by decide +kernel
theorem dX12_readsOn_76 : decode cX12_readsOn 76 = .ok (.return_, 1) := by decide +kernel
theorem dX12_readsOn_77 : decode cX12_readsOn 77 = .ok (.aload_n 0, 1) := by decide +kernel
theorem dX12_readsOn_78 : decode cX12_readsOn 78 = .ok (.getfield 23, 3) := by decide +kernel
theorem dX12_readsOn_81 : decode cX12_readsOn 81 = .ok (.aload_n 0, 1) := by decide +kernel
theorem dX12_readsOn_82 : decode cX12_readsOn 82 = .ok (.getfield 77, 3) := by decide +kernel
theorem dX12_readsOn_85 : decode cX12_readsOn 85 = .ok (.iaload, 1) := by decide +kernel
theorem dX12_readsOn_86 : decode cX12_readsOn 86 = .ok (.istore_n 1, 1) := by decide +kernel
theorem dX12_readsOn_87 : decode cX12_readsOn 87 = .ok (.iload_n 1, 1) := by decide +kernel
theorem dX12_readsOn_88 : decode cX12_readsOn 88 = .ok (.invokestatic 86, 3) := by decide +kernel
theorem dX12_readsOn_91 : decode cX12_readsOn 91 = .ok (.ifCond .eq 38, 3) := by decide +kernel
theorem dX12_readsOn_94 : decode cX12_readsOn 94 = .ok (.aload_n 0, 1) := by decide +kernel
theorem dX12_readsOn_95 : decode cX12_readsOn 95 = .ok (.aload_n 0, 1) := by decide +kernel
theorem dX12_readsOn_96 : decode cX12_readsOn 96 = .ok (.getfield 77, 3) := by decide +kernel
theorem dX12_readsOn_99 : decode cX12_readsOn 99 = .ok (.invokevirtual 90, 3) := by decide +kernel
theorem dX12_readsOn_102 : decode cX12_readsOn 102 = .ok (.invokestatic 86, 3) := by decide +kernel
theorem dX12_readsOn_105 : decode cX12_readsOn 105 = .ok (.ifCond .eq 16, 3) := by decide +kernel
theorem dX12_readsOn_108 : decode cX12_readsOn 108 = .ok (.aload_n 0, 1) := by decide +kernel
theorem dX12_readsOn_109 : decode cX12_readsOn 109 = .ok (.dup, 1) := by decide +kernel
theorem dX12_readsOn_110 : decode cX12_readsOn 110 = .ok (.getfield 77, 3) := by decide +kernel
theorem dX12_readsOn_113 : decode cX12_readsOn 113 = .ok (.iconst 1, 1) := by decide +kernel
theorem dX12_readsOn_114 : decode cX12_readsOn 114 = .ok (.iadd, 1) := by decide +kernel
theorem dX12_readsOn_115 : decode cX12_readsOn 115 = .ok (.putfield 77, 3) := by decide +kernel
theorem dX12_readsOn_118 : decode cX12_readsOn 118 = .ok (.goto (-24), 3) := by decide +kernel
theorem dX12_readsOn_121 : decode cX12_readsOn 121 = .ok (.aload_n 0, 1) := by decide +kernel
theorem dX12_readsOn_122 : decode cX12_readsOn 122 = .ok (.iconst 1, 1) := by decide +kernel
theorem dX12_readsOn_123 : decode cX12_readsOn 123 = .ok (.putfield 83, 3) := by decide +kernel
theorem dX12_readsOn_126 : decode cX12_readsOn 126 = .ok (.goto 137, 3) := by decide +kernel
theorem dX12_readsOn_129 : decode cX12_readsOn 129 = .ok (.iload_n 1, 1) := by decide +kernel
theorem dX12_readsOn_130 : decode cX12_readsOn 130 = .ok (.invokestatic 94, 3) := by decide +kernel
theorem dX12_readsOn_133 : decode cX12_readsOn 133 = .ok (.ifCond .eq 104, 3) := by decide +kernel
theorem dX12_readsOn_136 : decode cX12_readsOn 136 = .ok (.aload_n 0, 1) := by decide +kernel
theorem dX12_readsOn_137 : decode cX12_readsOn 137 = .ok (.iconst 0, 1) := by decide +kernel
theorem dX12_readsOn_138 : decode cX12_readsOn 138 = .ok (.putfield 97, 3) := by decide +kernel
theorem dX12_readsOn_141 : decode cX12_readsOn 141 = .ok (.aload_n 0, 1) := by decide +kernel
theorem dX12_readsOn_142 : decode cX12_readsOn 142 = .ok (.aload_n 0, 1) := by decide +kernel
theorem dX12_readsOn_143 : decode cX12_readsOn 143 = .ok (.getfield 77, 3) := by decide +kernel
theorem dX12_readsOn_146 : decode cX12_readsOn 146 = .ok (.invokevirtual 90, 3) := by decide +kernel
theorem dX12_readsOn_149 : decode cX12_readsOn 149 = .ok (.invokestatic 94, 3) := by decide +kernel
theorem dX12_readsOn_152 : decode cX12_readsOn 152 = .ok (.ifCond .eq 60, 3) := by decide +kernel
theorem dX12_readsOn_155 : decode cX12_readsOn 155 = .ok (.aload_n 0, 1) := by decide +kernel
theorem dX12_readsOn_156 : decode cX12_readsOn 156 = .ok (.aload_n 0, 1) := by decide +kernel
theorem dX12_readsOn_157 : decode cX12_readsOn 157 = .ok (.getfield 77, 3) := by decide +kernel
theorem dX12_readsOn_160 : decode cX12_readsOn 160 = .ok (.aload_n 0, 1) := by decide +kernel
theorem dX12_readsOn_161 : decode cX12_readsOn 161 = .ok (.getfield 80, 3) := by decide +kernel
theorem dX12_readsOn_164 : decode cX12_readsOn 164 = .ok (.isub, 1) := by decide +kernel
theorem dX12_readsOn_165 : decode cX12_readsOn 165 = .ok (.iconst 3, 1) := by decide +kernel
theorem dX12_readsOn_166 : decode cX12_readsOn 166 = .ok (.if_icmp .ge 26, 3) := by decide +kernel
theorem dX12_readsOn_169 : decode cX12_readsOn 169 = .ok (.bipush 10, 2) := by decide +kernel
theorem dX12_readsOn_171 : decode cX12_readsOn 171 = .ok (.aload_n 0, 1) := by decide +kernel
theorem dX12_readsOn_172 : decode cX12_readsOn 172 = .ok (.getfield 97, 3) := by decide +kernel
theorem dX12_readsOn_175 : decode cX12_readsOn 175 = .ok (.imul, 1) := by decide +kernel
theorem dX12_readsOn_176 : decode cX12_readsOn 176 = .ok (.aload_n 0, 1) := by decide +kernel
theorem dX12_readsOn_177 : decode cX12_readsOn 177 = .ok (.getfield 23, 3) := by decide +kernel
theorem dX12_readsOn_180 : decode cX12_readsOn 180 = .ok (.aload_n 0, 1) := by decide +kernel
theorem dX12_readsOn_181 : decode cX12_readsOn 181 = .ok (.getfield 77, 3) := by decide +kernel
theorem dX12_readsOn_184 : decode cX12_readsOn 184 = .ok (.iaload, 1) := by decide +kernel
theorem dX12_readsOn_185 : decode cX12_readsOn 185 = .ok (.iadd, 1) := by decide +kernel
theorem dX12_readsOn_186 : decode cX12_readsOn 186 = .ok (.bipush 48, 2) := by decide +kernel
theorem dX12_readsOn_188 : decode cX12_readsOn 188 = .ok (.isub, 1) := by decide +kernel
theorem dX12_readsOn_189 : decode cX12_readsOn 189 = .ok (.goto 7, 3) := by decide +kernel
theorem dX12_readsOn_192 : decode cX12_readsOn 192 = .ok (.aload_n 0, 1) := by decide +kernel
theorem dX12_readsOn_193 : decode cX12_readsOn 193 = .ok (.getfield 97, 3) := by decide +kernel
theorem dX12_readsOn_196 : decode cX12_readsOn 196 = .ok (.putfield 97, 3) := by decide +kernel
theorem dX12_readsOn_199 : decode cX12_readsOn 199 = .ok (.aload_n 0, 1) := by decide +kernel
theorem dX12_readsOn_200 : decode cX12_readsOn 200 = .ok (.dup, 1) := by decide +kernel
theorem dX12_readsOn_201 : decode cX12_readsOn 201 = .ok (.getfield 77, 3) := by decide +kernel
theorem dX12_readsOn_204 : decode cX12_readsOn 204 = .ok (.iconst 1, 1) := by decide +kernel
theorem dX12_readsOn_205 : decode cX12_readsOn 205 = .ok (.iadd, 1) := by decide +kernel
theorem dX12_readsOn_206 : decode cX12_readsOn 206 = .ok (.putfield 77, 3) := by decide +kernel
theorem dX12_readsOn_209 : decode cX12_readsOn 209 = .ok (.goto (-68), 3) := by decide +kernel
theorem dX12_readsOn_212 : decode cX12_readsOn 212 = .ok (.aload_n 0, 1) := by decide +kernel
theorem dX12_readsOn_213 : decode cX12_readsOn 213 = .ok (.aload_n 0, 1) := by decide +kernel
theorem dX12_readsOn_214 : decode cX12_readsOn 214 = .ok (.getfield 77, 3) := by decide +kernel
theorem dX12_readsOn_217 : decode cX12_readsOn 217 = .ok (.aload_n 0, 1) := by decide +kernel
theorem dX12_readsOn_218 : decode cX12_readsOn 218 = .ok (.getfield 80, 3) := by decide +kernel
theorem dX12_readsOn_221 : decode cX12_readsOn 221 = .ok (.isub, 1) := by decide +kernel
theorem dX12_readsOn_222 : decode cX12_readsOn 222 = .ok (.iconst 3, 1) := by decide +kernel
theorem dX12_readsOn_223 : decode cX12_readsOn 223 = .ok (.if_icmp .le 7, 3) := by decide +kernel
theorem dX12_readsOn_226 : decode cX12_readsOn 226 = .ok (.iconst 3, 1) := by decide +kernel
theorem dX12_readsOn_227 : decode cX12_readsOn 227 = .ok (.goto 4, 3) := by decide +kernel
theorem dX12_readsOn_230 : decode cX12_readsOn 230 = .ok (.iconst 2, 1) := by decide +kernel
theorem dX12_readsOn_231 : decode cX12_readsOn 231 = .ok (.putfield 83, 3) := by decide +kernel
theorem dX12_readsOn_234 : decode cX12_readsOn 234 = .ok (.goto 29, 3) := by decide +kernel
theorem dX12_readsOn_237 : decode cX12_readsOn 237 = .ok (.aload_n 0, 1) := by decide +kernel
theorem dX12_readsOn_238 : decode cX12_readsOn 238 = .ok (.iload_n 1, 1) := by decide +kernel
theorem dX12_readsOn_239 : decode cX12_readsOn 239 = .ok (.invokestatic 100, 3) := by decide +kernel
theorem dX12_readsOn_242 : decode cX12_readsOn 242 = .ok (.ifCond .eq 7, 3) := by decide +kernel
theorem dX12_readsOn_245 : decode cX12_readsOn 245 = .ok (.iload_n 1, 1) := by decide +kernel
theorem dX12_readsOn_246 : decode cX12_readsOn 246 = .ok (.goto 4, 3) := by decide +kernel
theorem dX12_readsOn_249 : decode cX12_readsOn 249 = .ok (.iconst 3, 1) := by decide +kernel
theorem dX12_readsOn_250 : decode cX12_readsOn 250 = .ok (.putfield 83, 3) := by decide +kernel
theorem dX12_readsOn_253 : decode cX12_readsOn 253 = .ok (.aload_n 0, 1) := by decide +kernel
theorem dX12_readsOn_254 : decode cX12_readsOn 254 = .ok (.dup, 1) := by decide +kernel
theorem dX12_readsOn_255 : decode cX12_readsOn 255 = .ok (.getfield 77, 3) := by decide +kernel
theorem dX12_readsOn_258 : decode cX12_readsOn 258 = .ok (.iconst 1, 1) := by decide +kernel
theorem dX12_readsOn_259 : decode cX12_readsOn 259 = .ok (.iadd, 1) := by decide +kernel
theorem dX12_readsOn_260 : decode cX12_readsOn 260 = .ok (.putfield 77, 3) := by decide +kernel
theorem dX12_readsOn_263 : decode cX12_readsOn 263 = .ok (.return_, 1) := by decide +kernel
theorem dX12_blames_0 : decode cX12_blames 0 = .ok (.aload_n 0, 1) := by decide +kernel
theorem dX12_blames_1 : decode cX12_blames 1 = .ok (.getfield 103, 3) := by decide +kernel
theorem dX12_blames_4 : decode cX12_blames 4 = .ok (.ifCond .eq 4, 3) := by decide +kernel
theorem dX12_blames_7 : decode cX12_blames 7 = .ok (.return_, 1) := by decide +kernel
theorem dX12_blames_8 : decode cX12_blames 8 = .ok (.aload_n 0, 1) := by decide +kernel
theorem dX12_blames_9 : decode cX12_blames 9 = .ok (.aload_n 0, 1) := by decide +kernel
theorem dX12_blames_10 : decode cX12_blames 10 = .ok (.getfield 83, 3) := by decide +kernel
theorem dX12_blames_13 : decode cX12_blames 13 = .ok (.iconst 3, 1) := by decide +kernel
theorem dX12_blames_14 : decode cX12_blames 14 = .ok (.if_icmp .ne 7, 3) := by decide +kernel
theorem dX12_blames_17 : decode cX12_blames 17 = .ok (.iconst 1, 1) := by decide +kernel
theorem dX12_blames_18 : decode cX12_blames 18 = .ok (.goto 4, 3) := by decide +kernel
theorem dX12_blames_21 : decode cX12_blames 21 = .ok (.iload_n 1, 1) := by decide +kernel
theorem dX12_blames_22 : decode cX12_blames 22 = .ok (.putfield 103, 3) := by decide +kernel
theorem dX12_blames_25 : decode cX12_blames 25 = .ok (.aload_n 0, 1) := by decide +kernel
theorem dX12_blames_26 : decode cX12_blames 26 = .ok (.aload_n 0, 1) := by decide +kernel
theorem dX12_blames_27 : decode cX12_blames 27 = .ok (.getfield 80, 3) := by decide +kernel
theorem dX12_blames_30 : decode cX12_blames 30 = .ok (.putfield 106, 3) := by decide +kernel
theorem dX12_blames_33 : decode cX12_blames 33 = .ok (.return_, 1) := by decide +kernel
theorem dX12_isWord_0 : decode cX12_isWord 0 = .ok (.aload_n 0, 1) := by decide +kernel
theorem dX12_isWord_1 : decode cX12_isWord 1 = .ok (.getfield 103, 3) := by decide +kernel
theorem dX12_isWord_4 : decode cX12_isWord 4 = .ok (.ifCond .ne 31, 3) := by decide +kernel
theorem dX12_isWord_7 : decode cX12_isWord 7 = .ok (.aload_n 0, 1) := by decide +kernel
theorem dX12_isWord_8 : decode cX12_isWord 8 = .ok (.getfield 83, 3) := by decide +kernel
theorem dX12_isWord_11 : decode cX12_isWord 11 = .ok (.iconst 1, 1) := by decide +kernel
theorem dX12_isWord_12 : decode cX12_isWord 12 = .ok (.if_icmp .ne 23, 3) := by decide +kernel
theorem dX12_isWord_15 : decode cX12_isWord 15 = .ok (.aload_n 0, 1) := by decide +kernel
theorem dX12_isWord_16 : decode cX12_isWord 16 = .ok (.getfield 77, 3) := by decide +kernel
theorem dX12_isWord_19 : decode cX12_isWord 19 = .ok (.aload_n 0, 1) := by decide +kernel
theorem dX12_isWord_20 : decode cX12_isWord 20 = .ok (.getfield 80, 3) := by decide +kernel
theorem dX12_isWord_23 : decode cX12_isWord 23 = .ok (.isub, 1) := by decide +kernel
theorem dX12_isWord_24 : decode cX12_isWord 24 = .ok (.aload_n 1, 1) := by decide +kernel
theorem dX12_isWord_25 : decode cX12_isWord 25 = .ok (.invokevirtual 109, 3) := by decide +kernel
theorem dX12_isWord_28 : decode cX12_isWord 28 = .ok (.if_icmp .ne 7, 3) := by decide +kernel
theorem dX12_isWord_31 : decode cX12_isWord 31 = .ok (.iconst 1, 1) := by decide +kernel
theorem dX12_isWord_32 : decode cX12_isWord 32 = .ok (.goto 4, 3) := by decide +kernel
theorem dX12_isWord_35 : decode cX12_isWord 35 = .ok (.iconst 0, 1) := by decide +kernel
theorem dX12_isWord_36 : decode cX12_isWord 36 = .ok (.istore_n 2, 1) := by decide +kernel
theorem dX12_isWord_37 : decode cX12_isWord 37 = .ok (.iconst 0, 1) := by decide +kernel
theorem dX12_isWord_38 : decode cX12_isWord 38 = .ok (.istore_n 3, 1) := by decide +kernel
theorem dX12_isWord_39 : decode cX12_isWord 39 = .ok (.iload_n 2, 1) := by decide +kernel
theorem dX12_isWord_40 : decode cX12_isWord 40 = .ok (.ifCond .eq 42, 3) := by decide +kernel
theorem dX12_isWord_43 : decode cX12_isWord 43 = .ok (.iload_n 3, 1) := by decide +kernel
theorem dX12_isWord_44 : decode cX12_isWord 44 = .ok (.aload_n 1, 1) := by decide +kernel
theorem dX12_isWord_45 : decode cX12_isWord 45 = .ok (.invokevirtual 109, 3) := by decide +kernel
theorem dX12_isWord_48 : decode cX12_isWord 48 = .ok (.if_icmp .ge 34, 3) := by decide +kernel
theorem dX12_isWord_51 : decode cX12_isWord 51 = .ok (.aload_n 0, 1) := by decide +kernel
theorem dX12_isWord_52 : decode cX12_isWord 52 = .ok (.getfield 23, 3) := by decide +kernel
theorem dX12_isWord_55 : decode cX12_isWord 55 = .ok (.aload_n 0, 1) := by decide +kernel
theorem dX12_isWord_56 : decode cX12_isWord 56 = .ok (.getfield 80, 3) := by decide +kernel
theorem dX12_isWord_59 : decode cX12_isWord 59 = .ok (.iload_n 3, 1) := by decide +kernel
theorem dX12_isWord_60 : decode cX12_isWord 60 = .ok (.iadd, 1) := by decide +kernel
theorem dX12_isWord_61 : decode cX12_isWord 61 = .ok (.iaload, 1) := by decide +kernel
theorem dX12_isWord_62 : decode cX12_isWord 62 = .ok (.aload_n 1, 1) := by decide +kernel
theorem dX12_isWord_63 : decode cX12_isWord 63 = .ok (.iload_n 3, 1) := by decide +kernel
theorem dX12_isWord_64 : decode cX12_isWord 64 = .ok (.invokevirtual 114, 3) := by decide +kernel
theorem dX12_isWord_67 : decode cX12_isWord 67 = .ok (.if_icmp .ne 7, 3) := by decide +kernel
theorem dX12_isWord_70 : decode cX12_isWord 70 = .ok (.iconst 1, 1) := by decide +kernel
theorem dX12_isWord_71 : decode cX12_isWord 71 = .ok (.goto 4, 3) := by decide +kernel
theorem dX12_isWord_74 : decode cX12_isWord 74 = .ok (.iconst 0, 1) := by decide +kernel
theorem dX12_isWord_75 : decode cX12_isWord 75 = .ok (.istore_n 2, 1) := by decide +kernel
theorem dX12_isWord_76 : decode cX12_isWord 76 = .ok (.iinc 3 1, 3) := by decide +kernel
theorem dX12_isWord_79 : decode cX12_isWord 79 = .ok (.goto (-40), 3) := by decide +kernel
theorem dX12_isWord_82 : decode cX12_isWord 82 = .ok (.iload_n 2, 1) := by decide +kernel
theorem dX12_isWord_83 : decode cX12_isWord 83 = .ok (.ireturn, 1) := by decide +kernel
theorem dX12_took_0 : decode cX12_took 0 = .ok (.aload_n 0, 1) := by decide +kernel
theorem dX12_took_1 : decode cX12_took 1 = .ok (.aload_n 1, 1) := by decide +kernel
theorem dX12_took_2 : decode cX12_took 2 = .ok (.invokevirtual 118, 3) := by decide +kernel
theorem dX12_took_5 : decode cX12_took 5 = .ok (.istore_n 2, 1) := by decide +kernel
theorem dX12_took_6 : decode cX12_took 6 = .ok (.iload_n 2, 1) := by decide +kernel
theorem dX12_took_7 : decode cX12_took 7 = .ok (.ifCond .eq 7, 3) := by decide +kernel
theorem dX12_took_10 : decode cX12_took 10 = .ok (.aload_n 0, 1) := by decide +kernel
theorem dX12_took_11 : decode cX12_took 11 = .ok (.invokevirtual 122, 3) := by decide +kernel
theorem dX12_took_14 : decode cX12_took 14 = .ok (.iload_n 2, 1) := by decide +kernel
theorem dX12_took_15 : decode cX12_took 15 = .ok (.ireturn, 1) := by decide +kernel
theorem dX12_mustWord_0 : decode cX12_mustWord 0 = .ok (.aload_n 0, 1) := by decide +kernel
theorem dX12_mustWord_1 : decode cX12_mustWord 1 = .ok (.aload_n 1, 1) := by decide +kernel
theorem dX12_mustWord_2 : decode cX12_mustWord 2 = .ok (.invokevirtual 125, 3) := by decide +kernel
theorem dX12_mustWord_5 : decode cX12_mustWord 5 = .ok (.ifCond .ne 8, 3) := by decide +kernel
theorem dX12_mustWord_8 : decode cX12_mustWord 8 = .ok (.aload_n 0, 1) := by decide +kernel
theorem dX12_mustWord_9 : decode cX12_mustWord 9 = .ok (.iconst 2, 1) := by decide +kernel
theorem dX12_mustWord_10 : decode cX12_mustWord 10 = .ok (.invokevirtual 128, 3) := by decide +kernel
theorem dX12_mustWord_13 : decode cX12_mustWord 13 = .ok (.return_, 1) := by decide +kernel
theorem dX12_isSign_0 : decode cX12_isSign 0 = .ok (.aload_n 0, 1) := by decide +kernel
theorem dX12_isSign_1 : decode cX12_isSign 1 = .ok (.getfield 103, 3) := by decide +kernel
theorem dX12_isSign_4 : decode cX12_isSign 4 = .ok (.ifCond .ne 15, 3) := by decide +kernel
theorem dX12_isSign_7 : decode cX12_isSign 7 = .ok (.aload_n 0, 1) := by decide +kernel
theorem dX12_isSign_8 : decode cX12_isSign 8 = .ok (.getfield 83, 3) := by decide +kernel
theorem dX12_isSign_11 : decode cX12_isSign 11 = .ok (.iload_n 1, 1) := by decide +kernel
theorem dX12_isSign_12 : decode cX12_isSign 12 = .ok (.if_icmp .ne 7, 3) := by decide +kernel
theorem dX12_isSign_15 : decode cX12_isSign 15 = .ok (.iconst 1, 1) := by decide +kernel
theorem dX12_isSign_16 : decode cX12_isSign 16 = .ok (.goto 4, 3) := by decide +kernel
theorem dX12_isSign_19 : decode cX12_isSign 19 = .ok (.iconst 0, 1) := by decide +kernel
theorem dX12_isSign_20 : decode cX12_isSign 20 = .ok (.ireturn, 1) := by decide +kernel
theorem dX12_mustSign_0 : decode cX12_mustSign 0 = .ok (.aload_n 0, 1) := by decide +kernel
theorem dX12_mustSign_1 : decode cX12_mustSign 1 = .ok (.getfield 83, 3) := by decide +kernel
theorem dX12_mustSign_4 : decode cX12_mustSign 4 = .ok (.iload_n 1, 1) := by decide +kernel
theorem dX12_mustSign_5 : decode cX12_mustSign 5 = .ok (.if_icmp .eq 8, 3) := by decide +kernel
theorem dX12_mustSign_8 : decode cX12_mustSign 8 = .ok (.aload_n 0, 1) := by decide +kernel
theorem dX12_mustSign_9 : decode cX12_mustSign 9 = .ok (.iconst 2, 1) := by decide +kernel
theorem dX12_mustSign_10 : decode cX12_mustSign 10 = .ok (.invokevirtual 128, 3) := by decide +kernel
theorem dX12_mustSign_13 : decode cX12_mustSign 13 = .ok (.aload_n 0, 1) := by decide +kernel
theorem dX12_mustSign_14 : decode cX12_mustSign 14 = .ok (.getfield 103, 3) := by decide +kernel
theorem dX12_mustSign_17 : decode cX12_mustSign 17 = .ok (.ifCond .ne 7, 3) := by decide +kernel
theorem dX12_mustSign_20 : decode cX12_mustSign 20 = .ok (.aload_n 0, 1) := by decide +kernel
theorem dX12_mustSign_21 : decode cX12_mustSign 21 = .ok (.invokevirtual 122, 3) := by decide +kernel
theorem dX12_mustSign_24 : decode cX12_mustSign 24 = .ok (.return_, 1) := by decide +kernel
theorem dX12_number_0 : decode cX12_number 0 = .ok (.aload_n 0, 1) := by decide +kernel
theorem dX12_number_1 : decode cX12_number 1 = .ok (.getfield 83, 3) := by decide +kernel
theorem dX12_number_4 : decode cX12_number 4 = .ok (.iconst 2, 1) := by decide +kernel
theorem dX12_number_5 : decode cX12_number 5 = .ok (.if_icmp .eq 11, 3) := by decide +kernel
theorem dX12_number_8 : decode cX12_number 8 = .ok (.aload_n 0, 1) := by decide +kernel
theorem dX12_number_9 : decode cX12_number 9 = .ok (.iconst 2, 1) := by decide +kernel
theorem dX12_number_10 : decode cX12_number 10 = .ok (.invokevirtual 128, 3) := by decide +kernel
theorem dX12_number_13 : decode cX12_number 13 = .ok (.goto 23, 3) := by decide +kernel
theorem dX12_number_16 : decode cX12_number 16 = .ok (.aload_n 0, 1) := by decide +kernel
theorem dX12_number_17 : decode cX12_number 17 = .ok (.getfield 97, 3) := by decide +kernel
theorem dX12_number_20 : decode cX12_number 20 = .ok (.i2l, 1) := by decide +kernel
theorem dX12_number_21 : decode cX12_number 21 = .ok (.iload_n 1, 1) := by decide +kernel
theorem dX12_number_22 : decode cX12_number 22 = .ok (.i2l, 1) := by decide +kernel
theorem dX12_number_23 : decode cX12_number 23 = .ok (.iload_n 2, 1) := by decide +kernel
theorem dX12_number_24 : decode cX12_number 24 = .ok (.i2l, 1) := by decide +kernel
theorem dX12_number_25 : decode cX12_number 25 = .ok (.invokestatic 132, 3) := by decide +kernel
theorem dX12_number_28 : decode cX12_number 28 = .ok (.ifCond .ne 8, 3) := by decide +kernel
theorem dX12_number_31 : decode cX12_number 31 = .ok (.aload_n 0, 1) := by decide +kernel
theorem dX12_number_32 : decode cX12_number 32 = .ok (.iconst 3, 1) := by decide +kernel
theorem dX12_number_33 : decode cX12_number 33 = .ok (.invokevirtual 128, 3) := by decide +kernel
theorem dX12_number_36 : decode cX12_number 36 = .ok (.aload_n 0, 1) := by decide +kernel
theorem dX12_number_37 : decode cX12_number 37 = .ok (.getfield 97, 3) := by decide +kernel
theorem dX12_number_40 : decode cX12_number 40 = .ok (.istore_n 3, 1) := by decide +kernel
theorem dX12_number_41 : decode cX12_number 41 = .ok (.aload_n 0, 1) := by decide +kernel
theorem dX12_number_42 : decode cX12_number 42 = .ok (.getfield 103, 3) := by decide +kernel
theorem dX12_number_45 : decode cX12_number 45 = .ok (.ifCond .ne 7, 3) := by decide +kernel
theorem dX12_number_48 : decode cX12_number 48 = .ok (.aload_n 0, 1) := by decide +kernel
theorem dX12_number_49 : decode cX12_number 49 = .ok (.invokevirtual 122, 3) := by decide +kernel
theorem dX12_number_52 : decode cX12_number 52 = .ok (.aload_n 0, 1) := by decide +kernel
theorem dX12_number_53 : decode cX12_number 53 = .ok (.getfield 103, 3) := by decide +kernel
theorem dX12_number_56 : decode cX12_number 56 = .ok (.ifCond .ne 7, 3) := by decide +kernel
theorem dX12_number_59 : decode cX12_number 59 = .ok (.iload_n 3, 1) := by decide +kernel
theorem dX12_number_60 : decode cX12_number 60 = .ok (.goto 4, 3) := by decide +kernel
theorem dX12_number_63 : decode cX12_number 63 = .ok (.iload_n 1, 1) := by decide +kernel
theorem dX12_number_64 : decode cX12_number 64 = .ok (.ireturn, 1) := by decide +kernel
theorem dX12_laysStep_0 : decode cX12_laysStep 0 = .ok (.aload_n 0, 1) := by decide +kernel
theorem dX12_laysStep_1 : decode cX12_laysStep 1 = .ok (.getfield 103, 3) := by decide +kernel
theorem dX12_laysStep_4 : decode cX12_laysStep 4 = .ok (.ifCond .eq 4, 3) := by decide +kernel
theorem dX12_laysStep_7 : decode cX12_laysStep 7 = .ok (.return_, 1) := by decide +kernel
theorem dX12_laysStep_8 : decode cX12_laysStep 8 = .ok (.aload_n 0, 1) := by decide +kernel
theorem dX12_laysStep_9 : decode cX12_laysStep 9 = .ok (.getfield 13, 3) := by decide +kernel
theorem dX12_laysStep_12 : decode cX12_laysStep 12 = .ok (.sipush 1155, 3) := by decide +kernel
theorem dX12_laysStep_15 : decode cX12_laysStep 15 = .ok (.aload_n 0, 1) := by decide +kernel
theorem dX12_laysStep_16 : decode cX12_laysStep 16 = .ok (.getfield 13, 3) := by decide +kernel
theorem dX12_laysStep_19 : decode cX12_laysStep 19 = .ok (.bipush 7, 2) := by decide +kernel
theorem dX12_laysStep_21 : decode cX12_laysStep 21 = .ok (.iaload, 1) := by decide +kernel
theorem dX12_laysStep_22 : decode cX12_laysStep 22 = .ok (.iadd, 1) := by decide +kernel
theorem dX12_laysStep_23 : decode cX12_laysStep 23 = .ok (.iload_n 1, 1) := by decide +kernel
theorem dX12_laysStep_24 : decode cX12_laysStep 24 = .ok (.iastore, 1) := by decide +kernel
theorem dX12_laysStep_25 : decode cX12_laysStep 25 = .ok (.aload_n 0, 1) := by decide +kernel
theorem dX12_laysStep_26 : decode cX12_laysStep 26 = .ok (.getfield 13, 3) := by decide +kernel
theorem dX12_laysStep_29 : decode cX12_laysStep 29 = .ok (.bipush 7, 2) := by decide +kernel
theorem dX12_laysStep_31 : decode cX12_laysStep 31 = .ok (.dup2, 1) := by decide +kernel
theorem dX12_laysStep_32 : decode cX12_laysStep 32 = .ok (.iaload, 1) := by decide +kernel
theorem dX12_laysStep_33 : decode cX12_laysStep 33 = .ok (.iconst 1, 1) := by decide +kernel
theorem dX12_laysStep_34 : decode cX12_laysStep 34 = .ok (.iadd, 1) := by decide +kernel
theorem dX12_laysStep_35 : decode cX12_laysStep 35 = .ok (.iastore, 1) := by decide +kernel
theorem dX12_laysStep_36 : decode cX12_laysStep 36 = .ok (.return_, 1) := by decide +kernel
theorem dX12_goesIn_0 : decode cX12_goesIn 0 = .ok (.aload_n 0, 1) := by decide +kernel
theorem dX12_goesIn_1 : decode cX12_goesIn 1 = .ok (.getfield 136, 3) := by decide +kernel
theorem dX12_goesIn_4 : decode cX12_goesIn 4 = .ok (.bipush 6, 2) := by decide +kernel
theorem dX12_goesIn_6 : decode cX12_goesIn 6 = .ok (.if_icmp .ne 8, 3) := by decide +kernel
theorem dX12_goesIn_9 : decode cX12_goesIn 9 = .ok (.aload_n 0, 1) := by decide +kernel
theorem dX12_goesIn_10 : decode cX12_goesIn 10 = .ok (.iconst 4, 1) := by decide +kernel
theorem dX12_goesIn_11 : decode cX12_goesIn 11 = .ok (.invokevirtual 128, 3) := by decide +kernel
theorem dX12_goesIn_14 : decode cX12_goesIn 14 = .ok (.aload_n 0, 1) := by decide +kernel
theorem dX12_goesIn_15 : decode cX12_goesIn 15 = .ok (.dup, 1) := by decide +kernel
theorem dX12_goesIn_16 : decode cX12_goesIn 16 = .ok (.getfield 136, 3) := by decide +kernel
theorem dX12_goesIn_19 : decode cX12_goesIn 19 = .ok (.iconst 1, 1) := by decide +kernel
theorem dX12_goesIn_20 : decode cX12_goesIn 20 = .ok (.iadd, 1) := by decide +kernel
theorem dX12_goesIn_21 : decode cX12_goesIn 21 = .ok (.putfield 136, 3) := by decide +kernel
theorem dX12_goesIn_24 : decode cX12_goesIn 24 = .ok (.aload_n 0, 1) := by decide +kernel
theorem dX12_goesIn_25 : decode cX12_goesIn 25 = .ok (.getfield 103, 3) := by decide +kernel
theorem dX12_goesIn_28 : decode cX12_goesIn 28 = .ok (.ifCond .ne 7, 3) := by decide +kernel
theorem dX12_goesIn_31 : decode cX12_goesIn 31 = .ok (.aload_n 0, 1) := by decide +kernel
theorem dX12_goesIn_32 : decode cX12_goesIn 32 = .ok (.invokevirtual 122, 3) := by decide +kernel
theorem dX12_goesIn_35 : decode cX12_goesIn 35 = .ok (.return_, 1) := by decide +kernel
theorem dX12_readTruth_0 : decode cX12_readTruth 0 = .ok (.aload_n 0, 1) := by decide +kernel
theorem dX12_readTruth_1 : decode cX12_readTruth 1 = .ok (.invokevirtual 139, 3) := by decide +kernel
theorem dX12_readTruth_4 : decode cX12_readTruth 4 = .ok (.aload_n 0, 1) := by decide +kernel
theorem dX12_readTruth_5 : decode cX12_readTruth 5 = .ok (.ldc 142, 2) := by decide +kernel
theorem dX12_readTruth_7 : decode cX12_readTruth 7 = .ok (.invokevirtual 125, 3) := by decide +kernel
theorem dX12_readTruth_10 : decode cX12_readTruth 10 = .ok (.ifCond .eq 16, 3) := by decide +kernel
theorem dX12_readTruth_13 : decode cX12_readTruth 13 = .ok (.aload_n 0, 1) := by decide +kernel
theorem dX12_readTruth_14 : decode cX12_readTruth 14 = .ok (.invokevirtual 139, 3) := by decide +kernel
theorem dX12_readTruth_17 : decode cX12_readTruth 17 = .ok (.aload_n 0, 1) := by decide +kernel
theorem dX12_readTruth_18 : decode cX12_readTruth 18 = .ok (.bipush 17, 2) := by decide +kernel
theorem dX12_readTruth_20 : decode cX12_readTruth 20 = .ok (.invokevirtual 144, 3) := by decide +kernel
theorem dX12_readTruth_23 : decode cX12_readTruth 23 = .ok (.goto (-19), 3) := by decide +kernel
theorem dX12_readTruth_26 : decode cX12_readTruth 26 = .ok (.return_, 1) := by decide +kernel
theorem dX12_readBoth_0 : decode cX12_readBoth 0 = .ok (.aload_n 0, 1) := by decide +kernel
theorem dX12_readBoth_1 : decode cX12_readBoth 1 = .ok (.invokevirtual 147, 3) := by decide +kernel
theorem dX12_readBoth_4 : decode cX12_readBoth 4 = .ok (.aload_n 0, 1) := by decide +kernel
theorem dX12_readBoth_5 : decode cX12_readBoth 5 = .ok (.ldc 150, 2) := by decide +kernel
theorem dX12_readBoth_7 : decode cX12_readBoth 7 = .ok (.invokevirtual 125, 3) := by decide +kernel
theorem dX12_readBoth_10 : decode cX12_readBoth 10 = .ok (.ifCond .eq 16, 3) := by decide +kernel
theorem dX12_readBoth_13 : decode cX12_readBoth 13 = .ok (.aload_n 0, 1) := by decide +kernel
theorem dX12_readBoth_14 : decode cX12_readBoth 14 = .ok (.invokevirtual 147, 3) := by decide +kernel
theorem dX12_readBoth_17 : decode cX12_readBoth 17 = .ok (.aload_n 0, 1) := by decide +kernel
theorem dX12_readBoth_18 : decode cX12_readBoth 18 = .ok (.bipush 16, 2) := by decide +kernel
theorem dX12_readBoth_20 : decode cX12_readBoth 20 = .ok (.invokevirtual 144, 3) := by decide +kernel
theorem dX12_readBoth_23 : decode cX12_readBoth 23 = .ok (.goto (-19), 3) := by decide +kernel
theorem dX12_readBoth_26 : decode cX12_readBoth 26 = .ok (.return_, 1) := by decide +kernel
theorem dX12_readUnit_0 : decode cX12_readUnit 0 = .ok (.aload_n 0, 1) := by decide +kernel
theorem dX12_readUnit_1 : decode cX12_readUnit 1 = .ok (.getfield 103, 3) := by decide +kernel
theorem dX12_readUnit_4 : decode cX12_readUnit 4 = .ok (.ifCond .eq 4, 3) := by decide +kernel
theorem dX12_readUnit_7 : decode cX12_readUnit 7 = .ok (.return_, 1) := by decide +kernel
theorem dX12_readUnit_8 : decode cX12_readUnit 8 = .ok (.aload_n 0, 1) := by decide +kernel
theorem dX12_readUnit_9 : decode cX12_readUnit 9 = .ok (.ldc 152, 2) := by decide +kernel
theorem dX12_readUnit_11 : decode cX12_readUnit 11 = .ok (.invokevirtual 118, 3) := by decide +kernel
theorem dX12_readUnit_14 : decode cX12_readUnit 14 = .ok (.ifCond .eq 30, 3) := by decide +kernel
theorem dX12_readUnit_17 : decode cX12_readUnit 17 = .ok (.aload_n 0, 1) := by decide +kernel
theorem dX12_readUnit_18 : decode cX12_readUnit 18 = .ok (.invokevirtual 154, 3) := by decide +kernel
theorem dX12_readUnit_21 : decode cX12_readUnit 21 = .ok (.aload_n 0, 1) := by decide +kernel
theorem dX12_readUnit_22 : decode cX12_readUnit 22 = .ok (.invokevirtual 147, 3) := by decide +kernel
theorem dX12_readUnit_25 : decode cX12_readUnit 25 = .ok (.aload_n 0, 1) := by decide +kernel
theorem dX12_readUnit_26 : decode cX12_readUnit 26 = .ok (.bipush 18, 2) := by decide +kernel
theorem dX12_readUnit_28 : decode cX12_readUnit 28 = .ok (.invokevirtual 144, 3) := by decide +kernel
theorem dX12_readUnit_31 : decode cX12_readUnit 31 = .ok (.aload_n 0, 1) := by decide +kernel
theorem dX12_readUnit_32 : decode cX12_readUnit 32 = .ok (.dup, 1) := by decide +kernel
theorem dX12_readUnit_33 : decode cX12_readUnit 33 = .ok (.getfield 136, 3) := by decide +kernel
theorem dX12_readUnit_36 : decode cX12_readUnit 36 = .ok (.iconst 1, 1) := by decide +kernel
theorem dX12_readUnit_37 : decode cX12_readUnit 37 = .ok (.isub, 1) := by decide +kernel
theorem dX12_readUnit_38 : decode cX12_readUnit 38 = .ok (.putfield 136, 3) := by decide +kernel
theorem dX12_readUnit_41 : decode cX12_readUnit 41 = .ok (.goto 114, 3) := by decide +kernel
theorem dX12_readUnit_44 : decode cX12_readUnit 44 = .ok (.aload_n 0, 1) := by decide +kernel
theorem dX12_readUnit_45 : decode cX12_readUnit 45 = .ok (.bipush 91, 2) := by decide +kernel
theorem dX12_readUnit_47 : decode cX12_readUnit 47 = .ok (.invokevirtual 157, 3) := by decide +kernel
theorem dX12_readUnit_50 : decode cX12_readUnit 50 = .ok (.ifCond .eq 30, 3) := by decide +kernel
theorem dX12_readUnit_53 : decode cX12_readUnit 53 = .ok (.aload_n 0, 1) := by decide +kernel
theorem dX12_readUnit_54 : decode cX12_readUnit 54 = .ok (.invokevirtual 154, 3) := by decide +kernel
theorem dX12_readUnit_57 : decode cX12_readUnit 57 = .ok (.aload_n 0, 1) := by decide +kernel
theorem dX12_readUnit_58 : decode cX12_readUnit 58 = .ok (.invokevirtual 160, 3) := by decide +kernel
theorem dX12_readUnit_61 : decode cX12_readUnit 61 = .ok (.aload_n 0, 1) := by decide +kernel
theorem dX12_readUnit_62 : decode cX12_readUnit 62 = .ok (.bipush 93, 2) := by decide +kernel
theorem dX12_readUnit_64 : decode cX12_readUnit 64 = .ok (.invokevirtual 163, 3) := by decide +kernel
theorem dX12_readUnit_67 : decode cX12_readUnit 67 = .ok (.aload_n 0, 1) := by decide +kernel
theorem dX12_readUnit_68 : decode cX12_readUnit 68 = .ok (.dup, 1) := by decide +kernel
theorem dX12_readUnit_69 : decode cX12_readUnit 69 = .ok (.getfield 136, 3) := by decide +kernel
theorem dX12_readUnit_72 : decode cX12_readUnit 72 = .ok (.iconst 1, 1) := by decide +kernel
theorem dX12_readUnit_73 : decode cX12_readUnit 73 = .ok (.isub, 1) := by decide +kernel
theorem dX12_readUnit_74 : decode cX12_readUnit 74 = .ok (.putfield 136, 3) := by decide +kernel
theorem dX12_readUnit_77 : decode cX12_readUnit 77 = .ok (.goto 78, 3) := by decide +kernel
theorem dX12_readUnit_80 : decode cX12_readUnit 80 = .ok (.aload_n 0, 1) := by decide +kernel
theorem dX12_readUnit_81 : decode cX12_readUnit 81 = .ok (.invokevirtual 166, 3) := by decide +kernel
theorem dX12_readUnit_84 : decode cX12_readUnit 84 = .ok (.aload_n 0, 1) := by decide +kernel
theorem dX12_readUnit_85 : decode cX12_readUnit 85 = .ok (.getfield 83, 3) := by decide +kernel
theorem dX12_readUnit_88 : decode cX12_readUnit 88 = .ok (.istore_n 1, 1) := by decide +kernel
theorem dX12_readUnit_89 : decode cX12_readUnit 89 = .ok (.iload_n 1, 1) := by decide +kernel
theorem dX12_readUnit_90 : decode cX12_readUnit 90 = .ok (.bipush 61, 2) := by decide +kernel
theorem dX12_readUnit_92 : decode cX12_readUnit 92 = .ok (.if_icmp .eq 20, 3) := by decide +kernel
theorem dX12_readUnit_95 : decode cX12_readUnit 95 = .ok (.iload_n 1, 1) := by decide +kernel
theorem dX12_readUnit_96 : decode cX12_readUnit 96 = .ok (.bipush 60, 2) := by decide +kernel
theorem dX12_readUnit_98 : decode cX12_readUnit 98 = .ok (.if_icmp .eq 14, 3) := by decide +kernel
theorem dX12_readUnit_101 : decode cX12_readUnit 101 = .ok (.iload_n 1, 1) := by decide +kernel
theorem dX12_readUnit_102 : decode cX12_readUnit 102 = .ok (.bipush 62, 2) := by decide +kernel
theorem dX12_readUnit_104 : decode cX12_readUnit 104 = .ok (.if_icmp .eq 8, 3) := by decide +kernel
theorem dX12_readUnit_107 : decode cX12_readUnit 107 = .ok (.aload_n 0, 1) := by decide +kernel
theorem dX12_readUnit_108 : decode cX12_readUnit 108 = .ok (.iconst 2, 1) := by decide +kernel
theorem dX12_readUnit_109 : decode cX12_readUnit 109 = .ok (.invokevirtual 128, 3) := by decide +kernel
theorem dX12_readUnit_112 : decode cX12_readUnit 112 = .ok (.aload_n 0, 1) := by decide +kernel
theorem dX12_readUnit_113 : decode cX12_readUnit 113 = .ok (.getfield 103, 3) := by decide +kernel
theorem dX12_readUnit_116 : decode cX12_readUnit 116 = .ok (.ifCond .ne 7, 3) := by decide +kernel
theorem dX12_readUnit_119 : decode cX12_readUnit 119 = .ok (.aload_n 0, 1) := by decide +kernel
theorem dX12_readUnit_120 : decode cX12_readUnit 120 = .ok (.invokevirtual 122, 3) := by decide +kernel
theorem dX12_readUnit_123 : decode cX12_readUnit 123 = .ok (.aload_n 0, 1) := by decide +kernel
theorem dX12_readUnit_124 : decode cX12_readUnit 124 = .ok (.invokevirtual 166, 3) := by decide +kernel
theorem dX12_readUnit_127 : decode cX12_readUnit 127 = .ok (.aload_n 0, 1) := by decide +kernel
theorem dX12_readUnit_128 : decode cX12_readUnit 128 = .ok (.iload_n 1, 1) := by decide +kernel
theorem dX12_readUnit_129 : decode cX12_readUnit 129 = .ok (.bipush 61, 2) := by decide +kernel
theorem dX12_readUnit_131 : decode cX12_readUnit 131 = .ok (.if_icmp .ne 8, 3) := by decide +kernel
theorem dX12_readUnit_134 : decode cX12_readUnit 134 = .ok (.bipush 13, 2) := by decide +kernel
theorem dX12_readUnit_136 : decode cX12_readUnit 136 = .ok (.goto 16, 3) := by decide +kernel
theorem dX12_readUnit_139 : decode cX12_readUnit 139 = .ok (.iload_n 1, 1) := by decide +kernel
theorem dX12_readUnit_140 : decode cX12_readUnit 140 = .ok (.bipush 60, 2) := by decide +kernel
theorem dX12_readUnit_142 : decode cX12_readUnit 142 = .ok (.if_icmp .ne 8, 3) := by decide +kernel
theorem dX12_readUnit_145 : decode cX12_readUnit 145 = .ok (.bipush 14, 2) := by decide +kernel
theorem dX12_readUnit_147 : decode cX12_readUnit 147 = .ok (.goto 5, 3) := by decide +kernel
theorem dX12_readUnit_150 : decode cX12_readUnit 150 = .ok (.bipush 15, 2) := by decide +kernel
theorem dX12_readUnit_152 : decode cX12_readUnit 152 = .ok (.invokevirtual 144, 3) := by decide +kernel
theorem dX12_readUnit_155 : decode cX12_readUnit 155 = .ok (.return_, 1) := by decide +kernel
theorem dX12_readSum_0 : decode cX12_readSum 0 = .ok (.aload_n 0, 1) := by decide +kernel
theorem dX12_readSum_1 : decode cX12_readSum 1 = .ok (.invokevirtual 169, 3) := by decide +kernel
theorem dX12_readSum_4 : decode cX12_readSum 4 = .ok (.aload_n 0, 1) := by decide +kernel
theorem dX12_readSum_5 : decode cX12_readSum 5 = .ok (.bipush 43, 2) := by decide +kernel
theorem dX12_readSum_7 : decode cX12_readSum 7 = .ok (.invokevirtual 157, 3) := by decide +kernel
theorem dX12_readSum_10 : decode cX12_readSum 10 = .ok (.ifCond .ne 12, 3) := by decide +kernel
theorem dX12_readSum_13 : decode cX12_readSum 13 = .ok (.aload_n 0, 1) := by decide +kernel
theorem dX12_readSum_14 : decode cX12_readSum 14 = .ok (.bipush 45, 2) := by decide +kernel
theorem dX12_readSum_16 : decode cX12_readSum 16 = .ok (.invokevirtual 157, 3) := by decide +kernel
theorem dX12_readSum_19 : decode cX12_readSum 19 = .ok (.ifCond .eq 36, 3) := by decide +kernel
theorem dX12_readSum_22 : decode cX12_readSum 22 = .ok (.aload_n 0, 1) := by decide +kernel
theorem dX12_readSum_23 : decode cX12_readSum 23 = .ok (.getfield 83, 3) := by decide +kernel
theorem dX12_readSum_26 : decode cX12_readSum 26 = .ok (.istore_n 1, 1) := by decide +kernel
theorem dX12_readSum_27 : decode cX12_readSum 27 = .ok (.aload_n 0, 1) := by decide +kernel
theorem dX12_readSum_28 : decode cX12_readSum 28 = .ok (.invokevirtual 122, 3) := by decide +kernel
theorem dX12_readSum_31 : decode cX12_readSum 31 = .ok (.aload_n 0, 1) := by decide +kernel
theorem dX12_readSum_32 : decode cX12_readSum 32 = .ok (.invokevirtual 169, 3) := by decide +kernel
theorem dX12_readSum_35 : decode cX12_readSum 35 = .ok (.aload_n 0, 1) := by decide +kernel
theorem dX12_readSum_36 : decode cX12_readSum 36 = .ok (.iload_n 1, 1) := by decide +kernel
theorem dX12_readSum_37 : decode cX12_readSum 37 = .ok (.bipush 43, 2) := by decide +kernel
theorem dX12_readSum_39 : decode cX12_readSum 39 = .ok (.if_icmp .ne 8, 3) := by decide +kernel
theorem dX12_readSum_42 : decode cX12_readSum 42 = .ok (.bipush 10, 2) := by decide +kernel
theorem dX12_readSum_44 : decode cX12_readSum 44 = .ok (.goto 5, 3) := by decide +kernel
theorem dX12_readSum_47 : decode cX12_readSum 47 = .ok (.bipush 11, 2) := by decide +kernel
theorem dX12_readSum_49 : decode cX12_readSum 49 = .ok (.invokevirtual 144, 3) := by decide +kernel
theorem dX12_readSum_52 : decode cX12_readSum 52 = .ok (.goto (-48), 3) := by decide +kernel
theorem dX12_readSum_55 : decode cX12_readSum 55 = .ok (.return_, 1) := by decide +kernel
theorem dX12_readTerm_0 : decode cX12_readTerm 0 = .ok (.aload_n 0, 1) := by decide +kernel
theorem dX12_readTerm_1 : decode cX12_readTerm 1 = .ok (.invokevirtual 172, 3) := by decide +kernel
theorem dX12_readTerm_4 : decode cX12_readTerm 4 = .ok (.aload_n 0, 1) := by decide +kernel
theorem dX12_readTerm_5 : decode cX12_readTerm 5 = .ok (.bipush 42, 2) := by decide +kernel
theorem dX12_readTerm_7 : decode cX12_readTerm 7 = .ok (.invokevirtual 157, 3) := by decide +kernel
theorem dX12_readTerm_10 : decode cX12_readTerm 10 = .ok (.ifCond .eq 20, 3) := by decide +kernel
theorem dX12_readTerm_13 : decode cX12_readTerm 13 = .ok (.aload_n 0, 1) := by decide +kernel
theorem dX12_readTerm_14 : decode cX12_readTerm 14 = .ok (.invokevirtual 122, 3) := by decide +kernel
theorem dX12_readTerm_17 : decode cX12_readTerm 17 = .ok (.aload_n 0, 1) := by decide +kernel
theorem dX12_readTerm_18 : decode cX12_readTerm 18 = .ok (.invokevirtual 172, 3) := by decide +kernel
theorem dX12_readTerm_21 : decode cX12_readTerm 21 = .ok (.aload_n 0, 1) := by decide +kernel
theorem dX12_readTerm_22 : decode cX12_readTerm 22 = .ok (.bipush 12, 2) := by decide +kernel
theorem dX12_readTerm_24 : decode cX12_readTerm 24 = .ok (.invokevirtual 144, 3) := by decide +kernel
theorem dX12_readTerm_27 : decode cX12_readTerm 27 = .ok (.goto (-23), 3) := by decide +kernel
theorem dX12_readTerm_30 : decode cX12_readTerm 30 = .ok (.return_, 1) := by decide +kernel
theorem dX12_wordStep_0 : decode cX12_wordStep 0 = .ok (.aload_n 0, 1) := by decide +kernel
theorem dX12_wordStep_1 : decode cX12_wordStep 1 = .ok (.ldc 175, 2) := by decide +kernel
theorem dX12_wordStep_3 : decode cX12_wordStep 3 = .ok (.invokevirtual 125, 3) := by decide +kernel
theorem dX12_wordStep_6 : decode cX12_wordStep 6 = .ok (.ifCond .eq 20, 3) := by decide +kernel
theorem dX12_wordStep_9 : decode cX12_wordStep 9 = .ok (.bipush 100, 2) := by decide +kernel
theorem dX12_wordStep_11 : decode cX12_wordStep 11 = .ok (.aload_n 0, 1) := by decide +kernel
theorem dX12_wordStep_12 : decode cX12_wordStep 12 = .ok (.iconst 0, 1) := by decide +kernel
theorem dX12_wordStep_13 : decode cX12_wordStep 13 = .ok (.aload_n 0, 1) := by decide +kernel
theorem dX12_wordStep_14 : decode cX12_wordStep 14 = .ok (.getfield 13, 3) := by decide +kernel
theorem dX12_wordStep_17 : decode cX12_wordStep 17 = .ok (.iconst 1, 1) := by decide +kernel
theorem dX12_wordStep_18 : decode cX12_wordStep 18 = .ok (.iaload, 1) := by decide +kernel
theorem dX12_wordStep_19 : decode cX12_wordStep 19 = .ok (.iconst 1, 1) := by decide +kernel
theorem dX12_wordStep_20 : decode cX12_wordStep 20 = .ok (.isub, 1) := by decide +kernel
theorem dX12_wordStep_21 : decode cX12_wordStep 21 = .ok (.invokevirtual 177, 3) := by decide +kernel
theorem dX12_wordStep_24 : decode cX12_wordStep 24 = .ok (.iadd, 1) := by decide +kernel
theorem dX12_wordStep_25 : decode cX12_wordStep 25 = .ok (.ireturn, 1) := by decide +kernel
theorem dX12_wordStep_26 : decode cX12_wordStep 26 = .ok (.aload_n 0, 1) := by decide +kernel
theorem dX12_wordStep_27 : decode cX12_wordStep 27 = .ok (.ldc 181, 2) := by decide +kernel
theorem dX12_wordStep_29 : decode cX12_wordStep 29 = .ok (.invokevirtual 125, 3) := by decide +kernel
theorem dX12_wordStep_32 : decode cX12_wordStep 32 = .ok (.ifCond .eq 15, 3) := by decide +kernel
theorem dX12_wordStep_35 : decode cX12_wordStep 35 = .ok (.sipush 200, 3) := by decide +kernel
theorem dX12_wordStep_38 : decode cX12_wordStep 38 = .ok (.aload_n 0, 1) := by decide +kernel
theorem dX12_wordStep_39 : decode cX12_wordStep 39 = .ok (.iconst 0, 1) := by decide +kernel
theorem dX12_wordStep_40 : decode cX12_wordStep 40 = .ok (.bipush 9, 2) := by decide +kernel
theorem dX12_wordStep_42 : decode cX12_wordStep 42 = .ok (.invokevirtual 177, 3) := by decide +kernel
theorem dX12_wordStep_45 : decode cX12_wordStep 45 = .ok (.iadd, 1) := by decide +kernel
theorem dX12_wordStep_46 : decode cX12_wordStep 46 = .ok (.ireturn, 1) := by decide +kernel
theorem dX12_wordStep_47 : decode cX12_wordStep 47 = .ok (.aload_n 0, 1) := by decide +kernel
theorem dX12_wordStep_48 : decode cX12_wordStep 48 = .ok (.ldc 183, 2) := by decide +kernel
theorem dX12_wordStep_50 : decode cX12_wordStep 50 = .ok (.invokevirtual 125, 3) := by decide +kernel
theorem dX12_wordStep_53 : decode cX12_wordStep 53 = .ok (.ifCond .eq 7, 3) := by decide +kernel
theorem dX12_wordStep_56 : decode cX12_wordStep 56 = .ok (.sipush 300, 3) := by decide +kernel
theorem dX12_wordStep_59 : decode cX12_wordStep 59 = .ok (.ireturn, 1) := by decide +kernel
theorem dX12_wordStep_60 : decode cX12_wordStep 60 = .ok (.aload_n 0, 1) := by decide +kernel
theorem dX12_wordStep_61 : decode cX12_wordStep 61 = .ok (.ldc 185, 2) := by decide +kernel
theorem dX12_wordStep_63 : decode cX12_wordStep 63 = .ok (.invokevirtual 125, 3) := by decide +kernel
theorem dX12_wordStep_66 : decode cX12_wordStep 66 = .ok (.ifCond .eq 7, 3) := by decide +kernel
theorem dX12_wordStep_69 : decode cX12_wordStep 69 = .ok (.sipush 301, 3) := by decide +kernel
theorem dX12_wordStep_72 : decode cX12_wordStep 72 = .ok (.ireturn, 1) := by decide +kernel
theorem dX12_wordStep_73 : decode cX12_wordStep 73 = .ok (.aload_n 0, 1) := by decide +kernel
theorem dX12_wordStep_74 : decode cX12_wordStep 74 = .ok (.ldc 187, 2) := by decide +kernel
theorem dX12_wordStep_76 : decode cX12_wordStep 76 = .ok (.invokevirtual 125, 3) := by decide +kernel
theorem dX12_wordStep_79 : decode cX12_wordStep 79 = .ok (.ifCond .eq 9, 3) := by decide +kernel
theorem dX12_wordStep_82 : decode cX12_wordStep 82 = .ok (.sipush 302, 3) := by decide +kernel
theorem dX12_wordStep_85 : decode cX12_wordStep 85 = .ok (.goto 4, 3) := by decide +kernel
theorem dX12_wordStep_88 : decode cX12_wordStep 88 = .ok (.iconst (-1), 1) := by decide +kernel
theorem dX12_wordStep_89 : decode cX12_wordStep 89 = .ok (.ireturn, 1) := by decide +kernel
theorem dX12_readAtom_0 : decode cX12_readAtom 0 = .ok (.aload_n 0, 1) := by decide +kernel
theorem dX12_readAtom_1 : decode cX12_readAtom 1 = .ok (.getfield 103, 3) := by decide +kernel
theorem dX12_readAtom_4 : decode cX12_readAtom 4 = .ok (.ifCond .eq 4, 3) := by decide +kernel
theorem dX12_readAtom_7 : decode cX12_readAtom 7 = .ok (.return_, 1) := by decide +kernel
theorem dX12_readAtom_8 : decode cX12_readAtom 8 = .ok (.aload_n 0, 1) := by decide +kernel
theorem dX12_readAtom_9 : decode cX12_readAtom 9 = .ok (.invokevirtual 188, 3) := by decide +kernel
theorem dX12_readAtom_12 : decode cX12_readAtom 12 = .ok (.istore_n 1, 1) := by decide +kernel
theorem dX12_readAtom_13 : decode cX12_readAtom 13 = .ok (.iload_n 1, 1) := by decide +kernel
theorem dX12_readAtom_14 : decode cX12_readAtom 14 = .ok (.iconst (-1), 1) := by decide +kernel
theorem dX12_readAtom_15 : decode cX12_readAtom 15 = .ok (.if_icmp .eq 11, 3) := by decide +kernel
theorem dX12_readAtom_18 : decode cX12_readAtom 18 = .ok (.aload_n 0, 1) := by decide +kernel
theorem dX12_readAtom_19 : decode cX12_readAtom 19 = .ok (.iload_n 1, 1) := by decide +kernel
theorem dX12_readAtom_20 : decode cX12_readAtom 20 = .ok (.invokevirtual 144, 3) := by decide +kernel
theorem dX12_readAtom_23 : decode cX12_readAtom 23 = .ok (.goto 57, 3) := by decide +kernel
theorem dX12_readAtom_26 : decode cX12_readAtom 26 = .ok (.aload_n 0, 1) := by decide +kernel
theorem dX12_readAtom_27 : decode cX12_readAtom 27 = .ok (.bipush 40, 2) := by decide +kernel
theorem dX12_readAtom_29 : decode cX12_readAtom 29 = .ok (.invokevirtual 157, 3) := by decide +kernel
theorem dX12_readAtom_32 : decode cX12_readAtom 32 = .ok (.ifCond .eq 30, 3) := by decide +kernel
theorem dX12_readAtom_35 : decode cX12_readAtom 35 = .ok (.aload_n 0, 1) := by decide +kernel
theorem dX12_readAtom_36 : decode cX12_readAtom 36 = .ok (.invokevirtual 154, 3) := by decide +kernel
theorem dX12_readAtom_39 : decode cX12_readAtom 39 = .ok (.aload_n 0, 1) := by decide +kernel
theorem dX12_readAtom_40 : decode cX12_readAtom 40 = .ok (.invokevirtual 166, 3) := by decide +kernel
theorem dX12_readAtom_43 : decode cX12_readAtom 43 = .ok (.aload_n 0, 1) := by decide +kernel
theorem dX12_readAtom_44 : decode cX12_readAtom 44 = .ok (.bipush 41, 2) := by decide +kernel
theorem dX12_readAtom_46 : decode cX12_readAtom 46 = .ok (.invokevirtual 163, 3) := by decide +kernel
theorem dX12_readAtom_49 : decode cX12_readAtom 49 = .ok (.aload_n 0, 1) := by decide +kernel
theorem dX12_readAtom_50 : decode cX12_readAtom 50 = .ok (.dup, 1) := by decide +kernel
theorem dX12_readAtom_51 : decode cX12_readAtom 51 = .ok (.getfield 136, 3) := by decide +kernel
theorem dX12_readAtom_54 : decode cX12_readAtom 54 = .ok (.iconst 1, 1) := by decide +kernel
theorem dX12_readAtom_55 : decode cX12_readAtom 55 = .ok (.isub, 1) := by decide +kernel
theorem dX12_readAtom_56 : decode cX12_readAtom 56 = .ok (.putfield 136, 3) := by decide +kernel
theorem dX12_readAtom_59 : decode cX12_readAtom 59 = .ok (.goto 21, 3) := by decide +kernel
theorem dX12_readAtom_62 : decode cX12_readAtom 62 = .ok (.aload_n 0, 1) := by decide +kernel
theorem dX12_readAtom_63 : decode cX12_readAtom 63 = .ok (.iconst 0, 1) := by decide +kernel
theorem dX12_readAtom_64 : decode cX12_readAtom 64 = .ok (.sipush 999, 3) := by decide +kernel
theorem dX12_readAtom_67 : decode cX12_readAtom 67 = .ok (.invokevirtual 177, 3) := by decide +kernel
theorem dX12_readAtom_70 : decode cX12_readAtom 70 = .ok (.istore_n 2, 1) := by decide +kernel
theorem dX12_readAtom_71 : decode cX12_readAtom 71 = .ok (.aload_n 0, 1) := by decide +kernel
theorem dX12_readAtom_72 : decode cX12_readAtom 72 = .ok (.sipush 1000, 3) := by decide +kernel
theorem dX12_readAtom_75 : decode cX12_readAtom 75 = .ok (.iload_n 2, 1) := by decide +kernel
theorem dX12_readAtom_76 : decode cX12_readAtom 76 = .ok (.iadd, 1) := by decide +kernel
theorem dX12_readAtom_77 : decode cX12_readAtom 77 = .ok (.invokevirtual 144, 3) := by decide +kernel
theorem dX12_readAtom_80 : decode cX12_readAtom 80 = .ok (.return_, 1) := by decide +kernel
theorem dX12_begins_0 : decode cX12_begins 0 = .ok (.aload_n 0, 1) := by decide +kernel
theorem dX12_begins_1 : decode cX12_begins 1 = .ok (.getfield 13, 3) := by decide +kernel
theorem dX12_begins_4 : decode cX12_begins 4 = .ok (.iload_n 1, 1) := by decide +kernel
theorem dX12_begins_5 : decode cX12_begins 5 = .ok (.iaload, 1) := by decide +kernel
theorem dX12_begins_6 : decode cX12_begins 6 = .ok (.iload_n 2, 1) := by decide +kernel
theorem dX12_begins_7 : decode cX12_begins 7 = .ok (.if_icmp .ne 8, 3) := by decide +kernel
theorem dX12_begins_10 : decode cX12_begins 10 = .ok (.aload_n 0, 1) := by decide +kernel
theorem dX12_begins_11 : decode cX12_begins 11 = .ok (.iconst 4, 1) := by decide +kernel
theorem dX12_begins_12 : decode cX12_begins 12 = .ok (.invokevirtual 128, 3) := by decide +kernel
theorem dX12_begins_15 : decode cX12_begins 15 = .ok (.aload_n 0, 1) := by decide +kernel
theorem dX12_begins_16 : decode cX12_begins 16 = .ok (.getfield 103, 3) := by decide +kernel
theorem dX12_begins_19 : decode cX12_begins 19 = .ok (.ifCond .ne 7, 3) := by decide +kernel
theorem dX12_begins_22 : decode cX12_begins 22 = .ok (.aload_n 0, 1) := by decide +kernel
theorem dX12_begins_23 : decode cX12_begins 23 = .ok (.invokevirtual 122, 3) := by decide +kernel
theorem dX12_begins_26 : decode cX12_begins 26 = .ok (.aload_n 0, 1) := by decide +kernel
theorem dX12_begins_27 : decode cX12_begins 27 = .ok (.getfield 103, 3) := by decide +kernel
theorem dX12_begins_30 : decode cX12_begins 30 = .ok (.ifCond .ne 7, 3) := by decide +kernel
theorem dX12_begins_33 : decode cX12_begins 33 = .ok (.iconst 1, 1) := by decide +kernel
theorem dX12_begins_34 : decode cX12_begins 34 = .ok (.goto 4, 3) := by decide +kernel
theorem dX12_begins_37 : decode cX12_begins 37 = .ok (.iconst 0, 1) := by decide +kernel
theorem dX12_begins_38 : decode cX12_begins 38 = .ok (.ireturn, 1) := by decide +kernel
theorem dX12_readChest_0 : decode cX12_readChest 0 = .ok (.aload_n 0, 1) := by decide +kernel
theorem dX12_readChest_1 : decode cX12_readChest 1 = .ok (.iconst 2, 1) := by decide +kernel
theorem dX12_readChest_2 : decode cX12_readChest 2 = .ok (.bipush 14, 2) := by decide +kernel
theorem dX12_readChest_4 : decode cX12_readChest 4 = .ok (.invokevirtual 191, 3) := by decide +kernel
theorem dX12_readChest_7 : decode cX12_readChest 7 = .ok (.ifCond .ne 4, 3) := by decide +kernel
theorem dX12_readChest_10 : decode cX12_readChest 10 = .ok (.return_, 1) := by decide +kernel
theorem dX12_readChest_11 : decode cX12_readChest 11 = .ok (.aload_n 0, 1) := by decide +kernel
theorem dX12_readChest_12 : decode cX12_readChest 12 = .ok (.getfield 13, 3) := by decide +kernel
theorem dX12_readChest_15 : decode cX12_readChest 15 = .ok (.iconst 2, 1) := by decide +kernel
theorem dX12_readChest_16 : decode cX12_readChest 16 = .ok (.iaload, 1) := by decide +kernel
theorem dX12_readChest_17 : decode cX12_readChest 17 = .ok (.istore_n 2, 1) := by decide +kernel
theorem dX12_readChest_18 : decode cX12_readChest 18 = .ok (.iconst 0, 1) := by decide +kernel
theorem dX12_readChest_19 : decode cX12_readChest 19 = .ok (.istore_n 3, 1) := by decide +kernel
theorem dX12_readChest_20 : decode cX12_readChest 20 = .ok (.iload_n 3, 1) := by decide +kernel
theorem dX12_readChest_21 : decode cX12_readChest 21 = .ok (.aload_n 0, 1) := by decide +kernel
theorem dX12_readChest_22 : decode cX12_readChest 22 = .ok (.getfield 13, 3) := by decide +kernel
theorem dX12_readChest_25 : decode cX12_readChest 25 = .ok (.iconst 1, 1) := by decide +kernel
theorem dX12_readChest_26 : decode cX12_readChest 26 = .ok (.iaload, 1) := by decide +kernel
theorem dX12_readChest_27 : decode cX12_readChest 27 = .ok (.if_icmp .ge 30, 3) := by decide +kernel
theorem dX12_readChest_30 : decode cX12_readChest 30 = .ok (.aload_n 0, 1) := by decide +kernel
theorem dX12_readChest_31 : decode cX12_readChest 31 = .ok (.getfield 13, 3) := by decide +kernel
theorem dX12_readChest_34 : decode cX12_readChest 34 = .ok (.bipush 9, 2) := by decide +kernel
theorem dX12_readChest_36 : decode cX12_readChest 36 = .ok (.bipush 6, 2) := by decide +kernel
theorem dX12_readChest_38 : decode cX12_readChest 38 = .ok (.iload_n 2, 1) := by decide +kernel
theorem dX12_readChest_39 : decode cX12_readChest 39 = .ok (.imul, 1) := by decide +kernel
theorem dX12_readChest_40 : decode cX12_readChest 40 = .ok (.iadd, 1) := by decide +kernel
theorem dX12_readChest_41 : decode cX12_readChest 41 = .ok (.iload_n 3, 1) := by decide +kernel
theorem dX12_readChest_42 : decode cX12_readChest 42 = .ok (.iadd, 1) := by decide +kernel
theorem dX12_readChest_43 : decode cX12_readChest 43 = .ok (.aload_n 0, 1) := by decide +kernel
theorem dX12_readChest_44 : decode cX12_readChest 44 = .ok (.iconst 0, 1) := by decide +kernel
theorem dX12_readChest_45 : decode cX12_readChest 45 = .ok (.bipush 9, 2) := by decide +kernel
theorem dX12_readChest_47 : decode cX12_readChest 47 = .ok (.invokevirtual 177, 3) := by decide +kernel
theorem dX12_readChest_50 : decode cX12_readChest 50 = .ok (.iastore, 1) := by decide +kernel
theorem dX12_readChest_51 : decode cX12_readChest 51 = .ok (.iinc 3 1, 3) := by decide +kernel
theorem dX12_readChest_54 : decode cX12_readChest 54 = .ok (.goto (-34), 3) := by decide +kernel
theorem dX12_readChest_57 : decode cX12_readChest 57 = .ok (.aload_n 0, 1) := by decide +kernel
theorem dX12_readChest_58 : decode cX12_readChest 58 = .ok (.getfield 103, 3) := by decide +kernel
theorem dX12_readChest_61 : decode cX12_readChest 61 = .ok (.ifCond .eq 4, 3) := by decide +kernel
theorem dX12_readChest_64 : decode cX12_readChest 64 = .ok (.return_, 1) := by decide +kernel
theorem dX12_readChest_65 : decode cX12_readChest 65 = .ok (.iload_n 1, 1) := by decide +kernel
theorem dX12_readChest_66 : decode cX12_readChest 66 = .ok (.ifCond .ne 16, 3) := by decide +kernel
theorem dX12_readChest_69 : decode cX12_readChest 69 = .ok (.aload_n 0, 1) := by decide +kernel
theorem dX12_readChest_70 : decode cX12_readChest 70 = .ok (.getfield 13, 3) := by decide +kernel
theorem dX12_readChest_73 : decode cX12_readChest 73 = .ok (.bipush 93, 2) := by decide +kernel
theorem dX12_readChest_75 : decode cX12_readChest 75 = .ok (.dup2, 1) := by decide +kernel
theorem dX12_readChest_76 : decode cX12_readChest 76 = .ok (.iaload, 1) := by decide +kernel
theorem dX12_readChest_77 : decode cX12_readChest 77 = .ok (.iconst 1, 1) := by decide +kernel
theorem dX12_readChest_78 : decode cX12_readChest 78 = .ok (.iload_n 2, 1) := by decide +kernel
theorem dX12_readChest_79 : decode cX12_readChest 79 = .ok (.ishl, 1) := by decide +kernel
theorem dX12_readChest_80 : decode cX12_readChest 80 = .ok (.ior, 1) := by decide +kernel
theorem dX12_readChest_81 : decode cX12_readChest 81 = .ok (.iastore, 1) := by decide +kernel
theorem dX12_readChest_82 : decode cX12_readChest 82 = .ok (.aload_n 0, 1) := by decide +kernel
theorem dX12_readChest_83 : decode cX12_readChest 83 = .ok (.getfield 13, 3) := by decide +kernel
theorem dX12_readChest_86 : decode cX12_readChest 86 = .ok (.iconst 2, 1) := by decide +kernel
theorem dX12_readChest_87 : decode cX12_readChest 87 = .ok (.dup2, 1) := by decide +kernel
theorem dX12_readChest_88 : decode cX12_readChest 88 = .ok (.iaload, 1) := by decide +kernel
theorem dX12_readChest_89 : decode cX12_readChest 89 = .ok (.iconst 1, 1) := by decide +kernel
theorem dX12_readChest_90 : decode cX12_readChest 90 = .ok (.iadd, 1) := by decide +kernel
theorem dX12_readChest_91 : decode cX12_readChest 91 = .ok (.iastore, 1) := by decide +kernel
theorem dX12_readChest_92 : decode cX12_readChest 92 = .ok (.return_, 1) := by decide +kernel
theorem dX12_readHallWord_0 : decode cX12_readHallWord 0 = .ok (.aload_n 0, 1) := by decide +kernel
theorem dX12_readHallWord_1 : decode cX12_readHallWord 1 = .ok (.iconst 3, 1) := by decide +kernel
theorem dX12_readHallWord_2 : decode cX12_readHallWord 2 = .ok (.bipush 10, 2) := by decide +kernel
theorem dX12_readHallWord_4 : decode cX12_readHallWord 4 = .ok (.invokevirtual 191, 3) := by decide +kernel
theorem dX12_readHallWord_7 : decode cX12_readHallWord 7 = .ok (.ifCond .ne 4, 3) := by decide +kernel
theorem dX12_readHallWord_10 : decode cX12_readHallWord 10 = .ok (.return_, 1) := by decide +kernel
theorem dX12_readHallWord_11 : decode cX12_readHallWord 11 = .ok (.aload_n 0, 1) := by decide +kernel
theorem dX12_readHallWord_12 : decode cX12_readHallWord 12 = .ok (.getfield 13, 3) := by decide +kernel
theorem dX12_readHallWord_15 : decode cX12_readHallWord 15 = .ok (.iconst 3, 1) := by decide +kernel
theorem dX12_readHallWord_16 : decode cX12_readHallWord 16 = .ok (.iaload, 1) := by decide +kernel
theorem dX12_readHallWord_17 : decode cX12_readHallWord 17 = .ok (.istore_n 1, 1) := by decide +kernel
theorem dX12_readHallWord_18 : decode cX12_readHallWord 18 = .ok (.aload_n 0, 1) := by decide +kernel
theorem dX12_readHallWord_19 : decode cX12_readHallWord 19 = .ok (.ldc 195, 2) := by decide +kernel
theorem dX12_readHallWord_21 : decode cX12_readHallWord 21 = .ok (.invokevirtual 125, 3) := by decide +kernel
theorem dX12_readHallWord_24 : decode cX12_readHallWord 24 = .ok (.ifCond .eq 16, 3) := by decide +kernel
theorem dX12_readHallWord_27 : decode cX12_readHallWord 27 = .ok (.aload_n 0, 1) := by decide +kernel
theorem dX12_readHallWord_28 : decode cX12_readHallWord 28 = .ok (.getfield 13, 3) := by decide +kernel
theorem dX12_readHallWord_31 : decode cX12_readHallWord 31 = .ok (.bipush 119, 2) := by decide +kernel
theorem dX12_readHallWord_33 : decode cX12_readHallWord 33 = .ok (.dup2, 1) := by decide +kernel
theorem dX12_readHallWord_34 : decode cX12_readHallWord 34 = .ok (.iaload, 1) := by decide +kernel
theorem dX12_readHallWord_35 : decode cX12_readHallWord 35 = .ok (.iconst 1, 1) := by decide +kernel
theorem dX12_readHallWord_36 : decode cX12_readHallWord 36 = .ok (.iload_n 1, 1) := by decide +kernel
theorem dX12_readHallWord_37 : decode cX12_readHallWord 37 = .ok (.ishl, 1) := by decide +kernel
theorem dX12_readHallWord_38 : decode cX12_readHallWord 38 = .ok (.ior, 1) := by decide +kernel
theorem dX12_readHallWord_39 : decode cX12_readHallWord 39 = .ok (.iastore, 1) := by decide +kernel
theorem dX12_readHallWord_40 : decode cX12_readHallWord 40 = .ok (.aload_n 0, 1) := by decide +kernel
theorem dX12_readHallWord_41 : decode cX12_readHallWord 41 = .ok (.getfield 13, 3) := by decide +kernel
theorem dX12_readHallWord_44 : decode cX12_readHallWord 44 = .ok (.bipush 109, 2) := by decide +kernel
theorem dX12_readHallWord_46 : decode cX12_readHallWord 46 = .ok (.iload_n 1, 1) := by decide +kernel
theorem dX12_readHallWord_47 : decode cX12_readHallWord 47 = .ok (.iadd, 1) := by decide +kernel
theorem dX12_readHallWord_48 : decode cX12_readHallWord 48 = .ok (.aload_n 0, 1) := by decide +kernel
theorem dX12_readHallWord_49 : decode cX12_readHallWord 49 = .ok (.ldc 197, 2) := by decide +kernel
theorem dX12_readHallWord_51 : decode cX12_readHallWord 51 = .ok (.invokevirtual 125, 3) := by decide +kernel
theorem dX12_readHallWord_54 : decode cX12_readHallWord 54 = .ok (.ifCond .eq 13, 3) := by decide +kernel
theorem dX12_readHallWord_57 : decode cX12_readHallWord 57 = .ok (.aload_n 0, 1) := by decide +kernel
theorem dX12_readHallWord_58 : decode cX12_readHallWord 58 = .ok (.iconst 1, 1) := by decide +kernel
theorem dX12_readHallWord_59 : decode cX12_readHallWord 59 = .ok (.bipush 9, 2) := by decide +kernel
theorem dX12_readHallWord_61 : decode cX12_readHallWord 61 = .ok (.invokevirtual 177, 3) := by decide +kernel
theorem dX12_readHallWord_64 : decode cX12_readHallWord 64 = .ok (.goto 4, 3) := by decide +kernel
theorem dX12_readHallWord_67 : decode cX12_readHallWord 67 = .ok (.iconst 1, 1) := by decide +kernel
theorem dX12_readHallWord_68 : decode cX12_readHallWord 68 = .ok (.iastore, 1) := by decide +kernel
theorem dX12_readHallWord_69 : decode cX12_readHallWord 69 = .ok (.aload_n 0, 1) := by decide +kernel
theorem dX12_readHallWord_70 : decode cX12_readHallWord 70 = .ok (.bipush 58, 2) := by decide +kernel
theorem dX12_readHallWord_72 : decode cX12_readHallWord 72 = .ok (.invokevirtual 163, 3) := by decide +kernel
theorem dX12_readHallWord_75 : decode cX12_readHallWord 75 = .ok (.aload_n 0, 1) := by decide +kernel
theorem dX12_readHallWord_76 : decode cX12_readHallWord 76 = .ok (.invokevirtual 160, 3) := by decide +kernel
theorem dX12_readHallWord_79 : decode cX12_readHallWord 79 = .ok (.aload_n 0, 1) := by decide +kernel
theorem dX12_readHallWord_80 : decode cX12_readHallWord 80 = .ok (.getfield 103, 3) := by decide +kernel
theorem dX12_readHallWord_83 : decode cX12_readHallWord 83 = .ok (.ifCond .eq 4, 3) := by decide +kernel
theorem dX12_readHallWord_86 : decode cX12_readHallWord 86 = .ok (.return_, 1) := by decide +kernel
theorem dX12_readHallWord_87 : decode cX12_readHallWord 87 = .ok (.aload_n 0, 1) := by decide +kernel
theorem dX12_readHallWord_88 : decode cX12_readHallWord 88 = .ok (.getfield 13, 3) := by decide +kernel
theorem dX12_readHallWord_91 : decode cX12_readHallWord 91 = .ok (.iconst 3, 1) := by decide +kernel
theorem dX12_readHallWord_92 : decode cX12_readHallWord 92 = .ok (.dup2, 1) := by decide +kernel
theorem dX12_readHallWord_93 : decode cX12_readHallWord 93 = .ok (.iaload, 1) := by decide +kernel
theorem dX12_readHallWord_94 : decode cX12_readHallWord 94 = .ok (.iconst 1, 1) := by decide +kernel
theorem dX12_readHallWord_95 : decode cX12_readHallWord 95 = .ok (.iadd, 1) := by decide +kernel
theorem dX12_readHallWord_96 : decode cX12_readHallWord 96 = .ok (.iastore, 1) := by decide +kernel
theorem dX12_readHallWord_97 : decode cX12_readHallWord 97 = .ok (.aload_n 0, 1) := by decide +kernel
theorem dX12_readHallWord_98 : decode cX12_readHallWord 98 = .ok (.getfield 13, 3) := by decide +kernel
theorem dX12_readHallWord_101 : decode cX12_readHallWord 101 = .ok (.sipush 144, 3) := by decide +kernel
theorem dX12_readHallWord_104 : decode cX12_readHallWord 104 = .ok (.aload_n 0, 1) := by decide +kernel
theorem dX12_readHallWord_105 : decode cX12_readHallWord 105 = .ok (.getfield 13, 3) := by decide +kernel
theorem dX12_readHallWord_108 : decode cX12_readHallWord 108 = .ok (.iconst 3, 1) := by decide +kernel
theorem dX12_readHallWord_109 : decode cX12_readHallWord 109 = .ok (.iaload, 1) := by decide +kernel
theorem dX12_readHallWord_110 : decode cX12_readHallWord 110 = .ok (.iadd, 1) := by decide +kernel
theorem dX12_readHallWord_111 : decode cX12_readHallWord 111 = .ok (.aload_n 0, 1) := by decide +kernel
theorem dX12_readHallWord_112 : decode cX12_readHallWord 112 = .ok (.getfield 13, 3) := by decide +kernel
theorem dX12_readHallWord_115 : decode cX12_readHallWord 115 = .ok (.bipush 7, 2) := by decide +kernel
theorem dX12_readHallWord_117 : decode cX12_readHallWord 117 = .ok (.iaload, 1) := by decide +kernel
theorem dX12_readHallWord_118 : decode cX12_readHallWord 118 = .ok (.iastore, 1) := by decide +kernel
theorem dX12_readHallWord_119 : decode cX12_readHallWord 119 = .ok (.return_, 1) := by decide +kernel
theorem dX12_readLamp_0 : decode cX12_readLamp 0 = .ok (.aload_n 0, 1) := by decide +kernel
theorem dX12_readLamp_1 : decode cX12_readLamp 1 = .ok (.iconst 4, 1) := by decide +kernel
theorem dX12_readLamp_2 : decode cX12_readLamp 2 = .ok (.bipush 8, 2) := by decide +kernel
theorem dX12_readLamp_4 : decode cX12_readLamp 4 = .ok (.invokevirtual 191, 3) := by decide +kernel
theorem dX12_readLamp_7 : decode cX12_readLamp 7 = .ok (.ifCond .ne 4, 3) := by decide +kernel
theorem dX12_readLamp_10 : decode cX12_readLamp 10 = .ok (.return_, 1) := by decide +kernel
theorem dX12_readLamp_11 : decode cX12_readLamp 11 = .ok (.bipush 120, 2) := by decide +kernel
theorem dX12_readLamp_13 : decode cX12_readLamp 13 = .ok (.iconst 3, 1) := by decide +kernel
theorem dX12_readLamp_14 : decode cX12_readLamp 14 = .ok (.aload_n 0, 1) := by decide +kernel
theorem dX12_readLamp_15 : decode cX12_readLamp 15 = .ok (.getfield 13, 3) := by decide +kernel
theorem dX12_readLamp_18 : decode cX12_readLamp 18 = .ok (.iconst 4, 1) := by decide +kernel
theorem dX12_readLamp_19 : decode cX12_readLamp 19 = .ok (.iaload, 1) := by decide +kernel
theorem dX12_readLamp_20 : decode cX12_readLamp 20 = .ok (.imul, 1) := by decide +kernel
theorem dX12_readLamp_21 : decode cX12_readLamp 21 = .ok (.iadd, 1) := by decide +kernel
theorem dX12_readLamp_22 : decode cX12_readLamp 22 = .ok (.istore_n 1, 1) := by decide +kernel
theorem dX12_readLamp_23 : decode cX12_readLamp 23 = .ok (.aload_n 0, 1) := by decide +kernel
theorem dX12_readLamp_24 : decode cX12_readLamp 24 = .ok (.getfield 13, 3) := by decide +kernel
theorem dX12_readLamp_27 : decode cX12_readLamp 27 = .ok (.iload_n 1, 1) := by decide +kernel
theorem dX12_readLamp_28 : decode cX12_readLamp 28 = .ok (.aload_n 0, 1) := by decide +kernel
theorem dX12_readLamp_29 : decode cX12_readLamp 29 = .ok (.iconst 0, 1) := by decide +kernel
theorem dX12_readLamp_30 : decode cX12_readLamp 30 = .ok (.aload_n 0, 1) := by decide +kernel
theorem dX12_readLamp_31 : decode cX12_readLamp 31 = .ok (.getfield 13, 3) := by decide +kernel
theorem dX12_readLamp_34 : decode cX12_readLamp 34 = .ok (.iconst 1, 1) := by decide +kernel
theorem dX12_readLamp_35 : decode cX12_readLamp 35 = .ok (.iaload, 1) := by decide +kernel
theorem dX12_readLamp_36 : decode cX12_readLamp 36 = .ok (.iconst 1, 1) := by decide +kernel
theorem dX12_readLamp_37 : decode cX12_readLamp 37 = .ok (.isub, 1) := by decide +kernel
theorem dX12_readLamp_38 : decode cX12_readLamp 38 = .ok (.invokevirtual 177, 3) := by decide +kernel
theorem dX12_readLamp_41 : decode cX12_readLamp 41 = .ok (.iastore, 1) := by decide +kernel
theorem dX12_readLamp_42 : decode cX12_readLamp 42 = .ok (.aload_n 0, 1) := by decide +kernel
theorem dX12_readLamp_43 : decode cX12_readLamp 43 = .ok (.getfield 13, 3) := by decide +kernel
theorem dX12_readLamp_46 : decode cX12_readLamp 46 = .ok (.iload_n 1, 1) := by decide +kernel
theorem dX12_readLamp_47 : decode cX12_readLamp 47 = .ok (.iconst 1, 1) := by decide +kernel
theorem dX12_readLamp_48 : decode cX12_readLamp 48 = .ok (.iadd, 1) := by decide +kernel
theorem dX12_readLamp_49 : decode cX12_readLamp 49 = .ok (.aload_n 0, 1) := by decide +kernel
theorem dX12_readLamp_50 : decode cX12_readLamp 50 = .ok (.iconst 0, 1) := by decide +kernel
theorem dX12_readLamp_51 : decode cX12_readLamp 51 = .ok (.bipush 9, 2) := by decide +kernel
theorem dX12_readLamp_53 : decode cX12_readLamp 53 = .ok (.invokevirtual 177, 3) := by decide +kernel
theorem dX12_readLamp_56 : decode cX12_readLamp 56 = .ok (.iastore, 1) := by decide +kernel
theorem dX12_readLamp_57 : decode cX12_readLamp 57 = .ok (.aload_n 0, 1) := by decide +kernel
theorem dX12_readLamp_58 : decode cX12_readLamp 58 = .ok (.getfield 13, 3) := by decide +kernel
theorem dX12_readLamp_61 : decode cX12_readLamp 61 = .ok (.iload_n 1, 1) := by decide +kernel
theorem dX12_readLamp_62 : decode cX12_readLamp 62 = .ok (.iconst 2, 1) := by decide +kernel
theorem dX12_readLamp_63 : decode cX12_readLamp 63 = .ok (.iadd, 1) := by decide +kernel
theorem dX12_readLamp_64 : decode cX12_readLamp 64 = .ok (.aload_n 0, 1) := by decide +kernel
theorem dX12_readLamp_65 : decode cX12_readLamp 65 = .ok (.iconst 0, 1) := by decide +kernel
theorem dX12_readLamp_66 : decode cX12_readLamp 66 = .ok (.bipush 9, 2) := by decide +kernel
theorem dX12_readLamp_68 : decode cX12_readLamp 68 = .ok (.invokevirtual 177, 3) := by decide +kernel
theorem dX12_readLamp_71 : decode cX12_readLamp 71 = .ok (.iastore, 1) := by decide +kernel
theorem dX12_readLamp_72 : decode cX12_readLamp 72 = .ok (.aload_n 0, 1) := by decide +kernel
theorem dX12_readLamp_73 : decode cX12_readLamp 73 = .ok (.getfield 103, 3) := by decide +kernel
theorem dX12_readLamp_76 : decode cX12_readLamp 76 = .ok (.ifCond .ne 13, 3) := by decide +kernel
theorem dX12_readLamp_79 : decode cX12_readLamp 79 = .ok (.aload_n 0, 1) := by decide +kernel
theorem dX12_readLamp_80 : decode cX12_readLamp 80 = .ok (.getfield 13, 3) := by decide +kernel
theorem dX12_readLamp_83 : decode cX12_readLamp 83 = .ok (.iconst 4, 1) := by decide +kernel
theorem dX12_readLamp_84 : decode cX12_readLamp 84 = .ok (.dup2, 1) := by decide +kernel
theorem dX12_readLamp_85 : decode cX12_readLamp 85 = .ok (.iaload, 1) := by decide +kernel
theorem dX12_readLamp_86 : decode cX12_readLamp 86 = .ok (.iconst 1, 1) := by decide +kernel
theorem dX12_readLamp_87 : decode cX12_readLamp 87 = .ok (.iadd, 1) := by decide +kernel
theorem dX12_readLamp_88 : decode cX12_readLamp 88 = .ok (.iastore, 1) := by decide +kernel
theorem dX12_readLamp_89 : decode cX12_readLamp 89 = .ok (.return_, 1) := by decide +kernel
theorem dX12_readStop_0 : decode cX12_readStop 0 = .ok (.aload_n 0, 1) := by decide +kernel
theorem dX12_readStop_1 : decode cX12_readStop 1 = .ok (.bipush 59, 2) := by decide +kernel
theorem dX12_readStop_3 : decode cX12_readStop 3 = .ok (.invokevirtual 163, 3) := by decide +kernel
theorem dX12_readStop_6 : decode cX12_readStop 6 = .ok (.aload_n 0, 1) := by decide +kernel
theorem dX12_readStop_7 : decode cX12_readStop 7 = .ok (.getfield 103, 3) := by decide +kernel
theorem dX12_readStop_10 : decode cX12_readStop 10 = .ok (.ifCond .ne 13, 3) := by decide +kernel
theorem dX12_readStop_13 : decode cX12_readStop 13 = .ok (.aload_n 0, 1) := by decide +kernel
theorem dX12_readStop_14 : decode cX12_readStop 14 = .ok (.getfield 13, 3) := by decide +kernel
theorem dX12_readStop_17 : decode cX12_readStop 17 = .ok (.iconst 0, 1) := by decide +kernel
theorem dX12_readStop_18 : decode cX12_readStop 18 = .ok (.dup2, 1) := by decide +kernel
theorem dX12_readStop_19 : decode cX12_readStop 19 = .ok (.iaload, 1) := by decide +kernel
theorem dX12_readStop_20 : decode cX12_readStop 20 = .ok (.iconst 1, 1) := by decide +kernel
theorem dX12_readStop_21 : decode cX12_readStop 21 = .ok (.iadd, 1) := by decide +kernel
theorem dX12_readStop_22 : decode cX12_readStop 22 = .ok (.iastore, 1) := by decide +kernel
theorem dX12_readStop_23 : decode cX12_readStop 23 = .ok (.return_, 1) := by decide +kernel
theorem dX12_readLine_0 : decode cX12_readLine 0 = .ok (.aload_n 0, 1) := by decide +kernel
theorem dX12_readLine_1 : decode cX12_readLine 1 = .ok (.ldc 199, 2) := by decide +kernel
theorem dX12_readLine_3 : decode cX12_readLine 3 = .ok (.invokevirtual 118, 3) := by decide +kernel
theorem dX12_readLine_6 : decode cX12_readLine 6 = .ok (.ifCond .eq 11, 3) := by decide +kernel
theorem dX12_readLine_9 : decode cX12_readLine 9 = .ok (.aload_n 0, 1) := by decide +kernel
theorem dX12_readLine_10 : decode cX12_readLine 10 = .ok (.iconst 0, 1) := by decide +kernel
theorem dX12_readLine_11 : decode cX12_readLine 11 = .ok (.invokevirtual 201, 3) := by decide +kernel
theorem dX12_readLine_14 : decode cX12_readLine 14 = .ok (.goto 108, 3) := by decide +kernel
theorem dX12_readLine_17 : decode cX12_readLine 17 = .ok (.aload_n 0, 1) := by decide +kernel
theorem dX12_readLine_18 : decode cX12_readLine 18 = .ok (.ldc 205, 2) := by decide +kernel
theorem dX12_readLine_20 : decode cX12_readLine 20 = .ok (.invokevirtual 118, 3) := by decide +kernel
theorem dX12_readLine_23 : decode cX12_readLine 23 = .ok (.ifCond .eq 11, 3) := by decide +kernel
theorem dX12_readLine_26 : decode cX12_readLine 26 = .ok (.aload_n 0, 1) := by decide +kernel
theorem dX12_readLine_27 : decode cX12_readLine 27 = .ok (.iconst 1, 1) := by decide +kernel
theorem dX12_readLine_28 : decode cX12_readLine 28 = .ok (.invokevirtual 201, 3) := by decide +kernel
theorem dX12_readLine_31 : decode cX12_readLine 31 = .ok (.goto 91, 3) := by decide +kernel
theorem dX12_readLine_34 : decode cX12_readLine 34 = .ok (.aload_n 0, 1) := by decide +kernel
theorem dX12_readLine_35 : decode cX12_readLine 35 = .ok (.ldc 207, 2) := by decide +kernel
theorem dX12_readLine_37 : decode cX12_readLine 37 = .ok (.invokevirtual 118, 3) := by decide +kernel
theorem dX12_readLine_40 : decode cX12_readLine 40 = .ok (.ifCond .eq 10, 3) := by decide +kernel
theorem dX12_readLine_43 : decode cX12_readLine 43 = .ok (.aload_n 0, 1) := by decide +kernel
theorem dX12_readLine_44 : decode cX12_readLine 44 = .ok (.invokevirtual 209, 3) := by decide +kernel
theorem dX12_readLine_47 : decode cX12_readLine 47 = .ok (.goto 75, 3) := by decide +kernel
theorem dX12_readLine_50 : decode cX12_readLine 50 = .ok (.aload_n 0, 1) := by decide +kernel
theorem dX12_readLine_51 : decode cX12_readLine 51 = .ok (.ldc 212, 2) := by decide +kernel
theorem dX12_readLine_53 : decode cX12_readLine 53 = .ok (.invokevirtual 118, 3) := by decide +kernel
theorem dX12_readLine_56 : decode cX12_readLine 56 = .ok (.ifCond .eq 10, 3) := by decide +kernel
theorem dX12_readLine_59 : decode cX12_readLine 59 = .ok (.aload_n 0, 1) := by decide +kernel
theorem dX12_readLine_60 : decode cX12_readLine 60 = .ok (.invokevirtual 214, 3) := by decide +kernel
theorem dX12_readLine_63 : decode cX12_readLine 63 = .ok (.goto 59, 3) := by decide +kernel
theorem dX12_readLine_66 : decode cX12_readLine 66 = .ok (.aload_n 0, 1) := by decide +kernel
theorem dX12_readLine_67 : decode cX12_readLine 67 = .ok (.ldc 217, 2) := by decide +kernel
theorem dX12_readLine_69 : decode cX12_readLine 69 = .ok (.invokevirtual 125, 3) := by decide +kernel
theorem dX12_readLine_72 : decode cX12_readLine 72 = .ok (.ifCond .eq 19, 3) := by decide +kernel
theorem dX12_readLine_75 : decode cX12_readLine 75 = .ok (.aload_n 0, 1) := by decide +kernel
theorem dX12_readLine_76 : decode cX12_readLine 76 = .ok (.getfield 13, 3) := by decide +kernel
theorem dX12_readLine_79 : decode cX12_readLine 79 = .ok (.iconst 5, 1) := by decide +kernel
theorem dX12_readLine_80 : decode cX12_readLine 80 = .ok (.aload_n 0, 1) := by decide +kernel
theorem dX12_readLine_81 : decode cX12_readLine 81 = .ok (.iconst 0, 1) := by decide +kernel
theorem dX12_readLine_82 : decode cX12_readLine 82 = .ok (.bipush 9, 2) := by decide +kernel
theorem dX12_readLine_84 : decode cX12_readLine 84 = .ok (.invokevirtual 177, 3) := by decide +kernel
theorem dX12_readLine_87 : decode cX12_readLine 87 = .ok (.iastore, 1) := by decide +kernel
theorem dX12_readLine_88 : decode cX12_readLine 88 = .ok (.goto 34, 3) := by decide +kernel
theorem dX12_readLine_91 : decode cX12_readLine 91 = .ok (.aload_n 0, 1) := by decide +kernel
theorem dX12_readLine_92 : decode cX12_readLine 92 = .ok (.ldc 219, 2) := by decide +kernel
theorem dX12_readLine_94 : decode cX12_readLine 94 = .ok (.invokevirtual 125, 3) := by decide +kernel
theorem dX12_readLine_97 : decode cX12_readLine 97 = .ok (.ifCond .eq 20, 3) := by decide +kernel
theorem dX12_readLine_100 : decode cX12_readLine 100 = .ok (.aload_n 0, 1) := by decide +kernel
theorem dX12_readLine_101 : decode cX12_readLine 101 = .ok (.getfield 13, 3) := by decide +kernel
theorem dX12_readLine_104 : decode cX12_readLine 104 = .ok (.bipush 6, 2) := by decide +kernel
theorem dX12_readLine_106 : decode cX12_readLine 106 = .ok (.aload_n 0, 1) := by decide +kernel
theorem dX12_readLine_107 : decode cX12_readLine 107 = .ok (.iconst 1, 1) := by decide +kernel
theorem dX12_readLine_108 : decode cX12_readLine 108 = .ok (.bipush 6, 2) := by decide +kernel
theorem dX12_readLine_110 : decode cX12_readLine 110 = .ok (.invokevirtual 177, 3) := by decide +kernel
theorem dX12_readLine_113 : decode cX12_readLine 113 = .ok (.iastore, 1) := by decide +kernel
theorem dX12_readLine_114 : decode cX12_readLine 114 = .ok (.goto 8, 3) := by decide +kernel
theorem dX12_readLine_117 : decode cX12_readLine 117 = .ok (.aload_n 0, 1) := by decide +kernel
theorem dX12_readLine_118 : decode cX12_readLine 118 = .ok (.iconst 2, 1) := by decide +kernel
theorem dX12_readLine_119 : decode cX12_readLine 119 = .ok (.invokevirtual 128, 3) := by decide +kernel
theorem dX12_readLine_122 : decode cX12_readLine 122 = .ok (.aload_n 0, 1) := by decide +kernel
theorem dX12_readLine_123 : decode cX12_readLine 123 = .ok (.invokevirtual 221, 3) := by decide +kernel
theorem dX12_readLine_126 : decode cX12_readLine 126 = .ok (.return_, 1) := by decide +kernel
theorem dX12_hall_0 : decode cX12_hall 0 = .ok (.aload_n 0, 1) := by decide +kernel
theorem dX12_hall_1 : decode cX12_hall 1 = .ok (.iconst 0, 1) := by decide +kernel
theorem dX12_hall_2 : decode cX12_hall 2 = .ok (.putfield 68, 3) := by decide +kernel
theorem dX12_hall_5 : decode cX12_hall 5 = .ok (.iload_n 1, 1) := by decide +kernel
theorem dX12_hall_6 : decode cX12_hall 6 = .ok (.i2l, 1) := by decide +kernel
theorem dX12_hall_7 : decode cX12_hall 7 = .ok (.lconst 0, 1) := by decide +kernel
theorem dX12_hall_8 : decode cX12_hall 8 = .ok (.aload_n 0, 1) := by decide +kernel
theorem dX12_hall_9 : decode cX12_hall 9 = .ok (.getfield 71, 3) := by decide +kernel
theorem dX12_hall_12 : decode cX12_hall 12 = .ok (.i2l, 1) := by decide +kernel
theorem dX12_hall_13 : decode cX12_hall 13 = .ok (.invokestatic 132, 3) := by decide +kernel
theorem dX12_hall_16 : decode cX12_hall 16 = .ok (.ifCond .ne 9, 3) := by decide +kernel
theorem dX12_hall_19 : decode cX12_hall 19 = .ok (.aload_n 0, 1) := by decide +kernel
theorem dX12_hall_20 : decode cX12_hall 20 = .ok (.iconst 1, 1) := by decide +kernel
theorem dX12_hall_21 : decode cX12_hall 21 = .ok (.invokevirtual 224, 3) := by decide +kernel
theorem dX12_hall_24 : decode cX12_hall 24 = .ok (.ireturn, 1) := by decide +kernel
theorem dX12_hall_25 : decode cX12_hall 25 = .ok (.aload_n 0, 1) := by decide +kernel
theorem dX12_hall_26 : decode cX12_hall 26 = .ok (.iload_n 1, 1) := by decide +kernel
theorem dX12_hall_27 : decode cX12_hall 27 = .ok (.putfield 74, 3) := by decide +kernel
theorem dX12_hall_30 : decode cX12_hall 30 = .ok (.aload_n 0, 1) := by decide +kernel
theorem dX12_hall_31 : decode cX12_hall 31 = .ok (.iconst 0, 1) := by decide +kernel
theorem dX12_hall_32 : decode cX12_hall 32 = .ok (.putfield 71, 3) := by decide +kernel
theorem dX12_hall_35 : decode cX12_hall 35 = .ok (.aload_n 0, 1) := by decide +kernel
theorem dX12_hall_36 : decode cX12_hall 36 = .ok (.iconst 0, 1) := by decide +kernel
theorem dX12_hall_37 : decode cX12_hall 37 = .ok (.putfield 77, 3) := by decide +kernel
theorem dX12_hall_40 : decode cX12_hall 40 = .ok (.aload_n 0, 1) := by decide +kernel
theorem dX12_hall_41 : decode cX12_hall 41 = .ok (.iconst 0, 1) := by decide +kernel
theorem dX12_hall_42 : decode cX12_hall 42 = .ok (.putfield 103, 3) := by decide +kernel
theorem dX12_hall_45 : decode cX12_hall 45 = .ok (.aload_n 0, 1) := by decide +kernel
theorem dX12_hall_46 : decode cX12_hall 46 = .ok (.iconst 0, 1) := by decide +kernel
theorem dX12_hall_47 : decode cX12_hall 47 = .ok (.putfield 136, 3) := by decide +kernel
theorem dX12_hall_50 : decode cX12_hall 50 = .ok (.aload_n 0, 1) := by decide +kernel
theorem dX12_hall_51 : decode cX12_hall 51 = .ok (.getfield 13, 3) := by decide +kernel
theorem dX12_hall_54 : decode cX12_hall 54 = .ok (.invokestatic 64, 3) := by decide +kernel
theorem dX12_hall_57 : decode cX12_hall 57 = .ok (.aload_n 0, 1) := by decide +kernel
theorem dX12_hall_58 : decode cX12_hall 58 = .ok (.invokevirtual 122, 3) := by decide +kernel
theorem dX12_hall_61 : decode cX12_hall 61 = .ok (.aload_n 0, 1) := by decide +kernel
theorem dX12_hall_62 : decode cX12_hall 62 = .ok (.ldc 227, 2) := by decide +kernel
theorem dX12_hall_64 : decode cX12_hall 64 = .ok (.invokevirtual 229, 3) := by decide +kernel
theorem dX12_hall_67 : decode cX12_hall 67 = .ok (.aload_n 0, 1) := by decide +kernel
theorem dX12_hall_68 : decode cX12_hall 68 = .ok (.getfield 13, 3) := by decide +kernel
theorem dX12_hall_71 : decode cX12_hall 71 = .ok (.iconst 1, 1) := by decide +kernel
theorem dX12_hall_72 : decode cX12_hall 72 = .ok (.aload_n 0, 1) := by decide +kernel
theorem dX12_hall_73 : decode cX12_hall 73 = .ok (.iconst 1, 1) := by decide +kernel
theorem dX12_hall_74 : decode cX12_hall 74 = .ok (.bipush 6, 2) := by decide +kernel
theorem dX12_hall_76 : decode cX12_hall 76 = .ok (.invokevirtual 177, 3) := by decide +kernel
theorem dX12_hall_79 : decode cX12_hall 79 = .ok (.iastore, 1) := by decide +kernel
theorem dX12_hall_80 : decode cX12_hall 80 = .ok (.aload_n 0, 1) := by decide +kernel
theorem dX12_hall_81 : decode cX12_hall 81 = .ok (.invokevirtual 221, 3) := by decide +kernel
theorem dX12_hall_84 : decode cX12_hall 84 = .ok (.aload_n 0, 1) := by decide +kernel
theorem dX12_hall_85 : decode cX12_hall 85 = .ok (.getfield 103, 3) := by decide +kernel
theorem dX12_hall_88 : decode cX12_hall 88 = .ok (.ifCond .ne 17, 3) := by decide +kernel
theorem dX12_hall_91 : decode cX12_hall 91 = .ok (.aload_n 0, 1) := by decide +kernel
theorem dX12_hall_92 : decode cX12_hall 92 = .ok (.getfield 83, 3) := by decide +kernel
theorem dX12_hall_95 : decode cX12_hall 95 = .ok (.ifCond .eq 10, 3) := by decide +kernel
theorem dX12_hall_98 : decode cX12_hall 98 = .ok (.aload_n 0, 1) := by decide +kernel
theorem dX12_hall_99 : decode cX12_hall 99 = .ok (.invokevirtual 233, 3) := by decide +kernel
theorem dX12_hall_102 : decode cX12_hall 102 = .ok (.goto (-18), 3) := by decide +kernel
theorem dX12_hall_105 : decode cX12_hall 105 = .ok (.aload_n 0, 1) := by decide +kernel
theorem dX12_hall_106 : decode cX12_hall 106 = .ok (.aload_n 0, 1) := by decide +kernel
theorem dX12_hall_107 : decode cX12_hall 107 = .ok (.getfield 103, 3) := by decide +kernel
theorem dX12_hall_110 : decode cX12_hall 110 = .ok (.putfield 236, 3) := by decide +kernel
theorem dX12_hall_113 : decode cX12_hall 113 = .ok (.aload_n 0, 1) := by decide +kernel
theorem dX12_hall_114 : decode cX12_hall 114 = .ok (.aload_n 0, 1) := by decide +kernel
theorem dX12_hall_115 : decode cX12_hall 115 = .ok (.getfield 103, 3) := by decide +kernel
theorem dX12_hall_118 : decode cX12_hall 118 = .ok (.ifCond .ne 7, 3) := by decide +kernel
theorem dX12_hall_121 : decode cX12_hall 121 = .ok (.iconst (-1), 1) := by decide +kernel
theorem dX12_hall_122 : decode cX12_hall 122 = .ok (.goto 7, 3) := by decide +kernel
theorem dX12_hall_125 : decode cX12_hall 125 = .ok (.aload_n 0, 1) := by decide +kernel
theorem dX12_hall_126 : decode cX12_hall 126 = .ok (.getfield 106, 3) := by decide +kernel
theorem dX12_hall_129 : decode cX12_hall 129 = .ok (.putfield 26, 3) := by decide +kernel
theorem dX12_hall_132 : decode cX12_hall 132 = .ok (.aload_n 0, 1) := by decide +kernel
theorem dX12_hall_133 : decode cX12_hall 133 = .ok (.getfield 103, 3) := by decide +kernel
theorem dX12_hall_136 : decode cX12_hall 136 = .ok (.ifCond .eq 11, 3) := by decide +kernel
theorem dX12_hall_139 : decode cX12_hall 139 = .ok (.bipush (-10), 2) := by decide +kernel
theorem dX12_hall_141 : decode cX12_hall 141 = .ok (.aload_n 0, 1) := by decide +kernel
theorem dX12_hall_142 : decode cX12_hall 142 = .ok (.getfield 103, 3) := by decide +kernel
theorem dX12_hall_145 : decode cX12_hall 145 = .ok (.isub, 1) := by decide +kernel
theorem dX12_hall_146 : decode cX12_hall 146 = .ok (.ireturn, 1) := by decide +kernel
theorem dX12_hall_147 : decode cX12_hall 147 = .ok (.iconst 0, 1) := by decide +kernel
theorem dX12_hall_148 : decode cX12_hall 148 = .ok (.istore_n 2, 1) := by decide +kernel
theorem dX12_hall_149 : decode cX12_hall 149 = .ok (.iload_n 2, 1) := by decide +kernel
theorem dX12_hall_150 : decode cX12_hall 150 = .ok (.sipush 2120, 3) := by decide +kernel
theorem dX12_hall_153 : decode cX12_hall 153 = .ok (.if_icmp .ge 21, 3) := by decide +kernel
theorem dX12_hall_156 : decode cX12_hall 156 = .ok (.aload_n 0, 1) := by decide +kernel
theorem dX12_hall_157 : decode cX12_hall 157 = .ok (.getfield 9, 3) := by decide +kernel
theorem dX12_hall_160 : decode cX12_hall 160 = .ok (.iload_n 2, 1) := by decide +kernel
theorem dX12_hall_161 : decode cX12_hall 161 = .ok (.aload_n 0, 1) := by decide +kernel
theorem dX12_hall_162 : decode cX12_hall 162 = .ok (.getfield 13, 3) := by decide +kernel
theorem dX12_hall_165 : decode cX12_hall 165 = .ok (.iload_n 2, 1) := by decide +kernel
theorem dX12_hall_166 : decode cX12_hall 166 = .ok (.iaload, 1) := by decide +kernel
theorem dX12_hall_167 : decode cX12_hall 167 = .ok (.iastore, 1) := by decide +kernel
theorem dX12_hall_168 : decode cX12_hall 168 = .ok (.iinc 2 1, 3) := by decide +kernel
theorem dX12_hall_171 : decode cX12_hall 171 = .ok (.goto (-22), 3) := by decide +kernel
theorem dX12_hall_174 : decode cX12_hall 174 = .ok (.aload_n 0, 1) := by decide +kernel
theorem dX12_hall_175 : decode cX12_hall 175 = .ok (.getfield 9, 3) := by decide +kernel
theorem dX12_hall_178 : decode cX12_hall 178 = .ok (.bipush 96, 2) := by decide +kernel
theorem dX12_hall_180 : decode cX12_hall 180 = .ok (.aload_n 0, 1) := by decide +kernel
theorem dX12_hall_181 : decode cX12_hall 181 = .ok (.invokevirtual 239, 3) := by decide +kernel
theorem dX12_hall_184 : decode cX12_hall 184 = .ok (.iastore, 1) := by decide +kernel
theorem dX12_hall_185 : decode cX12_hall 185 = .ok (.aload_n 0, 1) := by decide +kernel
theorem dX12_hall_186 : decode cX12_hall 186 = .ok (.getfield 9, 3) := by decide +kernel
theorem dX12_hall_189 : decode cX12_hall 189 = .ok (.iconst 0, 1) := by decide +kernel
theorem dX12_hall_190 : decode cX12_hall 190 = .ok (.iaload, 1) := by decide +kernel
theorem dX12_hall_191 : decode cX12_hall 191 = .ok (.ireturn, 1) := by decide +kernel
theorem dX12_fault_0 : decode cX12_fault 0 = .ok (.aload_n 0, 1) := by decide +kernel
theorem dX12_fault_1 : decode cX12_fault 1 = .ok (.iconst 0, 1) := by decide +kernel
theorem dX12_fault_2 : decode cX12_fault 2 = .ok (.putfield 68, 3) := by decide +kernel
theorem dX12_fault_5 : decode cX12_fault 5 = .ok (.iload_n 1, 1) := by decide +kernel
theorem dX12_fault_6 : decode cX12_fault 6 = .ok (.ifCond .ne 10, 3) := by decide +kernel
theorem dX12_fault_9 : decode cX12_fault 9 = .ok (.aload_n 0, 1) := by decide +kernel
theorem dX12_fault_10 : decode cX12_fault 10 = .ok (.getfield 236, 3) := by decide +kernel
theorem dX12_fault_13 : decode cX12_fault 13 = .ok (.goto 16, 3) := by decide +kernel
theorem dX12_fault_16 : decode cX12_fault 16 = .ok (.iload_n 1, 1) := by decide +kernel
theorem dX12_fault_17 : decode cX12_fault 17 = .ok (.iconst 1, 1) := by decide +kernel
theorem dX12_fault_18 : decode cX12_fault 18 = .ok (.if_icmp .ne 10, 3) := by decide +kernel
theorem dX12_fault_21 : decode cX12_fault 21 = .ok (.aload_n 0, 1) := by decide +kernel
theorem dX12_fault_22 : decode cX12_fault 22 = .ok (.getfield 26, 3) := by decide +kernel
theorem dX12_fault_25 : decode cX12_fault 25 = .ok (.goto 4, 3) := by decide +kernel
theorem dX12_fault_28 : decode cX12_fault 28 = .ok (.iconst (-1), 1) := by decide +kernel
theorem dX12_fault_29 : decode cX12_fault 29 = .ok (.ireturn, 1) := by decide +kernel
theorem dX12_chests_0 : decode cX12_chests 0 = .ok (.aload_n 0, 1) := by decide +kernel
theorem dX12_chests_1 : decode cX12_chests 1 = .ok (.getfield 9, 3) := by decide +kernel
theorem dX12_chests_4 : decode cX12_chests 4 = .ok (.iconst 2, 1) := by decide +kernel
theorem dX12_chests_5 : decode cX12_chests 5 = .ok (.iaload, 1) := by decide +kernel
theorem dX12_chests_6 : decode cX12_chests 6 = .ok (.ireturn, 1) := by decide +kernel
theorem dX12_words_0 : decode cX12_words 0 = .ok (.aload_n 0, 1) := by decide +kernel
theorem dX12_words_1 : decode cX12_words 1 = .ok (.getfield 9, 3) := by decide +kernel
theorem dX12_words_4 : decode cX12_words 4 = .ok (.iconst 3, 1) := by decide +kernel
theorem dX12_words_5 : decode cX12_words 5 = .ok (.iaload, 1) := by decide +kernel
theorem dX12_words_6 : decode cX12_words 6 = .ok (.ireturn, 1) := by decide +kernel
theorem dX12_allWords_0 : decode cX12_allWords 0 = .ok (.iconst 1, 1) := by decide +kernel
theorem dX12_allWords_1 : decode cX12_allWords 1 = .ok (.aload_n 0, 1) := by decide +kernel
theorem dX12_allWords_2 : decode cX12_allWords 2 = .ok (.invokevirtual 242, 3) := by decide +kernel
theorem dX12_allWords_5 : decode cX12_allWords 5 = .ok (.ishl, 1) := by decide +kernel
theorem dX12_allWords_6 : decode cX12_allWords 6 = .ok (.iconst 1, 1) := by decide +kernel
theorem dX12_allWords_7 : decode cX12_allWords 7 = .ok (.isub, 1) := by decide +kernel
