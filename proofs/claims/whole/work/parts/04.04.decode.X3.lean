theorem dX3_init_0 : decode cX3_init 0 = .ok (.aload_n 0, 1) := by decide +kernel
theorem dX3_init_1 : decode cX3_init 1 = .ok (.invokespecial 3, 3) := by decide +kernel
theorem dX3_init_4 : decode cX3_init 4 = .ok (.aload_n 0, 1) := by decide +kernel
theorem dX3_init_5 : decode cX3_init 5 = .ok (.new 9, 3) := by decide +kernel
theorem dX3_init_8 : decode cX3_init 8 = .ok (.dup, 1) := by decide +kernel
theorem dX3_init_9 : decode cX3_init 9 = .ok (.invokespecial 11, 3) := by decide +kernel
theorem dX3_init_12 : decode cX3_init 12 = .ok (.putfield 12, 3) := by decide +kernel
theorem dX3_init_15 : decode cX3_init 15 = .ok (.aload_n 0, 1) := by decide +kernel
theorem dX3_init_16 : decode cX3_init 16 = .ok (.new 18, 3) := by decide +kernel
theorem dX3_init_19 : decode cX3_init 19 = .ok (.dup, 1) := by decide +kernel
theorem dX3_init_20 : decode cX3_init 20 = .ok (.invokespecial 20, 3) := by decide +kernel
theorem dX3_init_23 : decode cX3_init 23 = .ok (.putfield 21, 3) := by decide +kernel
theorem dX3_init_26 : decode cX3_init 26 = .ok (.aload_n 0, 1) := by decide +kernel
theorem dX3_init_27 : decode cX3_init 27 = .ok (.iconst (-1), 1) := by decide +kernel
theorem dX3_init_28 : decode cX3_init 28 = .ok (.putfield 25, 3) := by decide +kernel
theorem dX3_init_31 : decode cX3_init 31 = .ok (.return_, 1) := by decide +kernel
theorem dX3_read_0 : decode cX3_read 0 = .ok (.aload_n 0, 1) := by decide +kernel
theorem dX3_read_1 : decode cX3_read 1 = .ok (.iconst 0, 1) := by decide +kernel
theorem dX3_read_2 : decode cX3_read 2 = .ok (.putfield 29, 3) := by decide +kernel
theorem dX3_read_5 : decode cX3_read 5 = .ok (.aload_n 0, 1) := by decide +kernel
theorem dX3_read_6 : decode cX3_read 6 = .ok (.iconst (-1), 1) := by decide +kernel
theorem dX3_read_7 : decode cX3_read 7 = .ok (.putfield 25, 3) := by decide +kernel
theorem dX3_read_10 : decode cX3_read 10 = .ok (.aload_n 0, 1) := by decide +kernel
theorem dX3_read_11 : decode cX3_read 11 = .ok (.iconst 0, 1) := by decide +kernel
theorem dX3_read_12 : decode cX3_read 12 = .ok (.putfield 32, 3) := by decide +kernel
theorem dX3_read_15 : decode cX3_read 15 = .ok (.aload_n 0, 1) := by decide +kernel
theorem dX3_read_16 : decode cX3_read 16 = .ok (.new 18, 3) := by decide +kernel
theorem dX3_read_19 : decode cX3_read 19 = .ok (.dup, 1) := by decide +kernel
theorem dX3_read_20 : decode cX3_read 20 = .ok (.invokespecial 20, 3) := by decide +kernel
theorem dX3_read_23 : decode cX3_read 23 = .ok (.putfield 21, 3) := by decide +kernel
theorem dX3_read_26 : decode cX3_read 26 = .ok (.aload_n 0, 1) := by decide +kernel
theorem dX3_read_27 : decode cX3_read 27 = .ok (.getfield 12, 3) := by decide +kernel
theorem dX3_read_30 : decode cX3_read 30 = .ok (.aload_n 1, 1) := by decide +kernel
theorem dX3_read_31 : decode cX3_read 31 = .ok (.iload_n 2, 1) := by decide +kernel
theorem dX3_read_32 : decode cX3_read 32 = .ok (.invokevirtual 35, 3) := by decide +kernel
theorem dX3_read_35 : decode cX3_read 35 = .ok (.aload_n 0, 1) := by decide +kernel
theorem dX3_read_36 : decode cX3_read 36 = .ok (.getfield 21, 3) := by decide +kernel
theorem dX3_read_39 : decode cX3_read 39 = .ok (.aload_n 0, 1) := by decide +kernel
theorem dX3_read_40 : decode cX3_read 40 = .ok (.getfield 12, 3) := by decide +kernel
theorem dX3_read_43 : decode cX3_read 43 = .ok (.getfield 39, 3) := by decide +kernel
theorem dX3_read_46 : decode cX3_read 46 = .ok (.newarray .int, 2) := by decide +kernel
theorem dX3_read_48 : decode cX3_read 48 = .ok (.putfield 42, 3) := by decide +kernel
theorem dX3_read_51 : decode cX3_read 51 = .ok (.aload_n 0, 1) := by decide +kernel
theorem dX3_read_52 : decode cX3_read 52 = .ok (.getstatic 46, 3) := by decide +kernel
theorem dX3_read_55 : decode cX3_read 55 = .ok (.invokevirtual 52, 3) := by decide +kernel
theorem dX3_read_58 : decode cX3_read 58 = .ok (.aload_n 0, 1) := by decide +kernel
theorem dX3_read_59 : decode cX3_read 59 = .ok (.getfield 21, 3) := by decide +kernel
theorem dX3_read_62 : decode cX3_read 62 = .ok (.aload_n 0, 1) := by decide +kernel
theorem dX3_read_63 : decode cX3_read 63 = .ok (.iconst 1, 1) := by decide +kernel
theorem dX3_read_64 : decode cX3_read 64 = .ok (.bipush 6, 2) := by decide +kernel
theorem dX3_read_66 : decode cX3_read 66 = .ok (.invokevirtual 56, 3) := by decide +kernel
theorem dX3_read_69 : decode cX3_read 69 = .ok (.putfield 60, 3) := by decide +kernel
theorem dX3_read_72 : decode cX3_read 72 = .ok (.aload_n 0, 1) := by decide +kernel
theorem dX3_read_73 : decode cX3_read 73 = .ok (.getstatic 63, 3) := by decide +kernel
theorem dX3_read_76 : decode cX3_read 76 = .ok (.invokevirtual 52, 3) := by decide +kernel
theorem dX3_read_79 : decode cX3_read 79 = .ok (.aload_n 0, 1) := by decide +kernel
theorem dX3_read_80 : decode cX3_read 80 = .ok (.getfield 21, 3) := by decide +kernel
theorem dX3_read_83 : decode cX3_read 83 = .ok (.iconst 1, 1) := by decide +kernel
theorem dX3_read_84 : decode cX3_read 84 = .ok (.putfield 66, 3) := by decide +kernel
theorem dX3_read_87 : decode cX3_read 87 = .ok (.iconst 0, 1) := by decide +kernel
theorem dX3_read_88 : decode cX3_read 88 = .ok (.istore_n 3, 1) := by decide +kernel
theorem dX3_read_89 : decode cX3_read 89 = .ok (.iload_n 3, 1) := by decide +kernel
theorem dX3_read_90 : decode cX3_read 90 = .ok (.sipush 900, 3) := by decide +kernel
theorem dX3_read_93 : decode cX3_read 93 = .ok (.if_icmp .ge 62, 3) := by decide +kernel
theorem dX3_read_96 : decode cX3_read 96 = .ok (.aload_n 0, 1) := by decide +kernel
theorem dX3_read_97 : decode cX3_read 97 = .ok (.getfield 29, 3) := by decide +kernel
theorem dX3_read_100 : decode cX3_read 100 = .ok (.ifCond .ne 55, 3) := by decide +kernel
theorem dX3_read_103 : decode cX3_read 103 = .ok (.aload_n 0, 1) := by decide +kernel
theorem dX3_read_104 : decode cX3_read 104 = .ok (.getstatic 69, 3) := by decide +kernel
theorem dX3_read_107 : decode cX3_read 107 = .ok (.invokevirtual 72, 3) := by decide +kernel
theorem dX3_read_110 : decode cX3_read 110 = .ok (.ifCond .ne 45, 3) := by decide +kernel
theorem dX3_read_113 : decode cX3_read 113 = .ok (.aload_n 0, 1) := by decide +kernel
theorem dX3_read_114 : decode cX3_read 114 = .ok (.invokevirtual 76, 3) := by decide +kernel
theorem dX3_read_117 : decode cX3_read 117 = .ok (.ifCond .eq 12, 3) := by decide +kernel
theorem dX3_read_120 : decode cX3_read 120 = .ok (.aload_n 0, 1) := by decide +kernel
theorem dX3_read_121 : decode cX3_read 121 = .ok (.iconst 0, 1) := by decide +kernel
theorem dX3_read_122 : decode cX3_read 122 = .ok (.invokevirtual 80, 3) := by decide +kernel
theorem dX3_read_125 : decode cX3_read 125 = .ok (.aload_n 0, 1) := by decide +kernel
theorem dX3_read_126 : decode cX3_read 126 = .ok (.invokevirtual 84, 3) := by decide +kernel
theorem dX3_read_129 : decode cX3_read 129 = .ok (.aload_n 0, 1) := by decide +kernel
theorem dX3_read_130 : decode cX3_read 130 = .ok (.getstatic 63, 3) := by decide +kernel
theorem dX3_read_133 : decode cX3_read 133 = .ok (.invokevirtual 52, 3) := by decide +kernel
theorem dX3_read_136 : decode cX3_read 136 = .ok (.aload_n 0, 1) := by decide +kernel
theorem dX3_read_137 : decode cX3_read 137 = .ok (.getfield 21, 3) := by decide +kernel
theorem dX3_read_140 : decode cX3_read 140 = .ok (.dup, 1) := by decide +kernel
theorem dX3_read_141 : decode cX3_read 141 = .ok (.getfield 66, 3) := by decide +kernel
theorem dX3_read_144 : decode cX3_read 144 = .ok (.iconst 1, 1) := by decide +kernel
theorem dX3_read_145 : decode cX3_read 145 = .ok (.iadd, 1) := by decide +kernel
theorem dX3_read_146 : decode cX3_read 146 = .ok (.putfield 66, 3) := by decide +kernel
theorem dX3_read_149 : decode cX3_read 149 = .ok (.iinc 3 1, 3) := by decide +kernel
theorem dX3_read_152 : decode cX3_read 152 = .ok (.goto (-63), 3) := by decide +kernel
theorem dX3_read_155 : decode cX3_read 155 = .ok (.aload_n 0, 1) := by decide +kernel
theorem dX3_read_156 : decode cX3_read 156 = .ok (.getfield 29, 3) := by decide +kernel
theorem dX3_read_159 : decode cX3_read 159 = .ok (.ifCond .ne 10, 3) := by decide +kernel
theorem dX3_read_162 : decode cX3_read 162 = .ok (.aload_n 0, 1) := by decide +kernel
theorem dX3_read_163 : decode cX3_read 163 = .ok (.getfield 21, 3) := by decide +kernel
theorem dX3_read_166 : decode cX3_read 166 = .ok (.goto 4, 3) := by decide +kernel
theorem dX3_read_169 : decode cX3_read 169 = .ok (.aconst_null, 1) := by decide +kernel
theorem dX3_read_170 : decode cX3_read 170 = .ok (.areturn, 1) := by decide +kernel
theorem dX3_fail_0 : decode cX3_fail 0 = .ok (.aload_n 0, 1) := by decide +kernel
theorem dX3_fail_1 : decode cX3_fail 1 = .ok (.getfield 29, 3) := by decide +kernel
theorem dX3_fail_4 : decode cX3_fail 4 = .ok (.ifCond .ne 36, 3) := by decide +kernel
theorem dX3_fail_7 : decode cX3_fail 7 = .ok (.aload_n 0, 1) := by decide +kernel
theorem dX3_fail_8 : decode cX3_fail 8 = .ok (.aload_n 0, 1) := by decide +kernel
theorem dX3_fail_9 : decode cX3_fail 9 = .ok (.getfield 12, 3) := by decide +kernel
theorem dX3_fail_12 : decode cX3_fail 12 = .ok (.getfield 87, 3) := by decide +kernel
theorem dX3_fail_15 : decode cX3_fail 15 = .ok (.getstatic 90, 3) := by decide +kernel
theorem dX3_fail_18 : decode cX3_fail 18 = .ok (.if_acmp .ne 7, 3) := by decide +kernel
theorem dX3_fail_21 : decode cX3_fail 21 = .ok (.iconst 1, 1) := by decide +kernel
theorem dX3_fail_22 : decode cX3_fail 22 = .ok (.goto 4, 3) := by decide +kernel
theorem dX3_fail_25 : decode cX3_fail 25 = .ok (.iload_n 1, 1) := by decide +kernel
theorem dX3_fail_26 : decode cX3_fail 26 = .ok (.putfield 29, 3) := by decide +kernel
theorem dX3_fail_29 : decode cX3_fail 29 = .ok (.aload_n 0, 1) := by decide +kernel
theorem dX3_fail_30 : decode cX3_fail 30 = .ok (.aload_n 0, 1) := by decide +kernel
theorem dX3_fail_31 : decode cX3_fail 31 = .ok (.getfield 12, 3) := by decide +kernel
theorem dX3_fail_34 : decode cX3_fail 34 = .ok (.getfield 93, 3) := by decide +kernel
theorem dX3_fail_37 : decode cX3_fail 37 = .ok (.putfield 25, 3) := by decide +kernel
theorem dX3_fail_40 : decode cX3_fail 40 = .ok (.return_, 1) := by decide +kernel
theorem dX3_stands_0 : decode cX3_stands 0 = .ok (.aload_n 0, 1) := by decide +kernel
theorem dX3_stands_1 : decode cX3_stands 1 = .ok (.getfield 29, 3) := by decide +kernel
theorem dX3_stands_4 : decode cX3_stands 4 = .ok (.ifCond .ne 18, 3) := by decide +kernel
theorem dX3_stands_7 : decode cX3_stands 7 = .ok (.aload_n 0, 1) := by decide +kernel
theorem dX3_stands_8 : decode cX3_stands 8 = .ok (.getfield 12, 3) := by decide +kernel
theorem dX3_stands_11 : decode cX3_stands 11 = .ok (.getfield 87, 3) := by decide +kernel
theorem dX3_stands_14 : decode cX3_stands 14 = .ok (.aload_n 1, 1) := by decide +kernel
theorem dX3_stands_15 : decode cX3_stands 15 = .ok (.if_acmp .ne 7, 3) := by decide +kernel
theorem dX3_stands_18 : decode cX3_stands 18 = .ok (.iconst 1, 1) := by decide +kernel
theorem dX3_stands_19 : decode cX3_stands 19 = .ok (.goto 4, 3) := by decide +kernel
theorem dX3_stands_22 : decode cX3_stands 22 = .ok (.iconst 0, 1) := by decide +kernel
theorem dX3_stands_23 : decode cX3_stands 23 = .ok (.ireturn, 1) := by decide +kernel
theorem dX3_takeIf_0 : decode cX3_takeIf 0 = .ok (.aload_n 0, 1) := by decide +kernel
theorem dX3_takeIf_1 : decode cX3_takeIf 1 = .ok (.aload_n 1, 1) := by decide +kernel
theorem dX3_takeIf_2 : decode cX3_takeIf 2 = .ok (.invokevirtual 72, 3) := by decide +kernel
theorem dX3_takeIf_5 : decode cX3_takeIf 5 = .ok (.istore_n 2, 1) := by decide +kernel
theorem dX3_takeIf_6 : decode cX3_takeIf 6 = .ok (.iload_n 2, 1) := by decide +kernel
theorem dX3_takeIf_7 : decode cX3_takeIf 7 = .ok (.ifCond .eq 10, 3) := by decide +kernel
theorem dX3_takeIf_10 : decode cX3_takeIf 10 = .ok (.aload_n 0, 1) := by decide +kernel
theorem dX3_takeIf_11 : decode cX3_takeIf 11 = .ok (.getfield 12, 3) := by decide +kernel
theorem dX3_takeIf_14 : decode cX3_takeIf 14 = .ok (.invokevirtual 96, 3) := by decide +kernel
theorem dX3_takeIf_17 : decode cX3_takeIf 17 = .ok (.iload_n 2, 1) := by decide +kernel
theorem dX3_takeIf_18 : decode cX3_takeIf 18 = .ok (.ireturn, 1) := by decide +kernel
theorem dX3_take_0 : decode cX3_take 0 = .ok (.aload_n 0, 1) := by decide +kernel
theorem dX3_take_1 : decode cX3_take 1 = .ok (.aload_n 1, 1) := by decide +kernel
theorem dX3_take_2 : decode cX3_take 2 = .ok (.invokevirtual 72, 3) := by decide +kernel
theorem dX3_take_5 : decode cX3_take 5 = .ok (.ifCond .eq 13, 3) := by decide +kernel
theorem dX3_take_8 : decode cX3_take 8 = .ok (.aload_n 0, 1) := by decide +kernel
theorem dX3_take_9 : decode cX3_take 9 = .ok (.getfield 12, 3) := by decide +kernel
theorem dX3_take_12 : decode cX3_take 12 = .ok (.invokevirtual 96, 3) := by decide +kernel
theorem dX3_take_15 : decode cX3_take 15 = .ok (.goto 8, 3) := by decide +kernel
theorem dX3_take_18 : decode cX3_take 18 = .ok (.aload_n 0, 1) := by decide +kernel
theorem dX3_take_19 : decode cX3_take 19 = .ok (.iconst 2, 1) := by decide +kernel
theorem dX3_take_20 : decode cX3_take 20 = .ok (.invokevirtual 99, 3) := by decide +kernel
theorem dX3_take_23 : decode cX3_take 23 = .ok (.return_, 1) := by decide +kernel
theorem dX3_takeNumber_0 : decode cX3_takeNumber 0 = .ok (.aload_n 0, 1) := by decide +kernel
theorem dX3_takeNumber_1 : decode cX3_takeNumber 1 = .ok (.getstatic 102, 3) := by decide +kernel
theorem dX3_takeNumber_4 : decode cX3_takeNumber 4 = .ok (.invokevirtual 72, 3) := by decide +kernel
theorem dX3_takeNumber_7 : decode cX3_takeNumber 7 = .ok (.ifCond .ne 10, 3) := by decide +kernel
theorem dX3_takeNumber_10 : decode cX3_takeNumber 10 = .ok (.aload_n 0, 1) := by decide +kernel
theorem dX3_takeNumber_11 : decode cX3_takeNumber 11 = .ok (.iconst 2, 1) := by decide +kernel
theorem dX3_takeNumber_12 : decode cX3_takeNumber 12 = .ok (.invokevirtual 99, 3) := by decide +kernel
theorem dX3_takeNumber_15 : decode cX3_takeNumber 15 = .ok (.iload_n 1, 1) := by decide +kernel
theorem dX3_takeNumber_16 : decode cX3_takeNumber 16 = .ok (.ireturn, 1) := by decide +kernel
theorem dX3_takeNumber_17 : decode cX3_takeNumber 17 = .ok (.aload_n 0, 1) := by decide +kernel
theorem dX3_takeNumber_18 : decode cX3_takeNumber 18 = .ok (.getfield 12, 3) := by decide +kernel
theorem dX3_takeNumber_21 : decode cX3_takeNumber 21 = .ok (.getfield 105, 3) := by decide +kernel
theorem dX3_takeNumber_24 : decode cX3_takeNumber 24 = .ok (.istore_n 3, 1) := by decide +kernel
theorem dX3_takeNumber_25 : decode cX3_takeNumber 25 = .ok (.iload_n 3, 1) := by decide +kernel
theorem dX3_takeNumber_26 : decode cX3_takeNumber 26 = .ok (.iload_n 1, 1) := by decide +kernel
theorem dX3_takeNumber_27 : decode cX3_takeNumber 27 = .ok (.if_icmp .lt 8, 3) := by decide +kernel
theorem dX3_takeNumber_30 : decode cX3_takeNumber 30 = .ok (.iload_n 3, 1) := by decide +kernel
theorem dX3_takeNumber_31 : decode cX3_takeNumber 31 = .ok (.iload_n 2, 1) := by decide +kernel
theorem dX3_takeNumber_32 : decode cX3_takeNumber 32 = .ok (.if_icmp .le 10, 3) := by decide +kernel
theorem dX3_takeNumber_35 : decode cX3_takeNumber 35 = .ok (.aload_n 0, 1) := by decide +kernel
theorem dX3_takeNumber_36 : decode cX3_takeNumber 36 = .ok (.iconst 3, 1) := by decide +kernel
theorem dX3_takeNumber_37 : decode cX3_takeNumber 37 = .ok (.invokevirtual 99, 3) := by decide +kernel
theorem dX3_takeNumber_40 : decode cX3_takeNumber 40 = .ok (.iload_n 1, 1) := by decide +kernel
theorem dX3_takeNumber_41 : decode cX3_takeNumber 41 = .ok (.ireturn, 1) := by decide +kernel
theorem dX3_takeNumber_42 : decode cX3_takeNumber 42 = .ok (.aload_n 0, 1) := by decide +kernel
theorem dX3_takeNumber_43 : decode cX3_takeNumber 43 = .ok (.getfield 12, 3) := by decide +kernel
theorem dX3_takeNumber_46 : decode cX3_takeNumber 46 = .ok (.invokevirtual 96, 3) := by decide +kernel
theorem dX3_takeNumber_49 : decode cX3_takeNumber 49 = .ok (.iload_n 3, 1) := by decide +kernel
theorem dX3_takeNumber_50 : decode cX3_takeNumber 50 = .ok (.ireturn, 1) := by decide +kernel
theorem dX3_readLine_0 : decode cX3_readLine 0 = .ok (.aload_n 0, 1) := by decide +kernel
theorem dX3_readLine_1 : decode cX3_readLine 1 = .ok (.getstatic 108, 3) := by decide +kernel
theorem dX3_readLine_4 : decode cX3_readLine 4 = .ok (.invokevirtual 72, 3) := by decide +kernel
theorem dX3_readLine_7 : decode cX3_readLine 7 = .ok (.ifCond .eq 8, 3) := by decide +kernel
theorem dX3_readLine_10 : decode cX3_readLine 10 = .ok (.aload_n 0, 1) := by decide +kernel
theorem dX3_readLine_11 : decode cX3_readLine 11 = .ok (.invokevirtual 111, 3) := by decide +kernel
theorem dX3_readLine_14 : decode cX3_readLine 14 = .ok (.ireturn, 1) := by decide +kernel
theorem dX3_readLine_15 : decode cX3_readLine 15 = .ok (.aload_n 0, 1) := by decide +kernel
theorem dX3_readLine_16 : decode cX3_readLine 16 = .ok (.getstatic 114, 3) := by decide +kernel
theorem dX3_readLine_19 : decode cX3_readLine 19 = .ok (.invokevirtual 72, 3) := by decide +kernel
theorem dX3_readLine_22 : decode cX3_readLine 22 = .ok (.ifCond .ne 13, 3) := by decide +kernel
theorem dX3_readLine_25 : decode cX3_readLine 25 = .ok (.aload_n 0, 1) := by decide +kernel
theorem dX3_readLine_26 : decode cX3_readLine 26 = .ok (.getstatic 117, 3) := by decide +kernel
theorem dX3_readLine_29 : decode cX3_readLine 29 = .ok (.invokevirtual 72, 3) := by decide +kernel
theorem dX3_readLine_32 : decode cX3_readLine 32 = .ok (.ifCond .eq 10, 3) := by decide +kernel
theorem dX3_readLine_35 : decode cX3_readLine 35 = .ok (.aload_n 0, 1) := by decide +kernel
theorem dX3_readLine_36 : decode cX3_readLine 36 = .ok (.invokevirtual 120, 3) := by decide +kernel
theorem dX3_readLine_39 : decode cX3_readLine 39 = .ok (.goto 79, 3) := by decide +kernel
theorem dX3_readLine_42 : decode cX3_readLine 42 = .ok (.aload_n 0, 1) := by decide +kernel
theorem dX3_readLine_43 : decode cX3_readLine 43 = .ok (.getstatic 123, 3) := by decide +kernel
theorem dX3_readLine_46 : decode cX3_readLine 46 = .ok (.invokevirtual 72, 3) := by decide +kernel
theorem dX3_readLine_49 : decode cX3_readLine 49 = .ok (.ifCond .eq 10, 3) := by decide +kernel
theorem dX3_readLine_52 : decode cX3_readLine 52 = .ok (.aload_n 0, 1) := by decide +kernel
theorem dX3_readLine_53 : decode cX3_readLine 53 = .ok (.invokevirtual 126, 3) := by decide +kernel
theorem dX3_readLine_56 : decode cX3_readLine 56 = .ok (.goto 62, 3) := by decide +kernel
theorem dX3_readLine_59 : decode cX3_readLine 59 = .ok (.aload_n 0, 1) := by decide +kernel
theorem dX3_readLine_60 : decode cX3_readLine 60 = .ok (.getstatic 129, 3) := by decide +kernel
theorem dX3_readLine_63 : decode cX3_readLine 63 = .ok (.invokevirtual 132, 3) := by decide +kernel
theorem dX3_readLine_66 : decode cX3_readLine 66 = .ok (.ifCond .eq 20, 3) := by decide +kernel
theorem dX3_readLine_69 : decode cX3_readLine 69 = .ok (.aload_n 0, 1) := by decide +kernel
theorem dX3_readLine_70 : decode cX3_readLine 70 = .ok (.getfield 21, 3) := by decide +kernel
theorem dX3_readLine_73 : decode cX3_readLine 73 = .ok (.aload_n 0, 1) := by decide +kernel
theorem dX3_readLine_74 : decode cX3_readLine 74 = .ok (.iconst 0, 1) := by decide +kernel
theorem dX3_readLine_75 : decode cX3_readLine 75 = .ok (.bipush 9, 2) := by decide +kernel
theorem dX3_readLine_77 : decode cX3_readLine 77 = .ok (.invokevirtual 56, 3) := by decide +kernel
theorem dX3_readLine_80 : decode cX3_readLine 80 = .ok (.putfield 135, 3) := by decide +kernel
theorem dX3_readLine_83 : decode cX3_readLine 83 = .ok (.goto 35, 3) := by decide +kernel
theorem dX3_readLine_86 : decode cX3_readLine 86 = .ok (.aload_n 0, 1) := by decide +kernel
theorem dX3_readLine_87 : decode cX3_readLine 87 = .ok (.getstatic 138, 3) := by decide +kernel
theorem dX3_readLine_90 : decode cX3_readLine 90 = .ok (.invokevirtual 132, 3) := by decide +kernel
theorem dX3_readLine_93 : decode cX3_readLine 93 = .ok (.ifCond .eq 20, 3) := by decide +kernel
theorem dX3_readLine_96 : decode cX3_readLine 96 = .ok (.aload_n 0, 1) := by decide +kernel
theorem dX3_readLine_97 : decode cX3_readLine 97 = .ok (.getfield 21, 3) := by decide +kernel
theorem dX3_readLine_100 : decode cX3_readLine 100 = .ok (.aload_n 0, 1) := by decide +kernel
theorem dX3_readLine_101 : decode cX3_readLine 101 = .ok (.iconst 1, 1) := by decide +kernel
theorem dX3_readLine_102 : decode cX3_readLine 102 = .ok (.bipush 6, 2) := by decide +kernel
theorem dX3_readLine_104 : decode cX3_readLine 104 = .ok (.invokevirtual 56, 3) := by decide +kernel
theorem dX3_readLine_107 : decode cX3_readLine 107 = .ok (.putfield 141, 3) := by decide +kernel
theorem dX3_readLine_110 : decode cX3_readLine 110 = .ok (.goto 8, 3) := by decide +kernel
theorem dX3_readLine_113 : decode cX3_readLine 113 = .ok (.aload_n 0, 1) := by decide +kernel
theorem dX3_readLine_114 : decode cX3_readLine 114 = .ok (.iconst 2, 1) := by decide +kernel
theorem dX3_readLine_115 : decode cX3_readLine 115 = .ok (.invokevirtual 99, 3) := by decide +kernel
theorem dX3_readLine_118 : decode cX3_readLine 118 = .ok (.iconst 0, 1) := by decide +kernel
theorem dX3_readLine_119 : decode cX3_readLine 119 = .ok (.ireturn, 1) := by decide +kernel
theorem dX3_readChest_0 : decode cX3_readChest 0 = .ok (.aload_n 0, 1) := by decide +kernel
theorem dX3_readChest_1 : decode cX3_readChest 1 = .ok (.getfield 21, 3) := by decide +kernel
theorem dX3_readChest_4 : decode cX3_readChest 4 = .ok (.getfield 144, 3) := by decide +kernel
theorem dX3_readChest_7 : decode cX3_readChest 7 = .ok (.istore_n 1, 1) := by decide +kernel
theorem dX3_readChest_8 : decode cX3_readChest 8 = .ok (.iload_n 1, 1) := by decide +kernel
theorem dX3_readChest_9 : decode cX3_readChest 9 = .ok (.bipush 14, 2) := by decide +kernel
theorem dX3_readChest_11 : decode cX3_readChest 11 = .ok (.if_icmp .lt 9, 3) := by decide +kernel
theorem dX3_readChest_14 : decode cX3_readChest 14 = .ok (.aload_n 0, 1) := by decide +kernel
theorem dX3_readChest_15 : decode cX3_readChest 15 = .ok (.iconst 4, 1) := by decide +kernel
theorem dX3_readChest_16 : decode cX3_readChest 16 = .ok (.invokevirtual 99, 3) := by decide +kernel
theorem dX3_readChest_19 : decode cX3_readChest 19 = .ok (.return_, 1) := by decide +kernel
theorem dX3_readChest_20 : decode cX3_readChest 20 = .ok (.aload_n 0, 1) := by decide +kernel
theorem dX3_readChest_21 : decode cX3_readChest 21 = .ok (.getstatic 114, 3) := by decide +kernel
theorem dX3_readChest_24 : decode cX3_readChest 24 = .ok (.invokevirtual 72, 3) := by decide +kernel
theorem dX3_readChest_27 : decode cX3_readChest 27 = .ok (.ifCond .eq 18, 3) := by decide +kernel
theorem dX3_readChest_30 : decode cX3_readChest 30 = .ok (.aload_n 0, 1) := by decide +kernel
theorem dX3_readChest_31 : decode cX3_readChest 31 = .ok (.getfield 21, 3) := by decide +kernel
theorem dX3_readChest_34 : decode cX3_readChest 34 = .ok (.dup, 1) := by decide +kernel
theorem dX3_readChest_35 : decode cX3_readChest 35 = .ok (.getfield 147, 3) := by decide +kernel
theorem dX3_readChest_38 : decode cX3_readChest 38 = .ok (.iconst 1, 1) := by decide +kernel
theorem dX3_readChest_39 : decode cX3_readChest 39 = .ok (.iload_n 1, 1) := by decide +kernel
theorem dX3_readChest_40 : decode cX3_readChest 40 = .ok (.ishl, 1) := by decide +kernel
theorem dX3_readChest_41 : decode cX3_readChest 41 = .ok (.ior, 1) := by decide +kernel
theorem dX3_readChest_42 : decode cX3_readChest 42 = .ok (.putfield 147, 3) := by decide +kernel
theorem dX3_readChest_45 : decode cX3_readChest 45 = .ok (.aload_n 0, 1) := by decide +kernel
theorem dX3_readChest_46 : decode cX3_readChest 46 = .ok (.getfield 12, 3) := by decide +kernel
theorem dX3_readChest_49 : decode cX3_readChest 49 = .ok (.invokevirtual 96, 3) := by decide +kernel
theorem dX3_readChest_52 : decode cX3_readChest 52 = .ok (.iconst 0, 1) := by decide +kernel
theorem dX3_readChest_53 : decode cX3_readChest 53 = .ok (.istore_n 2, 1) := by decide +kernel
theorem dX3_readChest_54 : decode cX3_readChest 54 = .ok (.iconst 0, 1) := by decide +kernel
theorem dX3_readChest_55 : decode cX3_readChest 55 = .ok (.istore_n 3, 1) := by decide +kernel
theorem dX3_readChest_56 : decode cX3_readChest 56 = .ok (.iload_n 3, 1) := by decide +kernel
theorem dX3_readChest_57 : decode cX3_readChest 57 = .ok (.aload_n 0, 1) := by decide +kernel
theorem dX3_readChest_58 : decode cX3_readChest 58 = .ok (.getfield 21, 3) := by decide +kernel
theorem dX3_readChest_61 : decode cX3_readChest 61 = .ok (.getfield 60, 3) := by decide +kernel
theorem dX3_readChest_64 : decode cX3_readChest 64 = .ok (.if_icmp .ge 23, 3) := by decide +kernel
theorem dX3_readChest_67 : decode cX3_readChest 67 = .ok (.iload_n 2, 1) := by decide +kernel
theorem dX3_readChest_68 : decode cX3_readChest 68 = .ok (.aload_n 0, 1) := by decide +kernel
theorem dX3_readChest_69 : decode cX3_readChest 69 = .ok (.iconst 0, 1) := by decide +kernel
theorem dX3_readChest_70 : decode cX3_readChest 70 = .ok (.bipush 9, 2) := by decide +kernel
theorem dX3_readChest_72 : decode cX3_readChest 72 = .ok (.invokevirtual 56, 3) := by decide +kernel
theorem dX3_readChest_75 : decode cX3_readChest 75 = .ok (.iconst 4, 1) := by decide +kernel
theorem dX3_readChest_76 : decode cX3_readChest 76 = .ok (.iload_n 3, 1) := by decide +kernel
theorem dX3_readChest_77 : decode cX3_readChest 77 = .ok (.imul, 1) := by decide +kernel
theorem dX3_readChest_78 : decode cX3_readChest 78 = .ok (.ishl, 1) := by decide +kernel
theorem dX3_readChest_79 : decode cX3_readChest 79 = .ok (.ior, 1) := by decide +kernel
theorem dX3_readChest_80 : decode cX3_readChest 80 = .ok (.istore_n 2, 1) := by decide +kernel
theorem dX3_readChest_81 : decode cX3_readChest 81 = .ok (.iinc 3 1, 3) := by decide +kernel
theorem dX3_readChest_84 : decode cX3_readChest 84 = .ok (.goto (-28), 3) := by decide +kernel
theorem dX3_readChest_87 : decode cX3_readChest 87 = .ok (.aload_n 0, 1) := by decide +kernel
theorem dX3_readChest_88 : decode cX3_readChest 88 = .ok (.getfield 21, 3) := by decide +kernel
theorem dX3_readChest_91 : decode cX3_readChest 91 = .ok (.getfield 150, 3) := by decide +kernel
theorem dX3_readChest_94 : decode cX3_readChest 94 = .ok (.iload_n 1, 1) := by decide +kernel
theorem dX3_readChest_95 : decode cX3_readChest 95 = .ok (.iload_n 2, 1) := by decide +kernel
theorem dX3_readChest_96 : decode cX3_readChest 96 = .ok (.iastore, 1) := by decide +kernel
theorem dX3_readChest_97 : decode cX3_readChest 97 = .ok (.aload_n 0, 1) := by decide +kernel
theorem dX3_readChest_98 : decode cX3_readChest 98 = .ok (.getfield 21, 3) := by decide +kernel
theorem dX3_readChest_101 : decode cX3_readChest 101 = .ok (.dup, 1) := by decide +kernel
theorem dX3_readChest_102 : decode cX3_readChest 102 = .ok (.getfield 144, 3) := by decide +kernel
theorem dX3_readChest_105 : decode cX3_readChest 105 = .ok (.iconst 1, 1) := by decide +kernel
theorem dX3_readChest_106 : decode cX3_readChest 106 = .ok (.iadd, 1) := by decide +kernel
theorem dX3_readChest_107 : decode cX3_readChest 107 = .ok (.putfield 144, 3) := by decide +kernel
theorem dX3_readChest_110 : decode cX3_readChest 110 = .ok (.return_, 1) := by decide +kernel
theorem dX3_readLamp_0 : decode cX3_readLamp 0 = .ok (.aload_n 0, 1) := by decide +kernel
theorem dX3_readLamp_1 : decode cX3_readLamp 1 = .ok (.getfield 21, 3) := by decide +kernel
theorem dX3_readLamp_4 : decode cX3_readLamp 4 = .ok (.getfield 153, 3) := by decide +kernel
theorem dX3_readLamp_7 : decode cX3_readLamp 7 = .ok (.bipush 8, 2) := by decide +kernel
theorem dX3_readLamp_9 : decode cX3_readLamp 9 = .ok (.if_icmp .lt 9, 3) := by decide +kernel
theorem dX3_readLamp_12 : decode cX3_readLamp 12 = .ok (.aload_n 0, 1) := by decide +kernel
theorem dX3_readLamp_13 : decode cX3_readLamp 13 = .ok (.iconst 4, 1) := by decide +kernel
theorem dX3_readLamp_14 : decode cX3_readLamp 14 = .ok (.invokevirtual 99, 3) := by decide +kernel
theorem dX3_readLamp_17 : decode cX3_readLamp 17 = .ok (.return_, 1) := by decide +kernel
theorem dX3_readLamp_18 : decode cX3_readLamp 18 = .ok (.aload_n 0, 1) := by decide +kernel
theorem dX3_readLamp_19 : decode cX3_readLamp 19 = .ok (.getfield 12, 3) := by decide +kernel
theorem dX3_readLamp_22 : decode cX3_readLamp 22 = .ok (.invokevirtual 96, 3) := by decide +kernel
theorem dX3_readLamp_25 : decode cX3_readLamp 25 = .ok (.aload_n 0, 1) := by decide +kernel
theorem dX3_readLamp_26 : decode cX3_readLamp 26 = .ok (.iconst 0, 1) := by decide +kernel
theorem dX3_readLamp_27 : decode cX3_readLamp 27 = .ok (.aload_n 0, 1) := by decide +kernel
theorem dX3_readLamp_28 : decode cX3_readLamp 28 = .ok (.getfield 21, 3) := by decide +kernel
theorem dX3_readLamp_31 : decode cX3_readLamp 31 = .ok (.getfield 60, 3) := by decide +kernel
theorem dX3_readLamp_34 : decode cX3_readLamp 34 = .ok (.iconst 1, 1) := by decide +kernel
theorem dX3_readLamp_35 : decode cX3_readLamp 35 = .ok (.isub, 1) := by decide +kernel
theorem dX3_readLamp_36 : decode cX3_readLamp 36 = .ok (.invokevirtual 56, 3) := by decide +kernel
theorem dX3_readLamp_39 : decode cX3_readLamp 39 = .ok (.istore_n 1, 1) := by decide +kernel
theorem dX3_readLamp_40 : decode cX3_readLamp 40 = .ok (.aload_n 0, 1) := by decide +kernel
theorem dX3_readLamp_41 : decode cX3_readLamp 41 = .ok (.iconst 0, 1) := by decide +kernel
theorem dX3_readLamp_42 : decode cX3_readLamp 42 = .ok (.bipush 9, 2) := by decide +kernel
theorem dX3_readLamp_44 : decode cX3_readLamp 44 = .ok (.invokevirtual 56, 3) := by decide +kernel
theorem dX3_readLamp_47 : decode cX3_readLamp 47 = .ok (.istore_n 2, 1) := by decide +kernel
theorem dX3_readLamp_48 : decode cX3_readLamp 48 = .ok (.aload_n 0, 1) := by decide +kernel
theorem dX3_readLamp_49 : decode cX3_readLamp 49 = .ok (.iconst 0, 1) := by decide +kernel
theorem dX3_readLamp_50 : decode cX3_readLamp 50 = .ok (.bipush 9, 2) := by decide +kernel
theorem dX3_readLamp_52 : decode cX3_readLamp 52 = .ok (.invokevirtual 56, 3) := by decide +kernel
theorem dX3_readLamp_55 : decode cX3_readLamp 55 = .ok (.istore_n 3, 1) := by decide +kernel
theorem dX3_readLamp_56 : decode cX3_readLamp 56 = .ok (.aload_n 0, 1) := by decide +kernel
theorem dX3_readLamp_57 : decode cX3_readLamp 57 = .ok (.getfield 21, 3) := by decide +kernel
theorem dX3_readLamp_60 : decode cX3_readLamp 60 = .ok (.iload_n 1, 1) := by decide +kernel
theorem dX3_readLamp_61 : decode cX3_readLamp 61 = .ok (.iload_n 2, 1) := by decide +kernel
theorem dX3_readLamp_62 : decode cX3_readLamp 62 = .ok (.iload_n 3, 1) := by decide +kernel
theorem dX3_readLamp_63 : decode cX3_readLamp 63 = .ok (.invokevirtual 156, 3) := by decide +kernel
theorem dX3_readLamp_66 : decode cX3_readLamp 66 = .ok (.return_, 1) := by decide +kernel
theorem dX3_readWord_0 : decode cX3_readWord 0 = .ok (.aload_n 0, 1) := by decide +kernel
theorem dX3_readWord_1 : decode cX3_readWord 1 = .ok (.getfield 21, 3) := by decide +kernel
theorem dX3_readWord_4 : decode cX3_readWord 4 = .ok (.getfield 160, 3) := by decide +kernel
theorem dX3_readWord_7 : decode cX3_readWord 7 = .ok (.istore_n 1, 1) := by decide +kernel
theorem dX3_readWord_8 : decode cX3_readWord 8 = .ok (.iload_n 1, 1) := by decide +kernel
theorem dX3_readWord_9 : decode cX3_readWord 9 = .ok (.bipush 10, 2) := by decide +kernel
theorem dX3_readWord_11 : decode cX3_readWord 11 = .ok (.if_icmp .lt 10, 3) := by decide +kernel
theorem dX3_readWord_14 : decode cX3_readWord 14 = .ok (.aload_n 0, 1) := by decide +kernel
theorem dX3_readWord_15 : decode cX3_readWord 15 = .ok (.iconst 4, 1) := by decide +kernel
theorem dX3_readWord_16 : decode cX3_readWord 16 = .ok (.invokevirtual 99, 3) := by decide +kernel
theorem dX3_readWord_19 : decode cX3_readWord 19 = .ok (.iconst 0, 1) := by decide +kernel
theorem dX3_readWord_20 : decode cX3_readWord 20 = .ok (.ireturn, 1) := by decide +kernel
theorem dX3_readWord_21 : decode cX3_readWord 21 = .ok (.aload_n 0, 1) := by decide +kernel
theorem dX3_readWord_22 : decode cX3_readWord 22 = .ok (.getfield 12, 3) := by decide +kernel
theorem dX3_readWord_25 : decode cX3_readWord 25 = .ok (.invokevirtual 96, 3) := by decide +kernel
theorem dX3_readWord_28 : decode cX3_readWord 28 = .ok (.aload_n 0, 1) := by decide +kernel
theorem dX3_readWord_29 : decode cX3_readWord 29 = .ok (.getstatic 163, 3) := by decide +kernel
theorem dX3_readWord_32 : decode cX3_readWord 32 = .ok (.invokevirtual 132, 3) := by decide +kernel
theorem dX3_readWord_35 : decode cX3_readWord 35 = .ok (.ifCond .eq 18, 3) := by decide +kernel
theorem dX3_readWord_38 : decode cX3_readWord 38 = .ok (.aload_n 0, 1) := by decide +kernel
theorem dX3_readWord_39 : decode cX3_readWord 39 = .ok (.getfield 21, 3) := by decide +kernel
theorem dX3_readWord_42 : decode cX3_readWord 42 = .ok (.dup, 1) := by decide +kernel
theorem dX3_readWord_43 : decode cX3_readWord 43 = .ok (.getfield 166, 3) := by decide +kernel
theorem dX3_readWord_46 : decode cX3_readWord 46 = .ok (.iconst 1, 1) := by decide +kernel
theorem dX3_readWord_47 : decode cX3_readWord 47 = .ok (.iload_n 1, 1) := by decide +kernel
theorem dX3_readWord_48 : decode cX3_readWord 48 = .ok (.ishl, 1) := by decide +kernel
theorem dX3_readWord_49 : decode cX3_readWord 49 = .ok (.ior, 1) := by decide +kernel
theorem dX3_readWord_50 : decode cX3_readWord 50 = .ok (.putfield 166, 3) := by decide +kernel
theorem dX3_readWord_53 : decode cX3_readWord 53 = .ok (.aload_n 0, 1) := by decide +kernel
theorem dX3_readWord_54 : decode cX3_readWord 54 = .ok (.getfield 21, 3) := by decide +kernel
theorem dX3_readWord_57 : decode cX3_readWord 57 = .ok (.getfield 169, 3) := by decide +kernel
theorem dX3_readWord_60 : decode cX3_readWord 60 = .ok (.iload_n 1, 1) := by decide +kernel
theorem dX3_readWord_61 : decode cX3_readWord 61 = .ok (.aload_n 0, 1) := by decide +kernel
theorem dX3_readWord_62 : decode cX3_readWord 62 = .ok (.getstatic 172, 3) := by decide +kernel
theorem dX3_readWord_65 : decode cX3_readWord 65 = .ok (.invokevirtual 132, 3) := by decide +kernel
theorem dX3_readWord_68 : decode cX3_readWord 68 = .ok (.ifCond .eq 13, 3) := by decide +kernel
theorem dX3_readWord_71 : decode cX3_readWord 71 = .ok (.aload_n 0, 1) := by decide +kernel
theorem dX3_readWord_72 : decode cX3_readWord 72 = .ok (.iconst 1, 1) := by decide +kernel
theorem dX3_readWord_73 : decode cX3_readWord 73 = .ok (.bipush 9, 2) := by decide +kernel
theorem dX3_readWord_75 : decode cX3_readWord 75 = .ok (.invokevirtual 56, 3) := by decide +kernel
theorem dX3_readWord_78 : decode cX3_readWord 78 = .ok (.goto 4, 3) := by decide +kernel
theorem dX3_readWord_81 : decode cX3_readWord 81 = .ok (.iconst 1, 1) := by decide +kernel
theorem dX3_readWord_82 : decode cX3_readWord 82 = .ok (.iastore, 1) := by decide +kernel
theorem dX3_readWord_83 : decode cX3_readWord 83 = .ok (.aload_n 0, 1) := by decide +kernel
theorem dX3_readWord_84 : decode cX3_readWord 84 = .ok (.getstatic 175, 3) := by decide +kernel
theorem dX3_readWord_87 : decode cX3_readWord 87 = .ok (.invokevirtual 52, 3) := by decide +kernel
theorem dX3_readWord_90 : decode cX3_readWord 90 = .ok (.aload_n 0, 1) := by decide +kernel
theorem dX3_readWord_91 : decode cX3_readWord 91 = .ok (.getfield 21, 3) := by decide +kernel
theorem dX3_readWord_94 : decode cX3_readWord 94 = .ok (.getfield 178, 3) := by decide +kernel
theorem dX3_readWord_97 : decode cX3_readWord 97 = .ok (.iload_n 1, 1) := by decide +kernel
theorem dX3_readWord_98 : decode cX3_readWord 98 = .ok (.iconst (-1), 1) := by decide +kernel
theorem dX3_readWord_99 : decode cX3_readWord 99 = .ok (.iastore, 1) := by decide +kernel
theorem dX3_readWord_100 : decode cX3_readWord 100 = .ok (.aload_n 0, 1) := by decide +kernel
theorem dX3_readWord_101 : decode cX3_readWord 101 = .ok (.getfield 29, 3) := by decide +kernel
theorem dX3_readWord_104 : decode cX3_readWord 104 = .ok (.ifCond .ne 7, 3) := by decide +kernel
theorem dX3_readWord_107 : decode cX3_readWord 107 = .ok (.iconst 1, 1) := by decide +kernel
theorem dX3_readWord_108 : decode cX3_readWord 108 = .ok (.goto 4, 3) := by decide +kernel
theorem dX3_readWord_111 : decode cX3_readWord 111 = .ok (.iconst 0, 1) := by decide +kernel
theorem dX3_readWord_112 : decode cX3_readWord 112 = .ok (.ireturn, 1) := by decide +kernel
theorem dX3_endWord_0 : decode cX3_endWord 0 = .ok (.aload_n 0, 1) := by decide +kernel
theorem dX3_endWord_1 : decode cX3_endWord 1 = .ok (.getfield 21, 3) := by decide +kernel
theorem dX3_endWord_4 : decode cX3_endWord 4 = .ok (.dup, 1) := by decide +kernel
theorem dX3_endWord_5 : decode cX3_endWord 5 = .ok (.getfield 160, 3) := by decide +kernel
theorem dX3_endWord_8 : decode cX3_endWord 8 = .ok (.iconst 1, 1) := by decide +kernel
theorem dX3_endWord_9 : decode cX3_endWord 9 = .ok (.iadd, 1) := by decide +kernel
theorem dX3_endWord_10 : decode cX3_endWord 10 = .ok (.putfield 160, 3) := by decide +kernel
theorem dX3_endWord_13 : decode cX3_endWord 13 = .ok (.aload_n 0, 1) := by decide +kernel
theorem dX3_endWord_14 : decode cX3_endWord 14 = .ok (.getfield 21, 3) := by decide +kernel
theorem dX3_endWord_17 : decode cX3_endWord 17 = .ok (.getfield 160, 3) := by decide +kernel
theorem dX3_endWord_20 : decode cX3_endWord 20 = .ok (.aload_n 0, 1) := by decide +kernel
theorem dX3_endWord_21 : decode cX3_endWord 21 = .ok (.getfield 21, 3) := by decide +kernel
theorem dX3_endWord_24 : decode cX3_endWord 24 = .ok (.getfield 181, 3) := by decide +kernel
theorem dX3_endWord_27 : decode cX3_endWord 27 = .ok (.arraylength, 1) := by decide +kernel
theorem dX3_endWord_28 : decode cX3_endWord 28 = .ok (.if_icmp .ge 22, 3) := by decide +kernel
theorem dX3_endWord_31 : decode cX3_endWord 31 = .ok (.aload_n 0, 1) := by decide +kernel
theorem dX3_endWord_32 : decode cX3_endWord 32 = .ok (.getfield 21, 3) := by decide +kernel
theorem dX3_endWord_35 : decode cX3_endWord 35 = .ok (.getfield 181, 3) := by decide +kernel
theorem dX3_endWord_38 : decode cX3_endWord 38 = .ok (.aload_n 0, 1) := by decide +kernel
theorem dX3_endWord_39 : decode cX3_endWord 39 = .ok (.getfield 21, 3) := by decide +kernel
theorem dX3_endWord_42 : decode cX3_endWord 42 = .ok (.getfield 160, 3) := by decide +kernel
theorem dX3_endWord_45 : decode cX3_endWord 45 = .ok (.aload_n 0, 1) := by decide +kernel
theorem dX3_endWord_46 : decode cX3_endWord 46 = .ok (.getfield 32, 3) := by decide +kernel
theorem dX3_endWord_49 : decode cX3_endWord 49 = .ok (.iastore, 1) := by decide +kernel
theorem dX3_endWord_50 : decode cX3_endWord 50 = .ok (.return_, 1) := by decide +kernel
theorem dX3_emit_0 : decode cX3_emit 0 = .ok (.aload_n 0, 1) := by decide +kernel
theorem dX3_emit_1 : decode cX3_emit 1 = .ok (.getfield 29, 3) := by decide +kernel
theorem dX3_emit_4 : decode cX3_emit 4 = .ok (.ifCond .ne 46, 3) := by decide +kernel
theorem dX3_emit_7 : decode cX3_emit 7 = .ok (.aload_n 0, 1) := by decide +kernel
theorem dX3_emit_8 : decode cX3_emit 8 = .ok (.getfield 32, 3) := by decide +kernel
theorem dX3_emit_11 : decode cX3_emit 11 = .ok (.aload_n 0, 1) := by decide +kernel
theorem dX3_emit_12 : decode cX3_emit 12 = .ok (.getfield 21, 3) := by decide +kernel
theorem dX3_emit_15 : decode cX3_emit 15 = .ok (.getfield 42, 3) := by decide +kernel
theorem dX3_emit_18 : decode cX3_emit 18 = .ok (.arraylength, 1) := by decide +kernel
theorem dX3_emit_19 : decode cX3_emit 19 = .ok (.if_icmp .ge 31, 3) := by decide +kernel
theorem dX3_emit_22 : decode cX3_emit 22 = .ok (.aload_n 0, 1) := by decide +kernel
theorem dX3_emit_23 : decode cX3_emit 23 = .ok (.getfield 21, 3) := by decide +kernel
theorem dX3_emit_26 : decode cX3_emit 26 = .ok (.getfield 42, 3) := by decide +kernel
theorem dX3_emit_29 : decode cX3_emit 29 = .ok (.aload_n 0, 1) := by decide +kernel
theorem dX3_emit_30 : decode cX3_emit 30 = .ok (.getfield 32, 3) := by decide +kernel
theorem dX3_emit_33 : decode cX3_emit 33 = .ok (.iload_n 1, 1) := by decide +kernel
theorem dX3_emit_34 : decode cX3_emit 34 = .ok (.bipush 10, 2) := by decide +kernel
theorem dX3_emit_36 : decode cX3_emit 36 = .ok (.ishl, 1) := by decide +kernel
theorem dX3_emit_37 : decode cX3_emit 37 = .ok (.iload_n 2, 1) := by decide +kernel
theorem dX3_emit_38 : decode cX3_emit 38 = .ok (.ior, 1) := by decide +kernel
theorem dX3_emit_39 : decode cX3_emit 39 = .ok (.iastore, 1) := by decide +kernel
theorem dX3_emit_40 : decode cX3_emit 40 = .ok (.aload_n 0, 1) := by decide +kernel
theorem dX3_emit_41 : decode cX3_emit 41 = .ok (.dup, 1) := by decide +kernel
theorem dX3_emit_42 : decode cX3_emit 42 = .ok (.getfield 32, 3) := by decide +kernel
theorem dX3_emit_45 : decode cX3_emit 45 = .ok (.iconst 1, 1) := by decide +kernel
theorem dX3_emit_46 : decode cX3_emit 46 = .ok (.iadd, 1) := by decide +kernel
theorem dX3_emit_47 : decode cX3_emit 47 = .ok (.putfield 32, 3) := by decide +kernel
theorem dX3_emit_50 : decode cX3_emit 50 = .ok (.return_, 1) := by decide +kernel
theorem dX3_noteRead_0 : decode cX3_noteRead 0 = .ok (.iload_n 1, 1) := by decide +kernel
theorem dX3_noteRead_1 : decode cX3_noteRead 1 = .ok (.istore_n 3, 1) := by decide +kernel
theorem dX3_noteRead_2 : decode cX3_noteRead 2 = .ok (.iload_n 3, 1) := by decide +kernel
theorem dX3_noteRead_3 : decode cX3_noteRead 3 = .ok (.iload_n 2, 1) := by decide +kernel
theorem dX3_noteRead_4 : decode cX3_noteRead 4 = .ok (.if_icmp .gt 24, 3) := by decide +kernel
theorem dX3_noteRead_7 : decode cX3_noteRead 7 = .ok (.aload_n 0, 1) := by decide +kernel
theorem dX3_noteRead_8 : decode cX3_noteRead 8 = .ok (.getfield 21, 3) := by decide +kernel
theorem dX3_noteRead_11 : decode cX3_noteRead 11 = .ok (.dup, 1) := by decide +kernel
theorem dX3_noteRead_12 : decode cX3_noteRead 12 = .ok (.getfield 186, 3) := by decide +kernel
theorem dX3_noteRead_15 : decode cX3_noteRead 15 = .ok (.iconst 1, 1) := by decide +kernel
theorem dX3_noteRead_16 : decode cX3_noteRead 16 = .ok (.iload_n 3, 1) := by decide +kernel
theorem dX3_noteRead_17 : decode cX3_noteRead 17 = .ok (.ishl, 1) := by decide +kernel
theorem dX3_noteRead_18 : decode cX3_noteRead 18 = .ok (.ior, 1) := by decide +kernel
theorem dX3_noteRead_19 : decode cX3_noteRead 19 = .ok (.putfield 186, 3) := by decide +kernel
theorem dX3_noteRead_22 : decode cX3_noteRead 22 = .ok (.iinc 3 1, 3) := by decide +kernel
theorem dX3_noteRead_25 : decode cX3_noteRead 25 = .ok (.goto (-23), 3) := by decide +kernel
theorem dX3_noteRead_28 : decode cX3_noteRead 28 = .ok (.aload_n 0, 1) := by decide +kernel
theorem dX3_noteRead_29 : decode cX3_noteRead 29 = .ok (.getfield 21, 3) := by decide +kernel
theorem dX3_noteRead_32 : decode cX3_noteRead 32 = .ok (.getfield 160, 3) := by decide +kernel
theorem dX3_noteRead_35 : decode cX3_noteRead 35 = .ok (.bipush 10, 2) := by decide +kernel
theorem dX3_noteRead_37 : decode cX3_noteRead 37 = .ok (.if_icmp .ge 37, 3) := by decide +kernel
theorem dX3_noteRead_40 : decode cX3_noteRead 40 = .ok (.aload_n 0, 1) := by decide +kernel
theorem dX3_noteRead_41 : decode cX3_noteRead 41 = .ok (.getfield 21, 3) := by decide +kernel
theorem dX3_noteRead_44 : decode cX3_noteRead 44 = .ok (.getfield 178, 3) := by decide +kernel
theorem dX3_noteRead_47 : decode cX3_noteRead 47 = .ok (.aload_n 0, 1) := by decide +kernel
theorem dX3_noteRead_48 : decode cX3_noteRead 48 = .ok (.getfield 21, 3) := by decide +kernel
theorem dX3_noteRead_51 : decode cX3_noteRead 51 = .ok (.getfield 160, 3) := by decide +kernel
theorem dX3_noteRead_54 : decode cX3_noteRead 54 = .ok (.aload_n 0, 1) := by decide +kernel
theorem dX3_noteRead_55 : decode cX3_noteRead 55 = .ok (.getfield 21, 3) := by decide +kernel
theorem dX3_noteRead_58 : decode cX3_noteRead 58 = .ok (.getfield 178, 3) := by decide +kernel
theorem dX3_noteRead_61 : decode cX3_noteRead 61 = .ok (.aload_n 0, 1) := by decide +kernel
theorem dX3_noteRead_62 : decode cX3_noteRead 62 = .ok (.getfield 21, 3) := by decide +kernel
theorem dX3_noteRead_65 : decode cX3_noteRead 65 = .ok (.getfield 160, 3) := by decide +kernel
theorem dX3_noteRead_68 : decode cX3_noteRead 68 = .ok (.iaload, 1) := by decide +kernel
theorem dX3_noteRead_69 : decode cX3_noteRead 69 = .ok (.iload_n 2, 1) := by decide +kernel
theorem dX3_noteRead_70 : decode cX3_noteRead 70 = .ok (.invokestatic 189, 3) := by decide +kernel
theorem dX3_noteRead_73 : decode cX3_noteRead 73 = .ok (.iastore, 1) := by decide +kernel
theorem dX3_noteRead_74 : decode cX3_noteRead 74 = .ok (.return_, 1) := by decide +kernel
theorem dX3_mayNest_0 : decode cX3_mayNest 0 = .ok (.iload_n 1, 1) := by decide +kernel
theorem dX3_mayNest_1 : decode cX3_mayNest 1 = .ok (.bipush 6, 2) := by decide +kernel
theorem dX3_mayNest_3 : decode cX3_mayNest 3 = .ok (.if_icmp .lt 10, 3) := by decide +kernel
theorem dX3_mayNest_6 : decode cX3_mayNest 6 = .ok (.aload_n 0, 1) := by decide +kernel
theorem dX3_mayNest_7 : decode cX3_mayNest 7 = .ok (.iconst 4, 1) := by decide +kernel
theorem dX3_mayNest_8 : decode cX3_mayNest 8 = .ok (.invokevirtual 99, 3) := by decide +kernel
theorem dX3_mayNest_11 : decode cX3_mayNest 11 = .ok (.iconst 0, 1) := by decide +kernel
theorem dX3_mayNest_12 : decode cX3_mayNest 12 = .ok (.ireturn, 1) := by decide +kernel
theorem dX3_mayNest_13 : decode cX3_mayNest 13 = .ok (.aload_n 0, 1) := by decide +kernel
theorem dX3_mayNest_14 : decode cX3_mayNest 14 = .ok (.getfield 12, 3) := by decide +kernel
theorem dX3_mayNest_17 : decode cX3_mayNest 17 = .ok (.invokevirtual 96, 3) := by decide +kernel
theorem dX3_mayNest_20 : decode cX3_mayNest 20 = .ok (.iconst 1, 1) := by decide +kernel
theorem dX3_mayNest_21 : decode cX3_mayNest 21 = .ok (.ireturn, 1) := by decide +kernel
theorem dX3_readTruth_0 : decode cX3_readTruth 0 = .ok (.iconst 0, 1) := by decide +kernel
theorem dX3_readTruth_1 : decode cX3_readTruth 1 = .ok (.istore_n 2, 1) := by decide +kernel
theorem dX3_readTruth_2 : decode cX3_readTruth 2 = .ok (.aload_n 0, 1) := by decide +kernel
theorem dX3_readTruth_3 : decode cX3_readTruth 3 = .ok (.iload_n 1, 1) := by decide +kernel
theorem dX3_readTruth_4 : decode cX3_readTruth 4 = .ok (.invokevirtual 194, 3) := by decide +kernel
theorem dX3_readTruth_7 : decode cX3_readTruth 7 = .ok (.iconst 0, 1) := by decide +kernel
theorem dX3_readTruth_8 : decode cX3_readTruth 8 = .ok (.istore_n 3, 1) := by decide +kernel
theorem dX3_readTruth_9 : decode cX3_readTruth 9 = .ok (.iload_n 3, 1) := by decide +kernel
theorem dX3_readTruth_10 : decode cX3_readTruth 10 = .ok (.sipush 900, 3) := by decide +kernel
theorem dX3_readTruth_13 : decode cX3_readTruth 13 = .ok (.if_icmp .ge 79, 3) := by decide +kernel
theorem dX3_readTruth_16 : decode cX3_readTruth 16 = .ok (.aload_n 0, 1) := by decide +kernel
theorem dX3_readTruth_17 : decode cX3_readTruth 17 = .ok (.getstatic 197, 3) := by decide +kernel
theorem dX3_readTruth_20 : decode cX3_readTruth 20 = .ok (.invokevirtual 72, 3) := by decide +kernel
theorem dX3_readTruth_23 : decode cX3_readTruth 23 = .ok (.ifCond .ne 13, 3) := by decide +kernel
theorem dX3_readTruth_26 : decode cX3_readTruth 26 = .ok (.aload_n 0, 1) := by decide +kernel
theorem dX3_readTruth_27 : decode cX3_readTruth 27 = .ok (.getstatic 200, 3) := by decide +kernel
theorem dX3_readTruth_30 : decode cX3_readTruth 30 = .ok (.invokevirtual 72, 3) := by decide +kernel
theorem dX3_readTruth_33 : decode cX3_readTruth 33 = .ok (.ifCond .eq 59, 3) := by decide +kernel
theorem dX3_readTruth_36 : decode cX3_readTruth 36 = .ok (.aload_n 0, 1) := by decide +kernel
theorem dX3_readTruth_37 : decode cX3_readTruth 37 = .ok (.getstatic 197, 3) := by decide +kernel
theorem dX3_readTruth_40 : decode cX3_readTruth 40 = .ok (.invokevirtual 132, 3) := by decide +kernel
theorem dX3_readTruth_43 : decode cX3_readTruth 43 = .ok (.ifCond .eq 18, 3) := by decide +kernel
theorem dX3_readTruth_46 : decode cX3_readTruth 46 = .ok (.aload_n 0, 1) := by decide +kernel
theorem dX3_readTruth_47 : decode cX3_readTruth 47 = .ok (.iload_n 1, 1) := by decide +kernel
theorem dX3_readTruth_48 : decode cX3_readTruth 48 = .ok (.invokevirtual 194, 3) := by decide +kernel
theorem dX3_readTruth_51 : decode cX3_readTruth 51 = .ok (.aload_n 0, 1) := by decide +kernel
theorem dX3_readTruth_52 : decode cX3_readTruth 52 = .ok (.bipush 7, 2) := by decide +kernel
theorem dX3_readTruth_54 : decode cX3_readTruth 54 = .ok (.iconst 0, 1) := by decide +kernel
theorem dX3_readTruth_55 : decode cX3_readTruth 55 = .ok (.invokevirtual 203, 3) := by decide +kernel
theorem dX3_readTruth_58 : decode cX3_readTruth 58 = .ok (.goto 28, 3) := by decide +kernel
theorem dX3_readTruth_61 : decode cX3_readTruth 61 = .ok (.iload_n 2, 1) := by decide +kernel
theorem dX3_readTruth_62 : decode cX3_readTruth 62 = .ok (.ifCond .eq 10, 3) := by decide +kernel
theorem dX3_readTruth_65 : decode cX3_readTruth 65 = .ok (.aload_n 0, 1) := by decide +kernel
theorem dX3_readTruth_66 : decode cX3_readTruth 66 = .ok (.bipush 8, 2) := by decide +kernel
theorem dX3_readTruth_68 : decode cX3_readTruth 68 = .ok (.iconst 0, 1) := by decide +kernel
theorem dX3_readTruth_69 : decode cX3_readTruth 69 = .ok (.invokevirtual 203, 3) := by decide +kernel
theorem dX3_readTruth_72 : decode cX3_readTruth 72 = .ok (.iconst 1, 1) := by decide +kernel
theorem dX3_readTruth_73 : decode cX3_readTruth 73 = .ok (.istore_n 2, 1) := by decide +kernel
theorem dX3_readTruth_74 : decode cX3_readTruth 74 = .ok (.aload_n 0, 1) := by decide +kernel
theorem dX3_readTruth_75 : decode cX3_readTruth 75 = .ok (.getfield 12, 3) := by decide +kernel
theorem dX3_readTruth_78 : decode cX3_readTruth 78 = .ok (.invokevirtual 96, 3) := by decide +kernel
theorem dX3_readTruth_81 : decode cX3_readTruth 81 = .ok (.aload_n 0, 1) := by decide +kernel
theorem dX3_readTruth_82 : decode cX3_readTruth 82 = .ok (.iload_n 1, 1) := by decide +kernel
theorem dX3_readTruth_83 : decode cX3_readTruth 83 = .ok (.invokevirtual 194, 3) := by decide +kernel
theorem dX3_readTruth_86 : decode cX3_readTruth 86 = .ok (.iinc 3 1, 3) := by decide +kernel
theorem dX3_readTruth_89 : decode cX3_readTruth 89 = .ok (.goto (-80), 3) := by decide +kernel
theorem dX3_readTruth_92 : decode cX3_readTruth 92 = .ok (.iload_n 2, 1) := by decide +kernel
theorem dX3_readTruth_93 : decode cX3_readTruth 93 = .ok (.ifCond .eq 10, 3) := by decide +kernel
theorem dX3_readTruth_96 : decode cX3_readTruth 96 = .ok (.aload_n 0, 1) := by decide +kernel
theorem dX3_readTruth_97 : decode cX3_readTruth 97 = .ok (.bipush 8, 2) := by decide +kernel
theorem dX3_readTruth_99 : decode cX3_readTruth 99 = .ok (.iconst 0, 1) := by decide +kernel
theorem dX3_readTruth_100 : decode cX3_readTruth 100 = .ok (.invokevirtual 203, 3) := by decide +kernel
theorem dX3_readTruth_103 : decode cX3_readTruth 103 = .ok (.return_, 1) := by decide +kernel
theorem dX3_readUnit_0 : decode cX3_readUnit 0 = .ok (.aload_n 0, 1) := by decide +kernel
theorem dX3_readUnit_1 : decode cX3_readUnit 1 = .ok (.getstatic 207, 3) := by decide +kernel
theorem dX3_readUnit_4 : decode cX3_readUnit 4 = .ok (.invokevirtual 72, 3) := by decide +kernel
theorem dX3_readUnit_7 : decode cX3_readUnit 7 = .ok (.ifCond .eq 28, 3) := by decide +kernel
theorem dX3_readUnit_10 : decode cX3_readUnit 10 = .ok (.aload_n 0, 1) := by decide +kernel
theorem dX3_readUnit_11 : decode cX3_readUnit 11 = .ok (.iload_n 1, 1) := by decide +kernel
theorem dX3_readUnit_12 : decode cX3_readUnit 12 = .ok (.invokevirtual 210, 3) := by decide +kernel
theorem dX3_readUnit_15 : decode cX3_readUnit 15 = .ok (.ifCond .eq 76, 3) := by decide +kernel
theorem dX3_readUnit_18 : decode cX3_readUnit 18 = .ok (.aload_n 0, 1) := by decide +kernel
theorem dX3_readUnit_19 : decode cX3_readUnit 19 = .ok (.iload_n 1, 1) := by decide +kernel
theorem dX3_readUnit_20 : decode cX3_readUnit 20 = .ok (.iconst 1, 1) := by decide +kernel
theorem dX3_readUnit_21 : decode cX3_readUnit 21 = .ok (.iadd, 1) := by decide +kernel
theorem dX3_readUnit_22 : decode cX3_readUnit 22 = .ok (.invokevirtual 194, 3) := by decide +kernel
theorem dX3_readUnit_25 : decode cX3_readUnit 25 = .ok (.aload_n 0, 1) := by decide +kernel
theorem dX3_readUnit_26 : decode cX3_readUnit 26 = .ok (.bipush 6, 2) := by decide +kernel
theorem dX3_readUnit_28 : decode cX3_readUnit 28 = .ok (.iconst 0, 1) := by decide +kernel
theorem dX3_readUnit_29 : decode cX3_readUnit 29 = .ok (.invokevirtual 203, 3) := by decide +kernel
theorem dX3_readUnit_32 : decode cX3_readUnit 32 = .ok (.goto 59, 3) := by decide +kernel
theorem dX3_readUnit_35 : decode cX3_readUnit 35 = .ok (.aload_n 0, 1) := by decide +kernel
theorem dX3_readUnit_36 : decode cX3_readUnit 36 = .ok (.getstatic 214, 3) := by decide +kernel
theorem dX3_readUnit_39 : decode cX3_readUnit 39 = .ok (.invokevirtual 72, 3) := by decide +kernel
theorem dX3_readUnit_42 : decode cX3_readUnit 42 = .ok (.ifCond .eq 28, 3) := by decide +kernel
theorem dX3_readUnit_45 : decode cX3_readUnit 45 = .ok (.aload_n 0, 1) := by decide +kernel
theorem dX3_readUnit_46 : decode cX3_readUnit 46 = .ok (.iload_n 1, 1) := by decide +kernel
theorem dX3_readUnit_47 : decode cX3_readUnit 47 = .ok (.invokevirtual 210, 3) := by decide +kernel
theorem dX3_readUnit_50 : decode cX3_readUnit 50 = .ok (.ifCond .eq 41, 3) := by decide +kernel
theorem dX3_readUnit_53 : decode cX3_readUnit 53 = .ok (.aload_n 0, 1) := by decide +kernel
theorem dX3_readUnit_54 : decode cX3_readUnit 54 = .ok (.iload_n 1, 1) := by decide +kernel
theorem dX3_readUnit_55 : decode cX3_readUnit 55 = .ok (.iconst 1, 1) := by decide +kernel
theorem dX3_readUnit_56 : decode cX3_readUnit 56 = .ok (.iadd, 1) := by decide +kernel
theorem dX3_readUnit_57 : decode cX3_readUnit 57 = .ok (.invokevirtual 80, 3) := by decide +kernel
theorem dX3_readUnit_60 : decode cX3_readUnit 60 = .ok (.aload_n 0, 1) := by decide +kernel
theorem dX3_readUnit_61 : decode cX3_readUnit 61 = .ok (.getstatic 217, 3) := by decide +kernel
theorem dX3_readUnit_64 : decode cX3_readUnit 64 = .ok (.invokevirtual 52, 3) := by decide +kernel
theorem dX3_readUnit_67 : decode cX3_readUnit 67 = .ok (.goto 24, 3) := by decide +kernel
theorem dX3_readUnit_70 : decode cX3_readUnit 70 = .ok (.aload_n 0, 1) := by decide +kernel
theorem dX3_readUnit_71 : decode cX3_readUnit 71 = .ok (.iload_n 1, 1) := by decide +kernel
theorem dX3_readUnit_72 : decode cX3_readUnit 72 = .ok (.invokevirtual 220, 3) := by decide +kernel
theorem dX3_readUnit_75 : decode cX3_readUnit 75 = .ok (.aload_n 0, 1) := by decide +kernel
theorem dX3_readUnit_76 : decode cX3_readUnit 76 = .ok (.invokevirtual 223, 3) := by decide +kernel
theorem dX3_readUnit_79 : decode cX3_readUnit 79 = .ok (.istore_n 2, 1) := by decide +kernel
theorem dX3_readUnit_80 : decode cX3_readUnit 80 = .ok (.aload_n 0, 1) := by decide +kernel
theorem dX3_readUnit_81 : decode cX3_readUnit 81 = .ok (.iload_n 1, 1) := by decide +kernel
theorem dX3_readUnit_82 : decode cX3_readUnit 82 = .ok (.invokevirtual 220, 3) := by decide +kernel
theorem dX3_readUnit_85 : decode cX3_readUnit 85 = .ok (.aload_n 0, 1) := by decide +kernel
theorem dX3_readUnit_86 : decode cX3_readUnit 86 = .ok (.iload_n 2, 1) := by decide +kernel
theorem dX3_readUnit_87 : decode cX3_readUnit 87 = .ok (.iconst 0, 1) := by decide +kernel
theorem dX3_readUnit_88 : decode cX3_readUnit 88 = .ok (.invokevirtual 203, 3) := by decide +kernel
theorem dX3_readUnit_91 : decode cX3_readUnit 91 = .ok (.return_, 1) := by decide +kernel
theorem dX3_readSign_0 : decode cX3_readSign 0 = .ok (.aload_n 0, 1) := by decide +kernel
theorem dX3_readSign_1 : decode cX3_readSign 1 = .ok (.getstatic 227, 3) := by decide +kernel
theorem dX3_readSign_4 : decode cX3_readSign 4 = .ok (.invokevirtual 132, 3) := by decide +kernel
theorem dX3_readSign_7 : decode cX3_readSign 7 = .ok (.ifCond .eq 6, 3) := by decide +kernel
theorem dX3_readSign_10 : decode cX3_readSign 10 = .ok (.bipush 9, 2) := by decide +kernel
theorem dX3_readSign_12 : decode cX3_readSign 12 = .ok (.ireturn, 1) := by decide +kernel
theorem dX3_readSign_13 : decode cX3_readSign 13 = .ok (.aload_n 0, 1) := by decide +kernel
theorem dX3_readSign_14 : decode cX3_readSign 14 = .ok (.getstatic 230, 3) := by decide +kernel
theorem dX3_readSign_17 : decode cX3_readSign 17 = .ok (.invokevirtual 132, 3) := by decide +kernel
theorem dX3_readSign_20 : decode cX3_readSign 20 = .ok (.ifCond .eq 6, 3) := by decide +kernel
theorem dX3_readSign_23 : decode cX3_readSign 23 = .ok (.bipush 10, 2) := by decide +kernel
theorem dX3_readSign_25 : decode cX3_readSign 25 = .ok (.ireturn, 1) := by decide +kernel
theorem dX3_readSign_26 : decode cX3_readSign 26 = .ok (.aload_n 0, 1) := by decide +kernel
theorem dX3_readSign_27 : decode cX3_readSign 27 = .ok (.getstatic 233, 3) := by decide +kernel
theorem dX3_readSign_30 : decode cX3_readSign 30 = .ok (.invokevirtual 52, 3) := by decide +kernel
theorem dX3_readSign_33 : decode cX3_readSign 33 = .ok (.bipush 11, 2) := by decide +kernel
theorem dX3_readSign_35 : decode cX3_readSign 35 = .ok (.ireturn, 1) := by decide +kernel
theorem dX3_readSum_0 : decode cX3_readSum 0 = .ok (.iconst (-1), 1) := by decide +kernel
theorem dX3_readSum_1 : decode cX3_readSum 1 = .ok (.istore_n 2, 1) := by decide +kernel
theorem dX3_readSum_2 : decode cX3_readSum 2 = .ok (.aload_n 0, 1) := by decide +kernel
theorem dX3_readSum_3 : decode cX3_readSum 3 = .ok (.iload_n 1, 1) := by decide +kernel
theorem dX3_readSum_4 : decode cX3_readSum 4 = .ok (.invokevirtual 236, 3) := by decide +kernel
theorem dX3_readSum_7 : decode cX3_readSum 7 = .ok (.iconst 0, 1) := by decide +kernel
theorem dX3_readSum_8 : decode cX3_readSum 8 = .ok (.istore_n 3, 1) := by decide +kernel
theorem dX3_readSum_9 : decode cX3_readSum 9 = .ok (.iload_n 3, 1) := by decide +kernel
theorem dX3_readSum_10 : decode cX3_readSum 10 = .ok (.sipush 900, 3) := by decide +kernel
theorem dX3_readSum_13 : decode cX3_readSum 13 = .ok (.if_icmp .ge 105, 3) := by decide +kernel
theorem dX3_readSum_16 : decode cX3_readSum 16 = .ok (.aload_n 0, 1) := by decide +kernel
theorem dX3_readSum_17 : decode cX3_readSum 17 = .ok (.getstatic 239, 3) := by decide +kernel
theorem dX3_readSum_20 : decode cX3_readSum 20 = .ok (.invokevirtual 72, 3) := by decide +kernel
theorem dX3_readSum_23 : decode cX3_readSum 23 = .ok (.ifCond .ne 23, 3) := by decide +kernel
theorem dX3_readSum_26 : decode cX3_readSum 26 = .ok (.aload_n 0, 1) := by decide +kernel
theorem dX3_readSum_27 : decode cX3_readSum 27 = .ok (.getstatic 242, 3) := by decide +kernel
theorem dX3_readSum_30 : decode cX3_readSum 30 = .ok (.invokevirtual 72, 3) := by decide +kernel
theorem dX3_readSum_33 : decode cX3_readSum 33 = .ok (.ifCond .ne 13, 3) := by decide +kernel
theorem dX3_readSum_36 : decode cX3_readSum 36 = .ok (.aload_n 0, 1) := by decide +kernel
theorem dX3_readSum_37 : decode cX3_readSum 37 = .ok (.getstatic 245, 3) := by decide +kernel
theorem dX3_readSum_40 : decode cX3_readSum 40 = .ok (.invokevirtual 72, 3) := by decide +kernel
theorem dX3_readSum_43 : decode cX3_readSum 43 = .ok (.ifCond .eq 75, 3) := by decide +kernel
theorem dX3_readSum_46 : decode cX3_readSum 46 = .ok (.aload_n 0, 1) := by decide +kernel
theorem dX3_readSum_47 : decode cX3_readSum 47 = .ok (.getstatic 239, 3) := by decide +kernel
theorem dX3_readSum_50 : decode cX3_readSum 50 = .ok (.invokevirtual 132, 3) := by decide +kernel
theorem dX3_readSum_53 : decode cX3_readSum 53 = .ok (.ifCond .eq 18, 3) := by decide +kernel
theorem dX3_readSum_56 : decode cX3_readSum 56 = .ok (.aload_n 0, 1) := by decide +kernel
theorem dX3_readSum_57 : decode cX3_readSum 57 = .ok (.iload_n 1, 1) := by decide +kernel
theorem dX3_readSum_58 : decode cX3_readSum 58 = .ok (.invokevirtual 236, 3) := by decide +kernel
theorem dX3_readSum_61 : decode cX3_readSum 61 = .ok (.aload_n 0, 1) := by decide +kernel
theorem dX3_readSum_62 : decode cX3_readSum 62 = .ok (.bipush 14, 2) := by decide +kernel
theorem dX3_readSum_64 : decode cX3_readSum 64 = .ok (.iconst 0, 1) := by decide +kernel
theorem dX3_readSum_65 : decode cX3_readSum 65 = .ok (.invokevirtual 203, 3) := by decide +kernel
theorem dX3_readSum_68 : decode cX3_readSum 68 = .ok (.goto 44, 3) := by decide +kernel
theorem dX3_readSum_71 : decode cX3_readSum 71 = .ok (.iload_n 2, 1) := by decide +kernel
theorem dX3_readSum_72 : decode cX3_readSum 72 = .ok (.iconst (-1), 1) := by decide +kernel
theorem dX3_readSum_73 : decode cX3_readSum 73 = .ok (.if_icmp .eq 9, 3) := by decide +kernel
theorem dX3_readSum_76 : decode cX3_readSum 76 = .ok (.aload_n 0, 1) := by decide +kernel
theorem dX3_readSum_77 : decode cX3_readSum 77 = .ok (.iload_n 2, 1) := by decide +kernel
theorem dX3_readSum_78 : decode cX3_readSum 78 = .ok (.iconst 0, 1) := by decide +kernel
theorem dX3_readSum_79 : decode cX3_readSum 79 = .ok (.invokevirtual 203, 3) := by decide +kernel
theorem dX3_readSum_82 : decode cX3_readSum 82 = .ok (.aload_n 0, 1) := by decide +kernel
theorem dX3_readSum_83 : decode cX3_readSum 83 = .ok (.getstatic 242, 3) := by decide +kernel
theorem dX3_readSum_86 : decode cX3_readSum 86 = .ok (.invokevirtual 72, 3) := by decide +kernel
theorem dX3_readSum_89 : decode cX3_readSum 89 = .ok (.ifCond .eq 8, 3) := by decide +kernel
theorem dX3_readSum_92 : decode cX3_readSum 92 = .ok (.bipush 12, 2) := by decide +kernel
theorem dX3_readSum_94 : decode cX3_readSum 94 = .ok (.goto 5, 3) := by decide +kernel
theorem dX3_readSum_97 : decode cX3_readSum 97 = .ok (.bipush 13, 2) := by decide +kernel
theorem dX3_readSum_99 : decode cX3_readSum 99 = .ok (.istore_n 2, 1) := by decide +kernel
theorem dX3_readSum_100 : decode cX3_readSum 100 = .ok (.aload_n 0, 1) := by decide +kernel
theorem dX3_readSum_101 : decode cX3_readSum 101 = .ok (.getfield 12, 3) := by decide +kernel
theorem dX3_readSum_104 : decode cX3_readSum 104 = .ok (.invokevirtual 96, 3) := by decide +kernel
theorem dX3_readSum_107 : decode cX3_readSum 107 = .ok (.aload_n 0, 1) := by decide +kernel
theorem dX3_readSum_108 : decode cX3_readSum 108 = .ok (.iload_n 1, 1) := by decide +kernel
theorem dX3_readSum_109 : decode cX3_readSum 109 = .ok (.invokevirtual 236, 3) := by decide +kernel
theorem dX3_readSum_112 : decode cX3_readSum 112 = .ok (.iinc 3 1, 3) := by decide +kernel
theorem dX3_readSum_115 : decode cX3_readSum 115 = .ok (.goto (-106), 3) := by decide +kernel
theorem dX3_readSum_118 : decode cX3_readSum 118 = .ok (.iload_n 2, 1) := by decide +kernel
theorem dX3_readSum_119 : decode cX3_readSum 119 = .ok (.iconst (-1), 1) := by decide +kernel
theorem dX3_readSum_120 : decode cX3_readSum 120 = .ok (.if_icmp .eq 9, 3) := by decide +kernel
theorem dX3_readSum_123 : decode cX3_readSum 123 = .ok (.aload_n 0, 1) := by decide +kernel
theorem dX3_readSum_124 : decode cX3_readSum 124 = .ok (.iload_n 2, 1) := by decide +kernel
theorem dX3_readSum_125 : decode cX3_readSum 125 = .ok (.iconst 0, 1) := by decide +kernel
theorem dX3_readSum_126 : decode cX3_readSum 126 = .ok (.invokevirtual 203, 3) := by decide +kernel
theorem dX3_readSum_129 : decode cX3_readSum 129 = .ok (.return_, 1) := by decide +kernel
theorem dX3_readAtom_0 : decode cX3_readAtom 0 = .ok (.aload_n 0, 1) := by decide +kernel
theorem dX3_readAtom_1 : decode cX3_readAtom 1 = .ok (.getstatic 102, 3) := by decide +kernel
theorem dX3_readAtom_4 : decode cX3_readAtom 4 = .ok (.invokevirtual 72, 3) := by decide +kernel
theorem dX3_readAtom_7 : decode cX3_readAtom 7 = .ok (.ifCond .eq 19, 3) := by decide +kernel
theorem dX3_readAtom_10 : decode cX3_readAtom 10 = .ok (.aload_n 0, 1) := by decide +kernel
theorem dX3_readAtom_11 : decode cX3_readAtom 11 = .ok (.iconst 0, 1) := by decide +kernel
theorem dX3_readAtom_12 : decode cX3_readAtom 12 = .ok (.aload_n 0, 1) := by decide +kernel
theorem dX3_readAtom_13 : decode cX3_readAtom 13 = .ok (.iconst 0, 1) := by decide +kernel
theorem dX3_readAtom_14 : decode cX3_readAtom 14 = .ok (.sipush 999, 3) := by decide +kernel
theorem dX3_readAtom_17 : decode cX3_readAtom 17 = .ok (.invokevirtual 56, 3) := by decide +kernel
theorem dX3_readAtom_20 : decode cX3_readAtom 20 = .ok (.invokevirtual 203, 3) := by decide +kernel
theorem dX3_readAtom_23 : decode cX3_readAtom 23 = .ok (.goto 207, 3) := by decide +kernel
theorem dX3_readAtom_26 : decode cX3_readAtom 26 = .ok (.aload_n 0, 1) := by decide +kernel
theorem dX3_readAtom_27 : decode cX3_readAtom 27 = .ok (.getstatic 248, 3) := by decide +kernel
theorem dX3_readAtom_30 : decode cX3_readAtom 30 = .ok (.invokevirtual 132, 3) := by decide +kernel
theorem dX3_readAtom_33 : decode cX3_readAtom 33 = .ok (.ifCond .eq 33, 3) := by decide +kernel
theorem dX3_readAtom_36 : decode cX3_readAtom 36 = .ok (.aload_n 0, 1) := by decide +kernel
theorem dX3_readAtom_37 : decode cX3_readAtom 37 = .ok (.iconst 0, 1) := by decide +kernel
theorem dX3_readAtom_38 : decode cX3_readAtom 38 = .ok (.aload_n 0, 1) := by decide +kernel
theorem dX3_readAtom_39 : decode cX3_readAtom 39 = .ok (.getfield 21, 3) := by decide +kernel
theorem dX3_readAtom_42 : decode cX3_readAtom 42 = .ok (.getfield 60, 3) := by decide +kernel
theorem dX3_readAtom_45 : decode cX3_readAtom 45 = .ok (.iconst 1, 1) := by decide +kernel
theorem dX3_readAtom_46 : decode cX3_readAtom 46 = .ok (.isub, 1) := by decide +kernel
theorem dX3_readAtom_47 : decode cX3_readAtom 47 = .ok (.invokevirtual 56, 3) := by decide +kernel
theorem dX3_readAtom_50 : decode cX3_readAtom 50 = .ok (.istore_n 2, 1) := by decide +kernel
theorem dX3_readAtom_51 : decode cX3_readAtom 51 = .ok (.aload_n 0, 1) := by decide +kernel
theorem dX3_readAtom_52 : decode cX3_readAtom 52 = .ok (.iload_n 2, 1) := by decide +kernel
theorem dX3_readAtom_53 : decode cX3_readAtom 53 = .ok (.iload_n 2, 1) := by decide +kernel
theorem dX3_readAtom_54 : decode cX3_readAtom 54 = .ok (.invokevirtual 251, 3) := by decide +kernel
theorem dX3_readAtom_57 : decode cX3_readAtom 57 = .ok (.aload_n 0, 1) := by decide +kernel
theorem dX3_readAtom_58 : decode cX3_readAtom 58 = .ok (.iconst 1, 1) := by decide +kernel
theorem dX3_readAtom_59 : decode cX3_readAtom 59 = .ok (.iload_n 2, 1) := by decide +kernel
theorem dX3_readAtom_60 : decode cX3_readAtom 60 = .ok (.invokevirtual 203, 3) := by decide +kernel
theorem dX3_readAtom_63 : decode cX3_readAtom 63 = .ok (.goto 167, 3) := by decide +kernel
theorem dX3_readAtom_66 : decode cX3_readAtom 66 = .ok (.aload_n 0, 1) := by decide +kernel
theorem dX3_readAtom_67 : decode cX3_readAtom 67 = .ok (.getstatic 254, 3) := by decide +kernel
theorem dX3_readAtom_70 : decode cX3_readAtom 70 = .ok (.invokevirtual 132, 3) := by decide +kernel
theorem dX3_readAtom_73 : decode cX3_readAtom 73 = .ok (.ifCond .eq 32, 3) := by decide +kernel
theorem dX3_readAtom_76 : decode cX3_readAtom 76 = .ok (.aload_n 0, 1) := by decide +kernel
theorem dX3_readAtom_77 : decode cX3_readAtom 77 = .ok (.iconst 0, 1) := by decide +kernel
theorem dX3_readAtom_78 : decode cX3_readAtom 78 = .ok (.aload_n 0, 1) := by decide +kernel
theorem dX3_readAtom_79 : decode cX3_readAtom 79 = .ok (.getfield 21, 3) := by decide +kernel
theorem dX3_readAtom_82 : decode cX3_readAtom 82 = .ok (.getfield 60, 3) := by decide +kernel
theorem dX3_readAtom_85 : decode cX3_readAtom 85 = .ok (.iconst 1, 1) := by decide +kernel
theorem dX3_readAtom_86 : decode cX3_readAtom 86 = .ok (.isub, 1) := by decide +kernel
theorem dX3_readAtom_87 : decode cX3_readAtom 87 = .ok (.invokevirtual 251, 3) := by decide +kernel
theorem dX3_readAtom_90 : decode cX3_readAtom 90 = .ok (.aload_n 0, 1) := by decide +kernel
theorem dX3_readAtom_91 : decode cX3_readAtom 91 = .ok (.iconst 2, 1) := by decide +kernel
theorem dX3_readAtom_92 : decode cX3_readAtom 92 = .ok (.aload_n 0, 1) := by decide +kernel
theorem dX3_readAtom_93 : decode cX3_readAtom 93 = .ok (.iconst 0, 1) := by decide +kernel
theorem dX3_readAtom_94 : decode cX3_readAtom 94 = .ok (.bipush 9, 2) := by decide +kernel
theorem dX3_readAtom_96 : decode cX3_readAtom 96 = .ok (.invokevirtual 56, 3) := by decide +kernel
theorem dX3_readAtom_99 : decode cX3_readAtom 99 = .ok (.invokevirtual 203, 3) := by decide +kernel
theorem dX3_readAtom_102 : decode cX3_readAtom 102 = .ok (.goto 128, 3) := by decide +kernel
theorem dX3_readAtom_105 : decode cX3_readAtom 105 = .ok (.aload_n 0, 1) := by decide +kernel
theorem dX3_readAtom_106 : decode cX3_readAtom 106 = .ok (.getstatic 257, 3) := by decide +kernel
theorem dX3_readAtom_109 : decode cX3_readAtom 109 = .ok (.invokevirtual 132, 3) := by decide +kernel
theorem dX3_readAtom_112 : decode cX3_readAtom 112 = .ok (.ifCond .eq 26, 3) := by decide +kernel
theorem dX3_readAtom_115 : decode cX3_readAtom 115 = .ok (.aload_n 0, 1) := by decide +kernel
theorem dX3_readAtom_116 : decode cX3_readAtom 116 = .ok (.iconst 0, 1) := by decide +kernel
theorem dX3_readAtom_117 : decode cX3_readAtom 117 = .ok (.aload_n 0, 1) := by decide +kernel
theorem dX3_readAtom_118 : decode cX3_readAtom 118 = .ok (.getfield 21, 3) := by decide +kernel
theorem dX3_readAtom_121 : decode cX3_readAtom 121 = .ok (.getfield 60, 3) := by decide +kernel
theorem dX3_readAtom_124 : decode cX3_readAtom 124 = .ok (.iconst 1, 1) := by decide +kernel
theorem dX3_readAtom_125 : decode cX3_readAtom 125 = .ok (.isub, 1) := by decide +kernel
theorem dX3_readAtom_126 : decode cX3_readAtom 126 = .ok (.invokevirtual 251, 3) := by decide +kernel
theorem dX3_readAtom_129 : decode cX3_readAtom 129 = .ok (.aload_n 0, 1) := by decide +kernel
theorem dX3_readAtom_130 : decode cX3_readAtom 130 = .ok (.iconst 3, 1) := by decide +kernel
theorem dX3_readAtom_131 : decode cX3_readAtom 131 = .ok (.iconst 0, 1) := by decide +kernel
theorem dX3_readAtom_132 : decode cX3_readAtom 132 = .ok (.invokevirtual 203, 3) := by decide +kernel
theorem dX3_readAtom_135 : decode cX3_readAtom 135 = .ok (.goto 95, 3) := by decide +kernel
theorem dX3_readAtom_138 : decode cX3_readAtom 138 = .ok (.aload_n 0, 1) := by decide +kernel
theorem dX3_readAtom_139 : decode cX3_readAtom 139 = .ok (.getstatic 260, 3) := by decide +kernel
theorem dX3_readAtom_142 : decode cX3_readAtom 142 = .ok (.invokevirtual 132, 3) := by decide +kernel
theorem dX3_readAtom_145 : decode cX3_readAtom 145 = .ok (.ifCond .eq 26, 3) := by decide +kernel
theorem dX3_readAtom_148 : decode cX3_readAtom 148 = .ok (.aload_n 0, 1) := by decide +kernel
theorem dX3_readAtom_149 : decode cX3_readAtom 149 = .ok (.iconst 0, 1) := by decide +kernel
theorem dX3_readAtom_150 : decode cX3_readAtom 150 = .ok (.aload_n 0, 1) := by decide +kernel
theorem dX3_readAtom_151 : decode cX3_readAtom 151 = .ok (.getfield 21, 3) := by decide +kernel
theorem dX3_readAtom_154 : decode cX3_readAtom 154 = .ok (.getfield 60, 3) := by decide +kernel
theorem dX3_readAtom_157 : decode cX3_readAtom 157 = .ok (.iconst 1, 1) := by decide +kernel
theorem dX3_readAtom_158 : decode cX3_readAtom 158 = .ok (.isub, 1) := by decide +kernel
theorem dX3_readAtom_159 : decode cX3_readAtom 159 = .ok (.invokevirtual 251, 3) := by decide +kernel
theorem dX3_readAtom_162 : decode cX3_readAtom 162 = .ok (.aload_n 0, 1) := by decide +kernel
theorem dX3_readAtom_163 : decode cX3_readAtom 163 = .ok (.iconst 4, 1) := by decide +kernel
theorem dX3_readAtom_164 : decode cX3_readAtom 164 = .ok (.iconst 0, 1) := by decide +kernel
theorem dX3_readAtom_165 : decode cX3_readAtom 165 = .ok (.invokevirtual 203, 3) := by decide +kernel
theorem dX3_readAtom_168 : decode cX3_readAtom 168 = .ok (.goto 62, 3) := by decide +kernel
theorem dX3_readAtom_171 : decode cX3_readAtom 171 = .ok (.aload_n 0, 1) := by decide +kernel
theorem dX3_readAtom_172 : decode cX3_readAtom 172 = .ok (.getstatic 263, 3) := by decide +kernel
theorem dX3_readAtom_175 : decode cX3_readAtom 175 = .ok (.invokevirtual 132, 3) := by decide +kernel
theorem dX3_readAtom_178 : decode cX3_readAtom 178 = .ok (.ifCond .eq 12, 3) := by decide +kernel
theorem dX3_readAtom_181 : decode cX3_readAtom 181 = .ok (.aload_n 0, 1) := by decide +kernel
theorem dX3_readAtom_182 : decode cX3_readAtom 182 = .ok (.iconst 5, 1) := by decide +kernel
theorem dX3_readAtom_183 : decode cX3_readAtom 183 = .ok (.iconst 0, 1) := by decide +kernel
theorem dX3_readAtom_184 : decode cX3_readAtom 184 = .ok (.invokevirtual 203, 3) := by decide +kernel
theorem dX3_readAtom_187 : decode cX3_readAtom 187 = .ok (.goto 43, 3) := by decide +kernel
theorem dX3_readAtom_190 : decode cX3_readAtom 190 = .ok (.aload_n 0, 1) := by decide +kernel
theorem dX3_readAtom_191 : decode cX3_readAtom 191 = .ok (.getstatic 266, 3) := by decide +kernel
theorem dX3_readAtom_194 : decode cX3_readAtom 194 = .ok (.invokevirtual 72, 3) := by decide +kernel
theorem dX3_readAtom_197 : decode cX3_readAtom 197 = .ok (.ifCond .ne 11, 3) := by decide +kernel
theorem dX3_readAtom_200 : decode cX3_readAtom 200 = .ok (.aload_n 0, 1) := by decide +kernel
theorem dX3_readAtom_201 : decode cX3_readAtom 201 = .ok (.iconst 2, 1) := by decide +kernel
theorem dX3_readAtom_202 : decode cX3_readAtom 202 = .ok (.invokevirtual 99, 3) := by decide +kernel
theorem dX3_readAtom_205 : decode cX3_readAtom 205 = .ok (.goto 25, 3) := by decide +kernel
theorem dX3_readAtom_208 : decode cX3_readAtom 208 = .ok (.aload_n 0, 1) := by decide +kernel
theorem dX3_readAtom_209 : decode cX3_readAtom 209 = .ok (.iload_n 1, 1) := by decide +kernel
theorem dX3_readAtom_210 : decode cX3_readAtom 210 = .ok (.invokevirtual 210, 3) := by decide +kernel
theorem dX3_readAtom_213 : decode cX3_readAtom 213 = .ok (.ifCond .eq 17, 3) := by decide +kernel
theorem dX3_readAtom_216 : decode cX3_readAtom 216 = .ok (.aload_n 0, 1) := by decide +kernel
theorem dX3_readAtom_217 : decode cX3_readAtom 217 = .ok (.iload_n 1, 1) := by decide +kernel
theorem dX3_readAtom_218 : decode cX3_readAtom 218 = .ok (.iconst 1, 1) := by decide +kernel
theorem dX3_readAtom_219 : decode cX3_readAtom 219 = .ok (.iadd, 1) := by decide +kernel
theorem dX3_readAtom_220 : decode cX3_readAtom 220 = .ok (.invokevirtual 220, 3) := by decide +kernel
theorem dX3_readAtom_223 : decode cX3_readAtom 223 = .ok (.aload_n 0, 1) := by decide +kernel
theorem dX3_readAtom_224 : decode cX3_readAtom 224 = .ok (.getstatic 269, 3) := by decide +kernel
theorem dX3_readAtom_227 : decode cX3_readAtom 227 = .ok (.invokevirtual 52, 3) := by decide +kernel
theorem dX3_readAtom_230 : decode cX3_readAtom 230 = .ok (.return_, 1) := by decide +kernel
