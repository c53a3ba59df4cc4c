theorem dX9_init_0 : decode cX9_init 0 = .ok (.aload_n 0, 1) := by decide +kernel
theorem dX9_init_1 : decode cX9_init 1 = .ok (.invokespecial 3, 3) := by decide +kernel
theorem dX9_init_4 : decode cX9_init 4 = .ok (.aload_n 0, 1) := by decide +kernel
theorem dX9_init_5 : decode cX9_init 5 = .ok (.sipush 901, 3) := by decide +kernel
theorem dX9_init_8 : decode cX9_init 8 = .ok (.anewarray 9, 3) := by decide +kernel
theorem dX9_init_11 : decode cX9_init 11 = .ok (.putfield 11, 3) := by decide +kernel
theorem dX9_init_14 : decode cX9_init 14 = .ok (.aload_n 0, 1) := by decide +kernel
theorem dX9_init_15 : decode cX9_init 15 = .ok (.sipush 901, 3) := by decide +kernel
theorem dX9_init_18 : decode cX9_init 18 = .ok (.newarray .int, 2) := by decide +kernel
theorem dX9_init_20 : decode cX9_init 20 = .ok (.putfield 17, 3) := by decide +kernel
theorem dX9_init_23 : decode cX9_init 23 = .ok (.aload_n 0, 1) := by decide +kernel
theorem dX9_init_24 : decode cX9_init 24 = .ok (.sipush 901, 3) := by decide +kernel
theorem dX9_init_27 : decode cX9_init 27 = .ok (.newarray .int, 2) := by decide +kernel
theorem dX9_init_29 : decode cX9_init 29 = .ok (.putfield 21, 3) := by decide +kernel
theorem dX9_init_32 : decode cX9_init 32 = .ok (.aload_n 0, 1) := by decide +kernel
theorem dX9_init_33 : decode cX9_init 33 = .ok (.iconst 0, 1) := by decide +kernel
theorem dX9_init_34 : decode cX9_init 34 = .ok (.newarray .byte, 2) := by decide +kernel
theorem dX9_init_36 : decode cX9_init 36 = .ok (.putfield 24, 3) := by decide +kernel
theorem dX9_init_39 : decode cX9_init 39 = .ok (.aload_n 0, 1) := by decide +kernel
theorem dX9_init_40 : decode cX9_init 40 = .ok (.getstatic 28, 3) := by decide +kernel
theorem dX9_init_43 : decode cX9_init 43 = .ok (.putfield 32, 3) := by decide +kernel
theorem dX9_init_46 : decode cX9_init 46 = .ok (.return_, 1) := by decide +kernel
theorem dX9_open_0 : decode cX9_open 0 = .ok (.aload_n 0, 1) := by decide +kernel
theorem dX9_open_1 : decode cX9_open 1 = .ok (.aload_n 1, 1) := by decide +kernel
theorem dX9_open_2 : decode cX9_open 2 = .ok (.putfield 24, 3) := by decide +kernel
theorem dX9_open_5 : decode cX9_open 5 = .ok (.aload_n 0, 1) := by decide +kernel
theorem dX9_open_6 : decode cX9_open 6 = .ok (.iload_n 2, 1) := by decide +kernel
theorem dX9_open_7 : decode cX9_open 7 = .ok (.aload_n 1, 1) := by decide +kernel
theorem dX9_open_8 : decode cX9_open 8 = .ok (.arraylength, 1) := by decide +kernel
theorem dX9_open_9 : decode cX9_open 9 = .ok (.invokestatic 35, 3) := by decide +kernel
theorem dX9_open_12 : decode cX9_open 12 = .ok (.sipush 900, 3) := by decide +kernel
theorem dX9_open_15 : decode cX9_open 15 = .ok (.invokestatic 35, 3) := by decide +kernel
theorem dX9_open_18 : decode cX9_open 18 = .ok (.putfield 41, 3) := by decide +kernel
theorem dX9_open_21 : decode cX9_open 21 = .ok (.aload_n 0, 1) := by decide +kernel
theorem dX9_open_22 : decode cX9_open 22 = .ok (.iconst 0, 1) := by decide +kernel
theorem dX9_open_23 : decode cX9_open 23 = .ok (.putfield 45, 3) := by decide +kernel
theorem dX9_open_26 : decode cX9_open 26 = .ok (.aload_n 0, 1) := by decide +kernel
theorem dX9_open_27 : decode cX9_open 27 = .ok (.iconst (-1), 1) := by decide +kernel
theorem dX9_open_28 : decode cX9_open 28 = .ok (.putfield 48, 3) := by decide +kernel
theorem dX9_open_31 : decode cX9_open 31 = .ok (.aload_n 0, 1) := by decide +kernel
theorem dX9_open_32 : decode cX9_open 32 = .ok (.iconst 0, 1) := by decide +kernel
theorem dX9_open_33 : decode cX9_open 33 = .ok (.putfield 51, 3) := by decide +kernel
theorem dX9_open_36 : decode cX9_open 36 = .ok (.getstatic 54, 3) := by decide +kernel
theorem dX9_open_39 : decode cX9_open 39 = .ok (.astore_n 3, 1) := by decide +kernel
theorem dX9_open_40 : decode cX9_open 40 = .ok (.iconst 0, 1) := by decide +kernel
theorem dX9_open_41 : decode cX9_open 41 = .ok (.istore 4, 2) := by decide +kernel
theorem dX9_open_43 : decode cX9_open 43 = .ok (.iload 4, 2) := by decide +kernel
theorem dX9_open_45 : decode cX9_open 45 = .ok (.sipush 900, 3) := by decide +kernel
theorem dX9_open_48 : decode cX9_open 48 = .ok (.if_icmp .gt 65, 3) := by decide +kernel
theorem dX9_open_51 : decode cX9_open 51 = .ok (.aload_n 3, 1) := by decide +kernel
theorem dX9_open_52 : decode cX9_open 52 = .ok (.getstatic 28, 3) := by decide +kernel
theorem dX9_open_55 : decode cX9_open 55 = .ok (.if_acmp .eq 58, 3) := by decide +kernel
theorem dX9_open_58 : decode cX9_open 58 = .ok (.aload_n 0, 1) := by decide +kernel
theorem dX9_open_59 : decode cX9_open 59 = .ok (.invokevirtual 57, 3) := by decide +kernel
theorem dX9_open_62 : decode cX9_open 62 = .ok (.aload_n 0, 1) := by decide +kernel
theorem dX9_open_63 : decode cX9_open 63 = .ok (.getfield 17, 3) := by decide +kernel
theorem dX9_open_66 : decode cX9_open 66 = .ok (.iload 4, 2) := by decide +kernel
theorem dX9_open_68 : decode cX9_open 68 = .ok (.aload_n 0, 1) := by decide +kernel
theorem dX9_open_69 : decode cX9_open 69 = .ok (.getfield 45, 3) := by decide +kernel
theorem dX9_open_72 : decode cX9_open 72 = .ok (.iastore, 1) := by decide +kernel
theorem dX9_open_73 : decode cX9_open 73 = .ok (.aload_n 0, 1) := by decide +kernel
theorem dX9_open_74 : decode cX9_open 74 = .ok (.invokevirtual 60, 3) := by decide +kernel
theorem dX9_open_77 : decode cX9_open 77 = .ok (.astore_n 3, 1) := by decide +kernel
theorem dX9_open_78 : decode cX9_open 78 = .ok (.aload_n 0, 1) := by decide +kernel
theorem dX9_open_79 : decode cX9_open 79 = .ok (.getfield 11, 3) := by decide +kernel
theorem dX9_open_82 : decode cX9_open 82 = .ok (.iload 4, 2) := by decide +kernel
theorem dX9_open_84 : decode cX9_open 84 = .ok (.aload_n 3, 1) := by decide +kernel
theorem dX9_open_85 : decode cX9_open 85 = .ok (.aastore, 1) := by decide +kernel
theorem dX9_open_86 : decode cX9_open 86 = .ok (.aload_n 0, 1) := by decide +kernel
theorem dX9_open_87 : decode cX9_open 87 = .ok (.getfield 21, 3) := by decide +kernel
theorem dX9_open_90 : decode cX9_open 90 = .ok (.iload 4, 2) := by decide +kernel
theorem dX9_open_92 : decode cX9_open 92 = .ok (.aload_n 0, 1) := by decide +kernel
theorem dX9_open_93 : decode cX9_open 93 = .ok (.getfield 64, 3) := by decide +kernel
theorem dX9_open_96 : decode cX9_open 96 = .ok (.iastore, 1) := by decide +kernel
theorem dX9_open_97 : decode cX9_open 97 = .ok (.aload_n 0, 1) := by decide +kernel
theorem dX9_open_98 : decode cX9_open 98 = .ok (.dup, 1) := by decide +kernel
theorem dX9_open_99 : decode cX9_open 99 = .ok (.getfield 51, 3) := by decide +kernel
theorem dX9_open_102 : decode cX9_open 102 = .ok (.iconst 1, 1) := by decide +kernel
theorem dX9_open_103 : decode cX9_open 103 = .ok (.iadd, 1) := by decide +kernel
theorem dX9_open_104 : decode cX9_open 104 = .ok (.putfield 51, 3) := by decide +kernel
theorem dX9_open_107 : decode cX9_open 107 = .ok (.iinc 4 1, 3) := by decide +kernel
theorem dX9_open_110 : decode cX9_open 110 = .ok (.goto (-67), 3) := by decide +kernel
theorem dX9_open_113 : decode cX9_open 113 = .ok (.aload_n 0, 1) := by decide +kernel
theorem dX9_open_114 : decode cX9_open 114 = .ok (.invokevirtual 67, 3) := by decide +kernel
theorem dX9_open_117 : decode cX9_open 117 = .ok (.return_, 1) := by decide +kernel
theorem dX9_next_0 : decode cX9_next 0 = .ok (.aload_n 0, 1) := by decide +kernel
theorem dX9_next_1 : decode cX9_next 1 = .ok (.getfield 48, 3) := by decide +kernel
theorem dX9_next_4 : decode cX9_next 4 = .ok (.iconst 1, 1) := by decide +kernel
theorem dX9_next_5 : decode cX9_next 5 = .ok (.iadd, 1) := by decide +kernel
theorem dX9_next_6 : decode cX9_next 6 = .ok (.aload_n 0, 1) := by decide +kernel
theorem dX9_next_7 : decode cX9_next 7 = .ok (.getfield 51, 3) := by decide +kernel
theorem dX9_next_10 : decode cX9_next 10 = .ok (.if_icmp .ge 52, 3) := by decide +kernel
theorem dX9_next_13 : decode cX9_next 13 = .ok (.aload_n 0, 1) := by decide +kernel
theorem dX9_next_14 : decode cX9_next 14 = .ok (.dup, 1) := by decide +kernel
theorem dX9_next_15 : decode cX9_next 15 = .ok (.getfield 48, 3) := by decide +kernel
theorem dX9_next_18 : decode cX9_next 18 = .ok (.iconst 1, 1) := by decide +kernel
theorem dX9_next_19 : decode cX9_next 19 = .ok (.iadd, 1) := by decide +kernel
theorem dX9_next_20 : decode cX9_next 20 = .ok (.putfield 48, 3) := by decide +kernel
theorem dX9_next_23 : decode cX9_next 23 = .ok (.aload_n 0, 1) := by decide +kernel
theorem dX9_next_24 : decode cX9_next 24 = .ok (.aload_n 0, 1) := by decide +kernel
theorem dX9_next_25 : decode cX9_next 25 = .ok (.getfield 11, 3) := by decide +kernel
theorem dX9_next_28 : decode cX9_next 28 = .ok (.aload_n 0, 1) := by decide +kernel
theorem dX9_next_29 : decode cX9_next 29 = .ok (.getfield 48, 3) := by decide +kernel
theorem dX9_next_32 : decode cX9_next 32 = .ok (.aaload, 1) := by decide +kernel
theorem dX9_next_33 : decode cX9_next 33 = .ok (.putfield 32, 3) := by decide +kernel
theorem dX9_next_36 : decode cX9_next 36 = .ok (.aload_n 0, 1) := by decide +kernel
theorem dX9_next_37 : decode cX9_next 37 = .ok (.aload_n 0, 1) := by decide +kernel
theorem dX9_next_38 : decode cX9_next 38 = .ok (.getfield 17, 3) := by decide +kernel
theorem dX9_next_41 : decode cX9_next 41 = .ok (.aload_n 0, 1) := by decide +kernel
theorem dX9_next_42 : decode cX9_next 42 = .ok (.getfield 48, 3) := by decide +kernel
theorem dX9_next_45 : decode cX9_next 45 = .ok (.iaload, 1) := by decide +kernel
theorem dX9_next_46 : decode cX9_next 46 = .ok (.putfield 70, 3) := by decide +kernel
theorem dX9_next_49 : decode cX9_next 49 = .ok (.aload_n 0, 1) := by decide +kernel
theorem dX9_next_50 : decode cX9_next 50 = .ok (.aload_n 0, 1) := by decide +kernel
theorem dX9_next_51 : decode cX9_next 51 = .ok (.getfield 21, 3) := by decide +kernel
theorem dX9_next_54 : decode cX9_next 54 = .ok (.aload_n 0, 1) := by decide +kernel
theorem dX9_next_55 : decode cX9_next 55 = .ok (.getfield 48, 3) := by decide +kernel
theorem dX9_next_58 : decode cX9_next 58 = .ok (.iaload, 1) := by decide +kernel
theorem dX9_next_59 : decode cX9_next 59 = .ok (.putfield 64, 3) := by decide +kernel
theorem dX9_next_62 : decode cX9_next 62 = .ok (.return_, 1) := by decide +kernel
theorem dX9_skipBlanks_0 : decode cX9_skipBlanks 0 = .ok (.aload_n 0, 1) := by decide +kernel
theorem dX9_skipBlanks_1 : decode cX9_skipBlanks 1 = .ok (.getfield 45, 3) := by decide +kernel
theorem dX9_skipBlanks_4 : decode cX9_skipBlanks 4 = .ok (.aload_n 0, 1) := by decide +kernel
theorem dX9_skipBlanks_5 : decode cX9_skipBlanks 5 = .ok (.getfield 41, 3) := by decide +kernel
theorem dX9_skipBlanks_8 : decode cX9_skipBlanks 8 = .ok (.if_icmp .ge 44, 3) := by decide +kernel
theorem dX9_skipBlanks_11 : decode cX9_skipBlanks 11 = .ok (.aload_n 0, 1) := by decide +kernel
theorem dX9_skipBlanks_12 : decode cX9_skipBlanks 12 = .ok (.getfield 24, 3) := by decide +kernel
theorem dX9_skipBlanks_15 : decode cX9_skipBlanks 15 = .ok (.aload_n 0, 1) := by decide +kernel
theorem dX9_skipBlanks_16 : decode cX9_skipBlanks 16 = .ok (.getfield 45, 3) := by decide +kernel
theorem dX9_skipBlanks_19 : decode cX9_skipBlanks 19 = .ok (.baload, 1) := by decide +kernel
theorem dX9_skipBlanks_20 : decode cX9_skipBlanks 20 = .ok (.bipush 10, 2) := by decide +kernel
theorem dX9_skipBlanks_22 : decode cX9_skipBlanks 22 = .ok (.if_icmp .eq 17, 3) := by decide +kernel
theorem dX9_skipBlanks_25 : decode cX9_skipBlanks 25 = .ok (.aload_n 0, 1) := by decide +kernel
theorem dX9_skipBlanks_26 : decode cX9_skipBlanks 26 = .ok (.getfield 24, 3) := by decide +kernel
theorem dX9_skipBlanks_29 : decode cX9_skipBlanks 29 = .ok (.aload_n 0, 1) := by decide +kernel
theorem dX9_skipBlanks_30 : decode cX9_skipBlanks 30 = .ok (.getfield 45, 3) := by decide +kernel
theorem dX9_skipBlanks_33 : decode cX9_skipBlanks 33 = .ok (.baload, 1) := by decide +kernel
theorem dX9_skipBlanks_34 : decode cX9_skipBlanks 34 = .ok (.bipush 32, 2) := by decide +kernel
theorem dX9_skipBlanks_36 : decode cX9_skipBlanks 36 = .ok (.if_icmp .ne 16, 3) := by decide +kernel
theorem dX9_skipBlanks_39 : decode cX9_skipBlanks 39 = .ok (.aload_n 0, 1) := by decide +kernel
theorem dX9_skipBlanks_40 : decode cX9_skipBlanks 40 = .ok (.dup, 1) := by decide +kernel
theorem dX9_skipBlanks_41 : decode cX9_skipBlanks 41 = .ok (.getfield 45, 3) := by decide +kernel
theorem dX9_skipBlanks_44 : decode cX9_skipBlanks 44 = .ok (.iconst 1, 1) := by decide +kernel
theorem dX9_skipBlanks_45 : decode cX9_skipBlanks 45 = .ok (.iadd, 1) := by decide +kernel
theorem dX9_skipBlanks_46 : decode cX9_skipBlanks 46 = .ok (.putfield 45, 3) := by decide +kernel
theorem dX9_skipBlanks_49 : decode cX9_skipBlanks 49 = .ok (.goto (-49), 3) := by decide +kernel
theorem dX9_skipBlanks_52 : decode cX9_skipBlanks 52 = .ok (.return_, 1) := by decide +kernel
theorem dX9_scan_0 : decode cX9_scan 0 = .ok (.aload_n 0, 1) := by decide +kernel
theorem dX9_scan_1 : decode cX9_scan 1 = .ok (.getfield 45, 3) := by decide +kernel
theorem dX9_scan_4 : decode cX9_scan 4 = .ok (.istore_n 1, 1) := by decide +kernel
theorem dX9_scan_5 : decode cX9_scan 5 = .ok (.aload_n 0, 1) := by decide +kernel
theorem dX9_scan_6 : decode cX9_scan 6 = .ok (.iconst 0, 1) := by decide +kernel
theorem dX9_scan_7 : decode cX9_scan 7 = .ok (.putfield 64, 3) := by decide +kernel
theorem dX9_scan_10 : decode cX9_scan 10 = .ok (.aload_n 0, 1) := by decide +kernel
theorem dX9_scan_11 : decode cX9_scan 11 = .ok (.getfield 45, 3) := by decide +kernel
theorem dX9_scan_14 : decode cX9_scan 14 = .ok (.aload_n 0, 1) := by decide +kernel
theorem dX9_scan_15 : decode cX9_scan 15 = .ok (.getfield 41, 3) := by decide +kernel
theorem dX9_scan_18 : decode cX9_scan 18 = .ok (.if_icmp .lt 7, 3) := by decide +kernel
theorem dX9_scan_21 : decode cX9_scan 21 = .ok (.getstatic 28, 3) := by decide +kernel
theorem dX9_scan_24 : decode cX9_scan 24 = .ok (.areturn, 1) := by decide +kernel
theorem dX9_scan_25 : decode cX9_scan 25 = .ok (.aload_n 0, 1) := by decide +kernel
theorem dX9_scan_26 : decode cX9_scan 26 = .ok (.getfield 24, 3) := by decide +kernel
theorem dX9_scan_29 : decode cX9_scan 29 = .ok (.aload_n 0, 1) := by decide +kernel
theorem dX9_scan_30 : decode cX9_scan 30 = .ok (.getfield 45, 3) := by decide +kernel
theorem dX9_scan_33 : decode cX9_scan 33 = .ok (.baload, 1) := by decide +kernel
theorem dX9_scan_34 : decode cX9_scan 34 = .ok (.invokestatic 73, 3) := by decide +kernel
theorem dX9_scan_37 : decode cX9_scan 37 = .ok (.ifCond .eq 8, 3) := by decide +kernel
theorem dX9_scan_40 : decode cX9_scan 40 = .ok (.aload_n 0, 1) := by decide +kernel
theorem dX9_scan_41 : decode cX9_scan 41 = .ok (.invokevirtual 77, 3) := by decide +kernel
theorem dX9_scan_44 : decode cX9_scan 44 = .ok (.areturn, 1) := by decide +kernel
theorem dX9_scan_45 : decode cX9_scan 45 = .ok (.aload_n 0, 1) := by decide +kernel
theorem dX9_scan_46 : decode cX9_scan 46 = .ok (.getfield 24, 3) := by decide +kernel
theorem dX9_scan_49 : decode cX9_scan 49 = .ok (.aload_n 0, 1) := by decide +kernel
theorem dX9_scan_50 : decode cX9_scan 50 = .ok (.getfield 45, 3) := by decide +kernel
theorem dX9_scan_53 : decode cX9_scan 53 = .ok (.baload, 1) := by decide +kernel
theorem dX9_scan_54 : decode cX9_scan 54 = .ok (.invokestatic 80, 3) := by decide +kernel
theorem dX9_scan_57 : decode cX9_scan 57 = .ok (.ifCond .eq 58, 3) := by decide +kernel
theorem dX9_scan_60 : decode cX9_scan 60 = .ok (.aload_n 0, 1) := by decide +kernel
theorem dX9_scan_61 : decode cX9_scan 61 = .ok (.getfield 45, 3) := by decide +kernel
theorem dX9_scan_64 : decode cX9_scan 64 = .ok (.aload_n 0, 1) := by decide +kernel
theorem dX9_scan_65 : decode cX9_scan 65 = .ok (.getfield 41, 3) := by decide +kernel
theorem dX9_scan_68 : decode cX9_scan 68 = .ok (.if_icmp .ge 31, 3) := by decide +kernel
theorem dX9_scan_71 : decode cX9_scan 71 = .ok (.aload_n 0, 1) := by decide +kernel
theorem dX9_scan_72 : decode cX9_scan 72 = .ok (.getfield 24, 3) := by decide +kernel
theorem dX9_scan_75 : decode cX9_scan 75 = .ok (.aload_n 0, 1) := by decide +kernel
theorem dX9_scan_76 : decode cX9_scan 76 = .ok (.getfield 45, 3) := by decide +kernel
theorem dX9_scan_79 : decode cX9_scan 79 = .ok (.baload, 1) := by decide +kernel
theorem dX9_scan_80 : decode cX9_scan 80 = .ok (.invokestatic 80, 3) := by decide +kernel
theorem dX9_scan_83 : decode cX9_scan 83 = .ok (.ifCond .eq 16, 3) := by decide +kernel
theorem dX9_scan_86 : decode cX9_scan 86 = .ok (.aload_n 0, 1) := by decide +kernel
theorem dX9_scan_87 : decode cX9_scan 87 = .ok (.dup, 1) := by decide +kernel
theorem dX9_scan_88 : decode cX9_scan 88 = .ok (.getfield 45, 3) := by decide +kernel
theorem dX9_scan_91 : decode cX9_scan 91 = .ok (.iconst 1, 1) := by decide +kernel
theorem dX9_scan_92 : decode cX9_scan 92 = .ok (.iadd, 1) := by decide +kernel
theorem dX9_scan_93 : decode cX9_scan 93 = .ok (.putfield 45, 3) := by decide +kernel
theorem dX9_scan_96 : decode cX9_scan 96 = .ok (.goto (-36), 3) := by decide +kernel
theorem dX9_scan_99 : decode cX9_scan 99 = .ok (.aload_n 0, 1) := by decide +kernel
theorem dX9_scan_100 : decode cX9_scan 100 = .ok (.getfield 24, 3) := by decide +kernel
theorem dX9_scan_103 : decode cX9_scan 103 = .ok (.iload_n 1, 1) := by decide +kernel
theorem dX9_scan_104 : decode cX9_scan 104 = .ok (.aload_n 0, 1) := by decide +kernel
theorem dX9_scan_105 : decode cX9_scan 105 = .ok (.getfield 45, 3) := by decide +kernel
theorem dX9_scan_108 : decode cX9_scan 108 = .ok (.getstatic 83, 3) := by decide +kernel
theorem dX9_scan_111 : decode cX9_scan 111 = .ok (.invokestatic 86, 3) := by decide +kernel
theorem dX9_scan_114 : decode cX9_scan 114 = .ok (.areturn, 1) := by decide +kernel
theorem dX9_scan_115 : decode cX9_scan 115 = .ok (.aload_n 0, 1) := by decide +kernel
theorem dX9_scan_116 : decode cX9_scan 116 = .ok (.dup, 1) := by decide +kernel
theorem dX9_scan_117 : decode cX9_scan 117 = .ok (.getfield 45, 3) := by decide +kernel
theorem dX9_scan_120 : decode cX9_scan 120 = .ok (.iconst 1, 1) := by decide +kernel
theorem dX9_scan_121 : decode cX9_scan 121 = .ok (.iadd, 1) := by decide +kernel
theorem dX9_scan_122 : decode cX9_scan 122 = .ok (.putfield 45, 3) := by decide +kernel
theorem dX9_scan_125 : decode cX9_scan 125 = .ok (.aload_n 0, 1) := by decide +kernel
theorem dX9_scan_126 : decode cX9_scan 126 = .ok (.getfield 24, 3) := by decide +kernel
theorem dX9_scan_129 : decode cX9_scan 129 = .ok (.iload_n 1, 1) := by decide +kernel
theorem dX9_scan_130 : decode cX9_scan 130 = .ok (.aload_n 0, 1) := by decide +kernel
theorem dX9_scan_131 : decode cX9_scan 131 = .ok (.getfield 45, 3) := by decide +kernel
theorem dX9_scan_134 : decode cX9_scan 134 = .ok (.getstatic 54, 3) := by decide +kernel
theorem dX9_scan_137 : decode cX9_scan 137 = .ok (.invokestatic 86, 3) := by decide +kernel
theorem dX9_scan_140 : decode cX9_scan 140 = .ok (.areturn, 1) := by decide +kernel
theorem dX9_scanNumber_0 : decode cX9_scanNumber 0 = .ok (.iconst 0, 1) := by decide +kernel
theorem dX9_scanNumber_1 : decode cX9_scanNumber 1 = .ok (.istore_n 1, 1) := by decide +kernel
theorem dX9_scanNumber_2 : decode cX9_scanNumber 2 = .ok (.aload_n 0, 1) := by decide +kernel
theorem dX9_scanNumber_3 : decode cX9_scanNumber 3 = .ok (.getfield 45, 3) := by decide +kernel
theorem dX9_scanNumber_6 : decode cX9_scanNumber 6 = .ok (.aload_n 0, 1) := by decide +kernel
theorem dX9_scanNumber_7 : decode cX9_scanNumber 7 = .ok (.getfield 41, 3) := by decide +kernel
theorem dX9_scanNumber_10 : decode cX9_scanNumber 10 = .ok (.if_icmp .ge 63, 3) := by decide +kernel
theorem dX9_scanNumber_13 : decode cX9_scanNumber 13 = .ok (.aload_n 0, 1) := by decide +kernel
theorem dX9_scanNumber_14 : decode cX9_scanNumber 14 = .ok (.getfield 24, 3) := by decide +kernel
theorem dX9_scanNumber_17 : decode cX9_scanNumber 17 = .ok (.aload_n 0, 1) := by decide +kernel
theorem dX9_scanNumber_18 : decode cX9_scanNumber 18 = .ok (.getfield 45, 3) := by decide +kernel
theorem dX9_scanNumber_21 : decode cX9_scanNumber 21 = .ok (.baload, 1) := by decide +kernel
theorem dX9_scanNumber_22 : decode cX9_scanNumber 22 = .ok (.invokestatic 73, 3) := by decide +kernel
theorem dX9_scanNumber_25 : decode cX9_scanNumber 25 = .ok (.ifCond .eq 48, 3) := by decide +kernel
theorem dX9_scanNumber_28 : decode cX9_scanNumber 28 = .ok (.iload_n 1, 1) := by decide +kernel
theorem dX9_scanNumber_29 : decode cX9_scanNumber 29 = .ok (.iconst 3, 1) := by decide +kernel
theorem dX9_scanNumber_30 : decode cX9_scanNumber 30 = .ok (.if_icmp .ge 27, 3) := by decide +kernel
theorem dX9_scanNumber_33 : decode cX9_scanNumber 33 = .ok (.aload_n 0, 1) := by decide +kernel
theorem dX9_scanNumber_34 : decode cX9_scanNumber 34 = .ok (.aload_n 0, 1) := by decide +kernel
theorem dX9_scanNumber_35 : decode cX9_scanNumber 35 = .ok (.getfield 64, 3) := by decide +kernel
theorem dX9_scanNumber_38 : decode cX9_scanNumber 38 = .ok (.bipush 10, 2) := by decide +kernel
theorem dX9_scanNumber_40 : decode cX9_scanNumber 40 = .ok (.imul, 1) := by decide +kernel
theorem dX9_scanNumber_41 : decode cX9_scanNumber 41 = .ok (.aload_n 0, 1) := by decide +kernel
theorem dX9_scanNumber_42 : decode cX9_scanNumber 42 = .ok (.getfield 24, 3) := by decide +kernel
theorem dX9_scanNumber_45 : decode cX9_scanNumber 45 = .ok (.aload_n 0, 1) := by decide +kernel
theorem dX9_scanNumber_46 : decode cX9_scanNumber 46 = .ok (.getfield 45, 3) := by decide +kernel
theorem dX9_scanNumber_49 : decode cX9_scanNumber 49 = .ok (.baload, 1) := by decide +kernel
theorem dX9_scanNumber_50 : decode cX9_scanNumber 50 = .ok (.iadd, 1) := by decide +kernel
theorem dX9_scanNumber_51 : decode cX9_scanNumber 51 = .ok (.bipush 48, 2) := by decide +kernel
theorem dX9_scanNumber_53 : decode cX9_scanNumber 53 = .ok (.isub, 1) := by decide +kernel
theorem dX9_scanNumber_54 : decode cX9_scanNumber 54 = .ok (.putfield 64, 3) := by decide +kernel
theorem dX9_scanNumber_57 : decode cX9_scanNumber 57 = .ok (.iinc 1 1, 3) := by decide +kernel
theorem dX9_scanNumber_60 : decode cX9_scanNumber 60 = .ok (.aload_n 0, 1) := by decide +kernel
theorem dX9_scanNumber_61 : decode cX9_scanNumber 61 = .ok (.dup, 1) := by decide +kernel
theorem dX9_scanNumber_62 : decode cX9_scanNumber 62 = .ok (.getfield 45, 3) := by decide +kernel
theorem dX9_scanNumber_65 : decode cX9_scanNumber 65 = .ok (.iconst 1, 1) := by decide +kernel
theorem dX9_scanNumber_66 : decode cX9_scanNumber 66 = .ok (.iadd, 1) := by decide +kernel
theorem dX9_scanNumber_67 : decode cX9_scanNumber 67 = .ok (.putfield 45, 3) := by decide +kernel
theorem dX9_scanNumber_70 : decode cX9_scanNumber 70 = .ok (.goto (-68), 3) := by decide +kernel
theorem dX9_scanNumber_73 : decode cX9_scanNumber 73 = .ok (.iload_n 1, 1) := by decide +kernel
theorem dX9_scanNumber_74 : decode cX9_scanNumber 74 = .ok (.iconst 3, 1) := by decide +kernel
theorem dX9_scanNumber_75 : decode cX9_scanNumber 75 = .ok (.if_icmp .le 9, 3) := by decide +kernel
theorem dX9_scanNumber_78 : decode cX9_scanNumber 78 = .ok (.getstatic 54, 3) := by decide +kernel
theorem dX9_scanNumber_81 : decode cX9_scanNumber 81 = .ok (.goto 6, 3) := by decide +kernel
theorem dX9_scanNumber_84 : decode cX9_scanNumber 84 = .ok (.getstatic 90, 3) := by decide +kernel
theorem dX9_scanNumber_87 : decode cX9_scanNumber 87 = .ok (.areturn, 1) := by decide +kernel
theorem dX9_isLetter_0 : decode cX9_isLetter 0 = .ok (.iload_n 0, 1) := by decide +kernel
theorem dX9_isLetter_1 : decode cX9_isLetter 1 = .ok (.bipush 97, 2) := by decide +kernel
theorem dX9_isLetter_3 : decode cX9_isLetter 3 = .ok (.if_icmp .lt 13, 3) := by decide +kernel
theorem dX9_isLetter_6 : decode cX9_isLetter 6 = .ok (.iload_n 0, 1) := by decide +kernel
theorem dX9_isLetter_7 : decode cX9_isLetter 7 = .ok (.bipush 122, 2) := by decide +kernel
theorem dX9_isLetter_9 : decode cX9_isLetter 9 = .ok (.if_icmp .gt 7, 3) := by decide +kernel
theorem dX9_isLetter_12 : decode cX9_isLetter 12 = .ok (.iconst 1, 1) := by decide +kernel
theorem dX9_isLetter_13 : decode cX9_isLetter 13 = .ok (.goto 4, 3) := by decide +kernel
theorem dX9_isLetter_16 : decode cX9_isLetter 16 = .ok (.iconst 0, 1) := by decide +kernel
theorem dX9_isLetter_17 : decode cX9_isLetter 17 = .ok (.ireturn, 1) := by decide +kernel
theorem dX9_isDigit_0 : decode cX9_isDigit 0 = .ok (.iload_n 0, 1) := by decide +kernel
theorem dX9_isDigit_1 : decode cX9_isDigit 1 = .ok (.bipush 48, 2) := by decide +kernel
theorem dX9_isDigit_3 : decode cX9_isDigit 3 = .ok (.if_icmp .lt 13, 3) := by decide +kernel
theorem dX9_isDigit_6 : decode cX9_isDigit 6 = .ok (.iload_n 0, 1) := by decide +kernel
theorem dX9_isDigit_7 : decode cX9_isDigit 7 = .ok (.bipush 57, 2) := by decide +kernel
theorem dX9_isDigit_9 : decode cX9_isDigit 9 = .ok (.if_icmp .gt 7, 3) := by decide +kernel
theorem dX9_isDigit_12 : decode cX9_isDigit 12 = .ok (.iconst 1, 1) := by decide +kernel
theorem dX9_isDigit_13 : decode cX9_isDigit 13 = .ok (.goto 4, 3) := by decide +kernel
theorem dX9_isDigit_16 : decode cX9_isDigit 16 = .ok (.iconst 0, 1) := by decide +kernel
theorem dX9_isDigit_17 : decode cX9_isDigit 17 = .ok (.ireturn, 1) := by decide +kernel
