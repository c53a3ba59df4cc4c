theorem dX11_init_0 : decode cX11_init 0 = .ok (.aload_n 0, 1) := by decide +kernel
theorem dX11_init_1 : decode cX11_init 1 = .ok (.invokespecial 3, 3) := by decide +kernel
theorem dX11_init_4 : decode cX11_init 4 = .ok (.aload_n 0, 1) := by decide +kernel
theorem dX11_init_5 : decode cX11_init 5 = .ok (.sipush 900, 3) := by decide +kernel
theorem dX11_init_8 : decode cX11_init 8 = .ok (.newarray .byte, 2) := by decide +kernel
theorem dX11_init_10 : decode cX11_init 10 = .ok (.putfield 9, 3) := by decide +kernel
theorem dX11_init_13 : decode cX11_init 13 = .ok (.aload_n 0, 1) := by decide +kernel
theorem dX11_init_14 : decode cX11_init 14 = .ok (.iconst (-1), 1) := by decide +kernel
theorem dX11_init_15 : decode cX11_init 15 = .ok (.putfield 13, 3) := by decide +kernel
theorem dX11_init_18 : decode cX11_init 18 = .ok (.aload_n 0, 1) := by decide +kernel
theorem dX11_init_19 : decode cX11_init 19 = .ok (.new 17, 3) := by decide +kernel
theorem dX11_init_22 : decode cX11_init 22 = .ok (.dup, 1) := by decide +kernel
theorem dX11_init_23 : decode cX11_init 23 = .ok (.invokespecial 19, 3) := by decide +kernel
theorem dX11_init_26 : decode cX11_init 26 = .ok (.putfield 20, 3) := by decide +kernel
theorem dX11_init_29 : decode cX11_init 29 = .ok (.aload_n 0, 1) := by decide +kernel
theorem dX11_init_30 : decode cX11_init 30 = .ok (.new 24, 3) := by decide +kernel
theorem dX11_init_33 : decode cX11_init 33 = .ok (.dup, 1) := by decide +kernel
theorem dX11_init_34 : decode cX11_init 34 = .ok (.invokespecial 26, 3) := by decide +kernel
theorem dX11_init_37 : decode cX11_init 37 = .ok (.putfield 27, 3) := by decide +kernel
theorem dX11_init_40 : decode cX11_init 40 = .ok (.aload_n 0, 1) := by decide +kernel
theorem dX11_init_41 : decode cX11_init 41 = .ok (.new 31, 3) := by decide +kernel
theorem dX11_init_44 : decode cX11_init 44 = .ok (.dup, 1) := by decide +kernel
theorem dX11_init_45 : decode cX11_init 45 = .ok (.invokespecial 33, 3) := by decide +kernel
theorem dX11_init_48 : decode cX11_init 48 = .ok (.putfield 34, 3) := by decide +kernel
theorem dX11_init_51 : decode cX11_init 51 = .ok (.aload_n 0, 1) := by decide +kernel
theorem dX11_init_52 : decode cX11_init 52 = .ok (.iconst 3, 1) := by decide +kernel
theorem dX11_init_53 : decode cX11_init 53 = .ok (.anewarray 31, 3) := by decide +kernel
theorem dX11_init_56 : decode cX11_init 56 = .ok (.putfield 38, 3) := by decide +kernel
theorem dX11_init_59 : decode cX11_init 59 = .ok (.aload_n 0, 1) := by decide +kernel
theorem dX11_init_60 : decode cX11_init 60 = .ok (.iconst 4, 1) := by decide +kernel
theorem dX11_init_61 : decode cX11_init 61 = .ok (.anewarray 42, 3) := by decide +kernel
theorem dX11_init_64 : decode cX11_init 64 = .ok (.putfield 44, 3) := by decide +kernel
theorem dX11_init_67 : decode cX11_init 67 = .ok (.aload_n 0, 1) := by decide +kernel
theorem dX11_init_68 : decode cX11_init 68 = .ok (.new 48, 3) := by decide +kernel
theorem dX11_init_71 : decode cX11_init 71 = .ok (.dup, 1) := by decide +kernel
theorem dX11_init_72 : decode cX11_init 72 = .ok (.invokespecial 50, 3) := by decide +kernel
theorem dX11_init_75 : decode cX11_init 75 = .ok (.putfield 51, 3) := by decide +kernel
theorem dX11_init_78 : decode cX11_init 78 = .ok (.aload_n 0, 1) := by decide +kernel
theorem dX11_init_79 : decode cX11_init 79 = .ok (.new 55, 3) := by decide +kernel
theorem dX11_init_82 : decode cX11_init 82 = .ok (.dup, 1) := by decide +kernel
theorem dX11_init_83 : decode cX11_init 83 = .ok (.invokespecial 57, 3) := by decide +kernel
theorem dX11_init_86 : decode cX11_init 86 = .ok (.putfield 58, 3) := by decide +kernel
theorem dX11_init_89 : decode cX11_init 89 = .ok (.aload_n 0, 1) := by decide +kernel
theorem dX11_init_90 : decode cX11_init 90 = .ok (.new 62, 3) := by decide +kernel
theorem dX11_init_93 : decode cX11_init 93 = .ok (.dup, 1) := by decide +kernel
theorem dX11_init_94 : decode cX11_init 94 = .ok (.invokespecial 64, 3) := by decide +kernel
theorem dX11_init_97 : decode cX11_init 97 = .ok (.putfield 65, 3) := by decide +kernel
theorem dX11_init_100 : decode cX11_init 100 = .ok (.aload_n 0, 1) := by decide +kernel
theorem dX11_init_101 : decode cX11_init 101 = .ok (.new 69, 3) := by decide +kernel
theorem dX11_init_104 : decode cX11_init 104 = .ok (.dup, 1) := by decide +kernel
theorem dX11_init_105 : decode cX11_init 105 = .ok (.invokespecial 71, 3) := by decide +kernel
theorem dX11_init_108 : decode cX11_init 108 = .ok (.putfield 72, 3) := by decide +kernel
theorem dX11_init_111 : decode cX11_init 111 = .ok (.iconst 0, 1) := by decide +kernel
theorem dX11_init_112 : decode cX11_init 112 = .ok (.istore_n 1, 1) := by decide +kernel
theorem dX11_init_113 : decode cX11_init 113 = .ok (.iload_n 1, 1) := by decide +kernel
theorem dX11_init_114 : decode cX11_init 114 = .ok (.iconst 4, 1) := by decide +kernel
theorem dX11_init_115 : decode cX11_init 115 = .ok (.if_icmp .ge 22, 3) := by decide +kernel
theorem dX11_init_118 : decode cX11_init 118 = .ok (.aload_n 0, 1) := by decide +kernel
theorem dX11_init_119 : decode cX11_init 119 = .ok (.getfield 44, 3) := by decide +kernel
theorem dX11_init_122 : decode cX11_init 122 = .ok (.iload_n 1, 1) := by decide +kernel
theorem dX11_init_123 : decode cX11_init 123 = .ok (.new 42, 3) := by decide +kernel
theorem dX11_init_126 : decode cX11_init 126 = .ok (.dup, 1) := by decide +kernel
theorem dX11_init_127 : decode cX11_init 127 = .ok (.invokespecial 76, 3) := by decide +kernel
theorem dX11_init_130 : decode cX11_init 130 = .ok (.aastore, 1) := by decide +kernel
theorem dX11_init_131 : decode cX11_init 131 = .ok (.iinc 1 1, 3) := by decide +kernel
theorem dX11_init_134 : decode cX11_init 134 = .ok (.goto (-21), 3) := by decide +kernel
theorem dX11_init_137 : decode cX11_init 137 = .ok (.return_, 1) := by decide +kernel
theorem dX11_feed_0 : decode cX11_feed 0 = .ok (.aload_n 0, 1) := by decide +kernel
theorem dX11_feed_1 : decode cX11_feed 1 = .ok (.getfield 77, 3) := by decide +kernel
theorem dX11_feed_4 : decode cX11_feed 4 = .ok (.bipush 20, 2) := by decide +kernel
theorem dX11_feed_6 : decode cX11_feed 6 = .ok (.iadd, 1) := by decide +kernel
theorem dX11_feed_7 : decode cX11_feed 7 = .ok (.sipush 900, 3) := by decide +kernel
theorem dX11_feed_10 : decode cX11_feed 10 = .ok (.if_icmp .le 5, 3) := by decide +kernel
theorem dX11_feed_13 : decode cX11_feed 13 = .ok (.iconst (-1), 1) := by decide +kernel
theorem dX11_feed_14 : decode cX11_feed 14 = .ok (.ireturn, 1) := by decide +kernel
theorem dX11_feed_15 : decode cX11_feed 15 = .ok (.aload_n 0, 1) := by decide +kernel
theorem dX11_feed_16 : decode cX11_feed 16 = .ok (.iload_n 1, 1) := by decide +kernel
theorem dX11_feed_17 : decode cX11_feed 17 = .ok (.invokevirtual 80, 3) := by decide +kernel
theorem dX11_feed_20 : decode cX11_feed 20 = .ok (.aload_n 0, 1) := by decide +kernel
theorem dX11_feed_21 : decode cX11_feed 21 = .ok (.iload_n 2, 1) := by decide +kernel
theorem dX11_feed_22 : decode cX11_feed 22 = .ok (.invokevirtual 80, 3) := by decide +kernel
theorem dX11_feed_25 : decode cX11_feed 25 = .ok (.aload_n 0, 1) := by decide +kernel
theorem dX11_feed_26 : decode cX11_feed 26 = .ok (.iload_n 3, 1) := by decide +kernel
theorem dX11_feed_27 : decode cX11_feed 27 = .ok (.invokevirtual 80, 3) := by decide +kernel
theorem dX11_feed_30 : decode cX11_feed 30 = .ok (.aload_n 0, 1) := by decide +kernel
theorem dX11_feed_31 : decode cX11_feed 31 = .ok (.iload 4, 2) := by decide +kernel
theorem dX11_feed_33 : decode cX11_feed 33 = .ok (.invokevirtual 80, 3) := by decide +kernel
theorem dX11_feed_36 : decode cX11_feed 36 = .ok (.aload_n 0, 1) := by decide +kernel
theorem dX11_feed_37 : decode cX11_feed 37 = .ok (.iload 5, 2) := by decide +kernel
theorem dX11_feed_39 : decode cX11_feed 39 = .ok (.invokevirtual 80, 3) := by decide +kernel
theorem dX11_feed_42 : decode cX11_feed 42 = .ok (.aload_n 0, 1) := by decide +kernel
theorem dX11_feed_43 : decode cX11_feed 43 = .ok (.getfield 77, 3) := by decide +kernel
theorem dX11_feed_46 : decode cX11_feed 46 = .ok (.ireturn, 1) := by decide +kernel
theorem dX11_putOnTape_0 : decode cX11_putOnTape 0 = .ok (.bipush 24, 2) := by decide +kernel
theorem dX11_putOnTape_2 : decode cX11_putOnTape 2 = .ok (.istore_n 2, 1) := by decide +kernel
theorem dX11_putOnTape_3 : decode cX11_putOnTape 3 = .ok (.iload_n 2, 1) := by decide +kernel
theorem dX11_putOnTape_4 : decode cX11_putOnTape 4 = .ok (.ifCond .lt 42, 3) := by decide +kernel
theorem dX11_putOnTape_7 : decode cX11_putOnTape 7 = .ok (.aload_n 0, 1) := by decide +kernel
theorem dX11_putOnTape_8 : decode cX11_putOnTape 8 = .ok (.getfield 77, 3) := by decide +kernel
theorem dX11_putOnTape_11 : decode cX11_putOnTape 11 = .ok (.sipush 900, 3) := by decide +kernel
theorem dX11_putOnTape_14 : decode cX11_putOnTape 14 = .ok (.if_icmp .ge 32, 3) := by decide +kernel
theorem dX11_putOnTape_17 : decode cX11_putOnTape 17 = .ok (.aload_n 0, 1) := by decide +kernel
theorem dX11_putOnTape_18 : decode cX11_putOnTape 18 = .ok (.getfield 9, 3) := by decide +kernel
theorem dX11_putOnTape_21 : decode cX11_putOnTape 21 = .ok (.aload_n 0, 1) := by decide +kernel
theorem dX11_putOnTape_22 : decode cX11_putOnTape 22 = .ok (.getfield 77, 3) := by decide +kernel
theorem dX11_putOnTape_25 : decode cX11_putOnTape 25 = .ok (.iload_n 1, 1) := by decide +kernel
theorem dX11_putOnTape_26 : decode cX11_putOnTape 26 = .ok (.iload_n 2, 1) := by decide +kernel
theorem dX11_putOnTape_27 : decode cX11_putOnTape 27 = .ok (.iushr, 1) := by decide +kernel
theorem dX11_putOnTape_28 : decode cX11_putOnTape 28 = .ok (.i2b, 1) := by decide +kernel
theorem dX11_putOnTape_29 : decode cX11_putOnTape 29 = .ok (.bastore, 1) := by decide +kernel
theorem dX11_putOnTape_30 : decode cX11_putOnTape 30 = .ok (.aload_n 0, 1) := by decide +kernel
theorem dX11_putOnTape_31 : decode cX11_putOnTape 31 = .ok (.dup, 1) := by decide +kernel
theorem dX11_putOnTape_32 : decode cX11_putOnTape 32 = .ok (.getfield 77, 3) := by decide +kernel
theorem dX11_putOnTape_35 : decode cX11_putOnTape 35 = .ok (.iconst 1, 1) := by decide +kernel
theorem dX11_putOnTape_36 : decode cX11_putOnTape 36 = .ok (.iadd, 1) := by decide +kernel
theorem dX11_putOnTape_37 : decode cX11_putOnTape 37 = .ok (.putfield 77, 3) := by decide +kernel
theorem dX11_putOnTape_40 : decode cX11_putOnTape 40 = .ok (.iinc 2 (-8), 3) := by decide +kernel
theorem dX11_putOnTape_43 : decode cX11_putOnTape 43 = .ok (.goto (-40), 3) := by decide +kernel
theorem dX11_putOnTape_46 : decode cX11_putOnTape 46 = .ok (.return_, 1) := by decide +kernel
theorem dX11_hall_0 : decode cX11_hall 0 = .ok (.iload_n 1, 1) := by decide +kernel
theorem dX11_hall_1 : decode cX11_hall 1 = .ok (.ifCond .lt 11, 3) := by decide +kernel
theorem dX11_hall_4 : decode cX11_hall 4 = .ok (.iload_n 1, 1) := by decide +kernel
theorem dX11_hall_5 : decode cX11_hall 5 = .ok (.aload_n 0, 1) := by decide +kernel
theorem dX11_hall_6 : decode cX11_hall 6 = .ok (.getfield 77, 3) := by decide +kernel
theorem dX11_hall_9 : decode cX11_hall 9 = .ok (.if_icmp .le 13, 3) := by decide +kernel
theorem dX11_hall_12 : decode cX11_hall 12 = .ok (.new 84, 3) := by decide +kernel
theorem dX11_hall_15 : decode cX11_hall 15 = .ok (.dup, 1) := by decide +kernel
theorem dX11_hall_16 : decode cX11_hall 16 = .ok (.ldc 86, 2) := by decide +kernel
theorem dX11_hall_18 : decode cX11_hall 18 = .ok (.invokespecial 88, 3) := by decide +kernel
theorem dX11_hall_21 : decode cX11_hall 21 = .ok (.athrow, 1) := by decide +kernel
theorem dX11_hall_22 : decode cX11_hall 22 = .ok (.aload_n 0, 1) := by decide +kernel
theorem dX11_hall_23 : decode cX11_hall 23 = .ok (.getfield 20, 3) := by decide +kernel
theorem dX11_hall_26 : decode cX11_hall 26 = .ok (.aload_n 0, 1) := by decide +kernel
theorem dX11_hall_27 : decode cX11_hall 27 = .ok (.getfield 9, 3) := by decide +kernel
theorem dX11_hall_30 : decode cX11_hall 30 = .ok (.iload_n 1, 1) := by decide +kernel
theorem dX11_hall_31 : decode cX11_hall 31 = .ok (.invokevirtual 91, 3) := by decide +kernel
theorem dX11_hall_34 : decode cX11_hall 34 = .ok (.astore_n 2, 1) := by decide +kernel
theorem dX11_hall_35 : decode cX11_hall 35 = .ok (.aload_n 0, 1) := by decide +kernel
theorem dX11_hall_36 : decode cX11_hall 36 = .ok (.iconst 0, 1) := by decide +kernel
theorem dX11_hall_37 : decode cX11_hall 37 = .ok (.putfield 77, 3) := by decide +kernel
theorem dX11_hall_40 : decode cX11_hall 40 = .ok (.aload_n 0, 1) := by decide +kernel
theorem dX11_hall_41 : decode cX11_hall 41 = .ok (.aload_n 0, 1) := by decide +kernel
theorem dX11_hall_42 : decode cX11_hall 42 = .ok (.getfield 20, 3) := by decide +kernel
theorem dX11_hall_45 : decode cX11_hall 45 = .ok (.getfield 95, 3) := by decide +kernel
theorem dX11_hall_48 : decode cX11_hall 48 = .ok (.putfield 98, 3) := by decide +kernel
theorem dX11_hall_51 : decode cX11_hall 51 = .ok (.aload_n 0, 1) := by decide +kernel
theorem dX11_hall_52 : decode cX11_hall 52 = .ok (.aload_n 0, 1) := by decide +kernel
theorem dX11_hall_53 : decode cX11_hall 53 = .ok (.getfield 20, 3) := by decide +kernel
theorem dX11_hall_56 : decode cX11_hall 56 = .ok (.getfield 101, 3) := by decide +kernel
theorem dX11_hall_59 : decode cX11_hall 59 = .ok (.putfield 13, 3) := by decide +kernel
theorem dX11_hall_62 : decode cX11_hall 62 = .ok (.aload_n 2, 1) := by decide +kernel
theorem dX11_hall_63 : decode cX11_hall 63 = .ok (.ifnonnull 11, 3) := by decide +kernel
theorem dX11_hall_66 : decode cX11_hall 66 = .ok (.bipush (-10), 2) := by decide +kernel
theorem dX11_hall_68 : decode cX11_hall 68 = .ok (.aload_n 0, 1) := by decide +kernel
theorem dX11_hall_69 : decode cX11_hall 69 = .ok (.getfield 98, 3) := by decide +kernel
theorem dX11_hall_72 : decode cX11_hall 72 = .ok (.isub, 1) := by decide +kernel
theorem dX11_hall_73 : decode cX11_hall 73 = .ok (.ireturn, 1) := by decide +kernel
theorem dX11_hall_74 : decode cX11_hall 74 = .ok (.aload_n 0, 1) := by decide +kernel
theorem dX11_hall_75 : decode cX11_hall 75 = .ok (.getfield 34, 3) := by decide +kernel
theorem dX11_hall_78 : decode cX11_hall 78 = .ok (.aload_n 2, 1) := by decide +kernel
theorem dX11_hall_79 : decode cX11_hall 79 = .ok (.aload_n 0, 1) := by decide +kernel
theorem dX11_hall_80 : decode cX11_hall 80 = .ok (.getfield 27, 3) := by decide +kernel
theorem dX11_hall_83 : decode cX11_hall 83 = .ok (.invokevirtual 104, 3) := by decide +kernel
theorem dX11_hall_86 : decode cX11_hall 86 = .ok (.aload_n 2, 1) := by decide +kernel
theorem dX11_hall_87 : decode cX11_hall 87 = .ok (.getfield 108, 3) := by decide +kernel
theorem dX11_hall_90 : decode cX11_hall 90 = .ok (.ireturn, 1) := by decide +kernel
theorem dX11_fault_0 : decode cX11_fault 0 = .ok (.iload_n 1, 1) := by decide +kernel
theorem dX11_fault_1 : decode cX11_fault 1 = .ok (.ifCond .ne 10, 3) := by decide +kernel
theorem dX11_fault_4 : decode cX11_fault 4 = .ok (.aload_n 0, 1) := by decide +kernel
theorem dX11_fault_5 : decode cX11_fault 5 = .ok (.getfield 98, 3) := by decide +kernel
theorem dX11_fault_8 : decode cX11_fault 8 = .ok (.goto 16, 3) := by decide +kernel
theorem dX11_fault_11 : decode cX11_fault 11 = .ok (.iload_n 1, 1) := by decide +kernel
theorem dX11_fault_12 : decode cX11_fault 12 = .ok (.iconst 1, 1) := by decide +kernel
theorem dX11_fault_13 : decode cX11_fault 13 = .ok (.if_icmp .ne 10, 3) := by decide +kernel
theorem dX11_fault_16 : decode cX11_fault 16 = .ok (.aload_n 0, 1) := by decide +kernel
theorem dX11_fault_17 : decode cX11_fault 17 = .ok (.getfield 13, 3) := by decide +kernel
theorem dX11_fault_20 : decode cX11_fault 20 = .ok (.goto 4, 3) := by decide +kernel
theorem dX11_fault_23 : decode cX11_fault 23 = .ok (.iconst (-1), 1) := by decide +kernel
theorem dX11_fault_24 : decode cX11_fault 24 = .ok (.ireturn, 1) := by decide +kernel
theorem dX11_mark_0 : decode cX11_mark 0 = .ok (.aload_n 0, 1) := by decide +kernel
theorem dX11_mark_1 : decode cX11_mark 1 = .ok (.iload_n 1, 1) := by decide +kernel
theorem dX11_mark_2 : decode cX11_mark 2 = .ok (.invokevirtual 113, 3) := by decide +kernel
theorem dX11_mark_5 : decode cX11_mark 5 = .ok (.aload_n 0, 1) := by decide +kernel
theorem dX11_mark_6 : decode cX11_mark 6 = .ok (.iload_n 2, 1) := by decide +kernel
theorem dX11_mark_7 : decode cX11_mark 7 = .ok (.invokevirtual 116, 3) := by decide +kernel
theorem dX11_mark_10 : decode cX11_mark 10 = .ok (.aload_n 0, 1) := by decide +kernel
theorem dX11_mark_11 : decode cX11_mark 11 = .ok (.getfield 34, 3) := by decide +kernel
theorem dX11_mark_14 : decode cX11_mark 14 = .ok (.getfield 119, 3) := by decide +kernel
theorem dX11_mark_17 : decode cX11_mark 17 = .ok (.iload_n 1, 1) := by decide +kernel
theorem dX11_mark_18 : decode cX11_mark 18 = .ok (.iload_n 2, 1) := by decide +kernel
theorem dX11_mark_19 : decode cX11_mark 19 = .ok (.invokevirtual 122, 3) := by decide +kernel
theorem dX11_mark_22 : decode cX11_mark 22 = .ok (.istore 4, 2) := by decide +kernel
theorem dX11_mark_24 : decode cX11_mark 24 = .ok (.iload_n 3, 1) := by decide +kernel
theorem dX11_mark_25 : decode cX11_mark 25 = .ok (.ifCond .eq 32, 3) := by decide +kernel
theorem dX11_mark_28 : decode cX11_mark 28 = .ok (.aload_n 0, 1) := by decide +kernel
theorem dX11_mark_29 : decode cX11_mark 29 = .ok (.getfield 34, 3) := by decide +kernel
theorem dX11_mark_32 : decode cX11_mark 32 = .ok (.getfield 119, 3) := by decide +kernel
theorem dX11_mark_35 : decode cX11_mark 35 = .ok (.getfield 126, 3) := by decide +kernel
theorem dX11_mark_38 : decode cX11_mark 38 = .ok (.ifCond .eq 19, 3) := by decide +kernel
theorem dX11_mark_41 : decode cX11_mark 41 = .ok (.aload_n 0, 1) := by decide +kernel
theorem dX11_mark_42 : decode cX11_mark 42 = .ok (.getfield 34, 3) := by decide +kernel
theorem dX11_mark_45 : decode cX11_mark 45 = .ok (.getfield 130, 3) := by decide +kernel
theorem dX11_mark_48 : decode cX11_mark 48 = .ok (.iload_n 2, 1) := by decide +kernel
theorem dX11_mark_49 : decode cX11_mark 49 = .ok (.iload 4, 2) := by decide +kernel
theorem dX11_mark_51 : decode cX11_mark 51 = .ok (.invokevirtual 134, 3) := by decide +kernel
theorem dX11_mark_54 : decode cX11_mark 54 = .ok (.goto 5, 3) := by decide +kernel
theorem dX11_mark_57 : decode cX11_mark 57 = .ok (.iload 4, 2) := by decide +kernel
theorem dX11_mark_59 : decode cX11_mark 59 = .ok (.ireturn, 1) := by decide +kernel
theorem dX11_chest_0 : decode cX11_chest 0 = .ok (.aload_n 0, 1) := by decide +kernel
theorem dX11_chest_1 : decode cX11_chest 1 = .ok (.iload_n 1, 1) := by decide +kernel
theorem dX11_chest_2 : decode cX11_chest 2 = .ok (.invokevirtual 113, 3) := by decide +kernel
theorem dX11_chest_5 : decode cX11_chest 5 = .ok (.aload_n 0, 1) := by decide +kernel
theorem dX11_chest_6 : decode cX11_chest 6 = .ok (.iload_n 2, 1) := by decide +kernel
theorem dX11_chest_7 : decode cX11_chest 7 = .ok (.iconst 2, 1) := by decide +kernel
theorem dX11_chest_8 : decode cX11_chest 8 = .ok (.invokevirtual 137, 3) := by decide +kernel
theorem dX11_chest_11 : decode cX11_chest 11 = .ok (.iload_n 2, 1) := by decide +kernel
theorem dX11_chest_12 : decode cX11_chest 12 = .ok (.ifCond .ne 23, 3) := by decide +kernel
theorem dX11_chest_15 : decode cX11_chest 15 = .ok (.aload_n 0, 1) := by decide +kernel
theorem dX11_chest_16 : decode cX11_chest 16 = .ok (.getfield 34, 3) := by decide +kernel
theorem dX11_chest_19 : decode cX11_chest 19 = .ok (.getfield 119, 3) := by decide +kernel
theorem dX11_chest_22 : decode cX11_chest 22 = .ok (.iload_n 1, 1) := by decide +kernel
theorem dX11_chest_23 : decode cX11_chest 23 = .ok (.invokevirtual 141, 3) := by decide +kernel
theorem dX11_chest_26 : decode cX11_chest 26 = .ok (.ifCond .eq 7, 3) := by decide +kernel
theorem dX11_chest_29 : decode cX11_chest 29 = .ok (.iconst 1, 1) := by decide +kernel
theorem dX11_chest_30 : decode cX11_chest 30 = .ok (.goto 4, 3) := by decide +kernel
theorem dX11_chest_33 : decode cX11_chest 33 = .ok (.iconst 0, 1) := by decide +kernel
theorem dX11_chest_34 : decode cX11_chest 34 = .ok (.ireturn, 1) := by decide +kernel
theorem dX11_chest_35 : decode cX11_chest 35 = .ok (.iload_n 2, 1) := by decide +kernel
theorem dX11_chest_36 : decode cX11_chest 36 = .ok (.iconst 1, 1) := by decide +kernel
theorem dX11_chest_37 : decode cX11_chest 37 = .ok (.if_icmp .ne 17, 3) := by decide +kernel
theorem dX11_chest_40 : decode cX11_chest 40 = .ok (.aload_n 0, 1) := by decide +kernel
theorem dX11_chest_41 : decode cX11_chest 41 = .ok (.getfield 34, 3) := by decide +kernel
theorem dX11_chest_44 : decode cX11_chest 44 = .ok (.getfield 119, 3) := by decide +kernel
theorem dX11_chest_47 : decode cX11_chest 47 = .ok (.iload_n 1, 1) := by decide +kernel
theorem dX11_chest_48 : decode cX11_chest 48 = .ok (.invokevirtual 145, 3) := by decide +kernel
theorem dX11_chest_51 : decode cX11_chest 51 = .ok (.goto 17, 3) := by decide +kernel
theorem dX11_chest_54 : decode cX11_chest 54 = .ok (.aload_n 0, 1) := by decide +kernel
theorem dX11_chest_55 : decode cX11_chest 55 = .ok (.getfield 34, 3) := by decide +kernel
theorem dX11_chest_58 : decode cX11_chest 58 = .ok (.getfield 119, 3) := by decide +kernel
theorem dX11_chest_61 : decode cX11_chest 61 = .ok (.iload_n 1, 1) := by decide +kernel
theorem dX11_chest_62 : decode cX11_chest 62 = .ok (.invokevirtual 149, 3) := by decide +kernel
theorem dX11_chest_65 : decode cX11_chest 65 = .ok (.invokestatic 152, 3) := by decide +kernel
theorem dX11_chest_68 : decode cX11_chest 68 = .ok (.ireturn, 1) := by decide +kernel
theorem dX11_word_0 : decode cX11_word 0 = .ok (.aload_n 0, 1) := by decide +kernel
theorem dX11_word_1 : decode cX11_word 1 = .ok (.iload_n 1, 1) := by decide +kernel
theorem dX11_word_2 : decode cX11_word 2 = .ok (.invokevirtual 157, 3) := by decide +kernel
theorem dX11_word_5 : decode cX11_word 5 = .ok (.aload_n 0, 1) := by decide +kernel
theorem dX11_word_6 : decode cX11_word 6 = .ok (.iload_n 2, 1) := by decide +kernel
theorem dX11_word_7 : decode cX11_word 7 = .ok (.iconst 3, 1) := by decide +kernel
theorem dX11_word_8 : decode cX11_word 8 = .ok (.invokevirtual 137, 3) := by decide +kernel
theorem dX11_word_11 : decode cX11_word 11 = .ok (.iload_n 2, 1) := by decide +kernel
theorem dX11_word_12 : decode cX11_word 12 = .ok (.ifCond .ne 16, 3) := by decide +kernel
theorem dX11_word_15 : decode cX11_word 15 = .ok (.aload_n 0, 1) := by decide +kernel
theorem dX11_word_16 : decode cX11_word 16 = .ok (.getfield 34, 3) := by decide +kernel
theorem dX11_word_19 : decode cX11_word 19 = .ok (.getfield 130, 3) := by decide +kernel
theorem dX11_word_22 : decode cX11_word 22 = .ok (.getfield 160, 3) := by decide +kernel
theorem dX11_word_25 : decode cX11_word 25 = .ok (.iload_n 1, 1) := by decide +kernel
theorem dX11_word_26 : decode cX11_word 26 = .ok (.iaload, 1) := by decide +kernel
theorem dX11_word_27 : decode cX11_word 27 = .ok (.ireturn, 1) := by decide +kernel
theorem dX11_word_28 : decode cX11_word 28 = .ok (.iload_n 2, 1) := by decide +kernel
theorem dX11_word_29 : decode cX11_word 29 = .ok (.iconst 3, 1) := by decide +kernel
theorem dX11_word_30 : decode cX11_word 30 = .ok (.if_icmp .ne 15, 3) := by decide +kernel
theorem dX11_word_33 : decode cX11_word 33 = .ok (.aload_n 0, 1) := by decide +kernel
theorem dX11_word_34 : decode cX11_word 34 = .ok (.getfield 34, 3) := by decide +kernel
theorem dX11_word_37 : decode cX11_word 37 = .ok (.getfield 119, 3) := by decide +kernel
theorem dX11_word_40 : decode cX11_word 40 = .ok (.iload_n 1, 1) := by decide +kernel
theorem dX11_word_41 : decode cX11_word 41 = .ok (.invokevirtual 164, 3) := by decide +kernel
theorem dX11_word_44 : decode cX11_word 44 = .ok (.ireturn, 1) := by decide +kernel
theorem dX11_word_45 : decode cX11_word 45 = .ok (.iload_n 2, 1) := by decide +kernel
theorem dX11_word_46 : decode cX11_word 46 = .ok (.iconst 1, 1) := by decide +kernel
theorem dX11_word_47 : decode cX11_word 47 = .ok (.if_icmp .ne 16, 3) := by decide +kernel
theorem dX11_word_50 : decode cX11_word 50 = .ok (.aload_n 0, 1) := by decide +kernel
theorem dX11_word_51 : decode cX11_word 51 = .ok (.getfield 34, 3) := by decide +kernel
theorem dX11_word_54 : decode cX11_word 54 = .ok (.getfield 130, 3) := by decide +kernel
theorem dX11_word_57 : decode cX11_word 57 = .ok (.getfield 167, 3) := by decide +kernel
theorem dX11_word_60 : decode cX11_word 60 = .ok (.goto 13, 3) := by decide +kernel
theorem dX11_word_63 : decode cX11_word 63 = .ok (.aload_n 0, 1) := by decide +kernel
theorem dX11_word_64 : decode cX11_word 64 = .ok (.getfield 34, 3) := by decide +kernel
theorem dX11_word_67 : decode cX11_word 67 = .ok (.getfield 119, 3) := by decide +kernel
theorem dX11_word_70 : decode cX11_word 70 = .ok (.getfield 170, 3) := by decide +kernel
theorem dX11_word_73 : decode cX11_word 73 = .ok (.iload_n 1, 1) := by decide +kernel
theorem dX11_word_74 : decode cX11_word 74 = .ok (.ishr, 1) := by decide +kernel
theorem dX11_word_75 : decode cX11_word 75 = .ok (.iconst 1, 1) := by decide +kernel
theorem dX11_word_76 : decode cX11_word 76 = .ok (.iand, 1) := by decide +kernel
theorem dX11_word_77 : decode cX11_word 77 = .ok (.ireturn, 1) := by decide +kernel
theorem dX11_holds_0 : decode cX11_holds 0 = .ok (.aload_n 0, 1) := by decide +kernel
theorem dX11_holds_1 : decode cX11_holds 1 = .ok (.iload_n 1, 1) := by decide +kernel
theorem dX11_holds_2 : decode cX11_holds 2 = .ok (.invokevirtual 157, 3) := by decide +kernel
theorem dX11_holds_5 : decode cX11_holds 5 = .ok (.aload_n 0, 1) := by decide +kernel
theorem dX11_holds_6 : decode cX11_holds 6 = .ok (.iload_n 2, 1) := by decide +kernel
theorem dX11_holds_7 : decode cX11_holds 7 = .ok (.invokevirtual 113, 3) := by decide +kernel
theorem dX11_holds_10 : decode cX11_holds 10 = .ok (.aload_n 0, 1) := by decide +kernel
theorem dX11_holds_11 : decode cX11_holds 11 = .ok (.getfield 34, 3) := by decide +kernel
theorem dX11_holds_14 : decode cX11_holds 14 = .ok (.getfield 119, 3) := by decide +kernel
theorem dX11_holds_17 : decode cX11_holds 17 = .ok (.iload_n 2, 1) := by decide +kernel
theorem dX11_holds_18 : decode cX11_holds 18 = .ok (.iload_n 3, 1) := by decide +kernel
theorem dX11_holds_19 : decode cX11_holds 19 = .ok (.invokevirtual 173, 3) := by decide +kernel
theorem dX11_holds_22 : decode cX11_holds 22 = .ok (.iload_n 1, 1) := by decide +kernel
theorem dX11_holds_23 : decode cX11_holds 23 = .ok (.ishr, 1) := by decide +kernel
theorem dX11_holds_24 : decode cX11_holds 24 = .ok (.iconst 1, 1) := by decide +kernel
theorem dX11_holds_25 : decode cX11_holds 25 = .ok (.iand, 1) := by decide +kernel
theorem dX11_holds_26 : decode cX11_holds 26 = .ok (.iconst 1, 1) := by decide +kernel
theorem dX11_holds_27 : decode cX11_holds 27 = .ok (.if_icmp .ne 7, 3) := by decide +kernel
theorem dX11_holds_30 : decode cX11_holds 30 = .ok (.iconst 1, 1) := by decide +kernel
theorem dX11_holds_31 : decode cX11_holds 31 = .ok (.goto 4, 3) := by decide +kernel
theorem dX11_holds_34 : decode cX11_holds 34 = .ok (.iconst 0, 1) := by decide +kernel
theorem dX11_holds_35 : decode cX11_holds 35 = .ok (.ireturn, 1) := by decide +kernel
theorem dX11_fits_0 : decode cX11_fits 0 = .ok (.aload_n 0, 1) := by decide +kernel
theorem dX11_fits_1 : decode cX11_fits 1 = .ok (.iload_n 1, 1) := by decide +kernel
theorem dX11_fits_2 : decode cX11_fits 2 = .ok (.invokevirtual 177, 3) := by decide +kernel
theorem dX11_fits_5 : decode cX11_fits 5 = .ok (.aload_n 0, 1) := by decide +kernel
theorem dX11_fits_6 : decode cX11_fits 6 = .ok (.getfield 34, 3) := by decide +kernel
theorem dX11_fits_9 : decode cX11_fits 9 = .ok (.getfield 119, 3) := by decide +kernel
theorem dX11_fits_12 : decode cX11_fits 12 = .ok (.iload_n 1, 1) := by decide +kernel
theorem dX11_fits_13 : decode cX11_fits 13 = .ok (.invokevirtual 180, 3) := by decide +kernel
theorem dX11_fits_16 : decode cX11_fits 16 = .ok (.ireturn, 1) := by decide +kernel
theorem dX11_tells_0 : decode cX11_tells 0 = .ok (.aload_n 0, 1) := by decide +kernel
theorem dX11_tells_1 : decode cX11_tells 1 = .ok (.iload_n 1, 1) := by decide +kernel
theorem dX11_tells_2 : decode cX11_tells 2 = .ok (.invokevirtual 177, 3) := by decide +kernel
theorem dX11_tells_5 : decode cX11_tells 5 = .ok (.aload_n 0, 1) := by decide +kernel
theorem dX11_tells_6 : decode cX11_tells 6 = .ok (.getfield 34, 3) := by decide +kernel
theorem dX11_tells_9 : decode cX11_tells 9 = .ok (.getfield 119, 3) := by decide +kernel
theorem dX11_tells_12 : decode cX11_tells 12 = .ok (.iload_n 1, 1) := by decide +kernel
theorem dX11_tells_13 : decode cX11_tells 13 = .ok (.invokevirtual 183, 3) := by decide +kernel
theorem dX11_tells_16 : decode cX11_tells 16 = .ok (.ireturn, 1) := by decide +kernel
theorem dX11_cost_0 : decode cX11_cost 0 = .ok (.aload_n 0, 1) := by decide +kernel
theorem dX11_cost_1 : decode cX11_cost 1 = .ok (.iload_n 1, 1) := by decide +kernel
theorem dX11_cost_2 : decode cX11_cost 2 = .ok (.invokevirtual 177, 3) := by decide +kernel
theorem dX11_cost_5 : decode cX11_cost 5 = .ok (.aload_n 0, 1) := by decide +kernel
theorem dX11_cost_6 : decode cX11_cost 6 = .ok (.getfield 34, 3) := by decide +kernel
theorem dX11_cost_9 : decode cX11_cost 9 = .ok (.getfield 119, 3) := by decide +kernel
theorem dX11_cost_12 : decode cX11_cost 12 = .ok (.aload_n 0, 1) := by decide +kernel
theorem dX11_cost_13 : decode cX11_cost 13 = .ok (.getfield 34, 3) := by decide +kernel
theorem dX11_cost_16 : decode cX11_cost 16 = .ok (.getfield 130, 3) := by decide +kernel
theorem dX11_cost_19 : decode cX11_cost 19 = .ok (.iload_n 1, 1) := by decide +kernel
theorem dX11_cost_20 : decode cX11_cost 20 = .ok (.invokevirtual 186, 3) := by decide +kernel
theorem dX11_cost_23 : decode cX11_cost 23 = .ok (.ireturn, 1) := by decide +kernel
theorem dX11_least_0 : decode cX11_least 0 = .ok (.aload_n 0, 1) := by decide +kernel
theorem dX11_least_1 : decode cX11_least 1 = .ok (.iload_n 1, 1) := by decide +kernel
theorem dX11_least_2 : decode cX11_least 2 = .ok (.invokevirtual 190, 3) := by decide +kernel
theorem dX11_least_5 : decode cX11_least 5 = .ok (.aload_n 0, 1) := by decide +kernel
theorem dX11_least_6 : decode cX11_least 6 = .ok (.getfield 58, 3) := by decide +kernel
theorem dX11_least_9 : decode cX11_least 9 = .ok (.aload_n 0, 1) := by decide +kernel
theorem dX11_least_10 : decode cX11_least 10 = .ok (.getfield 34, 3) := by decide +kernel
theorem dX11_least_13 : decode cX11_least 13 = .ok (.getfield 130, 3) := by decide +kernel
theorem dX11_least_16 : decode cX11_least 16 = .ok (.aload_n 0, 1) := by decide +kernel
theorem dX11_least_17 : decode cX11_least 17 = .ok (.getfield 34, 3) := by decide +kernel
theorem dX11_least_20 : decode cX11_least 20 = .ok (.getfield 119, 3) := by decide +kernel
theorem dX11_least_23 : decode cX11_least 23 = .ok (.iload_n 1, 1) := by decide +kernel
theorem dX11_least_24 : decode cX11_least 24 = .ok (.sipush 1023, 3) := by decide +kernel
theorem dX11_least_27 : decode cX11_least 27 = .ok (.invokevirtual 193, 3) := by decide +kernel
theorem dX11_least_30 : decode cX11_least 30 = .ok (.invokestatic 197, 3) := by decide +kernel
theorem dX11_least_33 : decode cX11_least 33 = .ok (.ireturn, 1) := by decide +kernel
theorem dX11_blind_0 : decode cX11_blind 0 = .ok (.aload_n 0, 1) := by decide +kernel
theorem dX11_blind_1 : decode cX11_blind 1 = .ok (.iload_n 1, 1) := by decide +kernel
theorem dX11_blind_2 : decode cX11_blind 2 = .ok (.invokevirtual 190, 3) := by decide +kernel
theorem dX11_blind_5 : decode cX11_blind 5 = .ok (.aload_n 0, 1) := by decide +kernel
theorem dX11_blind_6 : decode cX11_blind 6 = .ok (.getfield 58, 3) := by decide +kernel
theorem dX11_blind_9 : decode cX11_blind 9 = .ok (.aload_n 0, 1) := by decide +kernel
theorem dX11_blind_10 : decode cX11_blind 10 = .ok (.getfield 34, 3) := by decide +kernel
theorem dX11_blind_13 : decode cX11_blind 13 = .ok (.getfield 130, 3) := by decide +kernel
theorem dX11_blind_16 : decode cX11_blind 16 = .ok (.aload_n 0, 1) := by decide +kernel
theorem dX11_blind_17 : decode cX11_blind 17 = .ok (.getfield 34, 3) := by decide +kernel
theorem dX11_blind_20 : decode cX11_blind 20 = .ok (.getfield 119, 3) := by decide +kernel
theorem dX11_blind_23 : decode cX11_blind 23 = .ok (.iload_n 1, 1) := by decide +kernel
theorem dX11_blind_24 : decode cX11_blind 24 = .ok (.aload_n 0, 1) := by decide +kernel
theorem dX11_blind_25 : decode cX11_blind 25 = .ok (.getfield 34, 3) := by decide +kernel
theorem dX11_blind_28 : decode cX11_blind 28 = .ok (.getfield 130, 3) := by decide +kernel
theorem dX11_blind_31 : decode cX11_blind 31 = .ok (.getfield 167, 3) := by decide +kernel
theorem dX11_blind_34 : decode cX11_blind 34 = .ok (.invokevirtual 193, 3) := by decide +kernel
theorem dX11_blind_37 : decode cX11_blind 37 = .ok (.invokestatic 197, 3) := by decide +kernel
theorem dX11_blind_40 : decode cX11_blind 40 = .ok (.ireturn, 1) := by decide +kernel
theorem dX11_sure_0 : decode cX11_sure 0 = .ok (.aload_n 0, 1) := by decide +kernel
theorem dX11_sure_1 : decode cX11_sure 1 = .ok (.iload_n 1, 1) := by decide +kernel
theorem dX11_sure_2 : decode cX11_sure 2 = .ok (.invokevirtual 190, 3) := by decide +kernel
theorem dX11_sure_5 : decode cX11_sure 5 = .ok (.aload_n 0, 1) := by decide +kernel
theorem dX11_sure_6 : decode cX11_sure 6 = .ok (.getfield 58, 3) := by decide +kernel
theorem dX11_sure_9 : decode cX11_sure 9 = .ok (.aload_n 0, 1) := by decide +kernel
theorem dX11_sure_10 : decode cX11_sure 10 = .ok (.getfield 34, 3) := by decide +kernel
theorem dX11_sure_13 : decode cX11_sure 13 = .ok (.getfield 130, 3) := by decide +kernel
theorem dX11_sure_16 : decode cX11_sure 16 = .ok (.aload_n 0, 1) := by decide +kernel
theorem dX11_sure_17 : decode cX11_sure 17 = .ok (.getfield 34, 3) := by decide +kernel
theorem dX11_sure_20 : decode cX11_sure 20 = .ok (.getfield 119, 3) := by decide +kernel
theorem dX11_sure_23 : decode cX11_sure 23 = .ok (.iload_n 1, 1) := by decide +kernel
theorem dX11_sure_24 : decode cX11_sure 24 = .ok (.invokevirtual 201, 3) := by decide +kernel
theorem dX11_sure_27 : decode cX11_sure 27 = .ok (.invokestatic 197, 3) := by decide +kernel
theorem dX11_sure_30 : decode cX11_sure 30 = .ok (.ireturn, 1) := by decide +kernel
theorem dX11_price_0 : decode cX11_price 0 = .ok (.aload_n 0, 1) := by decide +kernel
theorem dX11_price_1 : decode cX11_price 1 = .ok (.iload_n 1, 1) := by decide +kernel
theorem dX11_price_2 : decode cX11_price 2 = .ok (.invokevirtual 190, 3) := by decide +kernel
theorem dX11_price_5 : decode cX11_price 5 = .ok (.aload_n 0, 1) := by decide +kernel
theorem dX11_price_6 : decode cX11_price 6 = .ok (.getfield 58, 3) := by decide +kernel
theorem dX11_price_9 : decode cX11_price 9 = .ok (.aload_n 0, 1) := by decide +kernel
theorem dX11_price_10 : decode cX11_price 10 = .ok (.getfield 34, 3) := by decide +kernel
theorem dX11_price_13 : decode cX11_price 13 = .ok (.getfield 130, 3) := by decide +kernel
theorem dX11_price_16 : decode cX11_price 16 = .ok (.aload_n 0, 1) := by decide +kernel
theorem dX11_price_17 : decode cX11_price 17 = .ok (.getfield 34, 3) := by decide +kernel
theorem dX11_price_20 : decode cX11_price 20 = .ok (.getfield 119, 3) := by decide +kernel
theorem dX11_price_23 : decode cX11_price 23 = .ok (.iload_n 1, 1) := by decide +kernel
theorem dX11_price_24 : decode cX11_price 24 = .ok (.sipush 1023, 3) := by decide +kernel
theorem dX11_price_27 : decode cX11_price 27 = .ok (.invokevirtual 193, 3) := by decide +kernel
theorem dX11_price_30 : decode cX11_price 30 = .ok (.invokestatic 205, 3) := by decide +kernel
theorem dX11_price_33 : decode cX11_price 33 = .ok (.ireturn, 1) := by decide +kernel
theorem dX11_hardest_0 : decode cX11_hardest 0 = .ok (.iconst (-1), 1) := by decide +kernel
theorem dX11_hardest_1 : decode cX11_hardest 1 = .ok (.istore_n 1, 1) := by decide +kernel
theorem dX11_hardest_2 : decode cX11_hardest 2 = .ok (.iconst (-1), 1) := by decide +kernel
theorem dX11_hardest_3 : decode cX11_hardest 3 = .ok (.istore_n 2, 1) := by decide +kernel
theorem dX11_hardest_4 : decode cX11_hardest 4 = .ok (.iconst 0, 1) := by decide +kernel
theorem dX11_hardest_5 : decode cX11_hardest 5 = .ok (.istore_n 3, 1) := by decide +kernel
theorem dX11_hardest_6 : decode cX11_hardest 6 = .ok (.iload_n 3, 1) := by decide +kernel
theorem dX11_hardest_7 : decode cX11_hardest 7 = .ok (.aload_n 0, 1) := by decide +kernel
theorem dX11_hardest_8 : decode cX11_hardest 8 = .ok (.getfield 34, 3) := by decide +kernel
theorem dX11_hardest_11 : decode cX11_hardest 11 = .ok (.getfield 130, 3) := by decide +kernel
theorem dX11_hardest_14 : decode cX11_hardest 14 = .ok (.getfield 208, 3) := by decide +kernel
theorem dX11_hardest_17 : decode cX11_hardest 17 = .ok (.if_icmp .ge 79, 3) := by decide +kernel
theorem dX11_hardest_20 : decode cX11_hardest 20 = .ok (.aload_n 0, 1) := by decide +kernel
theorem dX11_hardest_21 : decode cX11_hardest 21 = .ok (.getfield 34, 3) := by decide +kernel
theorem dX11_hardest_24 : decode cX11_hardest 24 = .ok (.getfield 119, 3) := by decide +kernel
theorem dX11_hardest_27 : decode cX11_hardest 27 = .ok (.iload_n 3, 1) := by decide +kernel
theorem dX11_hardest_28 : decode cX11_hardest 28 = .ok (.invokevirtual 141, 3) := by decide +kernel
theorem dX11_hardest_31 : decode cX11_hardest 31 = .ok (.ifCond .eq 59, 3) := by decide +kernel
theorem dX11_hardest_34 : decode cX11_hardest 34 = .ok (.aload_n 0, 1) := by decide +kernel
theorem dX11_hardest_35 : decode cX11_hardest 35 = .ok (.getfield 58, 3) := by decide +kernel
theorem dX11_hardest_38 : decode cX11_hardest 38 = .ok (.aload_n 0, 1) := by decide +kernel
theorem dX11_hardest_39 : decode cX11_hardest 39 = .ok (.getfield 34, 3) := by decide +kernel
theorem dX11_hardest_42 : decode cX11_hardest 42 = .ok (.getfield 130, 3) := by decide +kernel
theorem dX11_hardest_45 : decode cX11_hardest 45 = .ok (.aload_n 0, 1) := by decide +kernel
theorem dX11_hardest_46 : decode cX11_hardest 46 = .ok (.getfield 34, 3) := by decide +kernel
theorem dX11_hardest_49 : decode cX11_hardest 49 = .ok (.getfield 119, 3) := by decide +kernel
theorem dX11_hardest_52 : decode cX11_hardest 52 = .ok (.iload_n 3, 1) := by decide +kernel
theorem dX11_hardest_53 : decode cX11_hardest 53 = .ok (.sipush 1023, 3) := by decide +kernel
theorem dX11_hardest_56 : decode cX11_hardest 56 = .ok (.invokevirtual 193, 3) := by decide +kernel
theorem dX11_hardest_59 : decode cX11_hardest 59 = .ok (.invokestatic 205, 3) := by decide +kernel
theorem dX11_hardest_62 : decode cX11_hardest 62 = .ok (.istore 4, 2) := by decide +kernel
theorem dX11_hardest_64 : decode cX11_hardest 64 = .ok (.iload 4, 2) := by decide +kernel
theorem dX11_hardest_66 : decode cX11_hardest 66 = .ok (.iconst (-1), 1) := by decide +kernel
theorem dX11_hardest_67 : decode cX11_hardest 67 = .ok (.if_icmp .ne 8, 3) := by decide +kernel
theorem dX11_hardest_70 : decode cX11_hardest 70 = .ok (.ldc 211, 2) := by decide +kernel
theorem dX11_hardest_72 : decode cX11_hardest 72 = .ok (.goto 5, 3) := by decide +kernel
theorem dX11_hardest_75 : decode cX11_hardest 75 = .ok (.iload 4, 2) := by decide +kernel
theorem dX11_hardest_77 : decode cX11_hardest 77 = .ok (.istore 5, 2) := by decide +kernel
theorem dX11_hardest_79 : decode cX11_hardest 79 = .ok (.iload 5, 2) := by decide +kernel
theorem dX11_hardest_81 : decode cX11_hardest 81 = .ok (.iload_n 2, 1) := by decide +kernel
theorem dX11_hardest_82 : decode cX11_hardest 82 = .ok (.if_icmp .le 8, 3) := by decide +kernel
theorem dX11_hardest_85 : decode cX11_hardest 85 = .ok (.iload 5, 2) := by decide +kernel
theorem dX11_hardest_87 : decode cX11_hardest 87 = .ok (.istore_n 2, 1) := by decide +kernel
theorem dX11_hardest_88 : decode cX11_hardest 88 = .ok (.iload_n 3, 1) := by decide +kernel
theorem dX11_hardest_89 : decode cX11_hardest 89 = .ok (.istore_n 1, 1) := by decide +kernel
theorem dX11_hardest_90 : decode cX11_hardest 90 = .ok (.iinc 3 1, 3) := by decide +kernel
theorem dX11_hardest_93 : decode cX11_hardest 93 = .ok (.goto (-87), 3) := by decide +kernel
theorem dX11_hardest_96 : decode cX11_hardest 96 = .ok (.iload_n 1, 1) := by decide +kernel
theorem dX11_hardest_97 : decode cX11_hardest 97 = .ok (.ireturn, 1) := by decide +kernel
theorem dX11_ways_0 : decode cX11_ways 0 = .ok (.aload_n 0, 1) := by decide +kernel
theorem dX11_ways_1 : decode cX11_ways 1 = .ok (.iload_n 1, 1) := by decide +kernel
theorem dX11_ways_2 : decode cX11_ways 2 = .ok (.invokevirtual 190, 3) := by decide +kernel
theorem dX11_ways_5 : decode cX11_ways 5 = .ok (.aload_n 0, 1) := by decide +kernel
theorem dX11_ways_6 : decode cX11_ways 6 = .ok (.getfield 58, 3) := by decide +kernel
theorem dX11_ways_9 : decode cX11_ways 9 = .ok (.aload_n 0, 1) := by decide +kernel
theorem dX11_ways_10 : decode cX11_ways 10 = .ok (.getfield 34, 3) := by decide +kernel
theorem dX11_ways_13 : decode cX11_ways 13 = .ok (.getfield 130, 3) := by decide +kernel
theorem dX11_ways_16 : decode cX11_ways 16 = .ok (.aload_n 0, 1) := by decide +kernel
theorem dX11_ways_17 : decode cX11_ways 17 = .ok (.getfield 34, 3) := by decide +kernel
theorem dX11_ways_20 : decode cX11_ways 20 = .ok (.getfield 119, 3) := by decide +kernel
theorem dX11_ways_23 : decode cX11_ways 23 = .ok (.iload_n 1, 1) := by decide +kernel
theorem dX11_ways_24 : decode cX11_ways 24 = .ok (.ldc 211, 2) := by decide +kernel
theorem dX11_ways_26 : decode cX11_ways 26 = .ok (.invokevirtual 212, 3) := by decide +kernel
theorem dX11_ways_29 : decode cX11_ways 29 = .ok (.ireturn, 1) := by decide +kernel
theorem dX11_rank_0 : decode cX11_rank 0 = .ok (.aload_n 0, 1) := by decide +kernel
theorem dX11_rank_1 : decode cX11_rank 1 = .ok (.iload_n 1, 1) := by decide +kernel
theorem dX11_rank_2 : decode cX11_rank 2 = .ok (.invokevirtual 177, 3) := by decide +kernel
theorem dX11_rank_5 : decode cX11_rank 5 = .ok (.aload_n 0, 1) := by decide +kernel
theorem dX11_rank_6 : decode cX11_rank 6 = .ok (.getfield 34, 3) := by decide +kernel
theorem dX11_rank_9 : decode cX11_rank 9 = .ok (.getfield 119, 3) := by decide +kernel
theorem dX11_rank_12 : decode cX11_rank 12 = .ok (.iload_n 1, 1) := by decide +kernel
theorem dX11_rank_13 : decode cX11_rank 13 = .ok (.invokevirtual 183, 3) := by decide +kernel
theorem dX11_rank_16 : decode cX11_rank 16 = .ok (.istore_n 2, 1) := by decide +kernel
theorem dX11_rank_17 : decode cX11_rank 17 = .ok (.iload_n 2, 1) := by decide +kernel
theorem dX11_rank_18 : decode cX11_rank 18 = .ok (.iconst (-1), 1) := by decide +kernel
theorem dX11_rank_19 : decode cX11_rank 19 = .ok (.if_icmp .ne 5, 3) := by decide +kernel
theorem dX11_rank_22 : decode cX11_rank 22 = .ok (.iconst (-1), 1) := by decide +kernel
theorem dX11_rank_23 : decode cX11_rank 23 = .ok (.ireturn, 1) := by decide +kernel
theorem dX11_rank_24 : decode cX11_rank 24 = .ok (.aload_n 0, 1) := by decide +kernel
theorem dX11_rank_25 : decode cX11_rank 25 = .ok (.getfield 58, 3) := by decide +kernel
theorem dX11_rank_28 : decode cX11_rank 28 = .ok (.aload_n 0, 1) := by decide +kernel
theorem dX11_rank_29 : decode cX11_rank 29 = .ok (.getfield 34, 3) := by decide +kernel
theorem dX11_rank_32 : decode cX11_rank 32 = .ok (.getfield 130, 3) := by decide +kernel
theorem dX11_rank_35 : decode cX11_rank 35 = .ok (.aload_n 0, 1) := by decide +kernel
theorem dX11_rank_36 : decode cX11_rank 36 = .ok (.getfield 34, 3) := by decide +kernel
theorem dX11_rank_39 : decode cX11_rank 39 = .ok (.getfield 119, 3) := by decide +kernel
theorem dX11_rank_42 : decode cX11_rank 42 = .ok (.iload_n 2, 1) := by decide +kernel
theorem dX11_rank_43 : decode cX11_rank 43 = .ok (.aload_n 0, 1) := by decide +kernel
theorem dX11_rank_44 : decode cX11_rank 44 = .ok (.getfield 34, 3) := by decide +kernel
theorem dX11_rank_47 : decode cX11_rank 47 = .ok (.getfield 119, 3) := by decide +kernel
theorem dX11_rank_50 : decode cX11_rank 50 = .ok (.aload_n 0, 1) := by decide +kernel
theorem dX11_rank_51 : decode cX11_rank 51 = .ok (.getfield 34, 3) := by decide +kernel
theorem dX11_rank_54 : decode cX11_rank 54 = .ok (.getfield 130, 3) := by decide +kernel
theorem dX11_rank_57 : decode cX11_rank 57 = .ok (.iload_n 1, 1) := by decide +kernel
theorem dX11_rank_58 : decode cX11_rank 58 = .ok (.invokevirtual 186, 3) := by decide +kernel
theorem dX11_rank_61 : decode cX11_rank 61 = .ok (.invokevirtual 212, 3) := by decide +kernel
theorem dX11_rank_64 : decode cX11_rank 64 = .ok (.ireturn, 1) := by decide +kernel
theorem dX11_shorter_0 : decode cX11_shorter 0 = .ok (.aload_n 0, 1) := by decide +kernel
theorem dX11_shorter_1 : decode cX11_shorter 1 = .ok (.iload_n 1, 1) := by decide +kernel
theorem dX11_shorter_2 : decode cX11_shorter 2 = .ok (.invokevirtual 177, 3) := by decide +kernel
theorem dX11_shorter_5 : decode cX11_shorter 5 = .ok (.aload_n 0, 1) := by decide +kernel
theorem dX11_shorter_6 : decode cX11_shorter 6 = .ok (.getfield 34, 3) := by decide +kernel
theorem dX11_shorter_9 : decode cX11_shorter 9 = .ok (.getfield 119, 3) := by decide +kernel
theorem dX11_shorter_12 : decode cX11_shorter 12 = .ok (.iload_n 1, 1) := by decide +kernel
theorem dX11_shorter_13 : decode cX11_shorter 13 = .ok (.invokevirtual 180, 3) := by decide +kernel
theorem dX11_shorter_16 : decode cX11_shorter 16 = .ok (.istore_n 2, 1) := by decide +kernel
theorem dX11_shorter_17 : decode cX11_shorter 17 = .ok (.iload_n 1, 1) := by decide +kernel
theorem dX11_shorter_18 : decode cX11_shorter 18 = .ok (.istore_n 3, 1) := by decide +kernel
theorem dX11_shorter_19 : decode cX11_shorter 19 = .ok (.bipush 19, 2) := by decide +kernel
theorem dX11_shorter_21 : decode cX11_shorter 21 = .ok (.istore 4, 2) := by decide +kernel
theorem dX11_shorter_23 : decode cX11_shorter 23 = .ok (.iload 4, 2) := by decide +kernel
theorem dX11_shorter_25 : decode cX11_shorter 25 = .ok (.ifCond .lt 38, 3) := by decide +kernel
theorem dX11_shorter_28 : decode cX11_shorter 28 = .ok (.iload_n 3, 1) := by decide +kernel
theorem dX11_shorter_29 : decode cX11_shorter 29 = .ok (.iconst 1, 1) := by decide +kernel
theorem dX11_shorter_30 : decode cX11_shorter 30 = .ok (.iload 4, 2) := by decide +kernel
theorem dX11_shorter_32 : decode cX11_shorter 32 = .ok (.ishl, 1) := by decide +kernel
theorem dX11_shorter_33 : decode cX11_shorter 33 = .ok (.iconst (-1), 1) := by decide +kernel
theorem dX11_shorter_34 : decode cX11_shorter 34 = .ok (.ixor, 1) := by decide +kernel
theorem dX11_shorter_35 : decode cX11_shorter 35 = .ok (.iand, 1) := by decide +kernel
theorem dX11_shorter_36 : decode cX11_shorter 36 = .ok (.istore 5, 2) := by decide +kernel
theorem dX11_shorter_38 : decode cX11_shorter 38 = .ok (.aload_n 0, 1) := by decide +kernel
theorem dX11_shorter_39 : decode cX11_shorter 39 = .ok (.getfield 34, 3) := by decide +kernel
theorem dX11_shorter_42 : decode cX11_shorter 42 = .ok (.getfield 119, 3) := by decide +kernel
theorem dX11_shorter_45 : decode cX11_shorter 45 = .ok (.iload 5, 2) := by decide +kernel
theorem dX11_shorter_47 : decode cX11_shorter 47 = .ok (.invokevirtual 180, 3) := by decide +kernel
theorem dX11_shorter_50 : decode cX11_shorter 50 = .ok (.iload_n 2, 1) := by decide +kernel
theorem dX11_shorter_51 : decode cX11_shorter 51 = .ok (.if_icmp .ne 6, 3) := by decide +kernel
theorem dX11_shorter_54 : decode cX11_shorter 54 = .ok (.iload 5, 2) := by decide +kernel
theorem dX11_shorter_56 : decode cX11_shorter 56 = .ok (.istore_n 3, 1) := by decide +kernel
theorem dX11_shorter_57 : decode cX11_shorter 57 = .ok (.iinc 4 (-1), 3) := by decide +kernel
theorem dX11_shorter_60 : decode cX11_shorter 60 = .ok (.goto (-37), 3) := by decide +kernel
theorem dX11_shorter_63 : decode cX11_shorter 63 = .ok (.iload_n 3, 1) := by decide +kernel
theorem dX11_shorter_64 : decode cX11_shorter 64 = .ok (.ireturn, 1) := by decide +kernel
theorem dX11_claim_0 : decode cX11_claim 0 = .ok (.aload_n 0, 1) := by decide +kernel
theorem dX11_claim_1 : decode cX11_claim 1 = .ok (.iload_n 1, 1) := by decide +kernel
theorem dX11_claim_2 : decode cX11_claim 2 = .ok (.invokevirtual 216, 3) := by decide +kernel
theorem dX11_claim_5 : decode cX11_claim 5 = .ok (.aload_n 0, 1) := by decide +kernel
theorem dX11_claim_6 : decode cX11_claim 6 = .ok (.invokevirtual 219, 3) := by decide +kernel
theorem dX11_claim_9 : decode cX11_claim 9 = .ok (.aload_n 0, 1) := by decide +kernel
theorem dX11_claim_10 : decode cX11_claim 10 = .ok (.iload_n 2, 1) := by decide +kernel
theorem dX11_claim_11 : decode cX11_claim 11 = .ok (.invokevirtual 177, 3) := by decide +kernel
theorem dX11_claim_14 : decode cX11_claim 14 = .ok (.aload_n 0, 1) := by decide +kernel
theorem dX11_claim_15 : decode cX11_claim 15 = .ok (.getfield 34, 3) := by decide +kernel
theorem dX11_claim_18 : decode cX11_claim 18 = .ok (.invokevirtual 222, 3) := by decide +kernel
theorem dX11_claim_21 : decode cX11_claim 21 = .ok (.aload_n 0, 1) := by decide +kernel
theorem dX11_claim_22 : decode cX11_claim 22 = .ok (.getfield 34, 3) := by decide +kernel
theorem dX11_claim_25 : decode cX11_claim 25 = .ok (.getfield 119, 3) := by decide +kernel
theorem dX11_claim_28 : decode cX11_claim 28 = .ok (.getfield 225, 3) := by decide +kernel
theorem dX11_claim_31 : decode cX11_claim 31 = .ok (.iload_n 1, 1) := by decide +kernel
theorem dX11_claim_32 : decode cX11_claim 32 = .ok (.iload_n 2, 1) := by decide +kernel
theorem dX11_claim_33 : decode cX11_claim 33 = .ok (.iastore, 1) := by decide +kernel
theorem dX11_claim_34 : decode cX11_claim 34 = .ok (.aload_n 0, 1) := by decide +kernel
theorem dX11_claim_35 : decode cX11_claim 35 = .ok (.getfield 34, 3) := by decide +kernel
theorem dX11_claim_38 : decode cX11_claim 38 = .ok (.getfield 119, 3) := by decide +kernel
theorem dX11_claim_41 : decode cX11_claim 41 = .ok (.iload_n 2, 1) := by decide +kernel
theorem dX11_claim_42 : decode cX11_claim 42 = .ok (.invokevirtual 183, 3) := by decide +kernel
theorem dX11_claim_45 : decode cX11_claim 45 = .ok (.aload_n 0, 1) := by decide +kernel
theorem dX11_claim_46 : decode cX11_claim 46 = .ok (.getfield 34, 3) := by decide +kernel
theorem dX11_claim_49 : decode cX11_claim 49 = .ok (.getfield 119, 3) := by decide +kernel
theorem dX11_claim_52 : decode cX11_claim 52 = .ok (.getfield 228, 3) := by decide +kernel
theorem dX11_claim_55 : decode cX11_claim 55 = .ok (.if_icmp .ne 7, 3) := by decide +kernel
theorem dX11_claim_58 : decode cX11_claim 58 = .ok (.iconst 1, 1) := by decide +kernel
theorem dX11_claim_59 : decode cX11_claim 59 = .ok (.goto 4, 3) := by decide +kernel
theorem dX11_claim_62 : decode cX11_claim 62 = .ok (.iconst 0, 1) := by decide +kernel
theorem dX11_claim_63 : decode cX11_claim 63 = .ok (.ireturn, 1) := by decide +kernel
theorem dX11_settle_0 : decode cX11_settle 0 = .ok (.aload_n 0, 1) := by decide +kernel
theorem dX11_settle_1 : decode cX11_settle 1 = .ok (.invokevirtual 219, 3) := by decide +kernel
theorem dX11_settle_4 : decode cX11_settle 4 = .ok (.aload_n 0, 1) := by decide +kernel
theorem dX11_settle_5 : decode cX11_settle 5 = .ok (.getfield 34, 3) := by decide +kernel
theorem dX11_settle_8 : decode cX11_settle 8 = .ok (.invokevirtual 222, 3) := by decide +kernel
theorem dX11_settle_11 : decode cX11_settle 11 = .ok (.aload_n 0, 1) := by decide +kernel
theorem dX11_settle_12 : decode cX11_settle 12 = .ok (.getfield 34, 3) := by decide +kernel
theorem dX11_settle_15 : decode cX11_settle 15 = .ok (.getfield 119, 3) := by decide +kernel
theorem dX11_settle_18 : decode cX11_settle 18 = .ok (.aload_n 0, 1) := by decide +kernel
theorem dX11_settle_19 : decode cX11_settle 19 = .ok (.getfield 34, 3) := by decide +kernel
theorem dX11_settle_22 : decode cX11_settle 22 = .ok (.getfield 130, 3) := by decide +kernel
theorem dX11_settle_25 : decode cX11_settle 25 = .ok (.invokevirtual 231, 3) := by decide +kernel
theorem dX11_settle_28 : decode cX11_settle 28 = .ok (.ireturn, 1) := by decide +kernel
theorem dX11_lamp_0 : decode cX11_lamp 0 = .ok (.aload_n 0, 1) := by decide +kernel
theorem dX11_lamp_1 : decode cX11_lamp 1 = .ok (.getfield 34, 3) := by decide +kernel
theorem dX11_lamp_4 : decode cX11_lamp 4 = .ok (.invokevirtual 222, 3) := by decide +kernel
theorem dX11_lamp_7 : decode cX11_lamp 7 = .ok (.aload_n 0, 1) := by decide +kernel
theorem dX11_lamp_8 : decode cX11_lamp 8 = .ok (.getfield 34, 3) := by decide +kernel
theorem dX11_lamp_11 : decode cX11_lamp 11 = .ok (.getfield 119, 3) := by decide +kernel
theorem dX11_lamp_14 : decode cX11_lamp 14 = .ok (.aload_n 0, 1) := by decide +kernel
theorem dX11_lamp_15 : decode cX11_lamp 15 = .ok (.getfield 34, 3) := by decide +kernel
theorem dX11_lamp_18 : decode cX11_lamp 18 = .ok (.getfield 119, 3) := by decide +kernel
theorem dX11_lamp_21 : decode cX11_lamp 21 = .ok (.getfield 126, 3) := by decide +kernel
theorem dX11_lamp_24 : decode cX11_lamp 24 = .ok (.ifCond .ne 7, 3) := by decide +kernel
theorem dX11_lamp_27 : decode cX11_lamp 27 = .ok (.iconst 1, 1) := by decide +kernel
theorem dX11_lamp_28 : decode cX11_lamp 28 = .ok (.goto 4, 3) := by decide +kernel
theorem dX11_lamp_31 : decode cX11_lamp 31 = .ok (.iconst 0, 1) := by decide +kernel
theorem dX11_lamp_32 : decode cX11_lamp 32 = .ok (.putfield 126, 3) := by decide +kernel
theorem dX11_lamp_35 : decode cX11_lamp 35 = .ok (.aload_n 0, 1) := by decide +kernel
theorem dX11_lamp_36 : decode cX11_lamp 36 = .ok (.getfield 34, 3) := by decide +kernel
theorem dX11_lamp_39 : decode cX11_lamp 39 = .ok (.getfield 119, 3) := by decide +kernel
theorem dX11_lamp_42 : decode cX11_lamp 42 = .ok (.getfield 126, 3) := by decide +kernel
theorem dX11_lamp_45 : decode cX11_lamp 45 = .ok (.ifCond .eq 7, 3) := by decide +kernel
theorem dX11_lamp_48 : decode cX11_lamp 48 = .ok (.iconst 1, 1) := by decide +kernel
theorem dX11_lamp_49 : decode cX11_lamp 49 = .ok (.goto 4, 3) := by decide +kernel
theorem dX11_lamp_52 : decode cX11_lamp 52 = .ok (.iconst 0, 1) := by decide +kernel
theorem dX11_lamp_53 : decode cX11_lamp 53 = .ok (.ireturn, 1) := by decide +kernel
theorem dX11_carry_0 : decode cX11_carry 0 = .ok (.aload_n 0, 1) := by decide +kernel
theorem dX11_carry_1 : decode cX11_carry 1 = .ok (.iload_n 1, 1) := by decide +kernel
theorem dX11_carry_2 : decode cX11_carry 2 = .ok (.invokevirtual 113, 3) := by decide +kernel
theorem dX11_carry_5 : decode cX11_carry 5 = .ok (.aload_n 0, 1) := by decide +kernel
theorem dX11_carry_6 : decode cX11_carry 6 = .ok (.getfield 34, 3) := by decide +kernel
theorem dX11_carry_9 : decode cX11_carry 9 = .ok (.invokevirtual 222, 3) := by decide +kernel
theorem dX11_carry_12 : decode cX11_carry 12 = .ok (.aload_n 0, 1) := by decide +kernel
theorem dX11_carry_13 : decode cX11_carry 13 = .ok (.getfield 34, 3) := by decide +kernel
theorem dX11_carry_16 : decode cX11_carry 16 = .ok (.getfield 119, 3) := by decide +kernel
theorem dX11_carry_19 : decode cX11_carry 19 = .ok (.iload_n 1, 1) := by decide +kernel
theorem dX11_carry_20 : decode cX11_carry 20 = .ok (.invokevirtual 235, 3) := by decide +kernel
theorem dX11_carry_23 : decode cX11_carry 23 = .ok (.aload_n 0, 1) := by decide +kernel
theorem dX11_carry_24 : decode cX11_carry 24 = .ok (.getfield 34, 3) := by decide +kernel
theorem dX11_carry_27 : decode cX11_carry 27 = .ok (.getfield 119, 3) := by decide +kernel
theorem dX11_carry_30 : decode cX11_carry 30 = .ok (.iload_n 1, 1) := by decide +kernel
theorem dX11_carry_31 : decode cX11_carry 31 = .ok (.invokevirtual 141, 3) := by decide +kernel
theorem dX11_carry_34 : decode cX11_carry 34 = .ok (.ifCond .eq 7, 3) := by decide +kernel
theorem dX11_carry_37 : decode cX11_carry 37 = .ok (.iconst 1, 1) := by decide +kernel
theorem dX11_carry_38 : decode cX11_carry 38 = .ok (.goto 4, 3) := by decide +kernel
theorem dX11_carry_41 : decode cX11_carry 41 = .ok (.iconst 0, 1) := by decide +kernel
theorem dX11_carry_42 : decode cX11_carry 42 = .ok (.ireturn, 1) := by decide +kernel
theorem dX11_change_0 : decode cX11_change 0 = .ok (.aload_n 0, 1) := by decide +kernel
theorem dX11_change_1 : decode cX11_change 1 = .ok (.iload_n 1, 1) := by decide +kernel
theorem dX11_change_2 : decode cX11_change 2 = .ok (.invokevirtual 113, 3) := by decide +kernel
theorem dX11_change_5 : decode cX11_change 5 = .ok (.aload_n 0, 1) := by decide +kernel
theorem dX11_change_6 : decode cX11_change 6 = .ok (.iload_n 2, 1) := by decide +kernel
theorem dX11_change_7 : decode cX11_change 7 = .ok (.invokevirtual 116, 3) := by decide +kernel
theorem dX11_change_10 : decode cX11_change 10 = .ok (.iload_n 3, 1) := by decide +kernel
theorem dX11_change_11 : decode cX11_change 11 = .ok (.ifCond .lt 9, 3) := by decide +kernel
theorem dX11_change_14 : decode cX11_change 14 = .ok (.iload_n 3, 1) := by decide +kernel
theorem dX11_change_15 : decode cX11_change 15 = .ok (.bipush 10, 2) := by decide +kernel
theorem dX11_change_17 : decode cX11_change 17 = .ok (.if_icmp .lt 13, 3) := by decide +kernel
theorem dX11_change_20 : decode cX11_change 20 = .ok (.new 84, 3) := by decide +kernel
theorem dX11_change_23 : decode cX11_change 23 = .ok (.dup, 1) := by decide +kernel
theorem dX11_change_24 : decode cX11_change 24 = .ok (.ldc 238, 2) := by decide +kernel
theorem dX11_change_26 : decode cX11_change 26 = .ok (.invokespecial 88, 3) := by decide +kernel
theorem dX11_change_29 : decode cX11_change 29 = .ok (.athrow, 1) := by decide +kernel
theorem dX11_change_30 : decode cX11_change 30 = .ok (.aload_n 0, 1) := by decide +kernel
theorem dX11_change_31 : decode cX11_change 31 = .ok (.getfield 34, 3) := by decide +kernel
theorem dX11_change_34 : decode cX11_change 34 = .ok (.getfield 119, 3) := by decide +kernel
theorem dX11_change_37 : decode cX11_change 37 = .ok (.iload_n 1, 1) := by decide +kernel
theorem dX11_change_38 : decode cX11_change 38 = .ok (.iload_n 2, 1) := by decide +kernel
theorem dX11_change_39 : decode cX11_change 39 = .ok (.invokevirtual 122, 3) := by decide +kernel
theorem dX11_change_42 : decode cX11_change 42 = .ok (.istore 4, 2) := by decide +kernel
theorem dX11_change_44 : decode cX11_change 44 = .ok (.aload_n 0, 1) := by decide +kernel
theorem dX11_change_45 : decode cX11_change 45 = .ok (.getfield 34, 3) := by decide +kernel
theorem dX11_change_48 : decode cX11_change 48 = .ok (.invokevirtual 222, 3) := by decide +kernel
theorem dX11_change_51 : decode cX11_change 51 = .ok (.aload_n 0, 1) := by decide +kernel
theorem dX11_change_52 : decode cX11_change 52 = .ok (.getfield 34, 3) := by decide +kernel
theorem dX11_change_55 : decode cX11_change 55 = .ok (.getfield 119, 3) := by decide +kernel
theorem dX11_change_58 : decode cX11_change 58 = .ok (.iload_n 1, 1) := by decide +kernel
theorem dX11_change_59 : decode cX11_change 59 = .ok (.iload_n 2, 1) := by decide +kernel
theorem dX11_change_60 : decode cX11_change 60 = .ok (.iload_n 3, 1) := by decide +kernel
theorem dX11_change_61 : decode cX11_change 61 = .ok (.invokevirtual 240, 3) := by decide +kernel
theorem dX11_change_64 : decode cX11_change 64 = .ok (.aload_n 0, 1) := by decide +kernel
theorem dX11_change_65 : decode cX11_change 65 = .ok (.getfield 34, 3) := by decide +kernel
theorem dX11_change_68 : decode cX11_change 68 = .ok (.getfield 119, 3) := by decide +kernel
theorem dX11_change_71 : decode cX11_change 71 = .ok (.aload_n 0, 1) := by decide +kernel
theorem dX11_change_72 : decode cX11_change 72 = .ok (.getfield 34, 3) := by decide +kernel
theorem dX11_change_75 : decode cX11_change 75 = .ok (.getfield 130, 3) := by decide +kernel
theorem dX11_change_78 : decode cX11_change 78 = .ok (.aload_n 0, 1) := by decide +kernel
theorem dX11_change_79 : decode cX11_change 79 = .ok (.getfield 27, 3) := by decide +kernel
theorem dX11_change_82 : decode cX11_change 82 = .ok (.iload_n 1, 1) := by decide +kernel
theorem dX11_change_83 : decode cX11_change 83 = .ok (.invokevirtual 244, 3) := by decide +kernel
theorem dX11_change_86 : decode cX11_change 86 = .ok (.iload 4, 2) := by decide +kernel
theorem dX11_change_88 : decode cX11_change 88 = .ok (.ireturn, 1) := by decide +kernel
theorem dX11_stake_0 : decode cX11_stake 0 = .ok (.aload_n 0, 1) := by decide +kernel
theorem dX11_stake_1 : decode cX11_stake 1 = .ok (.iload_n 1, 1) := by decide +kernel
theorem dX11_stake_2 : decode cX11_stake 2 = .ok (.invokevirtual 190, 3) := by decide +kernel
theorem dX11_stake_5 : decode cX11_stake 5 = .ok (.aload_n 0, 1) := by decide +kernel
theorem dX11_stake_6 : decode cX11_stake 6 = .ok (.getfield 34, 3) := by decide +kernel
theorem dX11_stake_9 : decode cX11_stake 9 = .ok (.getfield 119, 3) := by decide +kernel
theorem dX11_stake_12 : decode cX11_stake 12 = .ok (.getfield 228, 3) := by decide +kernel
theorem dX11_stake_15 : decode cX11_stake 15 = .ok (.istore_n 2, 1) := by decide +kernel
theorem dX11_stake_16 : decode cX11_stake 16 = .ok (.aload_n 0, 1) := by decide +kernel
theorem dX11_stake_17 : decode cX11_stake 17 = .ok (.getfield 34, 3) := by decide +kernel
theorem dX11_stake_20 : decode cX11_stake 20 = .ok (.invokevirtual 222, 3) := by decide +kernel
theorem dX11_stake_23 : decode cX11_stake 23 = .ok (.aload_n 0, 1) := by decide +kernel
theorem dX11_stake_24 : decode cX11_stake 24 = .ok (.getfield 34, 3) := by decide +kernel
theorem dX11_stake_27 : decode cX11_stake 27 = .ok (.getfield 119, 3) := by decide +kernel
theorem dX11_stake_30 : decode cX11_stake 30 = .ok (.iload_n 1, 1) := by decide +kernel
theorem dX11_stake_31 : decode cX11_stake 31 = .ok (.invokevirtual 248, 3) := by decide +kernel
theorem dX11_stake_34 : decode cX11_stake 34 = .ok (.iload_n 2, 1) := by decide +kernel
theorem dX11_stake_35 : decode cX11_stake 35 = .ok (.ireturn, 1) := by decide +kernel
theorem dX11_person_0 : decode cX11_person 0 = .ok (.aload_n 0, 1) := by decide +kernel
theorem dX11_person_1 : decode cX11_person 1 = .ok (.iload_n 1, 1) := by decide +kernel
theorem dX11_person_2 : decode cX11_person 2 = .ok (.invokevirtual 216, 3) := by decide +kernel
theorem dX11_person_5 : decode cX11_person 5 = .ok (.aload_n 0, 1) := by decide +kernel
theorem dX11_person_6 : decode cX11_person 6 = .ok (.iload_n 2, 1) := by decide +kernel
theorem dX11_person_7 : decode cX11_person 7 = .ok (.iconst 1, 1) := by decide +kernel
theorem dX11_person_8 : decode cX11_person 8 = .ok (.invokevirtual 137, 3) := by decide +kernel
theorem dX11_person_11 : decode cX11_person 11 = .ok (.iload_n 2, 1) := by decide +kernel
theorem dX11_person_12 : decode cX11_person 12 = .ok (.ifCond .ne 18, 3) := by decide +kernel
theorem dX11_person_15 : decode cX11_person 15 = .ok (.aload_n 0, 1) := by decide +kernel
theorem dX11_person_16 : decode cX11_person 16 = .ok (.getfield 34, 3) := by decide +kernel
theorem dX11_person_19 : decode cX11_person 19 = .ok (.getfield 119, 3) := by decide +kernel
theorem dX11_person_22 : decode cX11_person 22 = .ok (.getfield 225, 3) := by decide +kernel
theorem dX11_person_25 : decode cX11_person 25 = .ok (.iload_n 1, 1) := by decide +kernel
theorem dX11_person_26 : decode cX11_person 26 = .ok (.iaload, 1) := by decide +kernel
theorem dX11_person_27 : decode cX11_person 27 = .ok (.goto 15, 3) := by decide +kernel
theorem dX11_person_30 : decode cX11_person 30 = .ok (.aload_n 0, 1) := by decide +kernel
theorem dX11_person_31 : decode cX11_person 31 = .ok (.getfield 34, 3) := by decide +kernel
theorem dX11_person_34 : decode cX11_person 34 = .ok (.getfield 119, 3) := by decide +kernel
theorem dX11_person_37 : decode cX11_person 37 = .ok (.getfield 251, 3) := by decide +kernel
theorem dX11_person_40 : decode cX11_person 40 = .ok (.iload_n 1, 1) := by decide +kernel
theorem dX11_person_41 : decode cX11_person 41 = .ok (.iaload, 1) := by decide +kernel
theorem dX11_person_42 : decode cX11_person 42 = .ok (.ireturn, 1) := by decide +kernel
theorem dX11_winner_0 : decode cX11_winner 0 = .ok (.aload_n 0, 1) := by decide +kernel
theorem dX11_winner_1 : decode cX11_winner 1 = .ok (.getfield 34, 3) := by decide +kernel
theorem dX11_winner_4 : decode cX11_winner 4 = .ok (.getfield 119, 3) := by decide +kernel
theorem dX11_winner_7 : decode cX11_winner 7 = .ok (.aload_n 0, 1) := by decide +kernel
theorem dX11_winner_8 : decode cX11_winner 8 = .ok (.getfield 34, 3) := by decide +kernel
theorem dX11_winner_11 : decode cX11_winner 11 = .ok (.getfield 130, 3) := by decide +kernel
theorem dX11_winner_14 : decode cX11_winner 14 = .ok (.invokevirtual 254, 3) := by decide +kernel
theorem dX11_winner_17 : decode cX11_winner 17 = .ok (.ireturn, 1) := by decide +kernel
theorem dX11_undo_0 : decode cX11_undo 0 = .ok (.iload_n 1, 1) := by decide +kernel
theorem dX11_undo_1 : decode cX11_undo 1 = .ok (.iconst 1, 1) := by decide +kernel
theorem dX11_undo_2 : decode cX11_undo 2 = .ok (.if_icmp .lt 20, 3) := by decide +kernel
theorem dX11_undo_5 : decode cX11_undo 5 = .ok (.iload_n 1, 1) := by decide +kernel
theorem dX11_undo_6 : decode cX11_undo 6 = .ok (.bipush 10, 2) := by decide +kernel
theorem dX11_undo_8 : decode cX11_undo 8 = .ok (.if_icmp .gt 14, 3) := by decide +kernel
theorem dX11_undo_11 : decode cX11_undo 11 = .ok (.iload_n 1, 1) := by decide +kernel
theorem dX11_undo_12 : decode cX11_undo 12 = .ok (.aload_n 0, 1) := by decide +kernel
theorem dX11_undo_13 : decode cX11_undo 13 = .ok (.getfield 34, 3) := by decide +kernel
theorem dX11_undo_16 : decode cX11_undo 16 = .ok (.getfield 257, 3) := by decide +kernel
theorem dX11_undo_19 : decode cX11_undo 19 = .ok (.if_icmp .le 14, 3) := by decide +kernel
theorem dX11_undo_22 : decode cX11_undo 22 = .ok (.new 84, 3) := by decide +kernel
theorem dX11_undo_25 : decode cX11_undo 25 = .ok (.dup, 1) := by decide +kernel
theorem dX11_undo_26 : decode cX11_undo 26 = .ok (.ldc_w 260, 3) := by decide +kernel
theorem dX11_undo_29 : decode cX11_undo 29 = .ok (.invokespecial 88, 3) := by decide +kernel
theorem dX11_undo_32 : decode cX11_undo 32 = .ok (.athrow, 1) := by decide +kernel
theorem dX11_undo_33 : decode cX11_undo 33 = .ok (.aload_n 0, 1) := by decide +kernel
theorem dX11_undo_34 : decode cX11_undo 34 = .ok (.getfield 34, 3) := by decide +kernel
theorem dX11_undo_37 : decode cX11_undo 37 = .ok (.iload_n 1, 1) := by decide +kernel
theorem dX11_undo_38 : decode cX11_undo 38 = .ok (.invokevirtual 262, 3) := by decide +kernel
theorem dX11_undo_41 : decode cX11_undo 41 = .ok (.aload_n 0, 1) := by decide +kernel
theorem dX11_undo_42 : decode cX11_undo 42 = .ok (.getfield 34, 3) := by decide +kernel
theorem dX11_undo_45 : decode cX11_undo 45 = .ok (.getfield 257, 3) := by decide +kernel
theorem dX11_undo_48 : decode cX11_undo 48 = .ok (.ireturn, 1) := by decide +kernel
theorem dX11_judge_0 : decode cX11_judge 0 = .ok (.aload_n 0, 1) := by decide +kernel
theorem dX11_judge_1 : decode cX11_judge 1 = .ok (.iload_n 1, 1) := by decide +kernel
theorem dX11_judge_2 : decode cX11_judge 2 = .ok (.invokevirtual 265, 3) := by decide +kernel
theorem dX11_judge_5 : decode cX11_judge 5 = .ok (.astore_n 3, 1) := by decide +kernel
theorem dX11_judge_6 : decode cX11_judge 6 = .ok (.aload_n 0, 1) := by decide +kernel
theorem dX11_judge_7 : decode cX11_judge 7 = .ok (.iload_n 2, 1) := by decide +kernel
theorem dX11_judge_8 : decode cX11_judge 8 = .ok (.iconst 3, 1) := by decide +kernel
theorem dX11_judge_9 : decode cX11_judge 9 = .ok (.invokevirtual 137, 3) := by decide +kernel
theorem dX11_judge_12 : decode cX11_judge 12 = .ok (.aload_n 0, 1) := by decide +kernel
theorem dX11_judge_13 : decode cX11_judge 13 = .ok (.getfield 51, 3) := by decide +kernel
theorem dX11_judge_16 : decode cX11_judge 16 = .ok (.aload_n 0, 1) := by decide +kernel
theorem dX11_judge_17 : decode cX11_judge 17 = .ok (.getfield 34, 3) := by decide +kernel
theorem dX11_judge_20 : decode cX11_judge 20 = .ok (.getfield 119, 3) := by decide +kernel
theorem dX11_judge_23 : decode cX11_judge 23 = .ok (.invokevirtual 269, 3) := by decide +kernel
theorem dX11_judge_26 : decode cX11_judge 26 = .ok (.iconst (-1), 1) := by decide +kernel
theorem dX11_judge_27 : decode cX11_judge 27 = .ok (.istore 4, 2) := by decide +kernel
theorem dX11_judge_29 : decode cX11_judge 29 = .ok (.iconst 0, 1) := by decide +kernel
theorem dX11_judge_30 : decode cX11_judge 30 = .ok (.istore 5, 2) := by decide +kernel
theorem dX11_judge_32 : decode cX11_judge 32 = .ok (.iload 5, 2) := by decide +kernel
theorem dX11_judge_34 : decode cX11_judge 34 = .ok (.aload_n 3, 1) := by decide +kernel
theorem dX11_judge_35 : decode cX11_judge 35 = .ok (.getfield 273, 3) := by decide +kernel
theorem dX11_judge_38 : decode cX11_judge 38 = .ok (.if_icmp .ge 56, 3) := by decide +kernel
theorem dX11_judge_41 : decode cX11_judge 41 = .ok (.iload 4, 2) := by decide +kernel
theorem dX11_judge_43 : decode cX11_judge 43 = .ok (.iconst (-1), 1) := by decide +kernel
theorem dX11_judge_44 : decode cX11_judge 44 = .ok (.if_icmp .ne 50, 3) := by decide +kernel
theorem dX11_judge_47 : decode cX11_judge 47 = .ok (.aload_n 0, 1) := by decide +kernel
theorem dX11_judge_48 : decode cX11_judge 48 = .ok (.aload_n 0, 1) := by decide +kernel
theorem dX11_judge_49 : decode cX11_judge 49 = .ok (.getfield 51, 3) := by decide +kernel
theorem dX11_judge_52 : decode cX11_judge 52 = .ok (.aload_n 3, 1) := by decide +kernel
theorem dX11_judge_53 : decode cX11_judge 53 = .ok (.getfield 276, 3) := by decide +kernel
theorem dX11_judge_56 : decode cX11_judge 56 = .ok (.iload 5, 2) := by decide +kernel
theorem dX11_judge_58 : decode cX11_judge 58 = .ok (.laload, 1) := by decide +kernel
theorem dX11_judge_59 : decode cX11_judge 59 = .ok (.invokevirtual 280, 3) := by decide +kernel
theorem dX11_judge_62 : decode cX11_judge 62 = .ok (.ifCond .eq 22, 3) := by decide +kernel
theorem dX11_judge_65 : decode cX11_judge 65 = .ok (.aload_n 0, 1) := by decide +kernel
theorem dX11_judge_66 : decode cX11_judge 66 = .ok (.aload_n 0, 1) := by decide +kernel
theorem dX11_judge_67 : decode cX11_judge 67 = .ok (.getfield 51, 3) := by decide +kernel
theorem dX11_judge_70 : decode cX11_judge 70 = .ok (.aload_n 3, 1) := by decide +kernel
theorem dX11_judge_71 : decode cX11_judge 71 = .ok (.getfield 276, 3) := by decide +kernel
theorem dX11_judge_74 : decode cX11_judge 74 = .ok (.iload 5, 2) := by decide +kernel
theorem dX11_judge_76 : decode cX11_judge 76 = .ok (.laload, 1) := by decide +kernel
theorem dX11_judge_77 : decode cX11_judge 77 = .ok (.l2i, 1) := by decide +kernel
theorem dX11_judge_78 : decode cX11_judge 78 = .ok (.invokevirtual 284, 3) := by decide +kernel
theorem dX11_judge_81 : decode cX11_judge 81 = .ok (.goto 7, 3) := by decide +kernel
theorem dX11_judge_84 : decode cX11_judge 84 = .ok (.iload 5, 2) := by decide +kernel
theorem dX11_judge_86 : decode cX11_judge 86 = .ok (.istore 4, 2) := by decide +kernel
theorem dX11_judge_88 : decode cX11_judge 88 = .ok (.iinc 5 1, 3) := by decide +kernel
theorem dX11_judge_91 : decode cX11_judge 91 = .ok (.goto (-59), 3) := by decide +kernel
theorem dX11_judge_94 : decode cX11_judge 94 = .ok (.iload_n 2, 1) := by decide +kernel
theorem dX11_judge_95 : decode cX11_judge 95 = .ok (.ifCond .ne 6, 3) := by decide +kernel
theorem dX11_judge_98 : decode cX11_judge 98 = .ok (.iload 4, 2) := by decide +kernel
theorem dX11_judge_100 : decode cX11_judge 100 = .ok (.ireturn, 1) := by decide +kernel
theorem dX11_judge_101 : decode cX11_judge 101 = .ok (.iload_n 2, 1) := by decide +kernel
theorem dX11_judge_102 : decode cX11_judge 102 = .ok (.iconst 1, 1) := by decide +kernel
theorem dX11_judge_103 : decode cX11_judge 103 = .ok (.if_icmp .ne 15, 3) := by decide +kernel
theorem dX11_judge_106 : decode cX11_judge 106 = .ok (.iload 4, 2) := by decide +kernel
theorem dX11_judge_108 : decode cX11_judge 108 = .ok (.iconst (-1), 1) := by decide +kernel
theorem dX11_judge_109 : decode cX11_judge 109 = .ok (.if_icmp .ne 7, 3) := by decide +kernel
theorem dX11_judge_112 : decode cX11_judge 112 = .ok (.iconst 0, 1) := by decide +kernel
theorem dX11_judge_113 : decode cX11_judge 113 = .ok (.goto 4, 3) := by decide +kernel
theorem dX11_judge_116 : decode cX11_judge 116 = .ok (.iconst 1, 1) := by decide +kernel
theorem dX11_judge_117 : decode cX11_judge 117 = .ok (.ireturn, 1) := by decide +kernel
theorem dX11_judge_118 : decode cX11_judge 118 = .ok (.iload_n 2, 1) := by decide +kernel
theorem dX11_judge_119 : decode cX11_judge 119 = .ok (.iconst 2, 1) := by decide +kernel
theorem dX11_judge_120 : decode cX11_judge 120 = .ok (.if_icmp .ne 13, 3) := by decide +kernel
theorem dX11_judge_123 : decode cX11_judge 123 = .ok (.aload_n 0, 1) := by decide +kernel
theorem dX11_judge_124 : decode cX11_judge 124 = .ok (.getfield 51, 3) := by decide +kernel
theorem dX11_judge_127 : decode cX11_judge 127 = .ok (.getfield 288, 3) := by decide +kernel
theorem dX11_judge_130 : decode cX11_judge 130 = .ok (.goto 10, 3) := by decide +kernel
theorem dX11_judge_133 : decode cX11_judge 133 = .ok (.aload_n 0, 1) := by decide +kernel
theorem dX11_judge_134 : decode cX11_judge 134 = .ok (.getfield 51, 3) := by decide +kernel
theorem dX11_judge_137 : decode cX11_judge 137 = .ok (.getfield 228, 3) := by decide +kernel
theorem dX11_judge_140 : decode cX11_judge 140 = .ok (.ireturn, 1) := by decide +kernel
theorem dX11_perform_0 : decode cX11_perform 0 = .ok (.aload_n 0, 1) := by decide +kernel
theorem dX11_perform_1 : decode cX11_perform 1 = .ok (.iload_n 1, 1) := by decide +kernel
theorem dX11_perform_2 : decode cX11_perform 2 = .ok (.invokevirtual 265, 3) := by decide +kernel
theorem dX11_perform_5 : decode cX11_perform 5 = .ok (.astore_n 2, 1) := by decide +kernel
theorem dX11_perform_6 : decode cX11_perform 6 = .ok (.iconst 0, 1) := by decide +kernel
theorem dX11_perform_7 : decode cX11_perform 7 = .ok (.istore_n 3, 1) := by decide +kernel
theorem dX11_perform_8 : decode cX11_perform 8 = .ok (.iload_n 3, 1) := by decide +kernel
theorem dX11_perform_9 : decode cX11_perform 9 = .ok (.aload_n 2, 1) := by decide +kernel
theorem dX11_perform_10 : decode cX11_perform 10 = .ok (.getfield 273, 3) := by decide +kernel
theorem dX11_perform_13 : decode cX11_perform 13 = .ok (.if_icmp .ge 54, 3) := by decide +kernel
theorem dX11_perform_16 : decode cX11_perform 16 = .ok (.aload_n 0, 1) := by decide +kernel
theorem dX11_perform_17 : decode cX11_perform 17 = .ok (.aload_n 0, 1) := by decide +kernel
theorem dX11_perform_18 : decode cX11_perform 18 = .ok (.getfield 34, 3) := by decide +kernel
theorem dX11_perform_21 : decode cX11_perform 21 = .ok (.getfield 119, 3) := by decide +kernel
theorem dX11_perform_24 : decode cX11_perform 24 = .ok (.aload_n 2, 1) := by decide +kernel
theorem dX11_perform_25 : decode cX11_perform 25 = .ok (.getfield 276, 3) := by decide +kernel
theorem dX11_perform_28 : decode cX11_perform 28 = .ok (.iload_n 3, 1) := by decide +kernel
theorem dX11_perform_29 : decode cX11_perform 29 = .ok (.laload, 1) := by decide +kernel
theorem dX11_perform_30 : decode cX11_perform 30 = .ok (.invokevirtual 280, 3) := by decide +kernel
theorem dX11_perform_33 : decode cX11_perform 33 = .ok (.ifCond .eq 34, 3) := by decide +kernel
theorem dX11_perform_36 : decode cX11_perform 36 = .ok (.aload_n 0, 1) := by decide +kernel
theorem dX11_perform_37 : decode cX11_perform 37 = .ok (.getfield 34, 3) := by decide +kernel
theorem dX11_perform_40 : decode cX11_perform 40 = .ok (.invokevirtual 222, 3) := by decide +kernel
theorem dX11_perform_43 : decode cX11_perform 43 = .ok (.aload_n 0, 1) := by decide +kernel
theorem dX11_perform_44 : decode cX11_perform 44 = .ok (.aload_n 0, 1) := by decide +kernel
theorem dX11_perform_45 : decode cX11_perform 45 = .ok (.getfield 34, 3) := by decide +kernel
theorem dX11_perform_48 : decode cX11_perform 48 = .ok (.getfield 119, 3) := by decide +kernel
theorem dX11_perform_51 : decode cX11_perform 51 = .ok (.aload_n 2, 1) := by decide +kernel
theorem dX11_perform_52 : decode cX11_perform 52 = .ok (.getfield 276, 3) := by decide +kernel
theorem dX11_perform_55 : decode cX11_perform 55 = .ok (.iload_n 3, 1) := by decide +kernel
theorem dX11_perform_56 : decode cX11_perform 56 = .ok (.laload, 1) := by decide +kernel
theorem dX11_perform_57 : decode cX11_perform 57 = .ok (.l2i, 1) := by decide +kernel
theorem dX11_perform_58 : decode cX11_perform 58 = .ok (.invokevirtual 284, 3) := by decide +kernel
theorem dX11_perform_61 : decode cX11_perform 61 = .ok (.iinc 3 1, 3) := by decide +kernel
theorem dX11_perform_64 : decode cX11_perform 64 = .ok (.goto (-56), 3) := by decide +kernel
theorem dX11_perform_67 : decode cX11_perform 67 = .ok (.iload_n 3, 1) := by decide +kernel
theorem dX11_perform_68 : decode cX11_perform 68 = .ok (.ireturn, 1) := by decide +kernel
theorem dX11_canBe_0 : decode cX11_canBe 0 = .ok (.lload_n 2, 1) := by decide +kernel
theorem dX11_canBe_1 : decode cX11_canBe 1 = .ok (.lconst 0, 1) := by decide +kernel
theorem dX11_canBe_2 : decode cX11_canBe 2 = .ok (.lcmp, 1) := by decide +kernel
theorem dX11_canBe_3 : decode cX11_canBe 3 = .ok (.ifCond .lt 61, 3) := by decide +kernel
theorem dX11_canBe_6 : decode cX11_canBe 6 = .ok (.lload_n 2, 1) := by decide +kernel
theorem dX11_canBe_7 : decode cX11_canBe 7 = .ok (.ldc2_w 291, 3) := by decide +kernel
theorem dX11_canBe_10 : decode cX11_canBe 10 = .ok (.lcmp, 1) := by decide +kernel
theorem dX11_canBe_11 : decode cX11_canBe 11 = .ok (.ifCond .ge 53, 3) := by decide +kernel
theorem dX11_canBe_14 : decode cX11_canBe 14 = .ok (.lload_n 2, 1) := by decide +kernel
theorem dX11_canBe_15 : decode cX11_canBe 15 = .ok (.ldc2_w 293, 3) := by decide +kernel
theorem dX11_canBe_18 : decode cX11_canBe 18 = .ok (.ldiv, 1) := by decide +kernel
theorem dX11_canBe_19 : decode cX11_canBe 19 = .ok (.aload_n 0, 1) := by decide +kernel
theorem dX11_canBe_20 : decode cX11_canBe 20 = .ok (.getfield 34, 3) := by decide +kernel
theorem dX11_canBe_23 : decode cX11_canBe 23 = .ok (.getfield 130, 3) := by decide +kernel
theorem dX11_canBe_26 : decode cX11_canBe 26 = .ok (.getfield 208, 3) := by decide +kernel
theorem dX11_canBe_29 : decode cX11_canBe 29 = .ok (.i2l, 1) := by decide +kernel
theorem dX11_canBe_30 : decode cX11_canBe 30 = .ok (.lcmp, 1) := by decide +kernel
theorem dX11_canBe_31 : decode cX11_canBe 31 = .ok (.ifCond .ge 31, 3) := by decide +kernel
theorem dX11_canBe_34 : decode cX11_canBe 34 = .ok (.lload_n 2, 1) := by decide +kernel
theorem dX11_canBe_35 : decode cX11_canBe 35 = .ok (.ldc2_w 295, 3) := by decide +kernel
theorem dX11_canBe_38 : decode cX11_canBe 38 = .ok (.ldiv, 1) := by decide +kernel
theorem dX11_canBe_39 : decode cX11_canBe 39 = .ok (.ldc2_w 295, 3) := by decide +kernel
theorem dX11_canBe_42 : decode cX11_canBe 42 = .ok (.lrem, 1) := by decide +kernel
theorem dX11_canBe_43 : decode cX11_canBe 43 = .ok (.aload_n 0, 1) := by decide +kernel
theorem dX11_canBe_44 : decode cX11_canBe 44 = .ok (.getfield 34, 3) := by decide +kernel
theorem dX11_canBe_47 : decode cX11_canBe 47 = .ok (.getfield 130, 3) := by decide +kernel
theorem dX11_canBe_50 : decode cX11_canBe 50 = .ok (.getfield 297, 3) := by decide +kernel
theorem dX11_canBe_53 : decode cX11_canBe 53 = .ok (.i2l, 1) := by decide +kernel
theorem dX11_canBe_54 : decode cX11_canBe 54 = .ok (.lcmp, 1) := by decide +kernel
theorem dX11_canBe_55 : decode cX11_canBe 55 = .ok (.ifCond .ge 7, 3) := by decide +kernel
theorem dX11_canBe_58 : decode cX11_canBe 58 = .ok (.iconst 1, 1) := by decide +kernel
theorem dX11_canBe_59 : decode cX11_canBe 59 = .ok (.goto 4, 3) := by decide +kernel
theorem dX11_canBe_62 : decode cX11_canBe 62 = .ok (.iconst 0, 1) := by decide +kernel
theorem dX11_canBe_63 : decode cX11_canBe 63 = .ok (.ireturn, 1) := by decide +kernel
theorem dX11_canBe_64 : decode cX11_canBe 64 = .ok (.lload_n 2, 1) := by decide +kernel
theorem dX11_canBe_65 : decode cX11_canBe 65 = .ok (.ldc2_w 300, 3) := by decide +kernel
theorem dX11_canBe_68 : decode cX11_canBe 68 = .ok (.lcmp, 1) := by decide +kernel
theorem dX11_canBe_69 : decode cX11_canBe 69 = .ok (.ifCond .lt 37, 3) := by decide +kernel
theorem dX11_canBe_72 : decode cX11_canBe 72 = .ok (.lload_n 2, 1) := by decide +kernel
theorem dX11_canBe_73 : decode cX11_canBe 73 = .ok (.ldc2_w 302, 3) := by decide +kernel
theorem dX11_canBe_76 : decode cX11_canBe 76 = .ok (.lcmp, 1) := by decide +kernel
theorem dX11_canBe_77 : decode cX11_canBe 77 = .ok (.ifCond .ge 29, 3) := by decide +kernel
theorem dX11_canBe_80 : decode cX11_canBe 80 = .ok (.lload_n 2, 1) := by decide +kernel
theorem dX11_canBe_81 : decode cX11_canBe 81 = .ok (.ldc2_w 300, 3) := by decide +kernel
theorem dX11_canBe_84 : decode cX11_canBe 84 = .ok (.lsub, 1) := by decide +kernel
theorem dX11_canBe_85 : decode cX11_canBe 85 = .ok (.aload_n 0, 1) := by decide +kernel
theorem dX11_canBe_86 : decode cX11_canBe 86 = .ok (.getfield 34, 3) := by decide +kernel
theorem dX11_canBe_89 : decode cX11_canBe 89 = .ok (.getfield 130, 3) := by decide +kernel
theorem dX11_canBe_92 : decode cX11_canBe 92 = .ok (.getfield 208, 3) := by decide +kernel
theorem dX11_canBe_95 : decode cX11_canBe 95 = .ok (.i2l, 1) := by decide +kernel
theorem dX11_canBe_96 : decode cX11_canBe 96 = .ok (.lcmp, 1) := by decide +kernel
theorem dX11_canBe_97 : decode cX11_canBe 97 = .ok (.ifCond .ge 7, 3) := by decide +kernel
theorem dX11_canBe_100 : decode cX11_canBe 100 = .ok (.iconst 1, 1) := by decide +kernel
theorem dX11_canBe_101 : decode cX11_canBe 101 = .ok (.goto 4, 3) := by decide +kernel
theorem dX11_canBe_104 : decode cX11_canBe 104 = .ok (.iconst 0, 1) := by decide +kernel
theorem dX11_canBe_105 : decode cX11_canBe 105 = .ok (.ireturn, 1) := by decide +kernel
theorem dX11_canBe_106 : decode cX11_canBe 106 = .ok (.lload_n 2, 1) := by decide +kernel
theorem dX11_canBe_107 : decode cX11_canBe 107 = .ok (.ldc2_w 304, 3) := by decide +kernel
theorem dX11_canBe_110 : decode cX11_canBe 110 = .ok (.lcmp, 1) := by decide +kernel
theorem dX11_canBe_111 : decode cX11_canBe 111 = .ok (.ifCond .eq 19, 3) := by decide +kernel
theorem dX11_canBe_114 : decode cX11_canBe 114 = .ok (.lload_n 2, 1) := by decide +kernel
theorem dX11_canBe_115 : decode cX11_canBe 115 = .ok (.ldc2_w 306, 3) := by decide +kernel
theorem dX11_canBe_118 : decode cX11_canBe 118 = .ok (.lcmp, 1) := by decide +kernel
theorem dX11_canBe_119 : decode cX11_canBe 119 = .ok (.ifCond .ne 15, 3) := by decide +kernel
theorem dX11_canBe_122 : decode cX11_canBe 122 = .ok (.aload_n 1, 1) := by decide +kernel
theorem dX11_canBe_123 : decode cX11_canBe 123 = .ok (.getfield 228, 3) := by decide +kernel
theorem dX11_canBe_126 : decode cX11_canBe 126 = .ok (.iconst (-1), 1) := by decide +kernel
theorem dX11_canBe_127 : decode cX11_canBe 127 = .ok (.if_icmp .eq 7, 3) := by decide +kernel
theorem dX11_canBe_130 : decode cX11_canBe 130 = .ok (.iconst 1, 1) := by decide +kernel
theorem dX11_canBe_131 : decode cX11_canBe 131 = .ok (.goto 4, 3) := by decide +kernel
theorem dX11_canBe_134 : decode cX11_canBe 134 = .ok (.iconst 0, 1) := by decide +kernel
theorem dX11_canBe_135 : decode cX11_canBe 135 = .ok (.ireturn, 1) := by decide +kernel
theorem dX11_doTold_0 : decode cX11_doTold 0 = .ok (.iload_n 2, 1) := by decide +kernel
theorem dX11_doTold_1 : decode cX11_doTold 1 = .ok (.iconst (-1), 1) := by decide +kernel
theorem dX11_doTold_2 : decode cX11_doTold 2 = .ok (.if_icmp .ne 18, 3) := by decide +kernel
theorem dX11_doTold_5 : decode cX11_doTold 5 = .ok (.aload_n 1, 1) := by decide +kernel
theorem dX11_doTold_6 : decode cX11_doTold 6 = .ok (.aload_n 0, 1) := by decide +kernel
theorem dX11_doTold_7 : decode cX11_doTold 7 = .ok (.getfield 34, 3) := by decide +kernel
theorem dX11_doTold_10 : decode cX11_doTold 10 = .ok (.getfield 130, 3) := by decide +kernel
theorem dX11_doTold_13 : decode cX11_doTold 13 = .ok (.invokevirtual 231, 3) := by decide +kernel
theorem dX11_doTold_16 : decode cX11_doTold 16 = .ok (.pop, 1) := by decide +kernel
theorem dX11_doTold_17 : decode cX11_doTold 17 = .ok (.goto 86, 3) := by decide +kernel
theorem dX11_doTold_20 : decode cX11_doTold 20 = .ok (.iload_n 2, 1) := by decide +kernel
theorem dX11_doTold_21 : decode cX11_doTold 21 = .ok (.sipush 3000, 3) := by decide +kernel
theorem dX11_doTold_24 : decode cX11_doTold 24 = .ok (.if_icmp .ne 22, 3) := by decide +kernel
theorem dX11_doTold_27 : decode cX11_doTold 27 = .ok (.aload_n 1, 1) := by decide +kernel
theorem dX11_doTold_28 : decode cX11_doTold 28 = .ok (.aload_n 1, 1) := by decide +kernel
theorem dX11_doTold_29 : decode cX11_doTold 29 = .ok (.getfield 126, 3) := by decide +kernel
theorem dX11_doTold_32 : decode cX11_doTold 32 = .ok (.ifCond .ne 7, 3) := by decide +kernel
theorem dX11_doTold_35 : decode cX11_doTold 35 = .ok (.iconst 1, 1) := by decide +kernel
theorem dX11_doTold_36 : decode cX11_doTold 36 = .ok (.goto 4, 3) := by decide +kernel
theorem dX11_doTold_39 : decode cX11_doTold 39 = .ok (.iconst 0, 1) := by decide +kernel
theorem dX11_doTold_40 : decode cX11_doTold 40 = .ok (.putfield 126, 3) := by decide +kernel
theorem dX11_doTold_43 : decode cX11_doTold 43 = .ok (.goto 60, 3) := by decide +kernel
theorem dX11_doTold_46 : decode cX11_doTold 46 = .ok (.iload_n 2, 1) := by decide +kernel
theorem dX11_doTold_47 : decode cX11_doTold 47 = .ok (.sipush 2000, 3) := by decide +kernel
theorem dX11_doTold_50 : decode cX11_doTold 50 = .ok (.if_icmp .lt 15, 3) := by decide +kernel
theorem dX11_doTold_53 : decode cX11_doTold 53 = .ok (.aload_n 1, 1) := by decide +kernel
theorem dX11_doTold_54 : decode cX11_doTold 54 = .ok (.iload_n 2, 1) := by decide +kernel
theorem dX11_doTold_55 : decode cX11_doTold 55 = .ok (.sipush 2000, 3) := by decide +kernel
theorem dX11_doTold_58 : decode cX11_doTold 58 = .ok (.isub, 1) := by decide +kernel
theorem dX11_doTold_59 : decode cX11_doTold 59 = .ok (.invokevirtual 235, 3) := by decide +kernel
theorem dX11_doTold_62 : decode cX11_doTold 62 = .ok (.goto 41, 3) := by decide +kernel
theorem dX11_doTold_65 : decode cX11_doTold 65 = .ok (.aload_n 1, 1) := by decide +kernel
theorem dX11_doTold_66 : decode cX11_doTold 66 = .ok (.iload_n 2, 1) := by decide +kernel
theorem dX11_doTold_67 : decode cX11_doTold 67 = .ok (.bipush 100, 2) := by decide +kernel
theorem dX11_doTold_69 : decode cX11_doTold 69 = .ok (.idiv, 1) := by decide +kernel
theorem dX11_doTold_70 : decode cX11_doTold 70 = .ok (.iload_n 2, 1) := by decide +kernel
theorem dX11_doTold_71 : decode cX11_doTold 71 = .ok (.bipush 10, 2) := by decide +kernel
theorem dX11_doTold_73 : decode cX11_doTold 73 = .ok (.idiv, 1) := by decide +kernel
theorem dX11_doTold_74 : decode cX11_doTold 74 = .ok (.bipush 10, 2) := by decide +kernel
theorem dX11_doTold_76 : decode cX11_doTold 76 = .ok (.irem, 1) := by decide +kernel
theorem dX11_doTold_77 : decode cX11_doTold 77 = .ok (.iload_n 2, 1) := by decide +kernel
theorem dX11_doTold_78 : decode cX11_doTold 78 = .ok (.bipush 10, 2) := by decide +kernel
theorem dX11_doTold_80 : decode cX11_doTold 80 = .ok (.irem, 1) := by decide +kernel
theorem dX11_doTold_81 : decode cX11_doTold 81 = .ok (.invokevirtual 240, 3) := by decide +kernel
theorem dX11_doTold_84 : decode cX11_doTold 84 = .ok (.aload_n 1, 1) := by decide +kernel
theorem dX11_doTold_85 : decode cX11_doTold 85 = .ok (.aload_n 0, 1) := by decide +kernel
theorem dX11_doTold_86 : decode cX11_doTold 86 = .ok (.getfield 34, 3) := by decide +kernel
theorem dX11_doTold_89 : decode cX11_doTold 89 = .ok (.getfield 130, 3) := by decide +kernel
theorem dX11_doTold_92 : decode cX11_doTold 92 = .ok (.aload_n 0, 1) := by decide +kernel
theorem dX11_doTold_93 : decode cX11_doTold 93 = .ok (.getfield 27, 3) := by decide +kernel
theorem dX11_doTold_96 : decode cX11_doTold 96 = .ok (.iload_n 2, 1) := by decide +kernel
theorem dX11_doTold_97 : decode cX11_doTold 97 = .ok (.bipush 100, 2) := by decide +kernel
theorem dX11_doTold_99 : decode cX11_doTold 99 = .ok (.idiv, 1) := by decide +kernel
theorem dX11_doTold_100 : decode cX11_doTold 100 = .ok (.invokevirtual 244, 3) := by decide +kernel
theorem dX11_doTold_103 : decode cX11_doTold 103 = .ok (.return_, 1) := by decide +kernel
theorem dX11_night_0 : decode cX11_night 0 = .ok (.iload_n 2, 1) := by decide +kernel
theorem dX11_night_1 : decode cX11_night 1 = .ok (.iconst 1, 1) := by decide +kernel
theorem dX11_night_2 : decode cX11_night 2 = .ok (.if_icmp .lt 9, 3) := by decide +kernel
theorem dX11_night_5 : decode cX11_night 5 = .ok (.iload_n 2, 1) := by decide +kernel
theorem dX11_night_6 : decode cX11_night 6 = .ok (.bipush 30, 2) := by decide +kernel
theorem dX11_night_8 : decode cX11_night 8 = .ok (.if_icmp .le 14, 3) := by decide +kernel
theorem dX11_night_11 : decode cX11_night 11 = .ok (.new 84, 3) := by decide +kernel
theorem dX11_night_14 : decode cX11_night 14 = .ok (.dup, 1) := by decide +kernel
theorem dX11_night_15 : decode cX11_night 15 = .ok (.ldc_w 308, 3) := by decide +kernel
theorem dX11_night_18 : decode cX11_night 18 = .ok (.invokespecial 88, 3) := by decide +kernel
theorem dX11_night_21 : decode cX11_night 21 = .ok (.athrow, 1) := by decide +kernel
theorem dX11_night_22 : decode cX11_night 22 = .ok (.aload_n 0, 1) := by decide +kernel
theorem dX11_night_23 : decode cX11_night 23 = .ok (.getfield 34, 3) := by decide +kernel
theorem dX11_night_26 : decode cX11_night 26 = .ok (.getfield 130, 3) := by decide +kernel
theorem dX11_night_29 : decode cX11_night 29 = .ok (.getfield 208, 3) := by decide +kernel
theorem dX11_night_32 : decode cX11_night 32 = .ok (.istore_n 3, 1) := by decide +kernel
theorem dX11_night_33 : decode cX11_night 33 = .ok (.aload_n 0, 1) := by decide +kernel
theorem dX11_night_34 : decode cX11_night 34 = .ok (.getfield 34, 3) := by decide +kernel
theorem dX11_night_37 : decode cX11_night 37 = .ok (.getfield 130, 3) := by decide +kernel
theorem dX11_night_40 : decode cX11_night 40 = .ok (.getfield 297, 3) := by decide +kernel
theorem dX11_night_43 : decode cX11_night 43 = .ok (.istore 4, 2) := by decide +kernel
theorem dX11_night_45 : decode cX11_night 45 = .ok (.iload_n 3, 1) := by decide +kernel
theorem dX11_night_46 : decode cX11_night 46 = .ok (.iconst 1, 1) := by decide +kernel
theorem dX11_night_47 : decode cX11_night 47 = .ok (.if_icmp .lt 9, 3) := by decide +kernel
theorem dX11_night_50 : decode cX11_night 50 = .ok (.iload 4, 2) := by decide +kernel
theorem dX11_night_52 : decode cX11_night 52 = .ok (.iconst 1, 1) := by decide +kernel
theorem dX11_night_53 : decode cX11_night 53 = .ok (.if_icmp .ge 14, 3) := by decide +kernel
theorem dX11_night_56 : decode cX11_night 56 = .ok (.new 310, 3) := by decide +kernel
theorem dX11_night_59 : decode cX11_night 59 = .ok (.dup, 1) := by decide +kernel
theorem dX11_night_60 : decode cX11_night 60 = .ok (.ldc_w 312, 3) := by decide +kernel
theorem dX11_night_63 : decode cX11_night 63 = .ok (.invokespecial 314, 3) := by decide +kernel
theorem dX11_night_66 : decode cX11_night 66 = .ok (.athrow, 1) := by decide +kernel
theorem dX11_night_67 : decode cX11_night 67 = .ok (.iload_n 1, 1) := by decide +kernel
theorem dX11_night_68 : decode cX11_night 68 = .ok (.istore 5, 2) := by decide +kernel
theorem dX11_night_70 : decode cX11_night 70 = .ok (.iconst 0, 1) := by decide +kernel
theorem dX11_night_71 : decode cX11_night 71 = .ok (.istore 6, 2) := by decide +kernel
theorem dX11_night_73 : decode cX11_night 73 = .ok (.iload 6, 2) := by decide +kernel
theorem dX11_night_75 : decode cX11_night 75 = .ok (.iload_n 2, 1) := by decide +kernel
theorem dX11_night_76 : decode cX11_night 76 = .ok (.if_icmp .ge 174, 3) := by decide +kernel
theorem dX11_night_79 : decode cX11_night 79 = .ok (.aload_n 0, 1) := by decide +kernel
theorem dX11_night_80 : decode cX11_night 80 = .ok (.getfield 34, 3) := by decide +kernel
theorem dX11_night_83 : decode cX11_night 83 = .ok (.invokevirtual 222, 3) := by decide +kernel
theorem dX11_night_86 : decode cX11_night 86 = .ok (.iload 5, 2) := by decide +kernel
theorem dX11_night_88 : decode cX11_night 88 = .ok (.invokestatic 315, 3) := by decide +kernel
theorem dX11_night_91 : decode cX11_night 91 = .ok (.istore 5, 2) := by decide +kernel
theorem dX11_night_93 : decode cX11_night 93 = .ok (.iload 5, 2) := by decide +kernel
theorem dX11_night_95 : decode cX11_night 95 = .ok (.bipush 16, 2) := by decide +kernel
theorem dX11_night_97 : decode cX11_night 97 = .ok (.iushr, 1) := by decide +kernel
theorem dX11_night_98 : decode cX11_night 98 = .ok (.iconst 3, 1) := by decide +kernel
theorem dX11_night_99 : decode cX11_night 99 = .ok (.irem, 1) := by decide +kernel
theorem dX11_night_100 : decode cX11_night 100 = .ok (.istore 7, 2) := by decide +kernel
theorem dX11_night_102 : decode cX11_night 102 = .ok (.iload 7, 2) := by decide +kernel
theorem dX11_night_104 : decode cX11_night 104 = .ok (.ifCond .ne 34, 3) := by decide +kernel
theorem dX11_night_107 : decode cX11_night 107 = .ok (.aload_n 0, 1) := by decide +kernel
theorem dX11_night_108 : decode cX11_night 108 = .ok (.getfield 34, 3) := by decide +kernel
theorem dX11_night_111 : decode cX11_night 111 = .ok (.getfield 119, 3) := by decide +kernel
theorem dX11_night_114 : decode cX11_night 114 = .ok (.aload_n 0, 1) := by decide +kernel
theorem dX11_night_115 : decode cX11_night 115 = .ok (.getfield 34, 3) := by decide +kernel
theorem dX11_night_118 : decode cX11_night 118 = .ok (.getfield 119, 3) := by decide +kernel
theorem dX11_night_121 : decode cX11_night 121 = .ok (.getfield 126, 3) := by decide +kernel
theorem dX11_night_124 : decode cX11_night 124 = .ok (.ifCond .ne 7, 3) := by decide +kernel
theorem dX11_night_127 : decode cX11_night 127 = .ok (.iconst 1, 1) := by decide +kernel
theorem dX11_night_128 : decode cX11_night 128 = .ok (.goto 4, 3) := by decide +kernel
theorem dX11_night_131 : decode cX11_night 131 = .ok (.iconst 0, 1) := by decide +kernel
theorem dX11_night_132 : decode cX11_night 132 = .ok (.putfield 126, 3) := by decide +kernel
theorem dX11_night_135 : decode cX11_night 135 = .ok (.goto 109, 3) := by decide +kernel
theorem dX11_night_138 : decode cX11_night 138 = .ok (.iload 5, 2) := by decide +kernel
theorem dX11_night_140 : decode cX11_night 140 = .ok (.invokestatic 315, 3) := by decide +kernel
theorem dX11_night_143 : decode cX11_night 143 = .ok (.istore 5, 2) := by decide +kernel
theorem dX11_night_145 : decode cX11_night 145 = .ok (.iload 5, 2) := by decide +kernel
theorem dX11_night_147 : decode cX11_night 147 = .ok (.bipush 16, 2) := by decide +kernel
theorem dX11_night_149 : decode cX11_night 149 = .ok (.iushr, 1) := by decide +kernel
theorem dX11_night_150 : decode cX11_night 150 = .ok (.iload_n 3, 1) := by decide +kernel
theorem dX11_night_151 : decode cX11_night 151 = .ok (.irem, 1) := by decide +kernel
theorem dX11_night_152 : decode cX11_night 152 = .ok (.istore 8, 2) := by decide +kernel
theorem dX11_night_154 : decode cX11_night 154 = .ok (.iload 7, 2) := by decide +kernel
theorem dX11_night_156 : decode cX11_night 156 = .ok (.iconst 2, 1) := by decide +kernel
theorem dX11_night_157 : decode cX11_night 157 = .ok (.if_icmp .ne 18, 3) := by decide +kernel
theorem dX11_night_160 : decode cX11_night 160 = .ok (.aload_n 0, 1) := by decide +kernel
theorem dX11_night_161 : decode cX11_night 161 = .ok (.getfield 34, 3) := by decide +kernel
theorem dX11_night_164 : decode cX11_night 164 = .ok (.getfield 119, 3) := by decide +kernel
theorem dX11_night_167 : decode cX11_night 167 = .ok (.iload 8, 2) := by decide +kernel
theorem dX11_night_169 : decode cX11_night 169 = .ok (.invokevirtual 235, 3) := by decide +kernel
theorem dX11_night_172 : decode cX11_night 172 = .ok (.goto 72, 3) := by decide +kernel
theorem dX11_night_175 : decode cX11_night 175 = .ok (.iload 5, 2) := by decide +kernel
theorem dX11_night_177 : decode cX11_night 177 = .ok (.invokestatic 315, 3) := by decide +kernel
theorem dX11_night_180 : decode cX11_night 180 = .ok (.istore 5, 2) := by decide +kernel
theorem dX11_night_182 : decode cX11_night 182 = .ok (.iload 5, 2) := by decide +kernel
theorem dX11_night_184 : decode cX11_night 184 = .ok (.bipush 16, 2) := by decide +kernel
theorem dX11_night_186 : decode cX11_night 186 = .ok (.iushr, 1) := by decide +kernel
theorem dX11_night_187 : decode cX11_night 187 = .ok (.iload 4, 2) := by decide +kernel
theorem dX11_night_189 : decode cX11_night 189 = .ok (.irem, 1) := by decide +kernel
theorem dX11_night_190 : decode cX11_night 190 = .ok (.istore 9, 2) := by decide +kernel
theorem dX11_night_192 : decode cX11_night 192 = .ok (.iload 5, 2) := by decide +kernel
theorem dX11_night_194 : decode cX11_night 194 = .ok (.invokestatic 315, 3) := by decide +kernel
theorem dX11_night_197 : decode cX11_night 197 = .ok (.istore 5, 2) := by decide +kernel
theorem dX11_night_199 : decode cX11_night 199 = .ok (.aload_n 0, 1) := by decide +kernel
theorem dX11_night_200 : decode cX11_night 200 = .ok (.getfield 34, 3) := by decide +kernel
theorem dX11_night_203 : decode cX11_night 203 = .ok (.getfield 119, 3) := by decide +kernel
theorem dX11_night_206 : decode cX11_night 206 = .ok (.iload 8, 2) := by decide +kernel
theorem dX11_night_208 : decode cX11_night 208 = .ok (.iload 9, 2) := by decide +kernel
theorem dX11_night_210 : decode cX11_night 210 = .ok (.iload 5, 2) := by decide +kernel
theorem dX11_night_212 : decode cX11_night 212 = .ok (.bipush 16, 2) := by decide +kernel
theorem dX11_night_214 : decode cX11_night 214 = .ok (.iushr, 1) := by decide +kernel
theorem dX11_night_215 : decode cX11_night 215 = .ok (.bipush 10, 2) := by decide +kernel
theorem dX11_night_217 : decode cX11_night 217 = .ok (.irem, 1) := by decide +kernel
theorem dX11_night_218 : decode cX11_night 218 = .ok (.invokevirtual 240, 3) := by decide +kernel
theorem dX11_night_221 : decode cX11_night 221 = .ok (.aload_n 0, 1) := by decide +kernel
theorem dX11_night_222 : decode cX11_night 222 = .ok (.getfield 34, 3) := by decide +kernel
theorem dX11_night_225 : decode cX11_night 225 = .ok (.getfield 119, 3) := by decide +kernel
theorem dX11_night_228 : decode cX11_night 228 = .ok (.aload_n 0, 1) := by decide +kernel
theorem dX11_night_229 : decode cX11_night 229 = .ok (.getfield 34, 3) := by decide +kernel
theorem dX11_night_232 : decode cX11_night 232 = .ok (.getfield 130, 3) := by decide +kernel
theorem dX11_night_235 : decode cX11_night 235 = .ok (.aload_n 0, 1) := by decide +kernel
theorem dX11_night_236 : decode cX11_night 236 = .ok (.getfield 27, 3) := by decide +kernel
theorem dX11_night_239 : decode cX11_night 239 = .ok (.iload 8, 2) := by decide +kernel
theorem dX11_night_241 : decode cX11_night 241 = .ok (.invokevirtual 244, 3) := by decide +kernel
theorem dX11_night_244 : decode cX11_night 244 = .ok (.iinc 6 1, 3) := by decide +kernel
theorem dX11_night_247 : decode cX11_night 247 = .ok (.goto (-174), 3) := by decide +kernel
theorem dX11_night_250 : decode cX11_night 250 = .ok (.iload_n 2, 1) := by decide +kernel
theorem dX11_night_251 : decode cX11_night 251 = .ok (.ireturn, 1) := by decide +kernel
theorem dX11_afterDraw_0 : decode cX11_afterDraw 0 = .ok (.ldc_w 318, 3) := by decide +kernel
theorem dX11_afterDraw_3 : decode cX11_afterDraw 3 = .ok (.iload_n 0, 1) := by decide +kernel
theorem dX11_afterDraw_4 : decode cX11_afterDraw 4 = .ok (.imul, 1) := by decide +kernel
theorem dX11_afterDraw_5 : decode cX11_afterDraw 5 = .ok (.sipush 12345, 3) := by decide +kernel
theorem dX11_afterDraw_8 : decode cX11_afterDraw 8 = .ok (.iadd, 1) := by decide +kernel
theorem dX11_afterDraw_9 : decode cX11_afterDraw 9 = .ok (.ireturn, 1) := by decide +kernel
theorem dX11_hardened_0 : decode cX11_hardened 0 = .ok (.aload_n 0, 1) := by decide +kernel
theorem dX11_hardened_1 : decode cX11_hardened 1 = .ok (.iload_n 1, 1) := by decide +kernel
theorem dX11_hardened_2 : decode cX11_hardened 2 = .ok (.invokevirtual 190, 3) := by decide +kernel
theorem dX11_hardened_5 : decode cX11_hardened 5 = .ok (.aload_n 0, 1) := by decide +kernel
theorem dX11_hardened_6 : decode cX11_hardened 6 = .ok (.getfield 34, 3) := by decide +kernel
theorem dX11_hardened_9 : decode cX11_hardened 9 = .ok (.getfield 130, 3) := by decide +kernel
theorem dX11_hardened_12 : decode cX11_hardened 12 = .ok (.invokevirtual 319, 3) := by decide +kernel
theorem dX11_hardened_15 : decode cX11_hardened 15 = .ok (.aload_n 0, 1) := by decide +kernel
theorem dX11_hardened_16 : decode cX11_hardened 16 = .ok (.getfield 34, 3) := by decide +kernel
theorem dX11_hardened_19 : decode cX11_hardened 19 = .ok (.getfield 119, 3) := by decide +kernel
theorem dX11_hardened_22 : decode cX11_hardened 22 = .ok (.getfield 288, 3) := by decide +kernel
theorem dX11_hardened_25 : decode cX11_hardened 25 = .ok (.iconst (-1), 1) := by decide +kernel
theorem dX11_hardened_26 : decode cX11_hardened 26 = .ok (.ixor, 1) := by decide +kernel
theorem dX11_hardened_27 : decode cX11_hardened 27 = .ok (.iand, 1) := by decide +kernel
theorem dX11_hardened_28 : decode cX11_hardened 28 = .ok (.invokestatic 152, 3) := by decide +kernel
theorem dX11_hardened_31 : decode cX11_hardened 31 = .ok (.bipush 6, 2) := by decide +kernel
theorem dX11_hardened_33 : decode cX11_hardened 33 = .ok (.if_icmp .le 14, 3) := by decide +kernel
theorem dX11_hardened_36 : decode cX11_hardened 36 = .ok (.new 310, 3) := by decide +kernel
theorem dX11_hardened_39 : decode cX11_hardened 39 = .ok (.dup, 1) := by decide +kernel
theorem dX11_hardened_40 : decode cX11_hardened 40 = .ok (.ldc_w 323, 3) := by decide +kernel
theorem dX11_hardened_43 : decode cX11_hardened 43 = .ok (.invokespecial 314, 3) := by decide +kernel
theorem dX11_hardened_46 : decode cX11_hardened 46 = .ok (.athrow, 1) := by decide +kernel
theorem dX11_hardened_47 : decode cX11_hardened 47 = .ok (.iload_n 2, 1) := by decide +kernel
theorem dX11_hardened_48 : decode cX11_hardened 48 = .ok (.iconst 1, 1) := by decide +kernel
theorem dX11_hardened_49 : decode cX11_hardened 49 = .ok (.if_icmp .lt 9, 3) := by decide +kernel
theorem dX11_hardened_52 : decode cX11_hardened 52 = .ok (.iload_n 2, 1) := by decide +kernel
theorem dX11_hardened_53 : decode cX11_hardened 53 = .ok (.bipush 99, 2) := by decide +kernel
theorem dX11_hardened_55 : decode cX11_hardened 55 = .ok (.if_icmp .le 14, 3) := by decide +kernel
theorem dX11_hardened_58 : decode cX11_hardened 58 = .ok (.new 84, 3) := by decide +kernel
theorem dX11_hardened_61 : decode cX11_hardened 61 = .ok (.dup, 1) := by decide +kernel
theorem dX11_hardened_62 : decode cX11_hardened 62 = .ok (.ldc_w 325, 3) := by decide +kernel
theorem dX11_hardened_65 : decode cX11_hardened 65 = .ok (.invokespecial 88, 3) := by decide +kernel
theorem dX11_hardened_68 : decode cX11_hardened 68 = .ok (.athrow, 1) := by decide +kernel
theorem dX11_hardened_69 : decode cX11_hardened 69 = .ok (.aload_n 0, 1) := by decide +kernel
theorem dX11_hardened_70 : decode cX11_hardened 70 = .ok (.getfield 58, 3) := by decide +kernel
theorem dX11_hardened_73 : decode cX11_hardened 73 = .ok (.aload_n 0, 1) := by decide +kernel
theorem dX11_hardened_74 : decode cX11_hardened 74 = .ok (.getfield 34, 3) := by decide +kernel
theorem dX11_hardened_77 : decode cX11_hardened 77 = .ok (.getfield 130, 3) := by decide +kernel
theorem dX11_hardened_80 : decode cX11_hardened 80 = .ok (.aload_n 0, 1) := by decide +kernel
theorem dX11_hardened_81 : decode cX11_hardened 81 = .ok (.getfield 34, 3) := by decide +kernel
theorem dX11_hardened_84 : decode cX11_hardened 84 = .ok (.getfield 119, 3) := by decide +kernel
theorem dX11_hardened_87 : decode cX11_hardened 87 = .ok (.iload_n 1, 1) := by decide +kernel
theorem dX11_hardened_88 : decode cX11_hardened 88 = .ok (.iload_n 2, 1) := by decide +kernel
theorem dX11_hardened_89 : decode cX11_hardened 89 = .ok (.invokevirtual 327, 3) := by decide +kernel
theorem dX11_hardened_92 : decode cX11_hardened 92 = .ok (.ireturn, 1) := by decide +kernel
theorem dX11_book_0 : decode cX11_book 0 = .ok (.aload_n 0, 1) := by decide +kernel
theorem dX11_book_1 : decode cX11_book 1 = .ok (.getfield 65, 3) := by decide +kernel
theorem dX11_book_4 : decode cX11_book 4 = .ok (.aload_n 0, 1) := by decide +kernel
theorem dX11_book_5 : decode cX11_book 5 = .ok (.getfield 34, 3) := by decide +kernel
theorem dX11_book_8 : decode cX11_book 8 = .ok (.getfield 130, 3) := by decide +kernel
theorem dX11_book_11 : decode cX11_book 11 = .ok (.aload_n 0, 1) := by decide +kernel
theorem dX11_book_12 : decode cX11_book 12 = .ok (.getfield 34, 3) := by decide +kernel
theorem dX11_book_15 : decode cX11_book 15 = .ok (.getfield 119, 3) := by decide +kernel
theorem dX11_book_18 : decode cX11_book 18 = .ok (.invokevirtual 330, 3) := by decide +kernel
theorem dX11_book_21 : decode cX11_book 21 = .ok (.ireturn, 1) := by decide +kernel
theorem dX11_asking_0 : decode cX11_asking 0 = .ok (.aload_n 0, 1) := by decide +kernel
theorem dX11_asking_1 : decode cX11_asking 1 = .ok (.iload_n 1, 1) := by decide +kernel
theorem dX11_asking_2 : decode cX11_asking 2 = .ok (.iconst 1, 1) := by decide +kernel
theorem dX11_asking_3 : decode cX11_asking 3 = .ok (.invokevirtual 137, 3) := by decide +kernel
theorem dX11_asking_6 : decode cX11_asking 6 = .ok (.iload_n 1, 1) := by decide +kernel
theorem dX11_asking_7 : decode cX11_asking 7 = .ok (.ifCond .ne 27, 3) := by decide +kernel
theorem dX11_asking_10 : decode cX11_asking 10 = .ok (.aload_n 0, 1) := by decide +kernel
theorem dX11_asking_11 : decode cX11_asking 11 = .ok (.getfield 65, 3) := by decide +kernel
theorem dX11_asking_14 : decode cX11_asking 14 = .ok (.aload_n 0, 1) := by decide +kernel
theorem dX11_asking_15 : decode cX11_asking 15 = .ok (.getfield 34, 3) := by decide +kernel
theorem dX11_asking_18 : decode cX11_asking 18 = .ok (.getfield 130, 3) := by decide +kernel
theorem dX11_asking_21 : decode cX11_asking 21 = .ok (.aload_n 0, 1) := by decide +kernel
theorem dX11_asking_22 : decode cX11_asking 22 = .ok (.getfield 34, 3) := by decide +kernel
theorem dX11_asking_25 : decode cX11_asking 25 = .ok (.getfield 119, 3) := by decide +kernel
theorem dX11_asking_28 : decode cX11_asking 28 = .ok (.invokevirtual 334, 3) := by decide +kernel
theorem dX11_asking_31 : decode cX11_asking 31 = .ok (.goto 24, 3) := by decide +kernel
theorem dX11_asking_34 : decode cX11_asking 34 = .ok (.aload_n 0, 1) := by decide +kernel
theorem dX11_asking_35 : decode cX11_asking 35 = .ok (.getfield 65, 3) := by decide +kernel
theorem dX11_asking_38 : decode cX11_asking 38 = .ok (.aload_n 0, 1) := by decide +kernel
theorem dX11_asking_39 : decode cX11_asking 39 = .ok (.getfield 34, 3) := by decide +kernel
theorem dX11_asking_42 : decode cX11_asking 42 = .ok (.getfield 130, 3) := by decide +kernel
theorem dX11_asking_45 : decode cX11_asking 45 = .ok (.aload_n 0, 1) := by decide +kernel
theorem dX11_asking_46 : decode cX11_asking 46 = .ok (.getfield 34, 3) := by decide +kernel
theorem dX11_asking_49 : decode cX11_asking 49 = .ok (.getfield 119, 3) := by decide +kernel
theorem dX11_asking_52 : decode cX11_asking 52 = .ok (.invokevirtual 337, 3) := by decide +kernel
theorem dX11_asking_55 : decode cX11_asking 55 = .ok (.ireturn, 1) := by decide +kernel
theorem dX11_fresh_0 : decode cX11_fresh 0 = .ok (.aload_n 0, 1) := by decide +kernel
theorem dX11_fresh_1 : decode cX11_fresh 1 = .ok (.iload_n 1, 1) := by decide +kernel
theorem dX11_fresh_2 : decode cX11_fresh 2 = .ok (.invokevirtual 113, 3) := by decide +kernel
theorem dX11_fresh_5 : decode cX11_fresh 5 = .ok (.iload_n 2, 1) := by decide +kernel
theorem dX11_fresh_6 : decode cX11_fresh 6 = .ok (.bipush 10, 2) := by decide +kernel
theorem dX11_fresh_8 : decode cX11_fresh 8 = .ok (.isub, 1) := by decide +kernel
theorem dX11_fresh_9 : decode cX11_fresh 9 = .ok (.istore_n 3, 1) := by decide +kernel
theorem dX11_fresh_10 : decode cX11_fresh 10 = .ok (.iload_n 2, 1) := by decide +kernel
theorem dX11_fresh_11 : decode cX11_fresh 11 = .ok (.ifCond .eq 24, 3) := by decide +kernel
theorem dX11_fresh_14 : decode cX11_fresh 14 = .ok (.iload_n 3, 1) := by decide +kernel
theorem dX11_fresh_15 : decode cX11_fresh 15 = .ok (.ifCond .lt 9, 3) := by decide +kernel
theorem dX11_fresh_18 : decode cX11_fresh 18 = .ok (.iload_n 3, 1) := by decide +kernel
theorem dX11_fresh_19 : decode cX11_fresh 19 = .ok (.bipush 6, 2) := by decide +kernel
theorem dX11_fresh_21 : decode cX11_fresh 21 = .ok (.if_icmp .lt 14, 3) := by decide +kernel
theorem dX11_fresh_24 : decode cX11_fresh 24 = .ok (.new 84, 3) := by decide +kernel
theorem dX11_fresh_27 : decode cX11_fresh 27 = .ok (.dup, 1) := by decide +kernel
theorem dX11_fresh_28 : decode cX11_fresh 28 = .ok (.ldc_w 340, 3) := by decide +kernel
theorem dX11_fresh_31 : decode cX11_fresh 31 = .ok (.invokespecial 88, 3) := by decide +kernel
theorem dX11_fresh_34 : decode cX11_fresh 34 = .ok (.athrow, 1) := by decide +kernel
theorem dX11_fresh_35 : decode cX11_fresh 35 = .ok (.iload_n 2, 1) := by decide +kernel
theorem dX11_fresh_36 : decode cX11_fresh 36 = .ok (.ifCond .eq 19, 3) := by decide +kernel
theorem dX11_fresh_39 : decode cX11_fresh 39 = .ok (.iload_n 3, 1) := by decide +kernel
theorem dX11_fresh_40 : decode cX11_fresh 40 = .ok (.aload_n 0, 1) := by decide +kernel
theorem dX11_fresh_41 : decode cX11_fresh 41 = .ok (.getfield 34, 3) := by decide +kernel
theorem dX11_fresh_44 : decode cX11_fresh 44 = .ok (.getfield 130, 3) := by decide +kernel
theorem dX11_fresh_47 : decode cX11_fresh 47 = .ok (.getfield 297, 3) := by decide +kernel
theorem dX11_fresh_50 : decode cX11_fresh 50 = .ok (.if_icmp .lt 5, 3) := by decide +kernel
theorem dX11_fresh_53 : decode cX11_fresh 53 = .ok (.iconst (-1), 1) := by decide +kernel
theorem dX11_fresh_54 : decode cX11_fresh 54 = .ok (.ireturn, 1) := by decide +kernel
theorem dX11_fresh_55 : decode cX11_fresh 55 = .ok (.aload_n 0, 1) := by decide +kernel
theorem dX11_fresh_56 : decode cX11_fresh 56 = .ok (.getfield 72, 3) := by decide +kernel
theorem dX11_fresh_59 : decode cX11_fresh 59 = .ok (.aload_n 0, 1) := by decide +kernel
theorem dX11_fresh_60 : decode cX11_fresh 60 = .ok (.getfield 34, 3) := by decide +kernel
theorem dX11_fresh_63 : decode cX11_fresh 63 = .ok (.getfield 130, 3) := by decide +kernel
theorem dX11_fresh_66 : decode cX11_fresh 66 = .ok (.aload_n 0, 1) := by decide +kernel
theorem dX11_fresh_67 : decode cX11_fresh 67 = .ok (.getfield 34, 3) := by decide +kernel
theorem dX11_fresh_70 : decode cX11_fresh 70 = .ok (.getfield 119, 3) := by decide +kernel
theorem dX11_fresh_73 : decode cX11_fresh 73 = .ok (.iload_n 1, 1) := by decide +kernel
theorem dX11_fresh_74 : decode cX11_fresh 74 = .ok (.invokevirtual 342, 3) := by decide +kernel
theorem dX11_fresh_77 : decode cX11_fresh 77 = .ok (.istore 4, 2) := by decide +kernel
theorem dX11_fresh_79 : decode cX11_fresh 79 = .ok (.iload_n 2, 1) := by decide +kernel
theorem dX11_fresh_80 : decode cX11_fresh 80 = .ok (.ifCond .eq 9, 3) := by decide +kernel
theorem dX11_fresh_83 : decode cX11_fresh 83 = .ok (.iload 4, 2) := by decide +kernel
theorem dX11_fresh_85 : decode cX11_fresh 85 = .ok (.iconst (-1), 1) := by decide +kernel
theorem dX11_fresh_86 : decode cX11_fresh 86 = .ok (.if_icmp .ne 8, 3) := by decide +kernel
theorem dX11_fresh_89 : decode cX11_fresh 89 = .ok (.iload 4, 2) := by decide +kernel
theorem dX11_fresh_91 : decode cX11_fresh 91 = .ok (.goto 15, 3) := by decide +kernel
theorem dX11_fresh_94 : decode cX11_fresh 94 = .ok (.aload_n 0, 1) := by decide +kernel
theorem dX11_fresh_95 : decode cX11_fresh 95 = .ok (.getfield 72, 3) := by decide +kernel
theorem dX11_fresh_98 : decode cX11_fresh 98 = .ok (.getfield 346, 3) := by decide +kernel
theorem dX11_fresh_101 : decode cX11_fresh 101 = .ok (.getfield 349, 3) := by decide +kernel
theorem dX11_fresh_104 : decode cX11_fresh 104 = .ok (.iload_n 3, 1) := by decide +kernel
theorem dX11_fresh_105 : decode cX11_fresh 105 = .ok (.iaload, 1) := by decide +kernel
theorem dX11_fresh_106 : decode cX11_fresh 106 = .ok (.ireturn, 1) := by decide +kernel
theorem dX11_twins_0 : decode cX11_twins 0 = .ok (.iconst 0, 1) := by decide +kernel
theorem dX11_twins_1 : decode cX11_twins 1 = .ok (.istore_n 1, 1) := by decide +kernel
theorem dX11_twins_2 : decode cX11_twins 2 = .ok (.iconst 0, 1) := by decide +kernel
theorem dX11_twins_3 : decode cX11_twins 3 = .ok (.istore_n 2, 1) := by decide +kernel
theorem dX11_twins_4 : decode cX11_twins 4 = .ok (.iload_n 2, 1) := by decide +kernel
theorem dX11_twins_5 : decode cX11_twins 5 = .ok (.aload_n 0, 1) := by decide +kernel
theorem dX11_twins_6 : decode cX11_twins 6 = .ok (.getfield 34, 3) := by decide +kernel
theorem dX11_twins_9 : decode cX11_twins 9 = .ok (.getfield 130, 3) := by decide +kernel
theorem dX11_twins_12 : decode cX11_twins 12 = .ok (.getfield 208, 3) := by decide +kernel
theorem dX11_twins_15 : decode cX11_twins 15 = .ok (.if_icmp .ge 43, 3) := by decide +kernel
theorem dX11_twins_18 : decode cX11_twins 18 = .ok (.aload_n 0, 1) := by decide +kernel
theorem dX11_twins_19 : decode cX11_twins 19 = .ok (.getfield 34, 3) := by decide +kernel
theorem dX11_twins_22 : decode cX11_twins 22 = .ok (.getfield 119, 3) := by decide +kernel
theorem dX11_twins_25 : decode cX11_twins 25 = .ok (.iload_n 2, 1) := by decide +kernel
theorem dX11_twins_26 : decode cX11_twins 26 = .ok (.invokevirtual 141, 3) := by decide +kernel
theorem dX11_twins_29 : decode cX11_twins 29 = .ok (.ifCond .eq 23, 3) := by decide +kernel
theorem dX11_twins_32 : decode cX11_twins 32 = .ok (.aload_n 0, 1) := by decide +kernel
theorem dX11_twins_33 : decode cX11_twins 33 = .ok (.getfield 34, 3) := by decide +kernel
theorem dX11_twins_36 : decode cX11_twins 36 = .ok (.getfield 119, 3) := by decide +kernel
theorem dX11_twins_39 : decode cX11_twins 39 = .ok (.iload_n 2, 1) := by decide +kernel
theorem dX11_twins_40 : decode cX11_twins 40 = .ok (.invokevirtual 149, 3) := by decide +kernel
theorem dX11_twins_43 : decode cX11_twins 43 = .ok (.ifCond .eq 9, 3) := by decide +kernel
theorem dX11_twins_46 : decode cX11_twins 46 = .ok (.iload_n 1, 1) := by decide +kernel
theorem dX11_twins_47 : decode cX11_twins 47 = .ok (.iconst 1, 1) := by decide +kernel
theorem dX11_twins_48 : decode cX11_twins 48 = .ok (.iload_n 2, 1) := by decide +kernel
theorem dX11_twins_49 : decode cX11_twins 49 = .ok (.ishl, 1) := by decide +kernel
theorem dX11_twins_50 : decode cX11_twins 50 = .ok (.ior, 1) := by decide +kernel
theorem dX11_twins_51 : decode cX11_twins 51 = .ok (.istore_n 1, 1) := by decide +kernel
theorem dX11_twins_52 : decode cX11_twins 52 = .ok (.iinc 2 1, 3) := by decide +kernel
theorem dX11_twins_55 : decode cX11_twins 55 = .ok (.goto (-51), 3) := by decide +kernel
theorem dX11_twins_58 : decode cX11_twins 58 = .ok (.iload_n 1, 1) := by decide +kernel
theorem dX11_twins_59 : decode cX11_twins 59 = .ok (.ireturn, 1) := by decide +kernel
theorem dX11_parts_0 : decode cX11_parts 0 = .ok (.aload_n 0, 1) := by decide +kernel
theorem dX11_parts_1 : decode cX11_parts 1 = .ok (.getfield 34, 3) := by decide +kernel
theorem dX11_parts_4 : decode cX11_parts 4 = .ok (.getfield 119, 3) := by decide +kernel
theorem dX11_parts_7 : decode cX11_parts 7 = .ok (.getfield 288, 3) := by decide +kernel
theorem dX11_parts_10 : decode cX11_parts 10 = .ok (.invokestatic 152, 3) := by decide +kernel
theorem dX11_parts_13 : decode cX11_parts 13 = .ok (.istore_n 1, 1) := by decide +kernel
theorem dX11_parts_14 : decode cX11_parts 14 = .ok (.iconst (-1), 1) := by decide +kernel
theorem dX11_parts_15 : decode cX11_parts 15 = .ok (.istore_n 2, 1) := by decide +kernel
theorem dX11_parts_16 : decode cX11_parts 16 = .ok (.iload_n 1, 1) := by decide +kernel
theorem dX11_parts_17 : decode cX11_parts 17 = .ok (.iconst 1, 1) := by decide +kernel
theorem dX11_parts_18 : decode cX11_parts 18 = .ok (.iadd, 1) := by decide +kernel
theorem dX11_parts_19 : decode cX11_parts 19 = .ok (.istore_n 3, 1) := by decide +kernel
theorem dX11_parts_20 : decode cX11_parts 20 = .ok (.iconst 0, 1) := by decide +kernel
theorem dX11_parts_21 : decode cX11_parts 21 = .ok (.istore 4, 2) := by decide +kernel
theorem dX11_parts_23 : decode cX11_parts 23 = .ok (.iload 4, 2) := by decide +kernel
theorem dX11_parts_25 : decode cX11_parts 25 = .ok (.aload_n 0, 1) := by decide +kernel
theorem dX11_parts_26 : decode cX11_parts 26 = .ok (.getfield 34, 3) := by decide +kernel
theorem dX11_parts_29 : decode cX11_parts 29 = .ok (.getfield 130, 3) := by decide +kernel
theorem dX11_parts_32 : decode cX11_parts 32 = .ok (.getfield 352, 3) := by decide +kernel
theorem dX11_parts_35 : decode cX11_parts 35 = .ok (.if_icmp .ge 49, 3) := by decide +kernel
theorem dX11_parts_38 : decode cX11_parts 38 = .ok (.aload_n 0, 1) := by decide +kernel
theorem dX11_parts_39 : decode cX11_parts 39 = .ok (.getfield 34, 3) := by decide +kernel
theorem dX11_parts_42 : decode cX11_parts 42 = .ok (.getfield 119, 3) := by decide +kernel
theorem dX11_parts_45 : decode cX11_parts 45 = .ok (.iload 4, 2) := by decide +kernel
theorem dX11_parts_47 : decode cX11_parts 47 = .ok (.invokevirtual 164, 3) := by decide +kernel
