theorem dX4_init_0 : decode cX4_init 0 = .ok (.aload_n 0, 1) := by decide +kernel
theorem dX4_init_1 : decode cX4_init 1 = .ok (.invokespecial 3, 3) := by decide +kernel
theorem dX4_init_4 : decode cX4_init 4 = .ok (.aload_n 0, 1) := by decide +kernel
theorem dX4_init_5 : decode cX4_init 5 = .ok (.iconst 1, 1) := by decide +kernel
theorem dX4_init_6 : decode cX4_init 6 = .ok (.putfield 9, 3) := by decide +kernel
theorem dX4_init_9 : decode cX4_init 9 = .ok (.aload_n 0, 1) := by decide +kernel
theorem dX4_init_10 : decode cX4_init 10 = .ok (.iconst 2, 1) := by decide +kernel
theorem dX4_init_11 : decode cX4_init 11 = .ok (.putfield 15, 3) := by decide +kernel
theorem dX4_init_14 : decode cX4_init 14 = .ok (.aload_n 0, 1) := by decide +kernel
theorem dX4_init_15 : decode cX4_init 15 = .ok (.iconst 2, 1) := by decide +kernel
theorem dX4_init_16 : decode cX4_init 16 = .ok (.putfield 18, 3) := by decide +kernel
theorem dX4_init_19 : decode cX4_init 19 = .ok (.aload_n 0, 1) := by decide +kernel
theorem dX4_init_20 : decode cX4_init 20 = .ok (.bipush 14, 2) := by decide +kernel
theorem dX4_init_22 : decode cX4_init 22 = .ok (.newarray .int, 2) := by decide +kernel
theorem dX4_init_24 : decode cX4_init 24 = .ok (.putfield 21, 3) := by decide +kernel
theorem dX4_init_27 : decode cX4_init 27 = .ok (.aload_n 0, 1) := by decide +kernel
theorem dX4_init_28 : decode cX4_init 28 = .ok (.bipush 10, 2) := by decide +kernel
theorem dX4_init_30 : decode cX4_init 30 = .ok (.newarray .int, 2) := by decide +kernel
theorem dX4_init_32 : decode cX4_init 32 = .ok (.putfield 25, 3) := by decide +kernel
theorem dX4_init_35 : decode cX4_init 35 = .ok (.aload_n 0, 1) := by decide +kernel
theorem dX4_init_36 : decode cX4_init 36 = .ok (.bipush 11, 2) := by decide +kernel
theorem dX4_init_38 : decode cX4_init 38 = .ok (.newarray .int, 2) := by decide +kernel
theorem dX4_init_40 : decode cX4_init 40 = .ok (.putfield 28, 3) := by decide +kernel
theorem dX4_init_43 : decode cX4_init 43 = .ok (.aload_n 0, 1) := by decide +kernel
theorem dX4_init_44 : decode cX4_init 44 = .ok (.bipush 10, 2) := by decide +kernel
theorem dX4_init_46 : decode cX4_init 46 = .ok (.newarray .int, 2) := by decide +kernel
theorem dX4_init_48 : decode cX4_init 48 = .ok (.putfield 31, 3) := by decide +kernel
theorem dX4_init_51 : decode cX4_init 51 = .ok (.aload_n 0, 1) := by decide +kernel
theorem dX4_init_52 : decode cX4_init 52 = .ok (.iconst 0, 1) := by decide +kernel
theorem dX4_init_53 : decode cX4_init 53 = .ok (.newarray .int, 2) := by decide +kernel
theorem dX4_init_55 : decode cX4_init 55 = .ok (.putfield 34, 3) := by decide +kernel
theorem dX4_init_58 : decode cX4_init 58 = .ok (.aload_n 0, 1) := by decide +kernel
theorem dX4_init_59 : decode cX4_init 59 = .ok (.bipush 60, 2) := by decide +kernel
theorem dX4_init_61 : decode cX4_init 61 = .ok (.newarray .int, 2) := by decide +kernel
theorem dX4_init_63 : decode cX4_init 63 = .ok (.putfield 37, 3) := by decide +kernel
theorem dX4_init_66 : decode cX4_init 66 = .ok (.return_, 1) := by decide +kernel
theorem dX4_allChests_0 : decode cX4_allChests 0 = .ok (.iconst 1, 1) := by decide +kernel
theorem dX4_allChests_1 : decode cX4_allChests 1 = .ok (.aload_n 0, 1) := by decide +kernel
theorem dX4_allChests_2 : decode cX4_allChests 2 = .ok (.getfield 40, 3) := by decide +kernel
theorem dX4_allChests_5 : decode cX4_allChests 5 = .ok (.ishl, 1) := by decide +kernel
theorem dX4_allChests_6 : decode cX4_allChests 6 = .ok (.iconst 1, 1) := by decide +kernel
theorem dX4_allChests_7 : decode cX4_allChests 7 = .ok (.isub, 1) := by decide +kernel
theorem dX4_allChests_8 : decode cX4_allChests 8 = .ok (.ireturn, 1) := by decide +kernel
theorem dX4_allWords_0 : decode cX4_allWords 0 = .ok (.iconst 1, 1) := by decide +kernel
theorem dX4_allWords_1 : decode cX4_allWords 1 = .ok (.aload_n 0, 1) := by decide +kernel
theorem dX4_allWords_2 : decode cX4_allWords 2 = .ok (.getfield 43, 3) := by decide +kernel
theorem dX4_allWords_5 : decode cX4_allWords 5 = .ok (.ishl, 1) := by decide +kernel
theorem dX4_allWords_6 : decode cX4_allWords 6 = .ok (.iconst 1, 1) := by decide +kernel
theorem dX4_allWords_7 : decode cX4_allWords 7 = .ok (.isub, 1) := by decide +kernel
theorem dX4_allWords_8 : decode cX4_allWords 8 = .ok (.ireturn, 1) := by decide +kernel
theorem dX4_addLamp_0 : decode cX4_addLamp 0 = .ok (.iload_n 1, 1) := by decide +kernel
theorem dX4_addLamp_1 : decode cX4_addLamp 1 = .ok (.bipush 10, 2) := by decide +kernel
theorem dX4_addLamp_3 : decode cX4_addLamp 3 = .ok (.imul, 1) := by decide +kernel
theorem dX4_addLamp_4 : decode cX4_addLamp 4 = .ok (.iload_n 2, 1) := by decide +kernel
theorem dX4_addLamp_5 : decode cX4_addLamp 5 = .ok (.iadd, 1) := by decide +kernel
theorem dX4_addLamp_6 : decode cX4_addLamp 6 = .ok (.istore 4, 2) := by decide +kernel
theorem dX4_addLamp_8 : decode cX4_addLamp 8 = .ok (.iload 4, 2) := by decide +kernel
theorem dX4_addLamp_10 : decode cX4_addLamp 10 = .ok (.ifCond .lt 48, 3) := by decide +kernel
theorem dX4_addLamp_13 : decode cX4_addLamp 13 = .ok (.iload 4, 2) := by decide +kernel
theorem dX4_addLamp_15 : decode cX4_addLamp 15 = .ok (.aload_n 0, 1) := by decide +kernel
theorem dX4_addLamp_16 : decode cX4_addLamp 16 = .ok (.getfield 37, 3) := by decide +kernel
theorem dX4_addLamp_19 : decode cX4_addLamp 19 = .ok (.arraylength, 1) := by decide +kernel
theorem dX4_addLamp_20 : decode cX4_addLamp 20 = .ok (.if_icmp .ge 38, 3) := by decide +kernel
theorem dX4_addLamp_23 : decode cX4_addLamp 23 = .ok (.aload_n 0, 1) := by decide +kernel
theorem dX4_addLamp_24 : decode cX4_addLamp 24 = .ok (.getfield 46, 3) := by decide +kernel
theorem dX4_addLamp_27 : decode cX4_addLamp 27 = .ok (.iload 4, 2) := by decide +kernel
theorem dX4_addLamp_29 : decode cX4_addLamp 29 = .ok (.lshr, 1) := by decide +kernel
theorem dX4_addLamp_30 : decode cX4_addLamp 30 = .ok (.lconst 1, 1) := by decide +kernel
theorem dX4_addLamp_31 : decode cX4_addLamp 31 = .ok (.land, 1) := by decide +kernel
theorem dX4_addLamp_32 : decode cX4_addLamp 32 = .ok (.lconst 0, 1) := by decide +kernel
theorem dX4_addLamp_33 : decode cX4_addLamp 33 = .ok (.lcmp, 1) := by decide +kernel
theorem dX4_addLamp_34 : decode cX4_addLamp 34 = .ok (.ifCond .ne 24, 3) := by decide +kernel
theorem dX4_addLamp_37 : decode cX4_addLamp 37 = .ok (.aload_n 0, 1) := by decide +kernel
theorem dX4_addLamp_38 : decode cX4_addLamp 38 = .ok (.dup, 1) := by decide +kernel
theorem dX4_addLamp_39 : decode cX4_addLamp 39 = .ok (.getfield 46, 3) := by decide +kernel
theorem dX4_addLamp_42 : decode cX4_addLamp 42 = .ok (.lconst 1, 1) := by decide +kernel
theorem dX4_addLamp_43 : decode cX4_addLamp 43 = .ok (.iload 4, 2) := by decide +kernel
theorem dX4_addLamp_45 : decode cX4_addLamp 45 = .ok (.lshl, 1) := by decide +kernel
theorem dX4_addLamp_46 : decode cX4_addLamp 46 = .ok (.lor, 1) := by decide +kernel
theorem dX4_addLamp_47 : decode cX4_addLamp 47 = .ok (.putfield 46, 3) := by decide +kernel
theorem dX4_addLamp_50 : decode cX4_addLamp 50 = .ok (.aload_n 0, 1) := by decide +kernel
theorem dX4_addLamp_51 : decode cX4_addLamp 51 = .ok (.getfield 37, 3) := by decide +kernel
theorem dX4_addLamp_54 : decode cX4_addLamp 54 = .ok (.iload 4, 2) := by decide +kernel
theorem dX4_addLamp_56 : decode cX4_addLamp 56 = .ok (.iload_n 3, 1) := by decide +kernel
theorem dX4_addLamp_57 : decode cX4_addLamp 57 = .ok (.iastore, 1) := by decide +kernel
theorem dX4_addLamp_58 : decode cX4_addLamp 58 = .ok (.aload_n 0, 1) := by decide +kernel
theorem dX4_addLamp_59 : decode cX4_addLamp 59 = .ok (.dup, 1) := by decide +kernel
theorem dX4_addLamp_60 : decode cX4_addLamp 60 = .ok (.getfield 50, 3) := by decide +kernel
theorem dX4_addLamp_63 : decode cX4_addLamp 63 = .ok (.iconst 1, 1) := by decide +kernel
theorem dX4_addLamp_64 : decode cX4_addLamp 64 = .ok (.iadd, 1) := by decide +kernel
theorem dX4_addLamp_65 : decode cX4_addLamp 65 = .ok (.putfield 50, 3) := by decide +kernel
theorem dX4_addLamp_68 : decode cX4_addLamp 68 = .ok (.return_, 1) := by decide +kernel
theorem dX4_byLamp_0 : decode cX4_byLamp 0 = .ok (.iload_n 1, 1) := by decide +kernel
theorem dX4_byLamp_1 : decode cX4_byLamp 1 = .ok (.bipush 10, 2) := by decide +kernel
theorem dX4_byLamp_3 : decode cX4_byLamp 3 = .ok (.imul, 1) := by decide +kernel
theorem dX4_byLamp_4 : decode cX4_byLamp 4 = .ok (.iload_n 2, 1) := by decide +kernel
theorem dX4_byLamp_5 : decode cX4_byLamp 5 = .ok (.iadd, 1) := by decide +kernel
theorem dX4_byLamp_6 : decode cX4_byLamp 6 = .ok (.istore_n 3, 1) := by decide +kernel
theorem dX4_byLamp_7 : decode cX4_byLamp 7 = .ok (.iload_n 3, 1) := by decide +kernel
theorem dX4_byLamp_8 : decode cX4_byLamp 8 = .ok (.ifCond .lt 34, 3) := by decide +kernel
theorem dX4_byLamp_11 : decode cX4_byLamp 11 = .ok (.iload_n 3, 1) := by decide +kernel
theorem dX4_byLamp_12 : decode cX4_byLamp 12 = .ok (.aload_n 0, 1) := by decide +kernel
theorem dX4_byLamp_13 : decode cX4_byLamp 13 = .ok (.getfield 37, 3) := by decide +kernel
theorem dX4_byLamp_16 : decode cX4_byLamp 16 = .ok (.arraylength, 1) := by decide +kernel
theorem dX4_byLamp_17 : decode cX4_byLamp 17 = .ok (.if_icmp .ge 25, 3) := by decide +kernel
theorem dX4_byLamp_20 : decode cX4_byLamp 20 = .ok (.aload_n 0, 1) := by decide +kernel
theorem dX4_byLamp_21 : decode cX4_byLamp 21 = .ok (.getfield 46, 3) := by decide +kernel
theorem dX4_byLamp_24 : decode cX4_byLamp 24 = .ok (.iload_n 3, 1) := by decide +kernel
theorem dX4_byLamp_25 : decode cX4_byLamp 25 = .ok (.lshr, 1) := by decide +kernel
theorem dX4_byLamp_26 : decode cX4_byLamp 26 = .ok (.lconst 1, 1) := by decide +kernel
theorem dX4_byLamp_27 : decode cX4_byLamp 27 = .ok (.land, 1) := by decide +kernel
theorem dX4_byLamp_28 : decode cX4_byLamp 28 = .ok (.lconst 1, 1) := by decide +kernel
theorem dX4_byLamp_29 : decode cX4_byLamp 29 = .ok (.lcmp, 1) := by decide +kernel
theorem dX4_byLamp_30 : decode cX4_byLamp 30 = .ok (.ifCond .ne 12, 3) := by decide +kernel
theorem dX4_byLamp_33 : decode cX4_byLamp 33 = .ok (.aload_n 0, 1) := by decide +kernel
theorem dX4_byLamp_34 : decode cX4_byLamp 34 = .ok (.getfield 37, 3) := by decide +kernel
theorem dX4_byLamp_37 : decode cX4_byLamp 37 = .ok (.iload_n 3, 1) := by decide +kernel
theorem dX4_byLamp_38 : decode cX4_byLamp 38 = .ok (.iaload, 1) := by decide +kernel
theorem dX4_byLamp_39 : decode cX4_byLamp 39 = .ok (.goto 4, 3) := by decide +kernel
theorem dX4_byLamp_42 : decode cX4_byLamp 42 = .ok (.iload_n 2, 1) := by decide +kernel
theorem dX4_byLamp_43 : decode cX4_byLamp 43 = .ok (.ireturn, 1) := by decide +kernel
