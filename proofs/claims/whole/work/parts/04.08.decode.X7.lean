theorem dX7_init_0 : decode cX7_init 0 = .ok (.aload_n 0, 1) := by decide +kernel
theorem dX7_init_1 : decode cX7_init 1 = .ok (.invokespecial 3, 3) := by decide +kernel
theorem dX7_init_4 : decode cX7_init 4 = .ok (.aload_n 0, 1) := by decide +kernel
theorem dX7_init_5 : decode cX7_init 5 = .ok (.bipush 14, 2) := by decide +kernel
theorem dX7_init_7 : decode cX7_init 7 = .ok (.newarray .int, 2) := by decide +kernel
theorem dX7_init_9 : decode cX7_init 9 = .ok (.putfield 9, 3) := by decide +kernel
theorem dX7_init_12 : decode cX7_init 12 = .ok (.aload_n 0, 1) := by decide +kernel
theorem dX7_init_13 : decode cX7_init 13 = .ok (.bipush 14, 2) := by decide +kernel
theorem dX7_init_15 : decode cX7_init 15 = .ok (.newarray .int, 2) := by decide +kernel
theorem dX7_init_17 : decode cX7_init 17 = .ok (.putfield 15, 3) := by decide +kernel
theorem dX7_init_20 : decode cX7_init 20 = .ok (.aload_n 0, 1) := by decide +kernel
theorem dX7_init_21 : decode cX7_init 21 = .ok (.bipush 14, 2) := by decide +kernel
theorem dX7_init_23 : decode cX7_init 23 = .ok (.newarray .int, 2) := by decide +kernel
theorem dX7_init_25 : decode cX7_init 25 = .ok (.putfield 18, 3) := by decide +kernel
theorem dX7_init_28 : decode cX7_init 28 = .ok (.aload_n 0, 1) := by decide +kernel
theorem dX7_init_29 : decode cX7_init 29 = .ok (.bipush 6, 2) := by decide +kernel
theorem dX7_init_31 : decode cX7_init 31 = .ok (.newarray .int, 2) := by decide +kernel
theorem dX7_init_33 : decode cX7_init 33 = .ok (.putfield 21, 3) := by decide +kernel
theorem dX7_init_36 : decode cX7_init 36 = .ok (.aload_n 0, 1) := by decide +kernel
theorem dX7_init_37 : decode cX7_init 37 = .ok (.bipush 6, 2) := by decide +kernel
theorem dX7_init_39 : decode cX7_init 39 = .ok (.newarray .int, 2) := by decide +kernel
theorem dX7_init_41 : decode cX7_init 41 = .ok (.putfield 24, 3) := by decide +kernel
theorem dX7_init_44 : decode cX7_init 44 = .ok (.aload_n 0, 1) := by decide +kernel
theorem dX7_init_45 : decode cX7_init 45 = .ok (.iconst (-1), 1) := by decide +kernel
theorem dX7_init_46 : decode cX7_init 46 = .ok (.putfield 27, 3) := by decide +kernel
theorem dX7_init_49 : decode cX7_init 49 = .ok (.aload_n 0, 1) := by decide +kernel
theorem dX7_init_50 : decode cX7_init 50 = .ok (.getfield 21, 3) := by decide +kernel
theorem dX7_init_53 : decode cX7_init 53 = .ok (.iconst (-1), 1) := by decide +kernel
theorem dX7_init_54 : decode cX7_init 54 = .ok (.invokestatic 31, 3) := by decide +kernel
theorem dX7_init_57 : decode cX7_init 57 = .ok (.return_, 1) := by decide +kernel
theorem dX7_takeFrom_0 : decode cX7_takeFrom 0 = .ok (.aload_n 1, 1) := by decide +kernel
theorem dX7_takeFrom_1 : decode cX7_takeFrom 1 = .ok (.getfield 9, 3) := by decide +kernel
theorem dX7_takeFrom_4 : decode cX7_takeFrom 4 = .ok (.iconst 0, 1) := by decide +kernel
theorem dX7_takeFrom_5 : decode cX7_takeFrom 5 = .ok (.aload_n 0, 1) := by decide +kernel
theorem dX7_takeFrom_6 : decode cX7_takeFrom 6 = .ok (.getfield 9, 3) := by decide +kernel
theorem dX7_takeFrom_9 : decode cX7_takeFrom 9 = .ok (.iconst 0, 1) := by decide +kernel
theorem dX7_takeFrom_10 : decode cX7_takeFrom 10 = .ok (.bipush 14, 2) := by decide +kernel
theorem dX7_takeFrom_12 : decode cX7_takeFrom 12 = .ok (.invokestatic 37, 3) := by decide +kernel
theorem dX7_takeFrom_15 : decode cX7_takeFrom 15 = .ok (.aload_n 1, 1) := by decide +kernel
theorem dX7_takeFrom_16 : decode cX7_takeFrom 16 = .ok (.getfield 15, 3) := by decide +kernel
theorem dX7_takeFrom_19 : decode cX7_takeFrom 19 = .ok (.iconst 0, 1) := by decide +kernel
theorem dX7_takeFrom_20 : decode cX7_takeFrom 20 = .ok (.aload_n 0, 1) := by decide +kernel
theorem dX7_takeFrom_21 : decode cX7_takeFrom 21 = .ok (.getfield 15, 3) := by decide +kernel
theorem dX7_takeFrom_24 : decode cX7_takeFrom 24 = .ok (.iconst 0, 1) := by decide +kernel
theorem dX7_takeFrom_25 : decode cX7_takeFrom 25 = .ok (.bipush 14, 2) := by decide +kernel
theorem dX7_takeFrom_27 : decode cX7_takeFrom 27 = .ok (.invokestatic 37, 3) := by decide +kernel
theorem dX7_takeFrom_30 : decode cX7_takeFrom 30 = .ok (.aload_n 1, 1) := by decide +kernel
theorem dX7_takeFrom_31 : decode cX7_takeFrom 31 = .ok (.getfield 18, 3) := by decide +kernel
theorem dX7_takeFrom_34 : decode cX7_takeFrom 34 = .ok (.iconst 0, 1) := by decide +kernel
theorem dX7_takeFrom_35 : decode cX7_takeFrom 35 = .ok (.aload_n 0, 1) := by decide +kernel
theorem dX7_takeFrom_36 : decode cX7_takeFrom 36 = .ok (.getfield 18, 3) := by decide +kernel
theorem dX7_takeFrom_39 : decode cX7_takeFrom 39 = .ok (.iconst 0, 1) := by decide +kernel
theorem dX7_takeFrom_40 : decode cX7_takeFrom 40 = .ok (.bipush 14, 2) := by decide +kernel
theorem dX7_takeFrom_42 : decode cX7_takeFrom 42 = .ok (.invokestatic 37, 3) := by decide +kernel
theorem dX7_takeFrom_45 : decode cX7_takeFrom 45 = .ok (.aload_n 1, 1) := by decide +kernel
theorem dX7_takeFrom_46 : decode cX7_takeFrom 46 = .ok (.getfield 21, 3) := by decide +kernel
theorem dX7_takeFrom_49 : decode cX7_takeFrom 49 = .ok (.iconst 0, 1) := by decide +kernel
theorem dX7_takeFrom_50 : decode cX7_takeFrom 50 = .ok (.aload_n 0, 1) := by decide +kernel
theorem dX7_takeFrom_51 : decode cX7_takeFrom 51 = .ok (.getfield 21, 3) := by decide +kernel
theorem dX7_takeFrom_54 : decode cX7_takeFrom 54 = .ok (.iconst 0, 1) := by decide +kernel
theorem dX7_takeFrom_55 : decode cX7_takeFrom 55 = .ok (.bipush 6, 2) := by decide +kernel
theorem dX7_takeFrom_57 : decode cX7_takeFrom 57 = .ok (.invokestatic 37, 3) := by decide +kernel
theorem dX7_takeFrom_60 : decode cX7_takeFrom 60 = .ok (.aload_n 1, 1) := by decide +kernel
theorem dX7_takeFrom_61 : decode cX7_takeFrom 61 = .ok (.getfield 24, 3) := by decide +kernel
theorem dX7_takeFrom_64 : decode cX7_takeFrom 64 = .ok (.iconst 0, 1) := by decide +kernel
theorem dX7_takeFrom_65 : decode cX7_takeFrom 65 = .ok (.aload_n 0, 1) := by decide +kernel
theorem dX7_takeFrom_66 : decode cX7_takeFrom 66 = .ok (.getfield 24, 3) := by decide +kernel
theorem dX7_takeFrom_69 : decode cX7_takeFrom 69 = .ok (.iconst 0, 1) := by decide +kernel
theorem dX7_takeFrom_70 : decode cX7_takeFrom 70 = .ok (.bipush 6, 2) := by decide +kernel
theorem dX7_takeFrom_72 : decode cX7_takeFrom 72 = .ok (.invokestatic 37, 3) := by decide +kernel
theorem dX7_takeFrom_75 : decode cX7_takeFrom 75 = .ok (.aload_n 0, 1) := by decide +kernel
theorem dX7_takeFrom_76 : decode cX7_takeFrom 76 = .ok (.aload_n 1, 1) := by decide +kernel
theorem dX7_takeFrom_77 : decode cX7_takeFrom 77 = .ok (.getfield 43, 3) := by decide +kernel
theorem dX7_takeFrom_80 : decode cX7_takeFrom 80 = .ok (.putfield 43, 3) := by decide +kernel
theorem dX7_takeFrom_83 : decode cX7_takeFrom 83 = .ok (.aload_n 0, 1) := by decide +kernel
theorem dX7_takeFrom_84 : decode cX7_takeFrom 84 = .ok (.aload_n 1, 1) := by decide +kernel
theorem dX7_takeFrom_85 : decode cX7_takeFrom 85 = .ok (.getfield 27, 3) := by decide +kernel
theorem dX7_takeFrom_88 : decode cX7_takeFrom 88 = .ok (.putfield 27, 3) := by decide +kernel
theorem dX7_takeFrom_91 : decode cX7_takeFrom 91 = .ok (.aload_n 0, 1) := by decide +kernel
theorem dX7_takeFrom_92 : decode cX7_takeFrom 92 = .ok (.aload_n 1, 1) := by decide +kernel
theorem dX7_takeFrom_93 : decode cX7_takeFrom 93 = .ok (.getfield 46, 3) := by decide +kernel
theorem dX7_takeFrom_96 : decode cX7_takeFrom 96 = .ok (.putfield 46, 3) := by decide +kernel
theorem dX7_takeFrom_99 : decode cX7_takeFrom 99 = .ok (.aload_n 0, 1) := by decide +kernel
theorem dX7_takeFrom_100 : decode cX7_takeFrom 100 = .ok (.aload_n 1, 1) := by decide +kernel
theorem dX7_takeFrom_101 : decode cX7_takeFrom 101 = .ok (.getfield 49, 3) := by decide +kernel
theorem dX7_takeFrom_104 : decode cX7_takeFrom 104 = .ok (.putfield 49, 3) := by decide +kernel
theorem dX7_takeFrom_107 : decode cX7_takeFrom 107 = .ok (.return_, 1) := by decide +kernel
theorem dX7_begin_0 : decode cX7_begin 0 = .ok (.aload_n 1, 1) := by decide +kernel
theorem dX7_begin_1 : decode cX7_begin 1 = .ok (.getfield 53, 3) := by decide +kernel
theorem dX7_begin_4 : decode cX7_begin 4 = .ok (.iconst 0, 1) := by decide +kernel
theorem dX7_begin_5 : decode cX7_begin 5 = .ok (.aload_n 0, 1) := by decide +kernel
theorem dX7_begin_6 : decode cX7_begin 6 = .ok (.getfield 9, 3) := by decide +kernel
theorem dX7_begin_9 : decode cX7_begin 9 = .ok (.iconst 0, 1) := by decide +kernel
theorem dX7_begin_10 : decode cX7_begin 10 = .ok (.bipush 14, 2) := by decide +kernel
theorem dX7_begin_12 : decode cX7_begin 12 = .ok (.invokestatic 37, 3) := by decide +kernel
theorem dX7_begin_15 : decode cX7_begin 15 = .ok (.iconst 0, 1) := by decide +kernel
theorem dX7_begin_16 : decode cX7_begin 16 = .ok (.istore_n 3, 1) := by decide +kernel
theorem dX7_begin_17 : decode cX7_begin 17 = .ok (.iload_n 3, 1) := by decide +kernel
theorem dX7_begin_18 : decode cX7_begin 18 = .ok (.aload_n 1, 1) := by decide +kernel
theorem dX7_begin_19 : decode cX7_begin 19 = .ok (.getfield 56, 3) := by decide +kernel
theorem dX7_begin_22 : decode cX7_begin 22 = .ok (.if_icmp .ge 16, 3) := by decide +kernel
theorem dX7_begin_25 : decode cX7_begin 25 = .ok (.aload_n 0, 1) := by decide +kernel
theorem dX7_begin_26 : decode cX7_begin 26 = .ok (.aload_n 1, 1) := by decide +kernel
theorem dX7_begin_27 : decode cX7_begin 27 = .ok (.aload_n 2, 1) := by decide +kernel
theorem dX7_begin_28 : decode cX7_begin 28 = .ok (.iload_n 3, 1) := by decide +kernel
theorem dX7_begin_29 : decode cX7_begin 29 = .ok (.invokevirtual 59, 3) := by decide +kernel
theorem dX7_begin_32 : decode cX7_begin 32 = .ok (.iinc 3 1, 3) := by decide +kernel
theorem dX7_begin_35 : decode cX7_begin 35 = .ok (.goto (-18), 3) := by decide +kernel
theorem dX7_begin_38 : decode cX7_begin 38 = .ok (.aload_n 0, 1) := by decide +kernel
theorem dX7_begin_39 : decode cX7_begin 39 = .ok (.getfield 24, 3) := by decide +kernel
theorem dX7_begin_42 : decode cX7_begin 42 = .ok (.iconst 0, 1) := by decide +kernel
theorem dX7_begin_43 : decode cX7_begin 43 = .ok (.invokestatic 31, 3) := by decide +kernel
theorem dX7_begin_46 : decode cX7_begin 46 = .ok (.aload_n 0, 1) := by decide +kernel
theorem dX7_begin_47 : decode cX7_begin 47 = .ok (.aload_n 1, 1) := by decide +kernel
theorem dX7_begin_48 : decode cX7_begin 48 = .ok (.getfield 63, 3) := by decide +kernel
theorem dX7_begin_51 : decode cX7_begin 51 = .ok (.putfield 43, 3) := by decide +kernel
theorem dX7_begin_54 : decode cX7_begin 54 = .ok (.aload_n 0, 1) := by decide +kernel
theorem dX7_begin_55 : decode cX7_begin 55 = .ok (.iconst 0, 1) := by decide +kernel
theorem dX7_begin_56 : decode cX7_begin 56 = .ok (.putfield 46, 3) := by decide +kernel
theorem dX7_begin_59 : decode cX7_begin 59 = .ok (.aload_n 0, 1) := by decide +kernel
theorem dX7_begin_60 : decode cX7_begin 60 = .ok (.iconst 0, 1) := by decide +kernel
theorem dX7_begin_61 : decode cX7_begin 61 = .ok (.putfield 49, 3) := by decide +kernel
theorem dX7_begin_64 : decode cX7_begin 64 = .ok (.aload_n 0, 1) := by decide +kernel
theorem dX7_begin_65 : decode cX7_begin 65 = .ok (.aload_n 0, 1) := by decide +kernel
theorem dX7_begin_66 : decode cX7_begin 66 = .ok (.invokevirtual 64, 3) := by decide +kernel
theorem dX7_begin_69 : decode cX7_begin 69 = .ok (.invokevirtual 68, 3) := by decide +kernel
theorem dX7_begin_72 : decode cX7_begin 72 = .ok (.return_, 1) := by decide +kernel
theorem dX7_learn_0 : decode cX7_learn 0 = .ok (.aload_n 2, 1) := by decide +kernel
theorem dX7_learn_1 : decode cX7_learn 1 = .ok (.aload_n 1, 1) := by decide +kernel
theorem dX7_learn_2 : decode cX7_learn 2 = .ok (.aload_n 0, 1) := by decide +kernel
theorem dX7_learn_3 : decode cX7_learn 3 = .ok (.getfield 9, 3) := by decide +kernel
theorem dX7_learn_6 : decode cX7_learn 6 = .ok (.iload_n 3, 1) := by decide +kernel
theorem dX7_learn_7 : decode cX7_learn 7 = .ok (.iaload, 1) := by decide +kernel
theorem dX7_learn_8 : decode cX7_learn 8 = .ok (.iconst 0, 1) := by decide +kernel
theorem dX7_learn_9 : decode cX7_learn 9 = .ok (.iload_n 3, 1) := by decide +kernel
theorem dX7_learn_10 : decode cX7_learn 10 = .ok (.invokevirtual 72, 3) := by decide +kernel
theorem dX7_learn_13 : decode cX7_learn 13 = .ok (.aload_n 0, 1) := by decide +kernel
theorem dX7_learn_14 : decode cX7_learn 14 = .ok (.getfield 15, 3) := by decide +kernel
theorem dX7_learn_17 : decode cX7_learn 17 = .ok (.iload_n 3, 1) := by decide +kernel
theorem dX7_learn_18 : decode cX7_learn 18 = .ok (.aload_n 2, 1) := by decide +kernel
theorem dX7_learn_19 : decode cX7_learn 19 = .ok (.aload_n 1, 1) := by decide +kernel
theorem dX7_learn_20 : decode cX7_learn 20 = .ok (.invokevirtual 78, 3) := by decide +kernel
theorem dX7_learn_23 : decode cX7_learn 23 = .ok (.iastore, 1) := by decide +kernel
theorem dX7_learn_24 : decode cX7_learn 24 = .ok (.aload_n 2, 1) := by decide +kernel
theorem dX7_learn_25 : decode cX7_learn 25 = .ok (.aload_n 1, 1) := by decide +kernel
theorem dX7_learn_26 : decode cX7_learn 26 = .ok (.aload_n 0, 1) := by decide +kernel
theorem dX7_learn_27 : decode cX7_learn 27 = .ok (.getfield 9, 3) := by decide +kernel
theorem dX7_learn_30 : decode cX7_learn 30 = .ok (.iload_n 3, 1) := by decide +kernel
theorem dX7_learn_31 : decode cX7_learn 31 = .ok (.iaload, 1) := by decide +kernel
theorem dX7_learn_32 : decode cX7_learn 32 = .ok (.iconst 1, 1) := by decide +kernel
theorem dX7_learn_33 : decode cX7_learn 33 = .ok (.iload_n 3, 1) := by decide +kernel
theorem dX7_learn_34 : decode cX7_learn 34 = .ok (.invokevirtual 72, 3) := by decide +kernel
theorem dX7_learn_37 : decode cX7_learn 37 = .ok (.aload_n 0, 1) := by decide +kernel
theorem dX7_learn_38 : decode cX7_learn 38 = .ok (.getfield 18, 3) := by decide +kernel
theorem dX7_learn_41 : decode cX7_learn 41 = .ok (.iload_n 3, 1) := by decide +kernel
theorem dX7_learn_42 : decode cX7_learn 42 = .ok (.aload_n 2, 1) := by decide +kernel
theorem dX7_learn_43 : decode cX7_learn 43 = .ok (.aload_n 1, 1) := by decide +kernel
theorem dX7_learn_44 : decode cX7_learn 44 = .ok (.invokevirtual 78, 3) := by decide +kernel
theorem dX7_learn_47 : decode cX7_learn 47 = .ok (.iastore, 1) := by decide +kernel
theorem dX7_learn_48 : decode cX7_learn 48 = .ok (.return_, 1) := by decide +kernel
theorem dX7_markOf_0 : decode cX7_markOf 0 = .ok (.aload_n 0, 1) := by decide +kernel
theorem dX7_markOf_1 : decode cX7_markOf 1 = .ok (.getfield 9, 3) := by decide +kernel
theorem dX7_markOf_4 : decode cX7_markOf 4 = .ok (.iload_n 1, 1) := by decide +kernel
theorem dX7_markOf_5 : decode cX7_markOf 5 = .ok (.iaload, 1) := by decide +kernel
theorem dX7_markOf_6 : decode cX7_markOf 6 = .ok (.iconst 4, 1) := by decide +kernel
theorem dX7_markOf_7 : decode cX7_markOf 7 = .ok (.iload_n 2, 1) := by decide +kernel
theorem dX7_markOf_8 : decode cX7_markOf 8 = .ok (.imul, 1) := by decide +kernel
theorem dX7_markOf_9 : decode cX7_markOf 9 = .ok (.ishr, 1) := by decide +kernel
theorem dX7_markOf_10 : decode cX7_markOf 10 = .ok (.bipush 15, 2) := by decide +kernel
theorem dX7_markOf_12 : decode cX7_markOf 12 = .ok (.iand, 1) := by decide +kernel
theorem dX7_markOf_13 : decode cX7_markOf 13 = .ok (.ireturn, 1) := by decide +kernel
theorem dX7_setMark_0 : decode cX7_setMark 0 = .ok (.aload_n 0, 1) := by decide +kernel
theorem dX7_setMark_1 : decode cX7_setMark 1 = .ok (.getfield 9, 3) := by decide +kernel
theorem dX7_setMark_4 : decode cX7_setMark 4 = .ok (.iload_n 1, 1) := by decide +kernel
theorem dX7_setMark_5 : decode cX7_setMark 5 = .ok (.aload_n 0, 1) := by decide +kernel
theorem dX7_setMark_6 : decode cX7_setMark 6 = .ok (.getfield 9, 3) := by decide +kernel
theorem dX7_setMark_9 : decode cX7_setMark 9 = .ok (.iload_n 1, 1) := by decide +kernel
theorem dX7_setMark_10 : decode cX7_setMark 10 = .ok (.iaload, 1) := by decide +kernel
theorem dX7_setMark_11 : decode cX7_setMark 11 = .ok (.bipush 15, 2) := by decide +kernel
theorem dX7_setMark_13 : decode cX7_setMark 13 = .ok (.iconst 4, 1) := by decide +kernel
theorem dX7_setMark_14 : decode cX7_setMark 14 = .ok (.iload_n 2, 1) := by decide +kernel
theorem dX7_setMark_15 : decode cX7_setMark 15 = .ok (.imul, 1) := by decide +kernel
theorem dX7_setMark_16 : decode cX7_setMark 16 = .ok (.ishl, 1) := by decide +kernel
theorem dX7_setMark_17 : decode cX7_setMark 17 = .ok (.iconst (-1), 1) := by decide +kernel
theorem dX7_setMark_18 : decode cX7_setMark 18 = .ok (.ixor, 1) := by decide +kernel
theorem dX7_setMark_19 : decode cX7_setMark 19 = .ok (.iand, 1) := by decide +kernel
theorem dX7_setMark_20 : decode cX7_setMark 20 = .ok (.iload_n 3, 1) := by decide +kernel
theorem dX7_setMark_21 : decode cX7_setMark 21 = .ok (.iconst 4, 1) := by decide +kernel
theorem dX7_setMark_22 : decode cX7_setMark 22 = .ok (.iload_n 2, 1) := by decide +kernel
theorem dX7_setMark_23 : decode cX7_setMark 23 = .ok (.imul, 1) := by decide +kernel
theorem dX7_setMark_24 : decode cX7_setMark 24 = .ok (.ishl, 1) := by decide +kernel
theorem dX7_setMark_25 : decode cX7_setMark 25 = .ok (.ior, 1) := by decide +kernel
theorem dX7_setMark_26 : decode cX7_setMark 26 = .ok (.iastore, 1) := by decide +kernel
theorem dX7_setMark_27 : decode cX7_setMark 27 = .ok (.return_, 1) := by decide +kernel
theorem dX7_isIn_0 : decode cX7_isIn 0 = .ok (.aload_n 0, 1) := by decide +kernel
theorem dX7_isIn_1 : decode cX7_isIn 1 = .ok (.getfield 43, 3) := by decide +kernel
theorem dX7_isIn_4 : decode cX7_isIn 4 = .ok (.iload_n 1, 1) := by decide +kernel
theorem dX7_isIn_5 : decode cX7_isIn 5 = .ok (.ishr, 1) := by decide +kernel
theorem dX7_isIn_6 : decode cX7_isIn 6 = .ok (.iconst 1, 1) := by decide +kernel
theorem dX7_isIn_7 : decode cX7_isIn 7 = .ok (.iand, 1) := by decide +kernel
theorem dX7_isIn_8 : decode cX7_isIn 8 = .ok (.iconst 1, 1) := by decide +kernel
theorem dX7_isIn_9 : decode cX7_isIn 9 = .ok (.if_icmp .ne 7, 3) := by decide +kernel
theorem dX7_isIn_12 : decode cX7_isIn 12 = .ok (.iconst 1, 1) := by decide +kernel
theorem dX7_isIn_13 : decode cX7_isIn 13 = .ok (.goto 4, 3) := by decide +kernel
theorem dX7_isIn_16 : decode cX7_isIn 16 = .ok (.iconst 0, 1) := by decide +kernel
theorem dX7_isIn_17 : decode cX7_isIn 17 = .ok (.ireturn, 1) := by decide +kernel
theorem dX7_truthBy_0 : decode cX7_truthBy 0 = .ok (.iload_n 2, 1) := by decide +kernel
theorem dX7_truthBy_1 : decode cX7_truthBy 1 = .ok (.ifCond .eq 12, 3) := by decide +kernel
theorem dX7_truthBy_4 : decode cX7_truthBy 4 = .ok (.aload_n 0, 1) := by decide +kernel
theorem dX7_truthBy_5 : decode cX7_truthBy 5 = .ok (.getfield 18, 3) := by decide +kernel
theorem dX7_truthBy_8 : decode cX7_truthBy 8 = .ok (.iload_n 1, 1) := by decide +kernel
theorem dX7_truthBy_9 : decode cX7_truthBy 9 = .ok (.iaload, 1) := by decide +kernel
theorem dX7_truthBy_10 : decode cX7_truthBy 10 = .ok (.goto 9, 3) := by decide +kernel
theorem dX7_truthBy_13 : decode cX7_truthBy 13 = .ok (.aload_n 0, 1) := by decide +kernel
theorem dX7_truthBy_14 : decode cX7_truthBy 14 = .ok (.getfield 15, 3) := by decide +kernel
theorem dX7_truthBy_17 : decode cX7_truthBy 17 = .ok (.iload_n 1, 1) := by decide +kernel
theorem dX7_truthBy_18 : decode cX7_truthBy 18 = .ok (.iaload, 1) := by decide +kernel
theorem dX7_truthBy_19 : decode cX7_truthBy 19 = .ok (.ireturn, 1) := by decide +kernel
theorem dX7_truth_0 : decode cX7_truth 0 = .ok (.aload_n 0, 1) := by decide +kernel
theorem dX7_truth_1 : decode cX7_truth 1 = .ok (.iload_n 1, 1) := by decide +kernel
theorem dX7_truth_2 : decode cX7_truth 2 = .ok (.aload_n 0, 1) := by decide +kernel
theorem dX7_truth_3 : decode cX7_truth 3 = .ok (.getfield 49, 3) := by decide +kernel
theorem dX7_truth_6 : decode cX7_truth 6 = .ok (.invokevirtual 82, 3) := by decide +kernel
theorem dX7_truth_9 : decode cX7_truth 9 = .ok (.ireturn, 1) := by decide +kernel
theorem dX7_holders_0 : decode cX7_holders 0 = .ok (.iconst 0, 1) := by decide +kernel
theorem dX7_holders_1 : decode cX7_holders 1 = .ok (.istore_n 2, 1) := by decide +kernel
theorem dX7_holders_2 : decode cX7_holders 2 = .ok (.iconst 0, 1) := by decide +kernel
theorem dX7_holders_3 : decode cX7_holders 3 = .ok (.istore_n 3, 1) := by decide +kernel
theorem dX7_holders_4 : decode cX7_holders 4 = .ok (.iload_n 3, 1) := by decide +kernel
theorem dX7_holders_5 : decode cX7_holders 5 = .ok (.bipush 14, 2) := by decide +kernel
theorem dX7_holders_7 : decode cX7_holders 7 = .ok (.if_icmp .ge 36, 3) := by decide +kernel
theorem dX7_holders_10 : decode cX7_holders 10 = .ok (.aload_n 0, 1) := by decide +kernel
theorem dX7_holders_11 : decode cX7_holders 11 = .ok (.iload_n 3, 1) := by decide +kernel
theorem dX7_holders_12 : decode cX7_holders 12 = .ok (.invokevirtual 86, 3) := by decide +kernel
theorem dX7_holders_15 : decode cX7_holders 15 = .ok (.ifCond .eq 22, 3) := by decide +kernel
theorem dX7_holders_18 : decode cX7_holders 18 = .ok (.aload_n 0, 1) := by decide +kernel
theorem dX7_holders_19 : decode cX7_holders 19 = .ok (.iload_n 3, 1) := by decide +kernel
theorem dX7_holders_20 : decode cX7_holders 20 = .ok (.invokevirtual 90, 3) := by decide +kernel
theorem dX7_holders_23 : decode cX7_holders 23 = .ok (.iload_n 1, 1) := by decide +kernel
theorem dX7_holders_24 : decode cX7_holders 24 = .ok (.ishr, 1) := by decide +kernel
theorem dX7_holders_25 : decode cX7_holders 25 = .ok (.iconst 1, 1) := by decide +kernel
theorem dX7_holders_26 : decode cX7_holders 26 = .ok (.iand, 1) := by decide +kernel
theorem dX7_holders_27 : decode cX7_holders 27 = .ok (.iconst 1, 1) := by decide +kernel
theorem dX7_holders_28 : decode cX7_holders 28 = .ok (.if_icmp .ne 9, 3) := by decide +kernel
theorem dX7_holders_31 : decode cX7_holders 31 = .ok (.iload_n 2, 1) := by decide +kernel
theorem dX7_holders_32 : decode cX7_holders 32 = .ok (.iconst 1, 1) := by decide +kernel
theorem dX7_holders_33 : decode cX7_holders 33 = .ok (.iload_n 3, 1) := by decide +kernel
theorem dX7_holders_34 : decode cX7_holders 34 = .ok (.ishl, 1) := by decide +kernel
theorem dX7_holders_35 : decode cX7_holders 35 = .ok (.ior, 1) := by decide +kernel
theorem dX7_holders_36 : decode cX7_holders 36 = .ok (.istore_n 2, 1) := by decide +kernel
theorem dX7_holders_37 : decode cX7_holders 37 = .ok (.iinc 3 1, 3) := by decide +kernel
theorem dX7_holders_40 : decode cX7_holders 40 = .ok (.goto (-36), 3) := by decide +kernel
theorem dX7_holders_43 : decode cX7_holders 43 = .ok (.iload_n 2, 1) := by decide +kernel
theorem dX7_holders_44 : decode cX7_holders 44 = .ok (.ireturn, 1) := by decide +kernel
theorem dX7_alikeTo_0 : decode cX7_alikeTo 0 = .ok (.iconst 0, 1) := by decide +kernel
theorem dX7_alikeTo_1 : decode cX7_alikeTo 1 = .ok (.istore_n 2, 1) := by decide +kernel
theorem dX7_alikeTo_2 : decode cX7_alikeTo 2 = .ok (.iconst 0, 1) := by decide +kernel
theorem dX7_alikeTo_3 : decode cX7_alikeTo 3 = .ok (.istore_n 3, 1) := by decide +kernel
theorem dX7_alikeTo_4 : decode cX7_alikeTo 4 = .ok (.iload_n 3, 1) := by decide +kernel
theorem dX7_alikeTo_5 : decode cX7_alikeTo 5 = .ok (.bipush 14, 2) := by decide +kernel
theorem dX7_alikeTo_7 : decode cX7_alikeTo 7 = .ok (.if_icmp .ge 41, 3) := by decide +kernel
theorem dX7_alikeTo_10 : decode cX7_alikeTo 10 = .ok (.iload_n 3, 1) := by decide +kernel
theorem dX7_alikeTo_11 : decode cX7_alikeTo 11 = .ok (.iload_n 1, 1) := by decide +kernel
theorem dX7_alikeTo_12 : decode cX7_alikeTo 12 = .ok (.if_icmp .eq 30, 3) := by decide +kernel
theorem dX7_alikeTo_15 : decode cX7_alikeTo 15 = .ok (.aload_n 0, 1) := by decide +kernel
theorem dX7_alikeTo_16 : decode cX7_alikeTo 16 = .ok (.iload_n 3, 1) := by decide +kernel
theorem dX7_alikeTo_17 : decode cX7_alikeTo 17 = .ok (.invokevirtual 86, 3) := by decide +kernel
theorem dX7_alikeTo_20 : decode cX7_alikeTo 20 = .ok (.ifCond .eq 22, 3) := by decide +kernel
theorem dX7_alikeTo_23 : decode cX7_alikeTo 23 = .ok (.aload_n 0, 1) := by decide +kernel
theorem dX7_alikeTo_24 : decode cX7_alikeTo 24 = .ok (.iload_n 3, 1) := by decide +kernel
theorem dX7_alikeTo_25 : decode cX7_alikeTo 25 = .ok (.invokevirtual 90, 3) := by decide +kernel
theorem dX7_alikeTo_28 : decode cX7_alikeTo 28 = .ok (.aload_n 0, 1) := by decide +kernel
theorem dX7_alikeTo_29 : decode cX7_alikeTo 29 = .ok (.iload_n 1, 1) := by decide +kernel
theorem dX7_alikeTo_30 : decode cX7_alikeTo 30 = .ok (.invokevirtual 90, 3) := by decide +kernel
theorem dX7_alikeTo_33 : decode cX7_alikeTo 33 = .ok (.if_icmp .ne 9, 3) := by decide +kernel
theorem dX7_alikeTo_36 : decode cX7_alikeTo 36 = .ok (.iload_n 2, 1) := by decide +kernel
theorem dX7_alikeTo_37 : decode cX7_alikeTo 37 = .ok (.iconst 1, 1) := by decide +kernel
theorem dX7_alikeTo_38 : decode cX7_alikeTo 38 = .ok (.iload_n 3, 1) := by decide +kernel
theorem dX7_alikeTo_39 : decode cX7_alikeTo 39 = .ok (.ishl, 1) := by decide +kernel
theorem dX7_alikeTo_40 : decode cX7_alikeTo 40 = .ok (.ior, 1) := by decide +kernel
theorem dX7_alikeTo_41 : decode cX7_alikeTo 41 = .ok (.istore_n 2, 1) := by decide +kernel
theorem dX7_alikeTo_42 : decode cX7_alikeTo 42 = .ok (.iinc 3 1, 3) := by decide +kernel
theorem dX7_alikeTo_45 : decode cX7_alikeTo 45 = .ok (.goto (-41), 3) := by decide +kernel
theorem dX7_alikeTo_48 : decode cX7_alikeTo 48 = .ok (.iload_n 2, 1) := by decide +kernel
theorem dX7_alikeTo_49 : decode cX7_alikeTo 49 = .ok (.ireturn, 1) := by decide +kernel
theorem dX7_fitted_0 : decode cX7_fitted 0 = .ok (.iload_n 1, 1) := by decide +kernel
theorem dX7_fitted_1 : decode cX7_fitted 1 = .ok (.sipush 1023, 3) := by decide +kernel
theorem dX7_fitted_4 : decode cX7_fitted 4 = .ok (.iand, 1) := by decide +kernel
theorem dX7_fitted_5 : decode cX7_fitted 5 = .ok (.istore_n 2, 1) := by decide +kernel
theorem dX7_fitted_6 : decode cX7_fitted 6 = .ok (.iload_n 1, 1) := by decide +kernel
theorem dX7_fitted_7 : decode cX7_fitted 7 = .ok (.bipush 10, 2) := by decide +kernel
theorem dX7_fitted_9 : decode cX7_fitted 9 = .ok (.iushr, 1) := by decide +kernel
theorem dX7_fitted_10 : decode cX7_fitted 10 = .ok (.istore_n 3, 1) := by decide +kernel
theorem dX7_fitted_11 : decode cX7_fitted 11 = .ok (.iconst 0, 1) := by decide +kernel
theorem dX7_fitted_12 : decode cX7_fitted 12 = .ok (.istore 4, 2) := by decide +kernel
theorem dX7_fitted_14 : decode cX7_fitted 14 = .ok (.iconst 0, 1) := by decide +kernel
theorem dX7_fitted_15 : decode cX7_fitted 15 = .ok (.istore 5, 2) := by decide +kernel
theorem dX7_fitted_17 : decode cX7_fitted 17 = .ok (.iload 5, 2) := by decide +kernel
theorem dX7_fitted_19 : decode cX7_fitted 19 = .ok (.bipush 14, 2) := by decide +kernel
theorem dX7_fitted_21 : decode cX7_fitted 21 = .ok (.if_icmp .ge 41, 3) := by decide +kernel
theorem dX7_fitted_24 : decode cX7_fitted 24 = .ok (.aload_n 0, 1) := by decide +kernel
theorem dX7_fitted_25 : decode cX7_fitted 25 = .ok (.iload 5, 2) := by decide +kernel
theorem dX7_fitted_27 : decode cX7_fitted 27 = .ok (.invokevirtual 86, 3) := by decide +kernel
theorem dX7_fitted_30 : decode cX7_fitted 30 = .ok (.ifCond .eq 26, 3) := by decide +kernel
theorem dX7_fitted_33 : decode cX7_fitted 33 = .ok (.aload_n 0, 1) := by decide +kernel
theorem dX7_fitted_34 : decode cX7_fitted 34 = .ok (.iload 5, 2) := by decide +kernel
theorem dX7_fitted_36 : decode cX7_fitted 36 = .ok (.invokevirtual 90, 3) := by decide +kernel
theorem dX7_fitted_39 : decode cX7_fitted 39 = .ok (.iload_n 2, 1) := by decide +kernel
theorem dX7_fitted_40 : decode cX7_fitted 40 = .ok (.iload_n 3, 1) := by decide +kernel
theorem dX7_fitted_41 : decode cX7_fitted 41 = .ok (.ior, 1) := by decide +kernel
theorem dX7_fitted_42 : decode cX7_fitted 42 = .ok (.iand, 1) := by decide +kernel
theorem dX7_fitted_43 : decode cX7_fitted 43 = .ok (.iload_n 2, 1) := by decide +kernel
theorem dX7_fitted_44 : decode cX7_fitted 44 = .ok (.if_icmp .ne 12, 3) := by decide +kernel
theorem dX7_fitted_47 : decode cX7_fitted 47 = .ok (.iload 4, 2) := by decide +kernel
theorem dX7_fitted_49 : decode cX7_fitted 49 = .ok (.iconst 1, 1) := by decide +kernel
theorem dX7_fitted_50 : decode cX7_fitted 50 = .ok (.iload 5, 2) := by decide +kernel
theorem dX7_fitted_52 : decode cX7_fitted 52 = .ok (.ishl, 1) := by decide +kernel
theorem dX7_fitted_53 : decode cX7_fitted 53 = .ok (.ior, 1) := by decide +kernel
theorem dX7_fitted_54 : decode cX7_fitted 54 = .ok (.istore 4, 2) := by decide +kernel
theorem dX7_fitted_56 : decode cX7_fitted 56 = .ok (.iinc 5 1, 3) := by decide +kernel
theorem dX7_fitted_59 : decode cX7_fitted 59 = .ok (.goto (-42), 3) := by decide +kernel
theorem dX7_fitted_62 : decode cX7_fitted 62 = .ok (.iload 4, 2) := by decide +kernel
theorem dX7_fitted_64 : decode cX7_fitted 64 = .ok (.ireturn, 1) := by decide +kernel
theorem dX7_toldBy_0 : decode cX7_toldBy 0 = .ok (.aload_n 0, 1) := by decide +kernel
theorem dX7_toldBy_1 : decode cX7_toldBy 1 = .ok (.iload_n 1, 1) := by decide +kernel
theorem dX7_toldBy_2 : decode cX7_toldBy 2 = .ok (.invokevirtual 94, 3) := by decide +kernel
theorem dX7_toldBy_5 : decode cX7_toldBy 5 = .ok (.istore_n 2, 1) := by decide +kernel
theorem dX7_toldBy_6 : decode cX7_toldBy 6 = .ok (.iload_n 2, 1) := by decide +kernel
theorem dX7_toldBy_7 : decode cX7_toldBy 7 = .ok (.invokestatic 97, 3) := by decide +kernel
theorem dX7_toldBy_10 : decode cX7_toldBy 10 = .ok (.iconst 1, 1) := by decide +kernel
theorem dX7_toldBy_11 : decode cX7_toldBy 11 = .ok (.if_icmp .ne 10, 3) := by decide +kernel
theorem dX7_toldBy_14 : decode cX7_toldBy 14 = .ok (.iload_n 2, 1) := by decide +kernel
theorem dX7_toldBy_15 : decode cX7_toldBy 15 = .ok (.invokestatic 102, 3) := by decide +kernel
theorem dX7_toldBy_18 : decode cX7_toldBy 18 = .ok (.goto 4, 3) := by decide +kernel
theorem dX7_toldBy_21 : decode cX7_toldBy 21 = .ok (.iconst (-1), 1) := by decide +kernel
theorem dX7_toldBy_22 : decode cX7_toldBy 22 = .ok (.ireturn, 1) := by decide +kernel
theorem dX7_costOf_0 : decode cX7_costOf 0 = .ok (.iconst 0, 1) := by decide +kernel
theorem dX7_costOf_1 : decode cX7_costOf 1 = .ok (.istore_n 3, 1) := by decide +kernel
theorem dX7_costOf_2 : decode cX7_costOf 2 = .ok (.iconst 0, 1) := by decide +kernel
theorem dX7_costOf_3 : decode cX7_costOf 3 = .ok (.istore 4, 2) := by decide +kernel
theorem dX7_costOf_5 : decode cX7_costOf 5 = .ok (.iload 4, 2) := by decide +kernel
theorem dX7_costOf_7 : decode cX7_costOf 7 = .ok (.aload_n 1, 1) := by decide +kernel
theorem dX7_costOf_8 : decode cX7_costOf 8 = .ok (.getfield 105, 3) := by decide +kernel
theorem dX7_costOf_11 : decode cX7_costOf 11 = .ok (.if_icmp .ge 57, 3) := by decide +kernel
theorem dX7_costOf_14 : decode cX7_costOf 14 = .ok (.iload_n 2, 1) := by decide +kernel
theorem dX7_costOf_15 : decode cX7_costOf 15 = .ok (.iload 4, 2) := by decide +kernel
theorem dX7_costOf_17 : decode cX7_costOf 17 = .ok (.ishr, 1) := by decide +kernel
theorem dX7_costOf_18 : decode cX7_costOf 18 = .ok (.iconst 1, 1) := by decide +kernel
theorem dX7_costOf_19 : decode cX7_costOf 19 = .ok (.iand, 1) := by decide +kernel
theorem dX7_costOf_20 : decode cX7_costOf 20 = .ok (.iconst 1, 1) := by decide +kernel
theorem dX7_costOf_21 : decode cX7_costOf 21 = .ok (.if_icmp .ne 17, 3) := by decide +kernel
theorem dX7_costOf_24 : decode cX7_costOf 24 = .ok (.iload_n 3, 1) := by decide +kernel
theorem dX7_costOf_25 : decode cX7_costOf 25 = .ok (.aload_n 0, 1) := by decide +kernel
theorem dX7_costOf_26 : decode cX7_costOf 26 = .ok (.aload_n 1, 1) := by decide +kernel
theorem dX7_costOf_27 : decode cX7_costOf 27 = .ok (.iload 4, 2) := by decide +kernel
theorem dX7_costOf_29 : decode cX7_costOf 29 = .ok (.iconst 0, 1) := by decide +kernel
theorem dX7_costOf_30 : decode cX7_costOf 30 = .ok (.invokevirtual 108, 3) := by decide +kernel
theorem dX7_costOf_33 : decode cX7_costOf 33 = .ok (.iadd, 1) := by decide +kernel
theorem dX7_costOf_34 : decode cX7_costOf 34 = .ok (.istore_n 3, 1) := by decide +kernel
theorem dX7_costOf_35 : decode cX7_costOf 35 = .ok (.goto 27, 3) := by decide +kernel
theorem dX7_costOf_38 : decode cX7_costOf 38 = .ok (.iload_n 2, 1) := by decide +kernel
theorem dX7_costOf_39 : decode cX7_costOf 39 = .ok (.iload 4, 2) := by decide +kernel
theorem dX7_costOf_41 : decode cX7_costOf 41 = .ok (.bipush 10, 2) := by decide +kernel
theorem dX7_costOf_43 : decode cX7_costOf 43 = .ok (.iadd, 1) := by decide +kernel
theorem dX7_costOf_44 : decode cX7_costOf 44 = .ok (.ishr, 1) := by decide +kernel
theorem dX7_costOf_45 : decode cX7_costOf 45 = .ok (.iconst 1, 1) := by decide +kernel
theorem dX7_costOf_46 : decode cX7_costOf 46 = .ok (.iand, 1) := by decide +kernel
theorem dX7_costOf_47 : decode cX7_costOf 47 = .ok (.iconst 1, 1) := by decide +kernel
theorem dX7_costOf_48 : decode cX7_costOf 48 = .ok (.if_icmp .ne 14, 3) := by decide +kernel
theorem dX7_costOf_51 : decode cX7_costOf 51 = .ok (.iload_n 3, 1) := by decide +kernel
theorem dX7_costOf_52 : decode cX7_costOf 52 = .ok (.aload_n 0, 1) := by decide +kernel
theorem dX7_costOf_53 : decode cX7_costOf 53 = .ok (.aload_n 1, 1) := by decide +kernel
theorem dX7_costOf_54 : decode cX7_costOf 54 = .ok (.iload 4, 2) := by decide +kernel
theorem dX7_costOf_56 : decode cX7_costOf 56 = .ok (.iconst 1, 1) := by decide +kernel
theorem dX7_costOf_57 : decode cX7_costOf 57 = .ok (.invokevirtual 108, 3) := by decide +kernel
theorem dX7_costOf_60 : decode cX7_costOf 60 = .ok (.iadd, 1) := by decide +kernel
theorem dX7_costOf_61 : decode cX7_costOf 61 = .ok (.istore_n 3, 1) := by decide +kernel
theorem dX7_costOf_62 : decode cX7_costOf 62 = .ok (.iinc 4 1, 3) := by decide +kernel
theorem dX7_costOf_65 : decode cX7_costOf 65 = .ok (.goto (-60), 3) := by decide +kernel
theorem dX7_costOf_68 : decode cX7_costOf 68 = .ok (.iload_n 3, 1) := by decide +kernel
theorem dX7_costOf_69 : decode cX7_costOf 69 = .ok (.ireturn, 1) := by decide +kernel
theorem dX7_wordCost_0 : decode cX7_wordCost 0 = .ok (.aload_n 1, 1) := by decide +kernel
theorem dX7_wordCost_1 : decode cX7_wordCost 1 = .ok (.getfield 112, 3) := by decide +kernel
theorem dX7_wordCost_4 : decode cX7_wordCost 4 = .ok (.iload_n 2, 1) := by decide +kernel
theorem dX7_wordCost_5 : decode cX7_wordCost 5 = .ok (.iaload, 1) := by decide +kernel
theorem dX7_wordCost_6 : decode cX7_wordCost 6 = .ok (.iload_n 3, 1) := by decide +kernel
theorem dX7_wordCost_7 : decode cX7_wordCost 7 = .ok (.ifCond .eq 7, 3) := by decide +kernel
theorem dX7_wordCost_10 : decode cX7_wordCost 10 = .ok (.iconst 1, 1) := by decide +kernel
theorem dX7_wordCost_11 : decode cX7_wordCost 11 = .ok (.goto 4, 3) := by decide +kernel
theorem dX7_wordCost_14 : decode cX7_wordCost 14 = .ok (.iconst 0, 1) := by decide +kernel
theorem dX7_wordCost_15 : decode cX7_wordCost 15 = .ok (.iadd, 1) := by decide +kernel
theorem dX7_wordCost_16 : decode cX7_wordCost 16 = .ok (.aload_n 0, 1) := by decide +kernel
theorem dX7_wordCost_17 : decode cX7_wordCost 17 = .ok (.getfield 46, 3) := by decide +kernel
theorem dX7_wordCost_20 : decode cX7_wordCost 20 = .ok (.iload_n 2, 1) := by decide +kernel
theorem dX7_wordCost_21 : decode cX7_wordCost 21 = .ok (.ishr, 1) := by decide +kernel
theorem dX7_wordCost_22 : decode cX7_wordCost 22 = .ok (.iconst 1, 1) := by decide +kernel
theorem dX7_wordCost_23 : decode cX7_wordCost 23 = .ok (.iand, 1) := by decide +kernel
theorem dX7_wordCost_24 : decode cX7_wordCost 24 = .ok (.iconst 1, 1) := by decide +kernel
theorem dX7_wordCost_25 : decode cX7_wordCost 25 = .ok (.if_icmp .ne 10, 3) := by decide +kernel
theorem dX7_wordCost_28 : decode cX7_wordCost 28 = .ok (.aload_n 1, 1) := by decide +kernel
theorem dX7_wordCost_29 : decode cX7_wordCost 29 = .ok (.getfield 115, 3) := by decide +kernel
theorem dX7_wordCost_32 : decode cX7_wordCost 32 = .ok (.goto 4, 3) := by decide +kernel
theorem dX7_wordCost_35 : decode cX7_wordCost 35 = .ok (.iconst 0, 1) := by decide +kernel
theorem dX7_wordCost_36 : decode cX7_wordCost 36 = .ok (.iadd, 1) := by decide +kernel
theorem dX7_wordCost_37 : decode cX7_wordCost 37 = .ok (.ireturn, 1) := by decide +kernel
theorem dX7_firstIn_0 : decode cX7_firstIn 0 = .ok (.aload_n 0, 1) := by decide +kernel
theorem dX7_firstIn_1 : decode cX7_firstIn 1 = .ok (.getfield 43, 3) := by decide +kernel
theorem dX7_firstIn_4 : decode cX7_firstIn 4 = .ok (.ifCond .ne 7, 3) := by decide +kernel
theorem dX7_firstIn_7 : decode cX7_firstIn 7 = .ok (.iconst (-1), 1) := by decide +kernel
theorem dX7_firstIn_8 : decode cX7_firstIn 8 = .ok (.goto 10, 3) := by decide +kernel
theorem dX7_firstIn_11 : decode cX7_firstIn 11 = .ok (.aload_n 0, 1) := by decide +kernel
theorem dX7_firstIn_12 : decode cX7_firstIn 12 = .ok (.getfield 43, 3) := by decide +kernel
theorem dX7_firstIn_15 : decode cX7_firstIn 15 = .ok (.invokestatic 102, 3) := by decide +kernel
theorem dX7_firstIn_18 : decode cX7_firstIn 18 = .ok (.ireturn, 1) := by decide +kernel
theorem dX7_setStake_0 : decode cX7_setStake 0 = .ok (.aload_n 0, 1) := by decide +kernel
theorem dX7_setStake_1 : decode cX7_setStake 1 = .ok (.iload_n 1, 1) := by decide +kernel
theorem dX7_setStake_2 : decode cX7_setStake 2 = .ok (.putfield 27, 3) := by decide +kernel
theorem dX7_setStake_5 : decode cX7_setStake 5 = .ok (.aload_n 0, 1) := by decide +kernel
theorem dX7_setStake_6 : decode cX7_setStake 6 = .ok (.getfield 21, 3) := by decide +kernel
theorem dX7_setStake_9 : decode cX7_setStake 9 = .ok (.iconst (-1), 1) := by decide +kernel
theorem dX7_setStake_10 : decode cX7_setStake 10 = .ok (.invokestatic 31, 3) := by decide +kernel
theorem dX7_setStake_13 : decode cX7_setStake 13 = .ok (.return_, 1) := by decide +kernel
theorem dX7_carryChest_0 : decode cX7_carryChest 0 = .ok (.aload_n 0, 1) := by decide +kernel
theorem dX7_carryChest_1 : decode cX7_carryChest 1 = .ok (.dup, 1) := by decide +kernel
theorem dX7_carryChest_2 : decode cX7_carryChest 2 = .ok (.getfield 43, 3) := by decide +kernel
theorem dX7_carryChest_5 : decode cX7_carryChest 5 = .ok (.iconst 1, 1) := by decide +kernel
theorem dX7_carryChest_6 : decode cX7_carryChest 6 = .ok (.iload_n 1, 1) := by decide +kernel
theorem dX7_carryChest_7 : decode cX7_carryChest 7 = .ok (.ishl, 1) := by decide +kernel
theorem dX7_carryChest_8 : decode cX7_carryChest 8 = .ok (.ixor, 1) := by decide +kernel
theorem dX7_carryChest_9 : decode cX7_carryChest 9 = .ok (.putfield 43, 3) := by decide +kernel
theorem dX7_carryChest_12 : decode cX7_carryChest 12 = .ok (.aload_n 0, 1) := by decide +kernel
theorem dX7_carryChest_13 : decode cX7_carryChest 13 = .ok (.getfield 27, 3) := by decide +kernel
theorem dX7_carryChest_16 : decode cX7_carryChest 16 = .ok (.iconst (-1), 1) := by decide +kernel
theorem dX7_carryChest_17 : decode cX7_carryChest 17 = .ok (.if_icmp .eq 14, 3) := by decide +kernel
theorem dX7_carryChest_20 : decode cX7_carryChest 20 = .ok (.aload_n 0, 1) := by decide +kernel
theorem dX7_carryChest_21 : decode cX7_carryChest 21 = .ok (.aload_n 0, 1) := by decide +kernel
theorem dX7_carryChest_22 : decode cX7_carryChest 22 = .ok (.getfield 27, 3) := by decide +kernel
theorem dX7_carryChest_25 : decode cX7_carryChest 25 = .ok (.invokevirtual 86, 3) := by decide +kernel
theorem dX7_carryChest_28 : decode cX7_carryChest 28 = .ok (.ifCond .ne 11, 3) := by decide +kernel
theorem dX7_carryChest_31 : decode cX7_carryChest 31 = .ok (.aload_n 0, 1) := by decide +kernel
theorem dX7_carryChest_32 : decode cX7_carryChest 32 = .ok (.aload_n 0, 1) := by decide +kernel
theorem dX7_carryChest_33 : decode cX7_carryChest 33 = .ok (.invokevirtual 64, 3) := by decide +kernel
theorem dX7_carryChest_36 : decode cX7_carryChest 36 = .ok (.invokevirtual 68, 3) := by decide +kernel
theorem dX7_carryChest_39 : decode cX7_carryChest 39 = .ok (.return_, 1) := by decide +kernel
theorem dX7_claimants_0 : decode cX7_claimants 0 = .ok (.iconst 0, 1) := by decide +kernel
theorem dX7_claimants_1 : decode cX7_claimants 1 = .ok (.istore_n 1, 1) := by decide +kernel
theorem dX7_claimants_2 : decode cX7_claimants 2 = .ok (.iconst 0, 1) := by decide +kernel
theorem dX7_claimants_3 : decode cX7_claimants 3 = .ok (.istore_n 2, 1) := by decide +kernel
theorem dX7_claimants_4 : decode cX7_claimants 4 = .ok (.iload_n 2, 1) := by decide +kernel
theorem dX7_claimants_5 : decode cX7_claimants 5 = .ok (.bipush 6, 2) := by decide +kernel
theorem dX7_claimants_7 : decode cX7_claimants 7 = .ok (.if_icmp .ge 22, 3) := by decide +kernel
theorem dX7_claimants_10 : decode cX7_claimants 10 = .ok (.aload_n 0, 1) := by decide +kernel
theorem dX7_claimants_11 : decode cX7_claimants 11 = .ok (.getfield 21, 3) := by decide +kernel
theorem dX7_claimants_14 : decode cX7_claimants 14 = .ok (.iload_n 2, 1) := by decide +kernel
theorem dX7_claimants_15 : decode cX7_claimants 15 = .ok (.iaload, 1) := by decide +kernel
theorem dX7_claimants_16 : decode cX7_claimants 16 = .ok (.iconst (-1), 1) := by decide +kernel
theorem dX7_claimants_17 : decode cX7_claimants 17 = .ok (.if_icmp .eq 6, 3) := by decide +kernel
theorem dX7_claimants_20 : decode cX7_claimants 20 = .ok (.iinc 1 1, 3) := by decide +kernel
theorem dX7_claimants_23 : decode cX7_claimants 23 = .ok (.iinc 2 1, 3) := by decide +kernel
theorem dX7_claimants_26 : decode cX7_claimants 26 = .ok (.goto (-22), 3) := by decide +kernel
theorem dX7_claimants_29 : decode cX7_claimants 29 = .ok (.iload_n 1, 1) := by decide +kernel
theorem dX7_claimants_30 : decode cX7_claimants 30 = .ok (.ireturn, 1) := by decide +kernel
theorem dX7_winning_0 : decode cX7_winning 0 = .ok (.iconst (-1), 1) := by decide +kernel
theorem dX7_winning_1 : decode cX7_winning 1 = .ok (.istore_n 2, 1) := by decide +kernel
theorem dX7_winning_2 : decode cX7_winning 2 = .ok (.ldc 118, 2) := by decide +kernel
theorem dX7_winning_4 : decode cX7_winning 4 = .ok (.istore_n 3, 1) := by decide +kernel
theorem dX7_winning_5 : decode cX7_winning 5 = .ok (.iconst 0, 1) := by decide +kernel
theorem dX7_winning_6 : decode cX7_winning 6 = .ok (.istore 4, 2) := by decide +kernel
theorem dX7_winning_8 : decode cX7_winning 8 = .ok (.iload 4, 2) := by decide +kernel
theorem dX7_winning_10 : decode cX7_winning 10 = .ok (.bipush 6, 2) := by decide +kernel
theorem dX7_winning_12 : decode cX7_winning 12 = .ok (.if_icmp .ge 72, 3) := by decide +kernel
theorem dX7_winning_15 : decode cX7_winning 15 = .ok (.aload_n 0, 1) := by decide +kernel
theorem dX7_winning_16 : decode cX7_winning 16 = .ok (.getfield 27, 3) := by decide +kernel
theorem dX7_winning_19 : decode cX7_winning 19 = .ok (.iconst (-1), 1) := by decide +kernel
theorem dX7_winning_20 : decode cX7_winning 20 = .ok (.if_icmp .eq 58, 3) := by decide +kernel
theorem dX7_winning_23 : decode cX7_winning 23 = .ok (.aload_n 0, 1) := by decide +kernel
theorem dX7_winning_24 : decode cX7_winning 24 = .ok (.getfield 21, 3) := by decide +kernel
theorem dX7_winning_27 : decode cX7_winning 27 = .ok (.iload 4, 2) := by decide +kernel
theorem dX7_winning_29 : decode cX7_winning 29 = .ok (.iaload, 1) := by decide +kernel
theorem dX7_winning_30 : decode cX7_winning 30 = .ok (.iconst (-1), 1) := by decide +kernel
theorem dX7_winning_31 : decode cX7_winning 31 = .ok (.if_icmp .eq 47, 3) := by decide +kernel
theorem dX7_winning_34 : decode cX7_winning 34 = .ok (.aload_n 0, 1) := by decide +kernel
theorem dX7_winning_35 : decode cX7_winning 35 = .ok (.aload_n 0, 1) := by decide +kernel
theorem dX7_winning_36 : decode cX7_winning 36 = .ok (.getfield 21, 3) := by decide +kernel
theorem dX7_winning_39 : decode cX7_winning 39 = .ok (.iload 4, 2) := by decide +kernel
theorem dX7_winning_41 : decode cX7_winning 41 = .ok (.iaload, 1) := by decide +kernel
theorem dX7_winning_42 : decode cX7_winning 42 = .ok (.invokevirtual 119, 3) := by decide +kernel
theorem dX7_winning_45 : decode cX7_winning 45 = .ok (.aload_n 0, 1) := by decide +kernel
theorem dX7_winning_46 : decode cX7_winning 46 = .ok (.getfield 27, 3) := by decide +kernel
theorem dX7_winning_49 : decode cX7_winning 49 = .ok (.if_icmp .ne 29, 3) := by decide +kernel
theorem dX7_winning_52 : decode cX7_winning 52 = .ok (.aload_n 0, 1) := by decide +kernel
theorem dX7_winning_53 : decode cX7_winning 53 = .ok (.aload_n 1, 1) := by decide +kernel
theorem dX7_winning_54 : decode cX7_winning 54 = .ok (.aload_n 0, 1) := by decide +kernel
theorem dX7_winning_55 : decode cX7_winning 55 = .ok (.getfield 21, 3) := by decide +kernel
theorem dX7_winning_58 : decode cX7_winning 58 = .ok (.iload 4, 2) := by decide +kernel
theorem dX7_winning_60 : decode cX7_winning 60 = .ok (.iaload, 1) := by decide +kernel
theorem dX7_winning_61 : decode cX7_winning 61 = .ok (.invokevirtual 122, 3) := by decide +kernel
theorem dX7_winning_64 : decode cX7_winning 64 = .ok (.istore 5, 2) := by decide +kernel
theorem dX7_winning_66 : decode cX7_winning 66 = .ok (.iload 5, 2) := by decide +kernel
theorem dX7_winning_68 : decode cX7_winning 68 = .ok (.iload_n 3, 1) := by decide +kernel
theorem dX7_winning_69 : decode cX7_winning 69 = .ok (.if_icmp .ge 9, 3) := by decide +kernel
theorem dX7_winning_72 : decode cX7_winning 72 = .ok (.iload 5, 2) := by decide +kernel
theorem dX7_winning_74 : decode cX7_winning 74 = .ok (.istore_n 3, 1) := by decide +kernel
theorem dX7_winning_75 : decode cX7_winning 75 = .ok (.iload 4, 2) := by decide +kernel
theorem dX7_winning_77 : decode cX7_winning 77 = .ok (.istore_n 2, 1) := by decide +kernel
theorem dX7_winning_78 : decode cX7_winning 78 = .ok (.iinc 4 1, 3) := by decide +kernel
theorem dX7_winning_81 : decode cX7_winning 81 = .ok (.goto (-73), 3) := by decide +kernel
theorem dX7_winning_84 : decode cX7_winning 84 = .ok (.iload_n 2, 1) := by decide +kernel
theorem dX7_winning_85 : decode cX7_winning 85 = .ok (.ireturn, 1) := by decide +kernel
theorem dX7_settleClaims_0 : decode cX7_settleClaims 0 = .ok (.aload_n 0, 1) := by decide +kernel
theorem dX7_settleClaims_1 : decode cX7_settleClaims 1 = .ok (.aload_n 1, 1) := by decide +kernel
theorem dX7_settleClaims_2 : decode cX7_settleClaims 2 = .ok (.invokevirtual 126, 3) := by decide +kernel
theorem dX7_settleClaims_5 : decode cX7_settleClaims 5 = .ok (.istore_n 2, 1) := by decide +kernel
theorem dX7_settleClaims_6 : decode cX7_settleClaims 6 = .ok (.iload_n 2, 1) := by decide +kernel
theorem dX7_settleClaims_7 : decode cX7_settleClaims 7 = .ok (.iconst (-1), 1) := by decide +kernel
theorem dX7_settleClaims_8 : decode cX7_settleClaims 8 = .ok (.if_icmp .eq 59, 3) := by decide +kernel
theorem dX7_settleClaims_11 : decode cX7_settleClaims 11 = .ok (.aload_n 0, 1) := by decide +kernel
theorem dX7_settleClaims_12 : decode cX7_settleClaims 12 = .ok (.getfield 24, 3) := by decide +kernel
theorem dX7_settleClaims_15 : decode cX7_settleClaims 15 = .ok (.iload_n 2, 1) := by decide +kernel
theorem dX7_settleClaims_16 : decode cX7_settleClaims 16 = .ok (.dup2, 1) := by decide +kernel
theorem dX7_settleClaims_17 : decode cX7_settleClaims 17 = .ok (.iaload, 1) := by decide +kernel
theorem dX7_settleClaims_18 : decode cX7_settleClaims 18 = .ok (.iconst 1, 1) := by decide +kernel
theorem dX7_settleClaims_19 : decode cX7_settleClaims 19 = .ok (.iadd, 1) := by decide +kernel
theorem dX7_settleClaims_20 : decode cX7_settleClaims 20 = .ok (.iastore, 1) := by decide +kernel
theorem dX7_settleClaims_21 : decode cX7_settleClaims 21 = .ok (.aload_n 0, 1) := by decide +kernel
theorem dX7_settleClaims_22 : decode cX7_settleClaims 22 = .ok (.dup, 1) := by decide +kernel
theorem dX7_settleClaims_23 : decode cX7_settleClaims 23 = .ok (.getfield 46, 3) := by decide +kernel
theorem dX7_settleClaims_26 : decode cX7_settleClaims 26 = .ok (.aload_n 0, 1) := by decide +kernel
theorem dX7_settleClaims_27 : decode cX7_settleClaims 27 = .ok (.getfield 21, 3) := by decide +kernel
theorem dX7_settleClaims_30 : decode cX7_settleClaims 30 = .ok (.iload_n 2, 1) := by decide +kernel
theorem dX7_settleClaims_31 : decode cX7_settleClaims 31 = .ok (.iaload, 1) := by decide +kernel
theorem dX7_settleClaims_32 : decode cX7_settleClaims 32 = .ok (.sipush 1023, 3) := by decide +kernel
theorem dX7_settleClaims_35 : decode cX7_settleClaims 35 = .ok (.iand, 1) := by decide +kernel
theorem dX7_settleClaims_36 : decode cX7_settleClaims 36 = .ok (.aload_n 0, 1) := by decide +kernel
theorem dX7_settleClaims_37 : decode cX7_settleClaims 37 = .ok (.getfield 21, 3) := by decide +kernel
theorem dX7_settleClaims_40 : decode cX7_settleClaims 40 = .ok (.iload_n 2, 1) := by decide +kernel
theorem dX7_settleClaims_41 : decode cX7_settleClaims 41 = .ok (.iaload, 1) := by decide +kernel
theorem dX7_settleClaims_42 : decode cX7_settleClaims 42 = .ok (.bipush 10, 2) := by decide +kernel
theorem dX7_settleClaims_44 : decode cX7_settleClaims 44 = .ok (.iushr, 1) := by decide +kernel
theorem dX7_settleClaims_45 : decode cX7_settleClaims 45 = .ok (.ior, 1) := by decide +kernel
theorem dX7_settleClaims_46 : decode cX7_settleClaims 46 = .ok (.ior, 1) := by decide +kernel
theorem dX7_settleClaims_47 : decode cX7_settleClaims 47 = .ok (.putfield 46, 3) := by decide +kernel
theorem dX7_settleClaims_50 : decode cX7_settleClaims 50 = .ok (.aload_n 0, 1) := by decide +kernel
theorem dX7_settleClaims_51 : decode cX7_settleClaims 51 = .ok (.dup, 1) := by decide +kernel
theorem dX7_settleClaims_52 : decode cX7_settleClaims 52 = .ok (.getfield 43, 3) := by decide +kernel
theorem dX7_settleClaims_55 : decode cX7_settleClaims 55 = .ok (.iconst 1, 1) := by decide +kernel
theorem dX7_settleClaims_56 : decode cX7_settleClaims 56 = .ok (.aload_n 0, 1) := by decide +kernel
theorem dX7_settleClaims_57 : decode cX7_settleClaims 57 = .ok (.getfield 27, 3) := by decide +kernel
theorem dX7_settleClaims_60 : decode cX7_settleClaims 60 = .ok (.ishl, 1) := by decide +kernel
theorem dX7_settleClaims_61 : decode cX7_settleClaims 61 = .ok (.iconst (-1), 1) := by decide +kernel
theorem dX7_settleClaims_62 : decode cX7_settleClaims 62 = .ok (.ixor, 1) := by decide +kernel
theorem dX7_settleClaims_63 : decode cX7_settleClaims 63 = .ok (.iand, 1) := by decide +kernel
theorem dX7_settleClaims_64 : decode cX7_settleClaims 64 = .ok (.putfield 43, 3) := by decide +kernel
theorem dX7_settleClaims_67 : decode cX7_settleClaims 67 = .ok (.aload_n 0, 1) := by decide +kernel
theorem dX7_settleClaims_68 : decode cX7_settleClaims 68 = .ok (.aload_n 0, 1) := by decide +kernel
theorem dX7_settleClaims_69 : decode cX7_settleClaims 69 = .ok (.aload_n 0, 1) := by decide +kernel
theorem dX7_settleClaims_70 : decode cX7_settleClaims 70 = .ok (.getfield 27, 3) := by decide +kernel
theorem dX7_settleClaims_73 : decode cX7_settleClaims 73 = .ok (.invokevirtual 129, 3) := by decide +kernel
theorem dX7_settleClaims_76 : decode cX7_settleClaims 76 = .ok (.invokevirtual 68, 3) := by decide +kernel
theorem dX7_settleClaims_79 : decode cX7_settleClaims 79 = .ok (.iload_n 2, 1) := by decide +kernel
theorem dX7_settleClaims_80 : decode cX7_settleClaims 80 = .ok (.ireturn, 1) := by decide +kernel
theorem dX7_nextIn_0 : decode cX7_nextIn 0 = .ok (.aload_n 0, 1) := by decide +kernel
theorem dX7_nextIn_1 : decode cX7_nextIn 1 = .ok (.getfield 43, 3) := by decide +kernel
theorem dX7_nextIn_4 : decode cX7_nextIn 4 = .ok (.bipush (-2), 2) := by decide +kernel
theorem dX7_nextIn_6 : decode cX7_nextIn 6 = .ok (.iload_n 1, 1) := by decide +kernel
theorem dX7_nextIn_7 : decode cX7_nextIn 7 = .ok (.ishl, 1) := by decide +kernel
theorem dX7_nextIn_8 : decode cX7_nextIn 8 = .ok (.iand, 1) := by decide +kernel
theorem dX7_nextIn_9 : decode cX7_nextIn 9 = .ok (.istore_n 2, 1) := by decide +kernel
theorem dX7_nextIn_10 : decode cX7_nextIn 10 = .ok (.iload_n 2, 1) := by decide +kernel
theorem dX7_nextIn_11 : decode cX7_nextIn 11 = .ok (.ifCond .ne 10, 3) := by decide +kernel
theorem dX7_nextIn_14 : decode cX7_nextIn 14 = .ok (.aload_n 0, 1) := by decide +kernel
theorem dX7_nextIn_15 : decode cX7_nextIn 15 = .ok (.invokevirtual 64, 3) := by decide +kernel
theorem dX7_nextIn_18 : decode cX7_nextIn 18 = .ok (.goto 7, 3) := by decide +kernel
theorem dX7_nextIn_21 : decode cX7_nextIn 21 = .ok (.iload_n 2, 1) := by decide +kernel
theorem dX7_nextIn_22 : decode cX7_nextIn 22 = .ok (.invokestatic 102, 3) := by decide +kernel
theorem dX7_nextIn_25 : decode cX7_nextIn 25 = .ok (.ireturn, 1) := by decide +kernel
