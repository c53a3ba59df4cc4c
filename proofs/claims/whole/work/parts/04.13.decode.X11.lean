theorem dX11_parts_50 : decode cX11_parts 50 = .ok (.invokestatic 152, 3) := by decide +kernel
theorem dX11_parts_53 : decode cX11_parts 53 = .ok (.istore 5, 2) := by decide +kernel
theorem dX11_parts_55 : decode cX11_parts 55 = .ok (.iload 5, 2) := by decide +kernel
theorem dX11_parts_57 : decode cX11_parts 57 = .ok (.iload_n 1, 1) := by decide +kernel
theorem dX11_parts_58 : decode cX11_parts 58 = .ok (.iload 5, 2) := by decide +kernel
theorem dX11_parts_60 : decode cX11_parts 60 = .ok (.isub, 1) := by decide +kernel
theorem dX11_parts_61 : decode cX11_parts 61 = .ok (.invokestatic 355, 3) := by decide +kernel
theorem dX11_parts_64 : decode cX11_parts 64 = .ok (.istore 6, 2) := by decide +kernel
theorem dX11_parts_66 : decode cX11_parts 66 = .ok (.iload 6, 2) := by decide +kernel
theorem dX11_parts_68 : decode cX11_parts 68 = .ok (.iload_n 3, 1) := by decide +kernel
theorem dX11_parts_69 : decode cX11_parts 69 = .ok (.if_icmp .ge 9, 3) := by decide +kernel
theorem dX11_parts_72 : decode cX11_parts 72 = .ok (.iload 6, 2) := by decide +kernel
theorem dX11_parts_74 : decode cX11_parts 74 = .ok (.istore_n 3, 1) := by decide +kernel
theorem dX11_parts_75 : decode cX11_parts 75 = .ok (.iload 4, 2) := by decide +kernel
theorem dX11_parts_77 : decode cX11_parts 77 = .ok (.istore_n 2, 1) := by decide +kernel
theorem dX11_parts_78 : decode cX11_parts 78 = .ok (.iinc 4 1, 3) := by decide +kernel
theorem dX11_parts_81 : decode cX11_parts 81 = .ok (.goto (-58), 3) := by decide +kernel
theorem dX11_parts_84 : decode cX11_parts 84 = .ok (.iload_n 2, 1) := by decide +kernel
theorem dX11_parts_85 : decode cX11_parts 85 = .ok (.ireturn, 1) := by decide +kernel
theorem dX11_idle_0 : decode cX11_idle 0 = .ok (.iconst 0, 1) := by decide +kernel
theorem dX11_idle_1 : decode cX11_idle 1 = .ok (.istore_n 1, 1) := by decide +kernel
theorem dX11_idle_2 : decode cX11_idle 2 = .ok (.iconst 0, 1) := by decide +kernel
theorem dX11_idle_3 : decode cX11_idle 3 = .ok (.istore_n 2, 1) := by decide +kernel
theorem dX11_idle_4 : decode cX11_idle 4 = .ok (.iload_n 2, 1) := by decide +kernel
theorem dX11_idle_5 : decode cX11_idle 5 = .ok (.aload_n 0, 1) := by decide +kernel
theorem dX11_idle_6 : decode cX11_idle 6 = .ok (.getfield 34, 3) := by decide +kernel
theorem dX11_idle_9 : decode cX11_idle 9 = .ok (.getfield 130, 3) := by decide +kernel
theorem dX11_idle_12 : decode cX11_idle 12 = .ok (.getfield 352, 3) := by decide +kernel
theorem dX11_idle_15 : decode cX11_idle 15 = .ok (.if_icmp .ge 45, 3) := by decide +kernel
theorem dX11_idle_18 : decode cX11_idle 18 = .ok (.aload_n 0, 1) := by decide +kernel
theorem dX11_idle_19 : decode cX11_idle 19 = .ok (.getfield 34, 3) := by decide +kernel
theorem dX11_idle_22 : decode cX11_idle 22 = .ok (.getfield 119, 3) := by decide +kernel
theorem dX11_idle_25 : decode cX11_idle 25 = .ok (.iload_n 2, 1) := by decide +kernel
theorem dX11_idle_26 : decode cX11_idle 26 = .ok (.invokevirtual 164, 3) := by decide +kernel
theorem dX11_idle_29 : decode cX11_idle 29 = .ok (.istore_n 3, 1) := by decide +kernel
theorem dX11_idle_30 : decode cX11_idle 30 = .ok (.iload_n 3, 1) := by decide +kernel
theorem dX11_idle_31 : decode cX11_idle 31 = .ok (.ifCond .eq 17, 3) := by decide +kernel
theorem dX11_idle_34 : decode cX11_idle 34 = .ok (.iload_n 3, 1) := by decide +kernel
theorem dX11_idle_35 : decode cX11_idle 35 = .ok (.aload_n 0, 1) := by decide +kernel
theorem dX11_idle_36 : decode cX11_idle 36 = .ok (.getfield 34, 3) := by decide +kernel
theorem dX11_idle_39 : decode cX11_idle 39 = .ok (.getfield 119, 3) := by decide +kernel
theorem dX11_idle_42 : decode cX11_idle 42 = .ok (.getfield 288, 3) := by decide +kernel
theorem dX11_idle_45 : decode cX11_idle 45 = .ok (.if_icmp .ne 9, 3) := by decide +kernel
theorem dX11_idle_48 : decode cX11_idle 48 = .ok (.iload_n 1, 1) := by decide +kernel
theorem dX11_idle_49 : decode cX11_idle 49 = .ok (.iconst 1, 1) := by decide +kernel
theorem dX11_idle_50 : decode cX11_idle 50 = .ok (.iload_n 2, 1) := by decide +kernel
theorem dX11_idle_51 : decode cX11_idle 51 = .ok (.ishl, 1) := by decide +kernel
theorem dX11_idle_52 : decode cX11_idle 52 = .ok (.ior, 1) := by decide +kernel
theorem dX11_idle_53 : decode cX11_idle 53 = .ok (.istore_n 1, 1) := by decide +kernel
theorem dX11_idle_54 : decode cX11_idle 54 = .ok (.iinc 2 1, 3) := by decide +kernel
theorem dX11_idle_57 : decode cX11_idle 57 = .ok (.goto (-53), 3) := by decide +kernel
theorem dX11_idle_60 : decode cX11_idle 60 = .ok (.iload_n 1, 1) := by decide +kernel
theorem dX11_idle_61 : decode cX11_idle 61 = .ok (.ireturn, 1) := by decide +kernel
theorem dX11_nearest_0 : decode cX11_nearest 0 = .ok (.aload_n 0, 1) := by decide +kernel
theorem dX11_nearest_1 : decode cX11_nearest 1 = .ok (.iload_n 1, 1) := by decide +kernel
theorem dX11_nearest_2 : decode cX11_nearest 2 = .ok (.invokevirtual 113, 3) := by decide +kernel
theorem dX11_nearest_5 : decode cX11_nearest 5 = .ok (.iconst (-1), 1) := by decide +kernel
theorem dX11_nearest_6 : decode cX11_nearest 6 = .ok (.istore_n 2, 1) := by decide +kernel
theorem dX11_nearest_7 : decode cX11_nearest 7 = .ok (.bipush 11, 2) := by decide +kernel
theorem dX11_nearest_9 : decode cX11_nearest 9 = .ok (.istore_n 3, 1) := by decide +kernel
theorem dX11_nearest_10 : decode cX11_nearest 10 = .ok (.iconst 0, 1) := by decide +kernel
theorem dX11_nearest_11 : decode cX11_nearest 11 = .ok (.istore 4, 2) := by decide +kernel
theorem dX11_nearest_13 : decode cX11_nearest 13 = .ok (.iload 4, 2) := by decide +kernel
theorem dX11_nearest_15 : decode cX11_nearest 15 = .ok (.aload_n 0, 1) := by decide +kernel
theorem dX11_nearest_16 : decode cX11_nearest 16 = .ok (.getfield 34, 3) := by decide +kernel
theorem dX11_nearest_19 : decode cX11_nearest 19 = .ok (.getfield 130, 3) := by decide +kernel
theorem dX11_nearest_22 : decode cX11_nearest 22 = .ok (.getfield 208, 3) := by decide +kernel
theorem dX11_nearest_25 : decode cX11_nearest 25 = .ok (.if_icmp .ge 71, 3) := by decide +kernel
theorem dX11_nearest_28 : decode cX11_nearest 28 = .ok (.iload 4, 2) := by decide +kernel
theorem dX11_nearest_30 : decode cX11_nearest 30 = .ok (.iload_n 1, 1) := by decide +kernel
theorem dX11_nearest_31 : decode cX11_nearest 31 = .ok (.if_icmp .eq 59, 3) := by decide +kernel
theorem dX11_nearest_34 : decode cX11_nearest 34 = .ok (.aload_n 0, 1) := by decide +kernel
theorem dX11_nearest_35 : decode cX11_nearest 35 = .ok (.getfield 34, 3) := by decide +kernel
theorem dX11_nearest_38 : decode cX11_nearest 38 = .ok (.getfield 119, 3) := by decide +kernel
theorem dX11_nearest_41 : decode cX11_nearest 41 = .ok (.iload 4, 2) := by decide +kernel
theorem dX11_nearest_43 : decode cX11_nearest 43 = .ok (.invokevirtual 141, 3) := by decide +kernel
theorem dX11_nearest_46 : decode cX11_nearest 46 = .ok (.ifCond .eq 44, 3) := by decide +kernel
theorem dX11_nearest_49 : decode cX11_nearest 49 = .ok (.aload_n 0, 1) := by decide +kernel
theorem dX11_nearest_50 : decode cX11_nearest 50 = .ok (.getfield 34, 3) := by decide +kernel
theorem dX11_nearest_53 : decode cX11_nearest 53 = .ok (.getfield 119, 3) := by decide +kernel
theorem dX11_nearest_56 : decode cX11_nearest 56 = .ok (.iload_n 1, 1) := by decide +kernel
theorem dX11_nearest_57 : decode cX11_nearest 57 = .ok (.invokevirtual 145, 3) := by decide +kernel
theorem dX11_nearest_60 : decode cX11_nearest 60 = .ok (.aload_n 0, 1) := by decide +kernel
theorem dX11_nearest_61 : decode cX11_nearest 61 = .ok (.getfield 34, 3) := by decide +kernel
theorem dX11_nearest_64 : decode cX11_nearest 64 = .ok (.getfield 119, 3) := by decide +kernel
theorem dX11_nearest_67 : decode cX11_nearest 67 = .ok (.iload 4, 2) := by decide +kernel
theorem dX11_nearest_69 : decode cX11_nearest 69 = .ok (.invokevirtual 145, 3) := by decide +kernel
theorem dX11_nearest_72 : decode cX11_nearest 72 = .ok (.ixor, 1) := by decide +kernel
theorem dX11_nearest_73 : decode cX11_nearest 73 = .ok (.invokestatic 152, 3) := by decide +kernel
theorem dX11_nearest_76 : decode cX11_nearest 76 = .ok (.istore 5, 2) := by decide +kernel
theorem dX11_nearest_78 : decode cX11_nearest 78 = .ok (.iload 5, 2) := by decide +kernel
theorem dX11_nearest_80 : decode cX11_nearest 80 = .ok (.iload_n 3, 1) := by decide +kernel
theorem dX11_nearest_81 : decode cX11_nearest 81 = .ok (.if_icmp .ge 9, 3) := by decide +kernel
theorem dX11_nearest_84 : decode cX11_nearest 84 = .ok (.iload 5, 2) := by decide +kernel
theorem dX11_nearest_86 : decode cX11_nearest 86 = .ok (.istore_n 3, 1) := by decide +kernel
theorem dX11_nearest_87 : decode cX11_nearest 87 = .ok (.iload 4, 2) := by decide +kernel
theorem dX11_nearest_89 : decode cX11_nearest 89 = .ok (.istore_n 2, 1) := by decide +kernel
theorem dX11_nearest_90 : decode cX11_nearest 90 = .ok (.iinc 4 1, 3) := by decide +kernel
theorem dX11_nearest_93 : decode cX11_nearest 93 = .ok (.goto (-80), 3) := by decide +kernel
theorem dX11_nearest_96 : decode cX11_nearest 96 = .ok (.iload_n 2, 1) := by decide +kernel
theorem dX11_nearest_97 : decode cX11_nearest 97 = .ok (.ireturn, 1) := by decide +kernel
theorem dX11_differ_0 : decode cX11_differ 0 = .ok (.aload_n 0, 1) := by decide +kernel
theorem dX11_differ_1 : decode cX11_differ 1 = .ok (.iload_n 1, 1) := by decide +kernel
theorem dX11_differ_2 : decode cX11_differ 2 = .ok (.invokevirtual 113, 3) := by decide +kernel
theorem dX11_differ_5 : decode cX11_differ 5 = .ok (.aload_n 0, 1) := by decide +kernel
theorem dX11_differ_6 : decode cX11_differ 6 = .ok (.iload_n 2, 1) := by decide +kernel
theorem dX11_differ_7 : decode cX11_differ 7 = .ok (.invokevirtual 113, 3) := by decide +kernel
theorem dX11_differ_10 : decode cX11_differ 10 = .ok (.aload_n 0, 1) := by decide +kernel
theorem dX11_differ_11 : decode cX11_differ 11 = .ok (.getfield 34, 3) := by decide +kernel
theorem dX11_differ_14 : decode cX11_differ 14 = .ok (.getfield 119, 3) := by decide +kernel
theorem dX11_differ_17 : decode cX11_differ 17 = .ok (.iload_n 1, 1) := by decide +kernel
theorem dX11_differ_18 : decode cX11_differ 18 = .ok (.invokevirtual 145, 3) := by decide +kernel
theorem dX11_differ_21 : decode cX11_differ 21 = .ok (.aload_n 0, 1) := by decide +kernel
theorem dX11_differ_22 : decode cX11_differ 22 = .ok (.getfield 34, 3) := by decide +kernel
theorem dX11_differ_25 : decode cX11_differ 25 = .ok (.getfield 119, 3) := by decide +kernel
theorem dX11_differ_28 : decode cX11_differ 28 = .ok (.iload_n 2, 1) := by decide +kernel
theorem dX11_differ_29 : decode cX11_differ 29 = .ok (.invokevirtual 145, 3) := by decide +kernel
theorem dX11_differ_32 : decode cX11_differ 32 = .ok (.ixor, 1) := by decide +kernel
theorem dX11_differ_33 : decode cX11_differ 33 = .ok (.ireturn, 1) := by decide +kernel
theorem dX11_common_0 : decode cX11_common 0 = .ok (.iload_n 1, 1) := by decide +kernel
theorem dX11_common_1 : decode cX11_common 1 = .ok (.ifCond .eq 20, 3) := by decide +kernel
theorem dX11_common_4 : decode cX11_common 4 = .ok (.iload_n 1, 1) := by decide +kernel
theorem dX11_common_5 : decode cX11_common 5 = .ok (.aload_n 0, 1) := by decide +kernel
theorem dX11_common_6 : decode cX11_common 6 = .ok (.getfield 34, 3) := by decide +kernel
theorem dX11_common_9 : decode cX11_common 9 = .ok (.getfield 119, 3) := by decide +kernel
theorem dX11_common_12 : decode cX11_common 12 = .ok (.getfield 288, 3) := by decide +kernel
theorem dX11_common_15 : decode cX11_common 15 = .ok (.iconst (-1), 1) := by decide +kernel
theorem dX11_common_16 : decode cX11_common 16 = .ok (.ixor, 1) := by decide +kernel
theorem dX11_common_17 : decode cX11_common 17 = .ok (.iand, 1) := by decide +kernel
theorem dX11_common_18 : decode cX11_common 18 = .ok (.ifCond .eq 14, 3) := by decide +kernel
theorem dX11_common_21 : decode cX11_common 21 = .ok (.new 84, 3) := by decide +kernel
theorem dX11_common_24 : decode cX11_common 24 = .ok (.dup, 1) := by decide +kernel
theorem dX11_common_25 : decode cX11_common 25 = .ok (.ldc_w 360, 3) := by decide +kernel
theorem dX11_common_28 : decode cX11_common 28 = .ok (.invokespecial 88, 3) := by decide +kernel
theorem dX11_common_31 : decode cX11_common 31 = .ok (.athrow, 1) := by decide +kernel
theorem dX11_common_32 : decode cX11_common 32 = .ok (.aload_n 0, 1) := by decide +kernel
theorem dX11_common_33 : decode cX11_common 33 = .ok (.getfield 34, 3) := by decide +kernel
theorem dX11_common_36 : decode cX11_common 36 = .ok (.getfield 130, 3) := by decide +kernel
theorem dX11_common_39 : decode cX11_common 39 = .ok (.invokevirtual 362, 3) := by decide +kernel
theorem dX11_common_42 : decode cX11_common 42 = .ok (.istore_n 2, 1) := by decide +kernel
theorem dX11_common_43 : decode cX11_common 43 = .ok (.aload_n 0, 1) := by decide +kernel
theorem dX11_common_44 : decode cX11_common 44 = .ok (.getfield 34, 3) := by decide +kernel
theorem dX11_common_47 : decode cX11_common 47 = .ok (.getfield 130, 3) := by decide +kernel
theorem dX11_common_50 : decode cX11_common 50 = .ok (.invokevirtual 362, 3) := by decide +kernel
theorem dX11_common_53 : decode cX11_common 53 = .ok (.istore_n 3, 1) := by decide +kernel
theorem dX11_common_54 : decode cX11_common 54 = .ok (.iconst 0, 1) := by decide +kernel
theorem dX11_common_55 : decode cX11_common 55 = .ok (.istore 4, 2) := by decide +kernel
theorem dX11_common_57 : decode cX11_common 57 = .ok (.iload 4, 2) := by decide +kernel
theorem dX11_common_59 : decode cX11_common 59 = .ok (.aload_n 0, 1) := by decide +kernel
theorem dX11_common_60 : decode cX11_common 60 = .ok (.getfield 34, 3) := by decide +kernel
theorem dX11_common_63 : decode cX11_common 63 = .ok (.getfield 130, 3) := by decide +kernel
theorem dX11_common_66 : decode cX11_common 66 = .ok (.getfield 208, 3) := by decide +kernel
theorem dX11_common_69 : decode cX11_common 69 = .ok (.if_icmp .ge 51, 3) := by decide +kernel
theorem dX11_common_72 : decode cX11_common 72 = .ok (.iload_n 1, 1) := by decide +kernel
theorem dX11_common_73 : decode cX11_common 73 = .ok (.iload 4, 2) := by decide +kernel
theorem dX11_common_75 : decode cX11_common 75 = .ok (.ishr, 1) := by decide +kernel
theorem dX11_common_76 : decode cX11_common 76 = .ok (.iconst 1, 1) := by decide +kernel
theorem dX11_common_77 : decode cX11_common 77 = .ok (.iand, 1) := by decide +kernel
theorem dX11_common_78 : decode cX11_common 78 = .ok (.iconst 1, 1) := by decide +kernel
theorem dX11_common_79 : decode cX11_common 79 = .ok (.if_icmp .ne 35, 3) := by decide +kernel
theorem dX11_common_82 : decode cX11_common 82 = .ok (.iload_n 2, 1) := by decide +kernel
theorem dX11_common_83 : decode cX11_common 83 = .ok (.aload_n 0, 1) := by decide +kernel
theorem dX11_common_84 : decode cX11_common 84 = .ok (.getfield 34, 3) := by decide +kernel
theorem dX11_common_87 : decode cX11_common 87 = .ok (.getfield 119, 3) := by decide +kernel
theorem dX11_common_90 : decode cX11_common 90 = .ok (.iload 4, 2) := by decide +kernel
theorem dX11_common_92 : decode cX11_common 92 = .ok (.invokevirtual 145, 3) := by decide +kernel
theorem dX11_common_95 : decode cX11_common 95 = .ok (.iand, 1) := by decide +kernel
theorem dX11_common_96 : decode cX11_common 96 = .ok (.istore_n 2, 1) := by decide +kernel
theorem dX11_common_97 : decode cX11_common 97 = .ok (.iload_n 3, 1) := by decide +kernel
theorem dX11_common_98 : decode cX11_common 98 = .ok (.aload_n 0, 1) := by decide +kernel
theorem dX11_common_99 : decode cX11_common 99 = .ok (.getfield 34, 3) := by decide +kernel
theorem dX11_common_102 : decode cX11_common 102 = .ok (.getfield 119, 3) := by decide +kernel
theorem dX11_common_105 : decode cX11_common 105 = .ok (.iload 4, 2) := by decide +kernel
theorem dX11_common_107 : decode cX11_common 107 = .ok (.invokevirtual 145, 3) := by decide +kernel
theorem dX11_common_110 : decode cX11_common 110 = .ok (.iconst (-1), 1) := by decide +kernel
theorem dX11_common_111 : decode cX11_common 111 = .ok (.ixor, 1) := by decide +kernel
theorem dX11_common_112 : decode cX11_common 112 = .ok (.iand, 1) := by decide +kernel
theorem dX11_common_113 : decode cX11_common 113 = .ok (.istore_n 3, 1) := by decide +kernel
theorem dX11_common_114 : decode cX11_common 114 = .ok (.iinc 4 1, 3) := by decide +kernel
theorem dX11_common_117 : decode cX11_common 117 = .ok (.goto (-60), 3) := by decide +kernel
theorem dX11_common_120 : decode cX11_common 120 = .ok (.iload_n 2, 1) := by decide +kernel
theorem dX11_common_121 : decode cX11_common 121 = .ok (.iload_n 3, 1) := by decide +kernel
theorem dX11_common_122 : decode cX11_common 122 = .ok (.bipush 10, 2) := by decide +kernel
theorem dX11_common_124 : decode cX11_common 124 = .ok (.ishl, 1) := by decide +kernel
theorem dX11_common_125 : decode cX11_common 125 = .ok (.ior, 1) := by decide +kernel
theorem dX11_common_126 : decode cX11_common 126 = .ok (.ireturn, 1) := by decide +kernel
theorem dX11_changing_0 : decode cX11_changing 0 = .ok (.iconst 0, 1) := by decide +kernel
theorem dX11_changing_1 : decode cX11_changing 1 = .ok (.istore_n 1, 1) := by decide +kernel
theorem dX11_changing_2 : decode cX11_changing 2 = .ok (.iconst 0, 1) := by decide +kernel
theorem dX11_changing_3 : decode cX11_changing 3 = .ok (.istore_n 2, 1) := by decide +kernel
theorem dX11_changing_4 : decode cX11_changing 4 = .ok (.iload_n 2, 1) := by decide +kernel
theorem dX11_changing_5 : decode cX11_changing 5 = .ok (.aload_n 0, 1) := by decide +kernel
theorem dX11_changing_6 : decode cX11_changing 6 = .ok (.getfield 34, 3) := by decide +kernel
theorem dX11_changing_9 : decode cX11_changing 9 = .ok (.getfield 130, 3) := by decide +kernel
theorem dX11_changing_12 : decode cX11_changing 12 = .ok (.getfield 208, 3) := by decide +kernel
theorem dX11_changing_15 : decode cX11_changing 15 = .ok (.if_icmp .ge 42, 3) := by decide +kernel
theorem dX11_changing_18 : decode cX11_changing 18 = .ok (.aload_n 0, 1) := by decide +kernel
theorem dX11_changing_19 : decode cX11_changing 19 = .ok (.getfield 34, 3) := by decide +kernel
theorem dX11_changing_22 : decode cX11_changing 22 = .ok (.getfield 119, 3) := by decide +kernel
theorem dX11_changing_25 : decode cX11_changing 25 = .ok (.iload_n 2, 1) := by decide +kernel
theorem dX11_changing_26 : decode cX11_changing 26 = .ok (.iconst 1, 1) := by decide +kernel
theorem dX11_changing_27 : decode cX11_changing 27 = .ok (.invokevirtual 173, 3) := by decide +kernel
theorem dX11_changing_30 : decode cX11_changing 30 = .ok (.aload_n 0, 1) := by decide +kernel
theorem dX11_changing_31 : decode cX11_changing 31 = .ok (.getfield 34, 3) := by decide +kernel
theorem dX11_changing_34 : decode cX11_changing 34 = .ok (.getfield 119, 3) := by decide +kernel
theorem dX11_changing_37 : decode cX11_changing 37 = .ok (.iload_n 2, 1) := by decide +kernel
theorem dX11_changing_38 : decode cX11_changing 38 = .ok (.iconst 0, 1) := by decide +kernel
theorem dX11_changing_39 : decode cX11_changing 39 = .ok (.invokevirtual 173, 3) := by decide +kernel
theorem dX11_changing_42 : decode cX11_changing 42 = .ok (.if_icmp .eq 9, 3) := by decide +kernel
theorem dX11_changing_45 : decode cX11_changing 45 = .ok (.iload_n 1, 1) := by decide +kernel
theorem dX11_changing_46 : decode cX11_changing 46 = .ok (.iconst 1, 1) := by decide +kernel
theorem dX11_changing_47 : decode cX11_changing 47 = .ok (.iload_n 2, 1) := by decide +kernel
theorem dX11_changing_48 : decode cX11_changing 48 = .ok (.ishl, 1) := by decide +kernel
theorem dX11_changing_49 : decode cX11_changing 49 = .ok (.ior, 1) := by decide +kernel
theorem dX11_changing_50 : decode cX11_changing 50 = .ok (.istore_n 1, 1) := by decide +kernel
theorem dX11_changing_51 : decode cX11_changing 51 = .ok (.iinc 2 1, 3) := by decide +kernel
theorem dX11_changing_54 : decode cX11_changing 54 = .ok (.goto (-50), 3) := by decide +kernel
theorem dX11_changing_57 : decode cX11_changing 57 = .ok (.iload_n 1, 1) := by decide +kernel
theorem dX11_changing_58 : decode cX11_changing 58 = .ok (.ireturn, 1) := by decide +kernel
theorem dX11_greedy_0 : decode cX11_greedy 0 = .ok (.aload_n 0, 1) := by decide +kernel
theorem dX11_greedy_1 : decode cX11_greedy 1 = .ok (.iload_n 1, 1) := by decide +kernel
theorem dX11_greedy_2 : decode cX11_greedy 2 = .ok (.invokevirtual 190, 3) := by decide +kernel
theorem dX11_greedy_5 : decode cX11_greedy 5 = .ok (.aload_n 0, 1) := by decide +kernel
theorem dX11_greedy_6 : decode cX11_greedy 6 = .ok (.getfield 58, 3) := by decide +kernel
theorem dX11_greedy_9 : decode cX11_greedy 9 = .ok (.aload_n 0, 1) := by decide +kernel
theorem dX11_greedy_10 : decode cX11_greedy 10 = .ok (.getfield 34, 3) := by decide +kernel
theorem dX11_greedy_13 : decode cX11_greedy 13 = .ok (.getfield 130, 3) := by decide +kernel
theorem dX11_greedy_16 : decode cX11_greedy 16 = .ok (.aload_n 0, 1) := by decide +kernel
theorem dX11_greedy_17 : decode cX11_greedy 17 = .ok (.getfield 34, 3) := by decide +kernel
theorem dX11_greedy_20 : decode cX11_greedy 20 = .ok (.getfield 119, 3) := by decide +kernel
theorem dX11_greedy_23 : decode cX11_greedy 23 = .ok (.iload_n 1, 1) := by decide +kernel
theorem dX11_greedy_24 : decode cX11_greedy 24 = .ok (.invokevirtual 365, 3) := by decide +kernel
theorem dX11_greedy_27 : decode cX11_greedy 27 = .ok (.ireturn, 1) := by decide +kernel
theorem dX11_tray_0 : decode cX11_tray 0 = .ok (.aload_n 0, 1) := by decide +kernel
theorem dX11_tray_1 : decode cX11_tray 1 = .ok (.iload_n 1, 1) := by decide +kernel
theorem dX11_tray_2 : decode cX11_tray 2 = .ok (.invokevirtual 368, 3) := by decide +kernel
theorem dX11_tray_5 : decode cX11_tray 5 = .ok (.iload_n 2, 1) := by decide +kernel
theorem dX11_tray_6 : decode cX11_tray 6 = .ok (.ifCond .lt 18, 3) := by decide +kernel
theorem dX11_tray_9 : decode cX11_tray 9 = .ok (.iload_n 2, 1) := by decide +kernel
theorem dX11_tray_10 : decode cX11_tray 10 = .ok (.iconst 4, 1) := by decide +kernel
theorem dX11_tray_11 : decode cX11_tray 11 = .ok (.if_icmp .ge 13, 3) := by decide +kernel
theorem dX11_tray_14 : decode cX11_tray 14 = .ok (.iload_n 3, 1) := by decide +kernel
theorem dX11_tray_15 : decode cX11_tray 15 = .ok (.ifCond .lt 9, 3) := by decide +kernel
theorem dX11_tray_18 : decode cX11_tray 18 = .ok (.iload_n 3, 1) := by decide +kernel
theorem dX11_tray_19 : decode cX11_tray 19 = .ok (.bipush 30, 2) := by decide +kernel
theorem dX11_tray_21 : decode cX11_tray 21 = .ok (.if_icmp .le 14, 3) := by decide +kernel
theorem dX11_tray_24 : decode cX11_tray 24 = .ok (.new 84, 3) := by decide +kernel
theorem dX11_tray_27 : decode cX11_tray 27 = .ok (.dup, 1) := by decide +kernel
theorem dX11_tray_28 : decode cX11_tray 28 = .ok (.ldc_w 371, 3) := by decide +kernel
theorem dX11_tray_31 : decode cX11_tray 31 = .ok (.invokespecial 88, 3) := by decide +kernel
theorem dX11_tray_34 : decode cX11_tray 34 = .ok (.athrow, 1) := by decide +kernel
theorem dX11_tray_35 : decode cX11_tray 35 = .ok (.aload_n 0, 1) := by decide +kernel
theorem dX11_tray_36 : decode cX11_tray 36 = .ok (.getfield 44, 3) := by decide +kernel
theorem dX11_tray_39 : decode cX11_tray 39 = .ok (.iload_n 1, 1) := by decide +kernel
theorem dX11_tray_40 : decode cX11_tray 40 = .ok (.aaload, 1) := by decide +kernel
theorem dX11_tray_41 : decode cX11_tray 41 = .ok (.iload_n 2, 1) := by decide +kernel
theorem dX11_tray_42 : decode cX11_tray 42 = .ok (.iload_n 3, 1) := by decide +kernel
theorem dX11_tray_43 : decode cX11_tray 43 = .ok (.invokevirtual 373, 3) := by decide +kernel
theorem dX11_tray_46 : decode cX11_tray 46 = .ok (.return_, 1) := by decide +kernel
theorem dX11_write_0 : decode cX11_write 0 = .ok (.aload_n 0, 1) := by decide +kernel
theorem dX11_write_1 : decode cX11_write 1 = .ok (.iload_n 1, 1) := by decide +kernel
theorem dX11_write_2 : decode cX11_write 2 = .ok (.invokevirtual 265, 3) := by decide +kernel
theorem dX11_write_5 : decode cX11_write 5 = .ok (.astore 5, 2) := by decide +kernel
theorem dX11_write_7 : decode cX11_write 7 = .ok (.iload_n 2, 1) := by decide +kernel
theorem dX11_write_8 : decode cX11_write 8 = .ok (.ifCond .lt 12, 3) := by decide +kernel
theorem dX11_write_11 : decode cX11_write 11 = .ok (.iload_n 2, 1) := by decide +kernel
theorem dX11_write_12 : decode cX11_write 12 = .ok (.aload 5, 2) := by decide +kernel
theorem dX11_write_14 : decode cX11_write 14 = .ok (.getfield 273, 3) := by decide +kernel
theorem dX11_write_17 : decode cX11_write 17 = .ok (.if_icmp .lt 14, 3) := by decide +kernel
theorem dX11_write_20 : decode cX11_write 20 = .ok (.new 376, 3) := by decide +kernel
theorem dX11_write_23 : decode cX11_write 23 = .ok (.dup, 1) := by decide +kernel
theorem dX11_write_24 : decode cX11_write 24 = .ok (.ldc_w 378, 3) := by decide +kernel
theorem dX11_write_27 : decode cX11_write 27 = .ok (.invokespecial 380, 3) := by decide +kernel
theorem dX11_write_30 : decode cX11_write 30 = .ok (.athrow, 1) := by decide +kernel
theorem dX11_write_31 : decode cX11_write 31 = .ok (.aload 5, 2) := by decide +kernel
theorem dX11_write_33 : decode cX11_write 33 = .ok (.getfield 276, 3) := by decide +kernel
theorem dX11_write_36 : decode cX11_write 36 = .ok (.iload_n 2, 1) := by decide +kernel
theorem dX11_write_37 : decode cX11_write 37 = .ok (.aload 5, 2) := by decide +kernel
theorem dX11_write_39 : decode cX11_write 39 = .ok (.lload_n 3, 1) := by decide +kernel
theorem dX11_write_40 : decode cX11_write 40 = .ok (.invokevirtual 381, 3) := by decide +kernel
theorem dX11_write_43 : decode cX11_write 43 = .ok (.lastore, 1) := by decide +kernel
theorem dX11_write_44 : decode cX11_write 44 = .ok (.aload 5, 2) := by decide +kernel
theorem dX11_write_46 : decode cX11_write 46 = .ok (.getfield 276, 3) := by decide +kernel
theorem dX11_write_49 : decode cX11_write 49 = .ok (.iload_n 2, 1) := by decide +kernel
theorem dX11_write_50 : decode cX11_write 50 = .ok (.laload, 1) := by decide +kernel
theorem dX11_write_51 : decode cX11_write 51 = .ok (.lreturn, 1) := by decide +kernel
theorem dX11_copy_0 : decode cX11_copy 0 = .ok (.aload_n 0, 1) := by decide +kernel
theorem dX11_copy_1 : decode cX11_copy 1 = .ok (.iload_n 1, 1) := by decide +kernel
theorem dX11_copy_2 : decode cX11_copy 2 = .ok (.invokevirtual 265, 3) := by decide +kernel
theorem dX11_copy_5 : decode cX11_copy 5 = .ok (.astore_n 2, 1) := by decide +kernel
theorem dX11_copy_6 : decode cX11_copy 6 = .ok (.iconst 0, 1) := by decide +kernel
theorem dX11_copy_7 : decode cX11_copy 7 = .ok (.istore_n 3, 1) := by decide +kernel
theorem dX11_copy_8 : decode cX11_copy 8 = .ok (.iconst 0, 1) := by decide +kernel
theorem dX11_copy_9 : decode cX11_copy 9 = .ok (.istore 4, 2) := by decide +kernel
theorem dX11_copy_11 : decode cX11_copy 11 = .ok (.iload 4, 2) := by decide +kernel
theorem dX11_copy_13 : decode cX11_copy 13 = .ok (.aload_n 0, 1) := by decide +kernel
theorem dX11_copy_14 : decode cX11_copy 14 = .ok (.getfield 34, 3) := by decide +kernel
theorem dX11_copy_17 : decode cX11_copy 17 = .ok (.getfield 130, 3) := by decide +kernel
theorem dX11_copy_20 : decode cX11_copy 20 = .ok (.getfield 208, 3) := by decide +kernel
theorem dX11_copy_23 : decode cX11_copy 23 = .ok (.if_icmp .ge 44, 3) := by decide +kernel
theorem dX11_copy_26 : decode cX11_copy 26 = .ok (.iload_n 3, 1) := by decide +kernel
theorem dX11_copy_27 : decode cX11_copy 27 = .ok (.aload_n 2, 1) := by decide +kernel
theorem dX11_copy_28 : decode cX11_copy 28 = .ok (.getfield 273, 3) := by decide +kernel
theorem dX11_copy_31 : decode cX11_copy 31 = .ok (.if_icmp .ge 36, 3) := by decide +kernel
theorem dX11_copy_34 : decode cX11_copy 34 = .ok (.aload_n 0, 1) := by decide +kernel
theorem dX11_copy_35 : decode cX11_copy 35 = .ok (.getfield 34, 3) := by decide +kernel
theorem dX11_copy_38 : decode cX11_copy 38 = .ok (.getfield 119, 3) := by decide +kernel
theorem dX11_copy_41 : decode cX11_copy 41 = .ok (.iload 4, 2) := by decide +kernel
theorem dX11_copy_43 : decode cX11_copy 43 = .ok (.invokevirtual 141, 3) := by decide +kernel
theorem dX11_copy_46 : decode cX11_copy 46 = .ok (.ifCond .eq 15, 3) := by decide +kernel
theorem dX11_copy_49 : decode cX11_copy 49 = .ok (.aload_n 2, 1) := by decide +kernel
theorem dX11_copy_50 : decode cX11_copy 50 = .ok (.getfield 276, 3) := by decide +kernel
theorem dX11_copy_53 : decode cX11_copy 53 = .ok (.iload_n 3, 1) := by decide +kernel
theorem dX11_copy_54 : decode cX11_copy 54 = .ok (.iload 4, 2) := by decide +kernel
theorem dX11_copy_56 : decode cX11_copy 56 = .ok (.i2l, 1) := by decide +kernel
theorem dX11_copy_57 : decode cX11_copy 57 = .ok (.lastore, 1) := by decide +kernel
theorem dX11_copy_58 : decode cX11_copy 58 = .ok (.iinc 3 1, 3) := by decide +kernel
theorem dX11_copy_61 : decode cX11_copy 61 = .ok (.iinc 4 1, 3) := by decide +kernel
theorem dX11_copy_64 : decode cX11_copy 64 = .ok (.goto (-53), 3) := by decide +kernel
theorem dX11_copy_67 : decode cX11_copy 67 = .ok (.iload_n 3, 1) := by decide +kernel
theorem dX11_copy_68 : decode cX11_copy 68 = .ok (.ireturn, 1) := by decide +kernel
theorem dX11_image_0 : decode cX11_image 0 = .ok (.aload_n 0, 1) := by decide +kernel
theorem dX11_image_1 : decode cX11_image 1 = .ok (.iload_n 1, 1) := by decide +kernel
theorem dX11_image_2 : decode cX11_image 2 = .ok (.invokevirtual 385, 3) := by decide +kernel
theorem dX11_image_5 : decode cX11_image 5 = .ok (.aload_n 0, 1) := by decide +kernel
theorem dX11_image_6 : decode cX11_image 6 = .ok (.getfield 38, 3) := by decide +kernel
theorem dX11_image_9 : decode cX11_image 9 = .ok (.iload_n 1, 1) := by decide +kernel
theorem dX11_image_10 : decode cX11_image 10 = .ok (.aaload, 1) := by decide +kernel
theorem dX11_image_11 : decode cX11_image 11 = .ok (.ifnonnull 16, 3) := by decide +kernel
theorem dX11_image_14 : decode cX11_image 14 = .ok (.aload_n 0, 1) := by decide +kernel
theorem dX11_image_15 : decode cX11_image 15 = .ok (.getfield 38, 3) := by decide +kernel
theorem dX11_image_18 : decode cX11_image 18 = .ok (.iload_n 1, 1) := by decide +kernel
theorem dX11_image_19 : decode cX11_image 19 = .ok (.new 31, 3) := by decide +kernel
theorem dX11_image_22 : decode cX11_image 22 = .ok (.dup, 1) := by decide +kernel
theorem dX11_image_23 : decode cX11_image 23 = .ok (.invokespecial 33, 3) := by decide +kernel
theorem dX11_image_26 : decode cX11_image 26 = .ok (.aastore, 1) := by decide +kernel
theorem dX11_image_27 : decode cX11_image 27 = .ok (.aload_n 0, 1) := by decide +kernel
theorem dX11_image_28 : decode cX11_image 28 = .ok (.getfield 38, 3) := by decide +kernel
theorem dX11_image_31 : decode cX11_image 31 = .ok (.iload_n 1, 1) := by decide +kernel
theorem dX11_image_32 : decode cX11_image 32 = .ok (.aaload, 1) := by decide +kernel
theorem dX11_image_33 : decode cX11_image 33 = .ok (.aload_n 0, 1) := by decide +kernel
theorem dX11_image_34 : decode cX11_image 34 = .ok (.getfield 34, 3) := by decide +kernel
theorem dX11_image_37 : decode cX11_image 37 = .ok (.invokevirtual 388, 3) := by decide +kernel
theorem dX11_image_40 : decode cX11_image 40 = .ok (.return_, 1) := by decide +kernel
theorem dX11_restore_0 : decode cX11_restore 0 = .ok (.aload_n 0, 1) := by decide +kernel
theorem dX11_restore_1 : decode cX11_restore 1 = .ok (.iload_n 1, 1) := by decide +kernel
theorem dX11_restore_2 : decode cX11_restore 2 = .ok (.invokevirtual 385, 3) := by decide +kernel
theorem dX11_restore_5 : decode cX11_restore 5 = .ok (.aload_n 0, 1) := by decide +kernel
theorem dX11_restore_6 : decode cX11_restore 6 = .ok (.getfield 38, 3) := by decide +kernel
theorem dX11_restore_9 : decode cX11_restore 9 = .ok (.iload_n 1, 1) := by decide +kernel
theorem dX11_restore_10 : decode cX11_restore 10 = .ok (.aaload, 1) := by decide +kernel
theorem dX11_restore_11 : decode cX11_restore 11 = .ok (.astore_n 2, 1) := by decide +kernel
theorem dX11_restore_12 : decode cX11_restore 12 = .ok (.aload_n 2, 1) := by decide +kernel
theorem dX11_restore_13 : decode cX11_restore 13 = .ok (.ifnonnull 14, 3) := by decide +kernel
theorem dX11_restore_16 : decode cX11_restore 16 = .ok (.new 310, 3) := by decide +kernel
theorem dX11_restore_19 : decode cX11_restore 19 = .ok (.dup, 1) := by decide +kernel
theorem dX11_restore_20 : decode cX11_restore 20 = .ok (.ldc_w 391, 3) := by decide +kernel
theorem dX11_restore_23 : decode cX11_restore 23 = .ok (.invokespecial 314, 3) := by decide +kernel
theorem dX11_restore_26 : decode cX11_restore 26 = .ok (.athrow, 1) := by decide +kernel
theorem dX11_restore_27 : decode cX11_restore 27 = .ok (.aload_n 0, 1) := by decide +kernel
theorem dX11_restore_28 : decode cX11_restore 28 = .ok (.getfield 34, 3) := by decide +kernel
theorem dX11_restore_31 : decode cX11_restore 31 = .ok (.aload_n 2, 1) := by decide +kernel
theorem dX11_restore_32 : decode cX11_restore 32 = .ok (.invokevirtual 388, 3) := by decide +kernel
theorem dX11_restore_35 : decode cX11_restore 35 = .ok (.return_, 1) := by decide +kernel
theorem dX11_count_0 : decode cX11_count 0 = .ok (.iload_n 1, 1) := by decide +kernel
theorem dX11_count_1 : decode cX11_count 1 = .ok (.tableswitch 215 0 12 #[67, 78, 89, 100, 114, 125, 139, 150, 161, 180, 191, 202, 210], 67) := by decide +kernel
theorem dX11_count_68 : decode cX11_count 68 = .ok (.aload_n 0, 1) := by decide +kernel
theorem dX11_count_69 : decode cX11_count 69 = .ok (.getfield 34, 3) := by decide +kernel
theorem dX11_count_72 : decode cX11_count 72 = .ok (.getfield 130, 3) := by decide +kernel
theorem dX11_count_75 : decode cX11_count 75 = .ok (.getfield 108, 3) := by decide +kernel
theorem dX11_count_78 : decode cX11_count 78 = .ok (.ireturn, 1) := by decide +kernel
theorem dX11_count_79 : decode cX11_count 79 = .ok (.aload_n 0, 1) := by decide +kernel
theorem dX11_count_80 : decode cX11_count 80 = .ok (.getfield 34, 3) := by decide +kernel
theorem dX11_count_83 : decode cX11_count 83 = .ok (.getfield 130, 3) := by decide +kernel
theorem dX11_count_86 : decode cX11_count 86 = .ok (.getfield 297, 3) := by decide +kernel
theorem dX11_count_89 : decode cX11_count 89 = .ok (.ireturn, 1) := by decide +kernel
theorem dX11_count_90 : decode cX11_count 90 = .ok (.aload_n 0, 1) := by decide +kernel
theorem dX11_count_91 : decode cX11_count 91 = .ok (.getfield 34, 3) := by decide +kernel
theorem dX11_count_94 : decode cX11_count 94 = .ok (.getfield 130, 3) := by decide +kernel
theorem dX11_count_97 : decode cX11_count 97 = .ok (.getfield 208, 3) := by decide +kernel
theorem dX11_count_100 : decode cX11_count 100 = .ok (.ireturn, 1) := by decide +kernel
theorem dX11_count_101 : decode cX11_count 101 = .ok (.aload_n 0, 1) := by decide +kernel
theorem dX11_count_102 : decode cX11_count 102 = .ok (.getfield 34, 3) := by decide +kernel
theorem dX11_count_105 : decode cX11_count 105 = .ok (.getfield 119, 3) := by decide +kernel
theorem dX11_count_108 : decode cX11_count 108 = .ok (.getfield 288, 3) := by decide +kernel
theorem dX11_count_111 : decode cX11_count 111 = .ok (.invokestatic 152, 3) := by decide +kernel
theorem dX11_count_114 : decode cX11_count 114 = .ok (.ireturn, 1) := by decide +kernel
theorem dX11_count_115 : decode cX11_count 115 = .ok (.aload_n 0, 1) := by decide +kernel
theorem dX11_count_116 : decode cX11_count 116 = .ok (.getfield 34, 3) := by decide +kernel
theorem dX11_count_119 : decode cX11_count 119 = .ok (.getfield 130, 3) := by decide +kernel
theorem dX11_count_122 : decode cX11_count 122 = .ok (.getfield 352, 3) := by decide +kernel
theorem dX11_count_125 : decode cX11_count 125 = .ok (.ireturn, 1) := by decide +kernel
theorem dX11_count_126 : decode cX11_count 126 = .ok (.aload_n 0, 1) := by decide +kernel
theorem dX11_count_127 : decode cX11_count 127 = .ok (.getfield 34, 3) := by decide +kernel
theorem dX11_count_130 : decode cX11_count 130 = .ok (.getfield 119, 3) := by decide +kernel
theorem dX11_count_133 : decode cX11_count 133 = .ok (.getfield 170, 3) := by decide +kernel
theorem dX11_count_136 : decode cX11_count 136 = .ok (.invokestatic 152, 3) := by decide +kernel
theorem dX11_count_139 : decode cX11_count 139 = .ok (.ireturn, 1) := by decide +kernel
theorem dX11_count_140 : decode cX11_count 140 = .ok (.aload_n 0, 1) := by decide +kernel
theorem dX11_count_141 : decode cX11_count 141 = .ok (.getfield 34, 3) := by decide +kernel
theorem dX11_count_144 : decode cX11_count 144 = .ok (.getfield 130, 3) := by decide +kernel
theorem dX11_count_147 : decode cX11_count 147 = .ok (.getfield 393, 3) := by decide +kernel
theorem dX11_count_150 : decode cX11_count 150 = .ok (.ireturn, 1) := by decide +kernel
theorem dX11_count_151 : decode cX11_count 151 = .ok (.aload_n 0, 1) := by decide +kernel
theorem dX11_count_152 : decode cX11_count 152 = .ok (.getfield 34, 3) := by decide +kernel
theorem dX11_count_155 : decode cX11_count 155 = .ok (.getfield 119, 3) := by decide +kernel
theorem dX11_count_158 : decode cX11_count 158 = .ok (.getfield 228, 3) := by decide +kernel
theorem dX11_count_161 : decode cX11_count 161 = .ok (.ireturn, 1) := by decide +kernel
theorem dX11_count_162 : decode cX11_count 162 = .ok (.aload_n 0, 1) := by decide +kernel
theorem dX11_count_163 : decode cX11_count 163 = .ok (.getfield 34, 3) := by decide +kernel
theorem dX11_count_166 : decode cX11_count 166 = .ok (.getfield 119, 3) := by decide +kernel
theorem dX11_count_169 : decode cX11_count 169 = .ok (.getfield 126, 3) := by decide +kernel
theorem dX11_count_172 : decode cX11_count 172 = .ok (.ifCond .eq 7, 3) := by decide +kernel
theorem dX11_count_175 : decode cX11_count 175 = .ok (.iconst 1, 1) := by decide +kernel
theorem dX11_count_176 : decode cX11_count 176 = .ok (.goto 4, 3) := by decide +kernel
theorem dX11_count_179 : decode cX11_count 179 = .ok (.iconst 0, 1) := by decide +kernel
theorem dX11_count_180 : decode cX11_count 180 = .ok (.ireturn, 1) := by decide +kernel
theorem dX11_count_181 : decode cX11_count 181 = .ok (.aload_n 0, 1) := by decide +kernel
theorem dX11_count_182 : decode cX11_count 182 = .ok (.getfield 34, 3) := by decide +kernel
theorem dX11_count_185 : decode cX11_count 185 = .ok (.getfield 119, 3) := by decide +kernel
theorem dX11_count_188 : decode cX11_count 188 = .ok (.invokevirtual 396, 3) := by decide +kernel
theorem dX11_count_191 : decode cX11_count 191 = .ok (.ireturn, 1) := by decide +kernel
theorem dX11_count_192 : decode cX11_count 192 = .ok (.aload_n 0, 1) := by decide +kernel
theorem dX11_count_193 : decode cX11_count 193 = .ok (.getfield 34, 3) := by decide +kernel
theorem dX11_count_196 : decode cX11_count 196 = .ok (.getfield 130, 3) := by decide +kernel
theorem dX11_count_199 : decode cX11_count 199 = .ok (.getfield 399, 3) := by decide +kernel
theorem dX11_count_202 : decode cX11_count 202 = .ok (.ireturn, 1) := by decide +kernel
theorem dX11_count_203 : decode cX11_count 203 = .ok (.aload_n 0, 1) := by decide +kernel
theorem dX11_count_204 : decode cX11_count 204 = .ok (.getfield 34, 3) := by decide +kernel
theorem dX11_count_207 : decode cX11_count 207 = .ok (.getfield 257, 3) := by decide +kernel
theorem dX11_count_210 : decode cX11_count 210 = .ok (.ireturn, 1) := by decide +kernel
theorem dX11_count_211 : decode cX11_count 211 = .ok (.aload_n 0, 1) := by decide +kernel
theorem dX11_count_212 : decode cX11_count 212 = .ok (.getfield 77, 3) := by decide +kernel
theorem dX11_count_215 : decode cX11_count 215 = .ok (.ireturn, 1) := by decide +kernel
theorem dX11_count_216 : decode cX11_count 216 = .ok (.iconst (-1), 1) := by decide +kernel
theorem dX11_count_217 : decode cX11_count 217 = .ok (.ireturn, 1) := by decide +kernel
theorem dX11_needChest_0 : decode cX11_needChest 0 = .ok (.iload_n 1, 1) := by decide +kernel
theorem dX11_needChest_1 : decode cX11_needChest 1 = .ok (.ifCond .lt 17, 3) := by decide +kernel
theorem dX11_needChest_4 : decode cX11_needChest 4 = .ok (.iload_n 1, 1) := by decide +kernel
theorem dX11_needChest_5 : decode cX11_needChest 5 = .ok (.aload_n 0, 1) := by decide +kernel
theorem dX11_needChest_6 : decode cX11_needChest 6 = .ok (.getfield 34, 3) := by decide +kernel
theorem dX11_needChest_9 : decode cX11_needChest 9 = .ok (.getfield 130, 3) := by decide +kernel
theorem dX11_needChest_12 : decode cX11_needChest 12 = .ok (.getfield 208, 3) := by decide +kernel
theorem dX11_needChest_15 : decode cX11_needChest 15 = .ok (.if_icmp .lt 14, 3) := by decide +kernel
theorem dX11_needChest_18 : decode cX11_needChest 18 = .ok (.new 402, 3) := by decide +kernel
theorem dX11_needChest_21 : decode cX11_needChest 21 = .ok (.dup, 1) := by decide +kernel
theorem dX11_needChest_22 : decode cX11_needChest 22 = .ok (.ldc_w 404, 3) := by decide +kernel
theorem dX11_needChest_25 : decode cX11_needChest 25 = .ok (.invokespecial 406, 3) := by decide +kernel
theorem dX11_needChest_28 : decode cX11_needChest 28 = .ok (.athrow, 1) := by decide +kernel
theorem dX11_needChest_29 : decode cX11_needChest 29 = .ok (.return_, 1) := by decide +kernel
theorem dX11_needChestIn_0 : decode cX11_needChestIn 0 = .ok (.aload_n 0, 1) := by decide +kernel
theorem dX11_needChestIn_1 : decode cX11_needChestIn 1 = .ok (.iload_n 1, 1) := by decide +kernel
theorem dX11_needChestIn_2 : decode cX11_needChestIn 2 = .ok (.invokevirtual 113, 3) := by decide +kernel
theorem dX11_needChestIn_5 : decode cX11_needChestIn 5 = .ok (.aload_n 0, 1) := by decide +kernel
theorem dX11_needChestIn_6 : decode cX11_needChestIn 6 = .ok (.getfield 34, 3) := by decide +kernel
theorem dX11_needChestIn_9 : decode cX11_needChestIn 9 = .ok (.getfield 119, 3) := by decide +kernel
theorem dX11_needChestIn_12 : decode cX11_needChestIn 12 = .ok (.iload_n 1, 1) := by decide +kernel
theorem dX11_needChestIn_13 : decode cX11_needChestIn 13 = .ok (.invokevirtual 141, 3) := by decide +kernel
theorem dX11_needChestIn_16 : decode cX11_needChestIn 16 = .ok (.ifCond .ne 14, 3) := by decide +kernel
theorem dX11_needChestIn_19 : decode cX11_needChestIn 19 = .ok (.new 310, 3) := by decide +kernel
theorem dX11_needChestIn_22 : decode cX11_needChestIn 22 = .ok (.dup, 1) := by decide +kernel
theorem dX11_needChestIn_23 : decode cX11_needChestIn 23 = .ok (.ldc_w 407, 3) := by decide +kernel
theorem dX11_needChestIn_26 : decode cX11_needChestIn 26 = .ok (.invokespecial 314, 3) := by decide +kernel
theorem dX11_needChestIn_29 : decode cX11_needChestIn 29 = .ok (.athrow, 1) := by decide +kernel
theorem dX11_needChestIn_30 : decode cX11_needChestIn 30 = .ok (.return_, 1) := by decide +kernel
theorem dX11_needMark_0 : decode cX11_needMark 0 = .ok (.iload_n 1, 1) := by decide +kernel
theorem dX11_needMark_1 : decode cX11_needMark 1 = .ok (.ifCond .lt 17, 3) := by decide +kernel
theorem dX11_needMark_4 : decode cX11_needMark 4 = .ok (.iload_n 1, 1) := by decide +kernel
theorem dX11_needMark_5 : decode cX11_needMark 5 = .ok (.aload_n 0, 1) := by decide +kernel
theorem dX11_needMark_6 : decode cX11_needMark 6 = .ok (.getfield 34, 3) := by decide +kernel
theorem dX11_needMark_9 : decode cX11_needMark 9 = .ok (.getfield 130, 3) := by decide +kernel
theorem dX11_needMark_12 : decode cX11_needMark 12 = .ok (.getfield 297, 3) := by decide +kernel
theorem dX11_needMark_15 : decode cX11_needMark 15 = .ok (.if_icmp .lt 14, 3) := by decide +kernel
theorem dX11_needMark_18 : decode cX11_needMark 18 = .ok (.new 402, 3) := by decide +kernel
theorem dX11_needMark_21 : decode cX11_needMark 21 = .ok (.dup, 1) := by decide +kernel
theorem dX11_needMark_22 : decode cX11_needMark 22 = .ok (.ldc_w 409, 3) := by decide +kernel
theorem dX11_needMark_25 : decode cX11_needMark 25 = .ok (.invokespecial 406, 3) := by decide +kernel
theorem dX11_needMark_28 : decode cX11_needMark 28 = .ok (.athrow, 1) := by decide +kernel
theorem dX11_needMark_29 : decode cX11_needMark 29 = .ok (.return_, 1) := by decide +kernel
theorem dX11_needWord_0 : decode cX11_needWord 0 = .ok (.iload_n 1, 1) := by decide +kernel
theorem dX11_needWord_1 : decode cX11_needWord 1 = .ok (.ifCond .lt 17, 3) := by decide +kernel
theorem dX11_needWord_4 : decode cX11_needWord 4 = .ok (.iload_n 1, 1) := by decide +kernel
theorem dX11_needWord_5 : decode cX11_needWord 5 = .ok (.aload_n 0, 1) := by decide +kernel
theorem dX11_needWord_6 : decode cX11_needWord 6 = .ok (.getfield 34, 3) := by decide +kernel
theorem dX11_needWord_9 : decode cX11_needWord 9 = .ok (.getfield 130, 3) := by decide +kernel
theorem dX11_needWord_12 : decode cX11_needWord 12 = .ok (.getfield 352, 3) := by decide +kernel
theorem dX11_needWord_15 : decode cX11_needWord 15 = .ok (.if_icmp .lt 14, 3) := by decide +kernel
theorem dX11_needWord_18 : decode cX11_needWord 18 = .ok (.new 402, 3) := by decide +kernel
theorem dX11_needWord_21 : decode cX11_needWord 21 = .ok (.dup, 1) := by decide +kernel
theorem dX11_needWord_22 : decode cX11_needWord 22 = .ok (.ldc_w 411, 3) := by decide +kernel
theorem dX11_needWord_25 : decode cX11_needWord 25 = .ok (.invokespecial 406, 3) := by decide +kernel
theorem dX11_needWord_28 : decode cX11_needWord 28 = .ok (.athrow, 1) := by decide +kernel
theorem dX11_needWord_29 : decode cX11_needWord 29 = .ok (.return_, 1) := by decide +kernel
theorem dX11_needPerson_0 : decode cX11_needPerson 0 = .ok (.iload_n 1, 1) := by decide +kernel
theorem dX11_needPerson_1 : decode cX11_needPerson 1 = .ok (.ifCond .lt 17, 3) := by decide +kernel
theorem dX11_needPerson_4 : decode cX11_needPerson 4 = .ok (.iload_n 1, 1) := by decide +kernel
theorem dX11_needPerson_5 : decode cX11_needPerson 5 = .ok (.aload_n 0, 1) := by decide +kernel
theorem dX11_needPerson_6 : decode cX11_needPerson 6 = .ok (.getfield 34, 3) := by decide +kernel
theorem dX11_needPerson_9 : decode cX11_needPerson 9 = .ok (.getfield 130, 3) := by decide +kernel
theorem dX11_needPerson_12 : decode cX11_needPerson 12 = .ok (.getfield 393, 3) := by decide +kernel
theorem dX11_needPerson_15 : decode cX11_needPerson 15 = .ok (.if_icmp .lt 14, 3) := by decide +kernel
theorem dX11_needPerson_18 : decode cX11_needPerson 18 = .ok (.new 402, 3) := by decide +kernel
theorem dX11_needPerson_21 : decode cX11_needPerson 21 = .ok (.dup, 1) := by decide +kernel
theorem dX11_needPerson_22 : decode cX11_needPerson 22 = .ok (.ldc_w 413, 3) := by decide +kernel
theorem dX11_needPerson_25 : decode cX11_needPerson 25 = .ok (.invokespecial 406, 3) := by decide +kernel
theorem dX11_needPerson_28 : decode cX11_needPerson 28 = .ok (.athrow, 1) := by decide +kernel
theorem dX11_needPerson_29 : decode cX11_needPerson 29 = .ok (.return_, 1) := by decide +kernel
theorem dX11_needStake_0 : decode cX11_needStake 0 = .ok (.aload_n 0, 1) := by decide +kernel
theorem dX11_needStake_1 : decode cX11_needStake 1 = .ok (.getfield 34, 3) := by decide +kernel
theorem dX11_needStake_4 : decode cX11_needStake 4 = .ok (.getfield 119, 3) := by decide +kernel
theorem dX11_needStake_7 : decode cX11_needStake 7 = .ok (.getfield 228, 3) := by decide +kernel
theorem dX11_needStake_10 : decode cX11_needStake 10 = .ok (.iconst (-1), 1) := by decide +kernel
theorem dX11_needStake_11 : decode cX11_needStake 11 = .ok (.if_icmp .ne 14, 3) := by decide +kernel
theorem dX11_needStake_14 : decode cX11_needStake 14 = .ok (.new 310, 3) := by decide +kernel
theorem dX11_needStake_17 : decode cX11_needStake 17 = .ok (.dup, 1) := by decide +kernel
theorem dX11_needStake_18 : decode cX11_needStake 18 = .ok (.ldc_w 415, 3) := by decide +kernel
theorem dX11_needStake_21 : decode cX11_needStake 21 = .ok (.invokespecial 314, 3) := by decide +kernel
theorem dX11_needStake_24 : decode cX11_needStake 24 = .ok (.athrow, 1) := by decide +kernel
theorem dX11_needStake_25 : decode cX11_needStake 25 = .ok (.return_, 1) := by decide +kernel
theorem dX11_needWhat_0 : decode cX11_needWhat 0 = .ok (.iload_n 1, 1) := by decide +kernel
theorem dX11_needWhat_1 : decode cX11_needWhat 1 = .ok (.ifCond .lt 8, 3) := by decide +kernel
theorem dX11_needWhat_4 : decode cX11_needWhat 4 = .ok (.iload_n 1, 1) := by decide +kernel
theorem dX11_needWhat_5 : decode cX11_needWhat 5 = .ok (.iload_n 2, 1) := by decide +kernel
theorem dX11_needWhat_6 : decode cX11_needWhat 6 = .ok (.if_icmp .le 14, 3) := by decide +kernel
theorem dX11_needWhat_9 : decode cX11_needWhat 9 = .ok (.new 84, 3) := by decide +kernel
theorem dX11_needWhat_12 : decode cX11_needWhat 12 = .ok (.dup, 1) := by decide +kernel
theorem dX11_needWhat_13 : decode cX11_needWhat 13 = .ok (.ldc_w 340, 3) := by decide +kernel
theorem dX11_needWhat_16 : decode cX11_needWhat 16 = .ok (.invokespecial 88, 3) := by decide +kernel
theorem dX11_needWhat_19 : decode cX11_needWhat 19 = .ok (.athrow, 1) := by decide +kernel
theorem dX11_needWhat_20 : decode cX11_needWhat 20 = .ok (.return_, 1) := by decide +kernel
theorem dX11_needDescription_0 : decode cX11_needDescription 0 = .ok (.iload_n 1, 1) := by decide +kernel
theorem dX11_needDescription_1 : decode cX11_needDescription 1 = .ok (.sipush 1023, 3) := by decide +kernel
theorem dX11_needDescription_4 : decode cX11_needDescription 4 = .ok (.iand, 1) := by decide +kernel
theorem dX11_needDescription_5 : decode cX11_needDescription 5 = .ok (.istore_n 2, 1) := by decide +kernel
theorem dX11_needDescription_6 : decode cX11_needDescription 6 = .ok (.iload_n 1, 1) := by decide +kernel
theorem dX11_needDescription_7 : decode cX11_needDescription 7 = .ok (.bipush 10, 2) := by decide +kernel
theorem dX11_needDescription_9 : decode cX11_needDescription 9 = .ok (.iushr, 1) := by decide +kernel
theorem dX11_needDescription_10 : decode cX11_needDescription 10 = .ok (.istore_n 3, 1) := by decide +kernel
theorem dX11_needDescription_11 : decode cX11_needDescription 11 = .ok (.iload_n 2, 1) := by decide +kernel
theorem dX11_needDescription_12 : decode cX11_needDescription 12 = .ok (.iload_n 3, 1) := by decide +kernel
theorem dX11_needDescription_13 : decode cX11_needDescription 13 = .ok (.ior, 1) := by decide +kernel
theorem dX11_needDescription_14 : decode cX11_needDescription 14 = .ok (.aload_n 0, 1) := by decide +kernel
theorem dX11_needDescription_15 : decode cX11_needDescription 15 = .ok (.getfield 34, 3) := by decide +kernel
theorem dX11_needDescription_18 : decode cX11_needDescription 18 = .ok (.getfield 130, 3) := by decide +kernel
theorem dX11_needDescription_21 : decode cX11_needDescription 21 = .ok (.invokevirtual 362, 3) := by decide +kernel
theorem dX11_needDescription_24 : decode cX11_needDescription 24 = .ok (.iconst (-1), 1) := by decide +kernel
theorem dX11_needDescription_25 : decode cX11_needDescription 25 = .ok (.ixor, 1) := by decide +kernel
theorem dX11_needDescription_26 : decode cX11_needDescription 26 = .ok (.iand, 1) := by decide +kernel
theorem dX11_needDescription_27 : decode cX11_needDescription 27 = .ok (.ifCond .ne 9, 3) := by decide +kernel
theorem dX11_needDescription_30 : decode cX11_needDescription 30 = .ok (.iload_n 2, 1) := by decide +kernel
theorem dX11_needDescription_31 : decode cX11_needDescription 31 = .ok (.iload_n 3, 1) := by decide +kernel
theorem dX11_needDescription_32 : decode cX11_needDescription 32 = .ok (.iand, 1) := by decide +kernel
theorem dX11_needDescription_33 : decode cX11_needDescription 33 = .ok (.ifCond .eq 14, 3) := by decide +kernel
theorem dX11_needDescription_36 : decode cX11_needDescription 36 = .ok (.new 84, 3) := by decide +kernel
theorem dX11_needDescription_39 : decode cX11_needDescription 39 = .ok (.dup, 1) := by decide +kernel
theorem dX11_needDescription_40 : decode cX11_needDescription 40 = .ok (.ldc_w 417, 3) := by decide +kernel
theorem dX11_needDescription_43 : decode cX11_needDescription 43 = .ok (.invokespecial 88, 3) := by decide +kernel
theorem dX11_needDescription_46 : decode cX11_needDescription 46 = .ok (.athrow, 1) := by decide +kernel
theorem dX11_needDescription_47 : decode cX11_needDescription 47 = .ok (.return_, 1) := by decide +kernel
theorem dX11_needTray_0 : decode cX11_needTray 0 = .ok (.iload_n 1, 1) := by decide +kernel
theorem dX11_needTray_1 : decode cX11_needTray 1 = .ok (.ifCond .lt 8, 3) := by decide +kernel
theorem dX11_needTray_4 : decode cX11_needTray 4 = .ok (.iload_n 1, 1) := by decide +kernel
theorem dX11_needTray_5 : decode cX11_needTray 5 = .ok (.iconst 4, 1) := by decide +kernel
theorem dX11_needTray_6 : decode cX11_needTray 6 = .ok (.if_icmp .lt 14, 3) := by decide +kernel
theorem dX11_needTray_9 : decode cX11_needTray 9 = .ok (.new 402, 3) := by decide +kernel
theorem dX11_needTray_12 : decode cX11_needTray 12 = .ok (.dup, 1) := by decide +kernel
theorem dX11_needTray_13 : decode cX11_needTray 13 = .ok (.ldc_w 419, 3) := by decide +kernel
theorem dX11_needTray_16 : decode cX11_needTray 16 = .ok (.invokespecial 406, 3) := by decide +kernel
theorem dX11_needTray_19 : decode cX11_needTray 19 = .ok (.athrow, 1) := by decide +kernel
theorem dX11_needTray_20 : decode cX11_needTray 20 = .ok (.return_, 1) := by decide +kernel
theorem dX11_needFilledTray_0 : decode cX11_needFilledTray 0 = .ok (.aload_n 0, 1) := by decide +kernel
theorem dX11_needFilledTray_1 : decode cX11_needFilledTray 1 = .ok (.iload_n 1, 1) := by decide +kernel
theorem dX11_needFilledTray_2 : decode cX11_needFilledTray 2 = .ok (.invokevirtual 368, 3) := by decide +kernel
theorem dX11_needFilledTray_5 : decode cX11_needFilledTray 5 = .ok (.aload_n 0, 1) := by decide +kernel
theorem dX11_needFilledTray_6 : decode cX11_needFilledTray 6 = .ok (.getfield 44, 3) := by decide +kernel
theorem dX11_needFilledTray_9 : decode cX11_needFilledTray 9 = .ok (.iload_n 1, 1) := by decide +kernel
theorem dX11_needFilledTray_10 : decode cX11_needFilledTray 10 = .ok (.aaload, 1) := by decide +kernel
theorem dX11_needFilledTray_11 : decode cX11_needFilledTray 11 = .ok (.astore_n 2, 1) := by decide +kernel
theorem dX11_needFilledTray_12 : decode cX11_needFilledTray 12 = .ok (.aload_n 2, 1) := by decide +kernel
theorem dX11_needFilledTray_13 : decode cX11_needFilledTray 13 = .ok (.getfield 421, 3) := by decide +kernel
theorem dX11_needFilledTray_16 : decode cX11_needFilledTray 16 = .ok (.ifCond .eq 14, 3) := by decide +kernel
theorem dX11_needFilledTray_19 : decode cX11_needFilledTray 19 = .ok (.new 310, 3) := by decide +kernel
theorem dX11_needFilledTray_22 : decode cX11_needFilledTray 22 = .ok (.dup, 1) := by decide +kernel
theorem dX11_needFilledTray_23 : decode cX11_needFilledTray 23 = .ok (.ldc_w 424, 3) := by decide +kernel
theorem dX11_needFilledTray_26 : decode cX11_needFilledTray 26 = .ok (.invokespecial 314, 3) := by decide +kernel
theorem dX11_needFilledTray_29 : decode cX11_needFilledTray 29 = .ok (.athrow, 1) := by decide +kernel
theorem dX11_needFilledTray_30 : decode cX11_needFilledTray 30 = .ok (.aload_n 2, 1) := by decide +kernel
theorem dX11_needFilledTray_31 : decode cX11_needFilledTray 31 = .ok (.areturn, 1) := by decide +kernel
theorem dX11_needImage_0 : decode cX11_needImage 0 = .ok (.iload_n 1, 1) := by decide +kernel
theorem dX11_needImage_1 : decode cX11_needImage 1 = .ok (.ifCond .lt 8, 3) := by decide +kernel
theorem dX11_needImage_4 : decode cX11_needImage 4 = .ok (.iload_n 1, 1) := by decide +kernel
theorem dX11_needImage_5 : decode cX11_needImage 5 = .ok (.iconst 3, 1) := by decide +kernel
theorem dX11_needImage_6 : decode cX11_needImage 6 = .ok (.if_icmp .lt 14, 3) := by decide +kernel
theorem dX11_needImage_9 : decode cX11_needImage 9 = .ok (.new 402, 3) := by decide +kernel
theorem dX11_needImage_12 : decode cX11_needImage 12 = .ok (.dup, 1) := by decide +kernel
theorem dX11_needImage_13 : decode cX11_needImage 13 = .ok (.ldc_w 426, 3) := by decide +kernel
theorem dX11_needImage_16 : decode cX11_needImage 16 = .ok (.invokespecial 406, 3) := by decide +kernel
theorem dX11_needImage_19 : decode cX11_needImage 19 = .ok (.athrow, 1) := by decide +kernel
theorem dX11_needImage_20 : decode cX11_needImage 20 = .ok (.return_, 1) := by decide +kernel
