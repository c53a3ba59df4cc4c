theorem dX8_spelled_0 : decode cX8_spelled 0 = .ok (.iconst 0, 1) := by decide +kernel
theorem dX8_spelled_1 : decode cX8_spelled 1 = .ok (.istore 4, 2) := by decide +kernel
theorem dX8_spelled_3 : decode cX8_spelled 3 = .ok (.iload 4, 2) := by decide +kernel
theorem dX8_spelled_5 : decode cX8_spelled 5 = .ok (.getstatic 126, 3) := by decide +kernel
theorem dX8_spelled_8 : decode cX8_spelled 8 = .ok (.arraylength, 1) := by decide +kernel
theorem dX8_spelled_9 : decode cX8_spelled 9 = .ok (.if_icmp .ge 31, 3) := by decide +kernel
theorem dX8_spelled_12 : decode cX8_spelled 12 = .ok (.getstatic 126, 3) := by decide +kernel
theorem dX8_spelled_15 : decode cX8_spelled 15 = .ok (.iload 4, 2) := by decide +kernel
theorem dX8_spelled_17 : decode cX8_spelled 17 = .ok (.aaload, 1) := by decide +kernel
theorem dX8_spelled_18 : decode cX8_spelled 18 = .ok (.aload_n 0, 1) := by decide +kernel
theorem dX8_spelled_19 : decode cX8_spelled 19 = .ok (.iload_n 1, 1) := by decide +kernel
theorem dX8_spelled_20 : decode cX8_spelled 20 = .ok (.iload_n 2, 1) := by decide +kernel
theorem dX8_spelled_21 : decode cX8_spelled 21 = .ok (.invokevirtual 129, 3) := by decide +kernel
theorem dX8_spelled_24 : decode cX8_spelled 24 = .ok (.ifCond .eq 10, 3) := by decide +kernel
theorem dX8_spelled_27 : decode cX8_spelled 27 = .ok (.getstatic 126, 3) := by decide +kernel
theorem dX8_spelled_30 : decode cX8_spelled 30 = .ok (.iload 4, 2) := by decide +kernel
theorem dX8_spelled_32 : decode cX8_spelled 32 = .ok (.aaload, 1) := by decide +kernel
theorem dX8_spelled_33 : decode cX8_spelled 33 = .ok (.areturn, 1) := by decide +kernel
theorem dX8_spelled_34 : decode cX8_spelled 34 = .ok (.iinc 4 1, 3) := by decide +kernel
theorem dX8_spelled_37 : decode cX8_spelled 37 = .ok (.goto (-34), 3) := by decide +kernel
theorem dX8_spelled_40 : decode cX8_spelled 40 = .ok (.aload_n 3, 1) := by decide +kernel
theorem dX8_spelled_41 : decode cX8_spelled 41 = .ok (.areturn, 1) := by decide +kernel
theorem dX8_isSpelled_0 : decode cX8_isSpelled 0 = .ok (.aload_n 0, 1) := by decide +kernel
theorem dX8_isSpelled_1 : decode cX8_isSpelled 1 = .ok (.getfield 122, 3) := by decide +kernel
theorem dX8_isSpelled_4 : decode cX8_isSpelled 4 = .ok (.invokevirtual 133, 3) := by decide +kernel
theorem dX8_isSpelled_7 : decode cX8_isSpelled 7 = .ok (.iload_n 3, 1) := by decide +kernel
theorem dX8_isSpelled_8 : decode cX8_isSpelled 8 = .ok (.iload_n 2, 1) := by decide +kernel
theorem dX8_isSpelled_9 : decode cX8_isSpelled 9 = .ok (.isub, 1) := by decide +kernel
theorem dX8_isSpelled_10 : decode cX8_isSpelled 10 = .ok (.if_icmp .ne 13, 3) := by decide +kernel
theorem dX8_isSpelled_13 : decode cX8_isSpelled 13 = .ok (.iload_n 2, 1) := by decide +kernel
theorem dX8_isSpelled_14 : decode cX8_isSpelled 14 = .ok (.ifCond .lt 9, 3) := by decide +kernel
theorem dX8_isSpelled_17 : decode cX8_isSpelled 17 = .ok (.iload_n 3, 1) := by decide +kernel
theorem dX8_isSpelled_18 : decode cX8_isSpelled 18 = .ok (.aload_n 1, 1) := by decide +kernel
theorem dX8_isSpelled_19 : decode cX8_isSpelled 19 = .ok (.arraylength, 1) := by decide +kernel
theorem dX8_isSpelled_20 : decode cX8_isSpelled 20 = .ok (.if_icmp .le 5, 3) := by decide +kernel
theorem dX8_isSpelled_23 : decode cX8_isSpelled 23 = .ok (.iconst 0, 1) := by decide +kernel
theorem dX8_isSpelled_24 : decode cX8_isSpelled 24 = .ok (.ireturn, 1) := by decide +kernel
theorem dX8_isSpelled_25 : decode cX8_isSpelled 25 = .ok (.iload_n 2, 1) := by decide +kernel
theorem dX8_isSpelled_26 : decode cX8_isSpelled 26 = .ok (.istore 4, 2) := by decide +kernel
theorem dX8_isSpelled_28 : decode cX8_isSpelled 28 = .ok (.iload 4, 2) := by decide +kernel
theorem dX8_isSpelled_30 : decode cX8_isSpelled 30 = .ok (.iload_n 3, 1) := by decide +kernel
theorem dX8_isSpelled_31 : decode cX8_isSpelled 31 = .ok (.if_icmp .ge 33, 3) := by decide +kernel
theorem dX8_isSpelled_34 : decode cX8_isSpelled 34 = .ok (.aload_n 0, 1) := by decide +kernel
theorem dX8_isSpelled_35 : decode cX8_isSpelled 35 = .ok (.getfield 122, 3) := by decide +kernel
theorem dX8_isSpelled_38 : decode cX8_isSpelled 38 = .ok (.iload 4, 2) := by decide +kernel
theorem dX8_isSpelled_40 : decode cX8_isSpelled 40 = .ok (.iload_n 2, 1) := by decide +kernel
theorem dX8_isSpelled_41 : decode cX8_isSpelled 41 = .ok (.isub, 1) := by decide +kernel
theorem dX8_isSpelled_42 : decode cX8_isSpelled 42 = .ok (.invokevirtual 139, 3) := by decide +kernel
theorem dX8_isSpelled_45 : decode cX8_isSpelled 45 = .ok (.aload_n 1, 1) := by decide +kernel
theorem dX8_isSpelled_46 : decode cX8_isSpelled 46 = .ok (.iload 4, 2) := by decide +kernel
theorem dX8_isSpelled_48 : decode cX8_isSpelled 48 = .ok (.baload, 1) := by decide +kernel
theorem dX8_isSpelled_49 : decode cX8_isSpelled 49 = .ok (.sipush 255, 3) := by decide +kernel
theorem dX8_isSpelled_52 : decode cX8_isSpelled 52 = .ok (.iand, 1) := by decide +kernel
theorem dX8_isSpelled_53 : decode cX8_isSpelled 53 = .ok (.if_icmp .eq 5, 3) := by decide +kernel
theorem dX8_isSpelled_56 : decode cX8_isSpelled 56 = .ok (.iconst 0, 1) := by decide +kernel
theorem dX8_isSpelled_57 : decode cX8_isSpelled 57 = .ok (.ireturn, 1) := by decide +kernel
theorem dX8_isSpelled_58 : decode cX8_isSpelled 58 = .ok (.iinc 4 1, 3) := by decide +kernel
theorem dX8_isSpelled_61 : decode cX8_isSpelled 61 = .ok (.goto (-33), 3) := by decide +kernel
theorem dX8_isSpelled_64 : decode cX8_isSpelled 64 = .ok (.iconst 1, 1) := by decide +kernel
theorem dX8_isSpelled_65 : decode cX8_isSpelled 65 = .ok (.ireturn, 1) := by decide +kernel
