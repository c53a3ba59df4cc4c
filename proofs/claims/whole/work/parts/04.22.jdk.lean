theorem N_Integer : Cond.initialized "java/lang/Integer" ∈ aw := aw_w (List.mem_of_getElem? (i := 152) (by decide +kernel)) rfl
theorem N_Math : Cond.initialized "java/lang/Math" ∈ aw := aw_w (List.mem_of_getElem? (i := 146) (by decide +kernel)) rfl
theorem N_Arrays : Cond.initialized "java/util/Arrays" ∈ aw := aw_w (List.mem_of_getElem? (i := 136) (by decide +kernel)) rfl
def yJ_bitCount : MethodName := ⟨"java/lang/Integer", "bitCount", "(I)I"⟩
def YJ_bitCount : mY := (yJ_bitCount, prog_23_method_49_code, 1, (some .int))
theorem kJ_bitCount : mOKs YJ_bitCount 1 := ⟨⟨aw_w (List.mem_of_getElem? (i := 662) (by decide +kernel)) rfl, N_Integer, by decide +kernel, ⟨by decide +kernel, by decide +kernel, by decide +kernel⟩, by decide⟩, aw_w (List.mem_of_getElem? (i := 661) (by decide +kernel)) rfl⟩
theorem dJ_bitCount_0 : decode prog_23_method_49_code 0 = .ok (.iload_n 0, 1) := by decide +kernel
theorem dJ_bitCount_1 : decode prog_23_method_49_code 1 = .ok (.iload_n 0, 1) := by decide +kernel
theorem dJ_bitCount_2 : decode prog_23_method_49_code 2 = .ok (.iconst 1, 1) := by decide +kernel
theorem dJ_bitCount_3 : decode prog_23_method_49_code 3 = .ok (.iushr, 1) := by decide +kernel
theorem dJ_bitCount_4 : decode prog_23_method_49_code 4 = .ok (.ldc_w 265, 3) := by decide +kernel
theorem dJ_bitCount_7 : decode prog_23_method_49_code 7 = .ok (.iand, 1) := by decide +kernel
theorem dJ_bitCount_8 : decode prog_23_method_49_code 8 = .ok (.isub, 1) := by decide +kernel
theorem dJ_bitCount_9 : decode prog_23_method_49_code 9 = .ok (.istore_n 0, 1) := by decide +kernel
theorem dJ_bitCount_10 : decode prog_23_method_49_code 10 = .ok (.iload_n 0, 1) := by decide +kernel
theorem dJ_bitCount_11 : decode prog_23_method_49_code 11 = .ok (.ldc_w 266, 3) := by decide +kernel
theorem dJ_bitCount_14 : decode prog_23_method_49_code 14 = .ok (.iand, 1) := by decide +kernel
theorem dJ_bitCount_15 : decode prog_23_method_49_code 15 = .ok (.iload_n 0, 1) := by decide +kernel
theorem dJ_bitCount_16 : decode prog_23_method_49_code 16 = .ok (.iconst 2, 1) := by decide +kernel
theorem dJ_bitCount_17 : decode prog_23_method_49_code 17 = .ok (.iushr, 1) := by decide +kernel
theorem dJ_bitCount_18 : decode prog_23_method_49_code 18 = .ok (.ldc_w 266, 3) := by decide +kernel
theorem dJ_bitCount_21 : decode prog_23_method_49_code 21 = .ok (.iand, 1) := by decide +kernel
theorem dJ_bitCount_22 : decode prog_23_method_49_code 22 = .ok (.iadd, 1) := by decide +kernel
theorem dJ_bitCount_23 : decode prog_23_method_49_code 23 = .ok (.istore_n 0, 1) := by decide +kernel
theorem dJ_bitCount_24 : decode prog_23_method_49_code 24 = .ok (.iload_n 0, 1) := by decide +kernel
theorem dJ_bitCount_25 : decode prog_23_method_49_code 25 = .ok (.iload_n 0, 1) := by decide +kernel
theorem dJ_bitCount_26 : decode prog_23_method_49_code 26 = .ok (.iconst 4, 1) := by decide +kernel
theorem dJ_bitCount_27 : decode prog_23_method_49_code 27 = .ok (.iushr, 1) := by decide +kernel
theorem dJ_bitCount_28 : decode prog_23_method_49_code 28 = .ok (.iadd, 1) := by decide +kernel
theorem dJ_bitCount_29 : decode prog_23_method_49_code 29 = .ok (.ldc_w 267, 3) := by decide +kernel
theorem dJ_bitCount_32 : decode prog_23_method_49_code 32 = .ok (.iand, 1) := by decide +kernel
theorem dJ_bitCount_33 : decode prog_23_method_49_code 33 = .ok (.istore_n 0, 1) := by decide +kernel
theorem dJ_bitCount_34 : decode prog_23_method_49_code 34 = .ok (.iload_n 0, 1) := by decide +kernel
theorem dJ_bitCount_35 : decode prog_23_method_49_code 35 = .ok (.iload_n 0, 1) := by decide +kernel
theorem dJ_bitCount_36 : decode prog_23_method_49_code 36 = .ok (.bipush 8, 2) := by decide +kernel
theorem dJ_bitCount_38 : decode prog_23_method_49_code 38 = .ok (.iushr, 1) := by decide +kernel
theorem dJ_bitCount_39 : decode prog_23_method_49_code 39 = .ok (.iadd, 1) := by decide +kernel
theorem dJ_bitCount_40 : decode prog_23_method_49_code 40 = .ok (.istore_n 0, 1) := by decide +kernel
theorem dJ_bitCount_41 : decode prog_23_method_49_code 41 = .ok (.iload_n 0, 1) := by decide +kernel
theorem dJ_bitCount_42 : decode prog_23_method_49_code 42 = .ok (.iload_n 0, 1) := by decide +kernel
theorem dJ_bitCount_43 : decode prog_23_method_49_code 43 = .ok (.bipush 16, 2) := by decide +kernel
theorem dJ_bitCount_45 : decode prog_23_method_49_code 45 = .ok (.iushr, 1) := by decide +kernel
theorem dJ_bitCount_46 : decode prog_23_method_49_code 46 = .ok (.iadd, 1) := by decide +kernel
theorem dJ_bitCount_47 : decode prog_23_method_49_code 47 = .ok (.istore_n 0, 1) := by decide +kernel
theorem dJ_bitCount_48 : decode prog_23_method_49_code 48 = .ok (.iload_n 0, 1) := by decide +kernel
theorem dJ_bitCount_49 : decode prog_23_method_49_code 49 = .ok (.bipush 63, 2) := by decide +kernel
theorem dJ_bitCount_51 : decode prog_23_method_49_code 51 = .ok (.iand, 1) := by decide +kernel
theorem dJ_bitCount_52 : decode prog_23_method_49_code 52 = .ok (.ireturn, 1) := by decide +kernel
def yJ_ntz : MethodName := ⟨"java/lang/Integer", "numberOfTrailingZeros", "(I)I"⟩
def YJ_ntz : mY := (yJ_ntz, prog_23_method_48_code, 2, (some .int))
theorem kJ_ntz : mOKs YJ_ntz 1 := ⟨⟨aw_w (List.mem_of_getElem? (i := 609) (by decide +kernel)) rfl, N_Integer, by decide +kernel, ⟨by decide +kernel, by decide +kernel, by decide +kernel⟩, by decide⟩, aw_w (List.mem_of_getElem? (i := 608) (by decide +kernel)) rfl⟩
theorem dJ_ntz_0 : decode prog_23_method_48_code 0 = .ok (.iload_n 0, 1) := by decide +kernel
theorem dJ_ntz_1 : decode prog_23_method_48_code 1 = .ok (.iconst (-1), 1) := by decide +kernel
theorem dJ_ntz_2 : decode prog_23_method_48_code 2 = .ok (.ixor, 1) := by decide +kernel
theorem dJ_ntz_3 : decode prog_23_method_48_code 3 = .ok (.iload_n 0, 1) := by decide +kernel
theorem dJ_ntz_4 : decode prog_23_method_48_code 4 = .ok (.iconst 1, 1) := by decide +kernel
theorem dJ_ntz_5 : decode prog_23_method_48_code 5 = .ok (.isub, 1) := by decide +kernel
theorem dJ_ntz_6 : decode prog_23_method_48_code 6 = .ok (.iand, 1) := by decide +kernel
theorem dJ_ntz_7 : decode prog_23_method_48_code 7 = .ok (.istore_n 0, 1) := by decide +kernel
theorem dJ_ntz_8 : decode prog_23_method_48_code 8 = .ok (.iload_n 0, 1) := by decide +kernel
theorem dJ_ntz_9 : decode prog_23_method_48_code 9 = .ok (.ifCond .gt 8, 3) := by decide +kernel
theorem dJ_ntz_12 : decode prog_23_method_48_code 12 = .ok (.iload_n 0, 1) := by decide +kernel
theorem dJ_ntz_13 : decode prog_23_method_48_code 13 = .ok (.bipush 32, 2) := by decide +kernel
theorem dJ_ntz_15 : decode prog_23_method_48_code 15 = .ok (.iand, 1) := by decide +kernel
theorem dJ_ntz_16 : decode prog_23_method_48_code 16 = .ok (.ireturn, 1) := by decide +kernel
theorem dJ_ntz_17 : decode prog_23_method_48_code 17 = .ok (.iconst 1, 1) := by decide +kernel
theorem dJ_ntz_18 : decode prog_23_method_48_code 18 = .ok (.istore_n 1, 1) := by decide +kernel
theorem dJ_ntz_19 : decode prog_23_method_48_code 19 = .ok (.iload_n 0, 1) := by decide +kernel
theorem dJ_ntz_20 : decode prog_23_method_48_code 20 = .ok (.ldc_w 264, 3) := by decide +kernel
theorem dJ_ntz_23 : decode prog_23_method_48_code 23 = .ok (.if_icmp .le 11, 3) := by decide +kernel
theorem dJ_ntz_26 : decode prog_23_method_48_code 26 = .ok (.iinc 1 16, 3) := by decide +kernel
theorem dJ_ntz_29 : decode prog_23_method_48_code 29 = .ok (.iload_n 0, 1) := by decide +kernel
theorem dJ_ntz_30 : decode prog_23_method_48_code 30 = .ok (.bipush 16, 2) := by decide +kernel
theorem dJ_ntz_32 : decode prog_23_method_48_code 32 = .ok (.iushr, 1) := by decide +kernel
theorem dJ_ntz_33 : decode prog_23_method_48_code 33 = .ok (.istore_n 0, 1) := by decide +kernel
theorem dJ_ntz_34 : decode prog_23_method_48_code 34 = .ok (.iload_n 0, 1) := by decide +kernel
theorem dJ_ntz_35 : decode prog_23_method_48_code 35 = .ok (.sipush 256, 3) := by decide +kernel
theorem dJ_ntz_38 : decode prog_23_method_48_code 38 = .ok (.if_icmp .le 11, 3) := by decide +kernel
theorem dJ_ntz_41 : decode prog_23_method_48_code 41 = .ok (.iinc 1 8, 3) := by decide +kernel
theorem dJ_ntz_44 : decode prog_23_method_48_code 44 = .ok (.iload_n 0, 1) := by decide +kernel
theorem dJ_ntz_45 : decode prog_23_method_48_code 45 = .ok (.bipush 8, 2) := by decide +kernel
theorem dJ_ntz_47 : decode prog_23_method_48_code 47 = .ok (.iushr, 1) := by decide +kernel
theorem dJ_ntz_48 : decode prog_23_method_48_code 48 = .ok (.istore_n 0, 1) := by decide +kernel
theorem dJ_ntz_49 : decode prog_23_method_48_code 49 = .ok (.iload_n 0, 1) := by decide +kernel
theorem dJ_ntz_50 : decode prog_23_method_48_code 50 = .ok (.bipush 16, 2) := by decide +kernel
theorem dJ_ntz_52 : decode prog_23_method_48_code 52 = .ok (.if_icmp .le 10, 3) := by decide +kernel
theorem dJ_ntz_55 : decode prog_23_method_48_code 55 = .ok (.iinc 1 4, 3) := by decide +kernel
theorem dJ_ntz_58 : decode prog_23_method_48_code 58 = .ok (.iload_n 0, 1) := by decide +kernel
theorem dJ_ntz_59 : decode prog_23_method_48_code 59 = .ok (.iconst 4, 1) := by decide +kernel
theorem dJ_ntz_60 : decode prog_23_method_48_code 60 = .ok (.iushr, 1) := by decide +kernel
theorem dJ_ntz_61 : decode prog_23_method_48_code 61 = .ok (.istore_n 0, 1) := by decide +kernel
theorem dJ_ntz_62 : decode prog_23_method_48_code 62 = .ok (.iload_n 0, 1) := by decide +kernel
theorem dJ_ntz_63 : decode prog_23_method_48_code 63 = .ok (.iconst 4, 1) := by decide +kernel
theorem dJ_ntz_64 : decode prog_23_method_48_code 64 = .ok (.if_icmp .le 10, 3) := by decide +kernel
theorem dJ_ntz_67 : decode prog_23_method_48_code 67 = .ok (.iinc 1 2, 3) := by decide +kernel
theorem dJ_ntz_70 : decode prog_23_method_48_code 70 = .ok (.iload_n 0, 1) := by decide +kernel
theorem dJ_ntz_71 : decode prog_23_method_48_code 71 = .ok (.iconst 2, 1) := by decide +kernel
theorem dJ_ntz_72 : decode prog_23_method_48_code 72 = .ok (.iushr, 1) := by decide +kernel
theorem dJ_ntz_73 : decode prog_23_method_48_code 73 = .ok (.istore_n 0, 1) := by decide +kernel
theorem dJ_ntz_74 : decode prog_23_method_48_code 74 = .ok (.iload_n 1, 1) := by decide +kernel
theorem dJ_ntz_75 : decode prog_23_method_48_code 75 = .ok (.iload_n 0, 1) := by decide +kernel
theorem dJ_ntz_76 : decode prog_23_method_48_code 76 = .ok (.iconst 1, 1) := by decide +kernel
theorem dJ_ntz_77 : decode prog_23_method_48_code 77 = .ok (.iushr, 1) := by decide +kernel
theorem dJ_ntz_78 : decode prog_23_method_48_code 78 = .ok (.iadd, 1) := by decide +kernel
theorem dJ_ntz_79 : decode prog_23_method_48_code 79 = .ok (.ireturn, 1) := by decide +kernel
def yJ_nlz : MethodName := ⟨"java/lang/Integer", "numberOfLeadingZeros", "(I)I"⟩
def YJ_nlz : mY := (yJ_nlz, prog_23_method_47_code, 2, (some .int))
theorem kJ_nlz : mOKs YJ_nlz 1 := ⟨⟨aw_w (List.mem_of_getElem? (i := 1476) (by decide +kernel)) rfl, N_Integer, by decide +kernel, ⟨by decide +kernel, by decide +kernel, by decide +kernel⟩, by decide⟩, aw_w (List.mem_of_getElem? (i := 1475) (by decide +kernel)) rfl⟩
theorem dJ_nlz_0 : decode prog_23_method_47_code 0 = .ok (.iload_n 0, 1) := by decide +kernel
theorem dJ_nlz_1 : decode prog_23_method_47_code 1 = .ok (.ifCond .gt 14, 3) := by decide +kernel
theorem dJ_nlz_4 : decode prog_23_method_47_code 4 = .ok (.iload_n 0, 1) := by decide +kernel
theorem dJ_nlz_5 : decode prog_23_method_47_code 5 = .ok (.ifCond .ne 8, 3) := by decide +kernel
theorem dJ_nlz_8 : decode prog_23_method_47_code 8 = .ok (.bipush 32, 2) := by decide +kernel
theorem dJ_nlz_10 : decode prog_23_method_47_code 10 = .ok (.goto 4, 3) := by decide +kernel
theorem dJ_nlz_13 : decode prog_23_method_47_code 13 = .ok (.iconst 0, 1) := by decide +kernel
theorem dJ_nlz_14 : decode prog_23_method_47_code 14 = .ok (.ireturn, 1) := by decide +kernel
theorem dJ_nlz_15 : decode prog_23_method_47_code 15 = .ok (.bipush 31, 2) := by decide +kernel
theorem dJ_nlz_17 : decode prog_23_method_47_code 17 = .ok (.istore_n 1, 1) := by decide +kernel
theorem dJ_nlz_18 : decode prog_23_method_47_code 18 = .ok (.iload_n 0, 1) := by decide +kernel
theorem dJ_nlz_19 : decode prog_23_method_47_code 19 = .ok (.ldc_w 264, 3) := by decide +kernel
theorem dJ_nlz_22 : decode prog_23_method_47_code 22 = .ok (.if_icmp .lt 11, 3) := by decide +kernel
theorem dJ_nlz_25 : decode prog_23_method_47_code 25 = .ok (.iinc 1 (-16), 3) := by decide +kernel
theorem dJ_nlz_28 : decode prog_23_method_47_code 28 = .ok (.iload_n 0, 1) := by decide +kernel
theorem dJ_nlz_29 : decode prog_23_method_47_code 29 = .ok (.bipush 16, 2) := by decide +kernel
theorem dJ_nlz_31 : decode prog_23_method_47_code 31 = .ok (.iushr, 1) := by decide +kernel
theorem dJ_nlz_32 : decode prog_23_method_47_code 32 = .ok (.istore_n 0, 1) := by decide +kernel
theorem dJ_nlz_33 : decode prog_23_method_47_code 33 = .ok (.iload_n 0, 1) := by decide +kernel
theorem dJ_nlz_34 : decode prog_23_method_47_code 34 = .ok (.sipush 256, 3) := by decide +kernel
theorem dJ_nlz_37 : decode prog_23_method_47_code 37 = .ok (.if_icmp .lt 11, 3) := by decide +kernel
theorem dJ_nlz_40 : decode prog_23_method_47_code 40 = .ok (.iinc 1 (-8), 3) := by decide +kernel
theorem dJ_nlz_43 : decode prog_23_method_47_code 43 = .ok (.iload_n 0, 1) := by decide +kernel
theorem dJ_nlz_44 : decode prog_23_method_47_code 44 = .ok (.bipush 8, 2) := by decide +kernel
theorem dJ_nlz_46 : decode prog_23_method_47_code 46 = .ok (.iushr, 1) := by decide +kernel
theorem dJ_nlz_47 : decode prog_23_method_47_code 47 = .ok (.istore_n 0, 1) := by decide +kernel
theorem dJ_nlz_48 : decode prog_23_method_47_code 48 = .ok (.iload_n 0, 1) := by decide +kernel
theorem dJ_nlz_49 : decode prog_23_method_47_code 49 = .ok (.bipush 16, 2) := by decide +kernel
theorem dJ_nlz_51 : decode prog_23_method_47_code 51 = .ok (.if_icmp .lt 10, 3) := by decide +kernel
theorem dJ_nlz_54 : decode prog_23_method_47_code 54 = .ok (.iinc 1 (-4), 3) := by decide +kernel
theorem dJ_nlz_57 : decode prog_23_method_47_code 57 = .ok (.iload_n 0, 1) := by decide +kernel
theorem dJ_nlz_58 : decode prog_23_method_47_code 58 = .ok (.iconst 4, 1) := by decide +kernel
theorem dJ_nlz_59 : decode prog_23_method_47_code 59 = .ok (.iushr, 1) := by decide +kernel
theorem dJ_nlz_60 : decode prog_23_method_47_code 60 = .ok (.istore_n 0, 1) := by decide +kernel
theorem dJ_nlz_61 : decode prog_23_method_47_code 61 = .ok (.iload_n 0, 1) := by decide +kernel
theorem dJ_nlz_62 : decode prog_23_method_47_code 62 = .ok (.iconst 4, 1) := by decide +kernel
theorem dJ_nlz_63 : decode prog_23_method_47_code 63 = .ok (.if_icmp .lt 10, 3) := by decide +kernel
theorem dJ_nlz_66 : decode prog_23_method_47_code 66 = .ok (.iinc 1 (-2), 3) := by decide +kernel
theorem dJ_nlz_69 : decode prog_23_method_47_code 69 = .ok (.iload_n 0, 1) := by decide +kernel
theorem dJ_nlz_70 : decode prog_23_method_47_code 70 = .ok (.iconst 2, 1) := by decide +kernel
theorem dJ_nlz_71 : decode prog_23_method_47_code 71 = .ok (.iushr, 1) := by decide +kernel
theorem dJ_nlz_72 : decode prog_23_method_47_code 72 = .ok (.istore_n 0, 1) := by decide +kernel
theorem dJ_nlz_73 : decode prog_23_method_47_code 73 = .ok (.iload_n 1, 1) := by decide +kernel
theorem dJ_nlz_74 : decode prog_23_method_47_code 74 = .ok (.iload_n 0, 1) := by decide +kernel
theorem dJ_nlz_75 : decode prog_23_method_47_code 75 = .ok (.iconst 1, 1) := by decide +kernel
theorem dJ_nlz_76 : decode prog_23_method_47_code 76 = .ok (.iushr, 1) := by decide +kernel
theorem dJ_nlz_77 : decode prog_23_method_47_code 77 = .ok (.isub, 1) := by decide +kernel
theorem dJ_nlz_78 : decode prog_23_method_47_code 78 = .ok (.ireturn, 1) := by decide +kernel
def yJ_max : MethodName := ⟨"java/lang/Math", "max", "(II)I"⟩
def YJ_max : mY := (yJ_max, prog_24_method_65_code, 2, (some .int))
theorem kJ_max : mOKs YJ_max 2 := ⟨⟨aw_w (List.mem_of_getElem? (i := 711) (by decide +kernel)) rfl, N_Math, by decide +kernel, ⟨by decide +kernel, by decide +kernel, by decide +kernel⟩, by decide⟩, aw_w (List.mem_of_getElem? (i := 710) (by decide +kernel)) rfl⟩
theorem dJ_max_0 : decode prog_24_method_65_code 0 = .ok (.iload_n 0, 1) := by decide +kernel
theorem dJ_max_1 : decode prog_24_method_65_code 1 = .ok (.iload_n 1, 1) := by decide +kernel
theorem dJ_max_2 : decode prog_24_method_65_code 2 = .ok (.if_icmp .lt 7, 3) := by decide +kernel
theorem dJ_max_5 : decode prog_24_method_65_code 5 = .ok (.iload_n 0, 1) := by decide +kernel
theorem dJ_max_6 : decode prog_24_method_65_code 6 = .ok (.goto 4, 3) := by decide +kernel
theorem dJ_max_9 : decode prog_24_method_65_code 9 = .ok (.iload_n 1, 1) := by decide +kernel
theorem dJ_max_10 : decode prog_24_method_65_code 10 = .ok (.ireturn, 1) := by decide +kernel
def yJ_min : MethodName := ⟨"java/lang/Math", "min", "(II)I"⟩
def YJ_min : mY := (yJ_min, prog_24_method_69_code, 2, (some .int))
theorem kJ_min : mOKs YJ_min 2 := ⟨⟨aw_w (List.mem_of_getElem? (i := 640) (by decide +kernel)) rfl, N_Math, by decide +kernel, ⟨by decide +kernel, by decide +kernel, by decide +kernel⟩, by decide⟩, aw_w (List.mem_of_getElem? (i := 639) (by decide +kernel)) rfl⟩
theorem dJ_min_0 : decode prog_24_method_69_code 0 = .ok (.iload_n 0, 1) := by decide +kernel
theorem dJ_min_1 : decode prog_24_method_69_code 1 = .ok (.iload_n 1, 1) := by decide +kernel
theorem dJ_min_2 : decode prog_24_method_69_code 2 = .ok (.if_icmp .gt 7, 3) := by decide +kernel
theorem dJ_min_5 : decode prog_24_method_69_code 5 = .ok (.iload_n 0, 1) := by decide +kernel
theorem dJ_min_6 : decode prog_24_method_69_code 6 = .ok (.goto 4, 3) := by decide +kernel
theorem dJ_min_9 : decode prog_24_method_69_code 9 = .ok (.iload_n 1, 1) := by decide +kernel
theorem dJ_min_10 : decode prog_24_method_69_code 10 = .ok (.ireturn, 1) := by decide +kernel
def yJ_maxl : MethodName := ⟨"java/lang/Math", "max", "(JJ)J"⟩
def YJ_maxl : mY := (yJ_maxl, prog_24_method_66_code, 4, (some .long))
theorem kJ_maxl : mOKs YJ_maxl 2 := ⟨⟨aw_w (List.mem_of_getElem? (i := 1940) (by decide +kernel)) rfl, N_Math, by decide +kernel, ⟨by decide +kernel, by decide +kernel, by decide +kernel⟩, by decide⟩, aw_w (List.mem_of_getElem? (i := 1939) (by decide +kernel)) rfl⟩
theorem dJ_maxl_0 : decode prog_24_method_66_code 0 = .ok (.lload_n 0, 1) := by decide +kernel
theorem dJ_maxl_1 : decode prog_24_method_66_code 1 = .ok (.lload_n 2, 1) := by decide +kernel
theorem dJ_maxl_2 : decode prog_24_method_66_code 2 = .ok (.lcmp, 1) := by decide +kernel
theorem dJ_maxl_3 : decode prog_24_method_66_code 3 = .ok (.ifCond .lt 7, 3) := by decide +kernel
theorem dJ_maxl_6 : decode prog_24_method_66_code 6 = .ok (.lload_n 0, 1) := by decide +kernel
theorem dJ_maxl_7 : decode prog_24_method_66_code 7 = .ok (.goto 4, 3) := by decide +kernel
theorem dJ_maxl_10 : decode prog_24_method_66_code 10 = .ok (.lload_n 2, 1) := by decide +kernel
theorem dJ_maxl_11 : decode prog_24_method_66_code 11 = .ok (.lreturn, 1) := by decide +kernel
def yJ_minl : MethodName := ⟨"java/lang/Math", "min", "(JJ)J"⟩
def YJ_minl : mY := (yJ_minl, prog_24_method_70_code, 4, (some .long))
theorem kJ_minl : mOKs YJ_minl 2 := ⟨⟨aw_w (List.mem_of_getElem? (i := 1937) (by decide +kernel)) rfl, N_Math, by decide +kernel, ⟨by decide +kernel, by decide +kernel, by decide +kernel⟩, by decide⟩, aw_w (List.mem_of_getElem? (i := 1936) (by decide +kernel)) rfl⟩
theorem dJ_minl_0 : decode prog_24_method_70_code 0 = .ok (.lload_n 0, 1) := by decide +kernel
theorem dJ_minl_1 : decode prog_24_method_70_code 1 = .ok (.lload_n 2, 1) := by decide +kernel
theorem dJ_minl_2 : decode prog_24_method_70_code 2 = .ok (.lcmp, 1) := by decide +kernel
theorem dJ_minl_3 : decode prog_24_method_70_code 3 = .ok (.ifCond .gt 7, 3) := by decide +kernel
theorem dJ_minl_6 : decode prog_24_method_70_code 6 = .ok (.lload_n 0, 1) := by decide +kernel
theorem dJ_minl_7 : decode prog_24_method_70_code 7 = .ok (.goto 4, 3) := by decide +kernel
theorem dJ_minl_10 : decode prog_24_method_70_code 10 = .ok (.lload_n 2, 1) := by decide +kernel
theorem dJ_minl_11 : decode prog_24_method_70_code 11 = .ok (.lreturn, 1) := by decide +kernel
def yJ_floorMod : MethodName := ⟨"java/lang/Math", "floorMod", "(II)I"⟩
def YJ_floorMod : mY := (yJ_floorMod, prog_24_method_50_code, 3, (some .int))
theorem kJ_floorMod : mOKs YJ_floorMod 2 := ⟨⟨aw_w (List.mem_of_getElem? (i := 1370) (by decide +kernel)) rfl, N_Math, by decide +kernel, ⟨by decide +kernel, by decide +kernel, by decide +kernel⟩, by decide⟩, aw_w (List.mem_of_getElem? (i := 1369) (by decide +kernel)) rfl⟩
theorem dJ_floorMod_0 : decode prog_24_method_50_code 0 = .ok (.iload_n 0, 1) := by decide +kernel
theorem dJ_floorMod_1 : decode prog_24_method_50_code 1 = .ok (.iload_n 1, 1) := by decide +kernel
theorem dJ_floorMod_2 : decode prog_24_method_50_code 2 = .ok (.irem, 1) := by decide +kernel
theorem dJ_floorMod_3 : decode prog_24_method_50_code 3 = .ok (.istore_n 2, 1) := by decide +kernel
theorem dJ_floorMod_4 : decode prog_24_method_50_code 4 = .ok (.iload_n 0, 1) := by decide +kernel
theorem dJ_floorMod_5 : decode prog_24_method_50_code 5 = .ok (.iload_n 1, 1) := by decide +kernel
theorem dJ_floorMod_6 : decode prog_24_method_50_code 6 = .ok (.ixor, 1) := by decide +kernel
theorem dJ_floorMod_7 : decode prog_24_method_50_code 7 = .ok (.ifCond .ge 11, 3) := by decide +kernel
theorem dJ_floorMod_10 : decode prog_24_method_50_code 10 = .ok (.iload_n 2, 1) := by decide +kernel
theorem dJ_floorMod_11 : decode prog_24_method_50_code 11 = .ok (.ifCond .eq 7, 3) := by decide +kernel
theorem dJ_floorMod_14 : decode prog_24_method_50_code 14 = .ok (.iload_n 2, 1) := by decide +kernel
theorem dJ_floorMod_15 : decode prog_24_method_50_code 15 = .ok (.iload_n 1, 1) := by decide +kernel
theorem dJ_floorMod_16 : decode prog_24_method_50_code 16 = .ok (.iadd, 1) := by decide +kernel
theorem dJ_floorMod_17 : decode prog_24_method_50_code 17 = .ok (.ireturn, 1) := by decide +kernel
theorem dJ_floorMod_18 : decode prog_24_method_50_code 18 = .ok (.iload_n 2, 1) := by decide +kernel
theorem dJ_floorMod_19 : decode prog_24_method_50_code 19 = .ok (.ireturn, 1) := by decide +kernel
def yJ_fill : MethodName := ⟨"java/util/Arrays", "fill", "([II)V"⟩
def YJ_fill : mY := (yJ_fill, prog_33_method_103_code, 4, none)
theorem kJ_fill : mOKs YJ_fill 2 := ⟨⟨aw_w (List.mem_of_getElem? (i := 368) (by decide +kernel)) rfl, N_Arrays, by decide +kernel, ⟨by decide +kernel, by decide +kernel, by decide +kernel⟩, by decide⟩, aw_w (List.mem_of_getElem? (i := 367) (by decide +kernel)) rfl⟩
theorem dJ_fill_0 : decode prog_33_method_103_code 0 = .ok (.iconst 0, 1) := by decide +kernel
theorem dJ_fill_1 : decode prog_33_method_103_code 1 = .ok (.istore_n 2, 1) := by decide +kernel
theorem dJ_fill_2 : decode prog_33_method_103_code 2 = .ok (.aload_n 0, 1) := by decide +kernel
theorem dJ_fill_3 : decode prog_33_method_103_code 3 = .ok (.arraylength, 1) := by decide +kernel
theorem dJ_fill_4 : decode prog_33_method_103_code 4 = .ok (.istore_n 3, 1) := by decide +kernel
theorem dJ_fill_5 : decode prog_33_method_103_code 5 = .ok (.iload_n 2, 1) := by decide +kernel
theorem dJ_fill_6 : decode prog_33_method_103_code 6 = .ok (.iload_n 3, 1) := by decide +kernel
theorem dJ_fill_7 : decode prog_33_method_103_code 7 = .ok (.if_icmp .ge 13, 3) := by decide +kernel
theorem dJ_fill_10 : decode prog_33_method_103_code 10 = .ok (.aload_n 0, 1) := by decide +kernel
theorem dJ_fill_11 : decode prog_33_method_103_code 11 = .ok (.iload_n 2, 1) := by decide +kernel
theorem dJ_fill_12 : decode prog_33_method_103_code 12 = .ok (.iload_n 1, 1) := by decide +kernel
theorem dJ_fill_13 : decode prog_33_method_103_code 13 = .ok (.iastore, 1) := by decide +kernel
theorem dJ_fill_14 : decode prog_33_method_103_code 14 = .ok (.iinc 2 1, 3) := by decide +kernel
theorem dJ_fill_17 : decode prog_33_method_103_code 17 = .ok (.goto (-12), 3) := by decide +kernel
theorem dJ_fill_20 : decode prog_33_method_103_code 20 = .ok (.return_, 1) := by decide +kernel
def yJ_fillJ : MethodName := ⟨"java/util/Arrays", "fill", "([JJ)V"⟩
def YJ_fillJ : mY := (yJ_fillJ, prog_33_method_101_code, 5, none)
theorem kJ_fillJ : mOKs YJ_fillJ 2 := ⟨⟨aw_w (List.mem_of_getElem? (i := 1464) (by decide +kernel)) rfl, N_Arrays, by decide +kernel, ⟨by decide +kernel, by decide +kernel, by decide +kernel⟩, by decide⟩, aw_w (List.mem_of_getElem? (i := 1463) (by decide +kernel)) rfl⟩
theorem dJ_fillJ_0 : decode prog_33_method_101_code 0 = .ok (.iconst 0, 1) := by decide +kernel
theorem dJ_fillJ_1 : decode prog_33_method_101_code 1 = .ok (.istore_n 3, 1) := by decide +kernel
theorem dJ_fillJ_2 : decode prog_33_method_101_code 2 = .ok (.aload_n 0, 1) := by decide +kernel
theorem dJ_fillJ_3 : decode prog_33_method_101_code 3 = .ok (.arraylength, 1) := by decide +kernel
theorem dJ_fillJ_4 : decode prog_33_method_101_code 4 = .ok (.istore 4, 2) := by decide +kernel
theorem dJ_fillJ_6 : decode prog_33_method_101_code 6 = .ok (.iload_n 3, 1) := by decide +kernel
theorem dJ_fillJ_7 : decode prog_33_method_101_code 7 = .ok (.iload 4, 2) := by decide +kernel
theorem dJ_fillJ_9 : decode prog_33_method_101_code 9 = .ok (.if_icmp .ge 13, 3) := by decide +kernel
theorem dJ_fillJ_12 : decode prog_33_method_101_code 12 = .ok (.aload_n 0, 1) := by decide +kernel
theorem dJ_fillJ_13 : decode prog_33_method_101_code 13 = .ok (.iload_n 3, 1) := by decide +kernel
theorem dJ_fillJ_14 : decode prog_33_method_101_code 14 = .ok (.lload_n 1, 1) := by decide +kernel
theorem dJ_fillJ_15 : decode prog_33_method_101_code 15 = .ok (.lastore, 1) := by decide +kernel
theorem dJ_fillJ_16 : decode prog_33_method_101_code 16 = .ok (.iinc 3 1, 3) := by decide +kernel
theorem dJ_fillJ_19 : decode prog_33_method_101_code 19 = .ok (.goto (-13), 3) := by decide +kernel
theorem dJ_fillJ_22 : decode prog_33_method_101_code 22 = .ok (.return_, 1) := by decide +kernel
theorem l11_3 : Cond.methodLink RX11 3 Lib.objectInit ∈ aw := aw_w (List.mem_of_getElem? (i := 161) (by decide +kernel)) rfl
theorem l3_3 : Cond.methodLink RX3 3 Lib.objectInit ∈ aw := aw_w (List.mem_of_getElem? (i := 169) (by decide +kernel)) rfl
theorem l9_3 : Cond.methodLink RX9 3 Lib.objectInit ∈ aw := aw_w (List.mem_of_getElem? (i := 175) (by decide +kernel)) rfl
theorem l4_3 : Cond.methodLink RX4 3 Lib.objectInit ∈ aw := aw_w (List.mem_of_getElem? (i := 225) (by decide +kernel)) rfl
theorem l5_5 : Cond.methodLink RX5 5 Lib.objectInit ∈ aw := aw_w (List.mem_of_getElem? (i := 336) (by decide +kernel)) rfl
theorem l6_3 : Cond.methodLink RX6 3 Lib.objectInit ∈ aw := aw_w (List.mem_of_getElem? (i := 357) (by decide +kernel)) rfl
theorem l7_3 : Cond.methodLink RX7 3 Lib.objectInit ∈ aw := aw_w (List.mem_of_getElem? (i := 365) (by decide +kernel)) rfl
theorem l7_31 : Cond.methodLink RX7 31 yJ_fill ∈ aw := aw_w (List.mem_of_getElem? (i := 366) (by decide +kernel)) rfl
theorem l1_3 : Cond.methodLink RX1 3 Lib.objectInit ∈ aw := aw_w (List.mem_of_getElem? (i := 439) (by decide +kernel)) rfl
theorem l0_5 : Cond.methodLink RX0 5 Lib.objectInit ∈ aw := aw_w (List.mem_of_getElem? (i := 456) (by decide +kernel)) rfl
theorem l2_3 : Cond.methodLink RX2 3 Lib.objectInit ∈ aw := aw_w (List.mem_of_getElem? (i := 475) (by decide +kernel)) rfl
theorem l10_3 : Cond.methodLink RX10 3 Lib.objectInit ∈ aw := aw_w (List.mem_of_getElem? (i := 498) (by decide +kernel)) rfl
theorem l1_93 : Cond.methodLink RX1 93 yJ_ntz ∈ aw := aw_w (List.mem_of_getElem? (i := 607) (by decide +kernel)) rfl
theorem KJ_264 : Cond.constant "java/lang/Integer" 264 (65536) ∈ aw := aw_w (List.mem_of_getElem? (i := 610) (by decide +kernel)) rfl
theorem l6_44 : Cond.methodLink RX6 44 yJ_min ∈ aw := aw_w (List.mem_of_getElem? (i := 638) (by decide +kernel)) rfl
theorem l7_97 : Cond.methodLink RX7 97 yJ_bitCount ∈ aw := aw_w (List.mem_of_getElem? (i := 660) (by decide +kernel)) rfl
theorem KJ_265 : Cond.constant "java/lang/Integer" 265 (1431655765) ∈ aw := aw_w (List.mem_of_getElem? (i := 663) (by decide +kernel)) rfl
theorem KJ_266 : Cond.constant "java/lang/Integer" 266 (858993459) ∈ aw := aw_w (List.mem_of_getElem? (i := 664) (by decide +kernel)) rfl
theorem KJ_267 : Cond.constant "java/lang/Integer" 267 (252645135) ∈ aw := aw_w (List.mem_of_getElem? (i := 665) (by decide +kernel)) rfl
theorem l7_102 : Cond.methodLink RX7 102 yJ_ntz ∈ aw := aw_w (List.mem_of_getElem? (i := 666) (by decide +kernel)) rfl
theorem l0_32 : Cond.methodLink RX0 32 yJ_bitCount ∈ aw := aw_w (List.mem_of_getElem? (i := 687) (by decide +kernel)) rfl
theorem l11_152 : Cond.methodLink RX11 152 yJ_bitCount ∈ aw := aw_w (List.mem_of_getElem? (i := 704) (by decide +kernel)) rfl
theorem l11_355 : Cond.methodLink RX11 355 yJ_max ∈ aw := aw_w (List.mem_of_getElem? (i := 709) (by decide +kernel)) rfl
theorem l9_35 : Cond.methodLink RX9 35 yJ_min ∈ aw := aw_w (List.mem_of_getElem? (i := 813) (by decide +kernel)) rfl
theorem l3_189 : Cond.methodLink RX3 189 yJ_max ∈ aw := aw_w (List.mem_of_getElem? (i := 1002) (by decide +kernel)) rfl
theorem l5_24 : Cond.methodLink RX5 24 yJ_min ∈ aw := aw_w (List.mem_of_getElem? (i := 1055) (by decide +kernel)) rfl
theorem l6_50 : Cond.methodLink RX6 50 yJ_floorMod ∈ aw := aw_w (List.mem_of_getElem? (i := 1368) (by decide +kernel)) rfl
theorem l1_72 : Cond.methodLink RX1 72 yJ_bitCount ∈ aw := aw_w (List.mem_of_getElem? (i := 1442) (by decide +kernel)) rfl
theorem l0_72 : Cond.methodLink RX0 72 yJ_fillJ ∈ aw := aw_w (List.mem_of_getElem? (i := 1462) (by decide +kernel)) rfl
theorem l0_83 : Cond.methodLink RX0 83 yJ_nlz ∈ aw := aw_w (List.mem_of_getElem? (i := 1474) (by decide +kernel)) rfl
theorem l0_66 : Cond.methodLink RX0 66 yJ_max ∈ aw := aw_w (List.mem_of_getElem? (i := 1477) (by decide +kernel)) rfl
theorem l0_86 : Cond.methodLink RX0 86 yJ_min ∈ aw := aw_w (List.mem_of_getElem? (i := 1478) (by decide +kernel)) rfl
theorem l10_26 : Cond.methodLink RX10 26 yJ_fillJ ∈ aw := aw_w (List.mem_of_getElem? (i := 1555) (by decide +kernel)) rfl
theorem l12_1 : Cond.methodLink RX12 1 Lib.objectInit ∈ aw := aw_w (List.mem_of_getElem? (i := 1620) (by decide +kernel)) rfl
theorem l12_260 : Cond.methodLink RX12 260 yJ_minl ∈ aw := aw_w (List.mem_of_getElem? (i := 1935) (by decide +kernel)) rfl
theorem l12_266 : Cond.methodLink RX12 266 yJ_maxl ∈ aw := aw_w (List.mem_of_getElem? (i := 1938) (by decide +kernel)) rfl
theorem l12_433 : Cond.methodLink RX12 433 yJ_max ∈ aw := aw_w (List.mem_of_getElem? (i := 2195) (by decide +kernel)) rfl
theorem l12_438 : Cond.methodLink RX12 438 yJ_min ∈ aw := aw_w (List.mem_of_getElem? (i := 2196) (by decide +kernel)) rfl
theorem oI : Cond.instanceMethod Lib.objectInit ∈ aw ∧ Cond.code Lib.objectInit ⟨#[0xb1]⟩ 1 none ∈ aw := ⟨aw_w (List.mem_of_getElem? (i := 162) (by decide +kernel)) rfl, aw_w (List.mem_of_getElem? (i := 163) (by decide +kernel)) rfl⟩
