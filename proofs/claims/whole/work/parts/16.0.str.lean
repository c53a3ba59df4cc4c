/-! ===== strings that are constants: the JDK's methods, the rules ===== -/
theorem N_String : Cond.initialized "java/lang/String" ∈ aw := aw_w (List.mem_of_getElem? (i := 147) (by decide +kernel)) rfl
theorem N_StringLatin1 : Cond.initialized "java/lang/StringLatin1" ∈ aw := aw_w (List.mem_of_getElem? (i := 148) (by decide +kernel)) rfl
theorem N_Preconditions : Cond.initialized "jdk/internal/util/Preconditions" ∈ aw := aw_w (List.mem_of_getElem? (i := 149) (by decide +kernel)) rfl
def yJ_length : MethodName := ⟨"java/lang/String", "length", "()I"⟩
def YJ_length : mY := (yJ_length, prog_26_method_54_code, 1, (some .int))
theorem kJ_length : mOKv YJ_length 0 := ⟨⟨aw_w (List.mem_of_getElem? (i := 851) (by decide +kernel)) rfl, N_String, by decide +kernel, ⟨by decide +kernel, by decide +kernel, by decide +kernel⟩, by decide⟩, aw_w (List.mem_of_getElem? (i := 849) (by decide +kernel)) rfl, aw_w (List.mem_of_getElem? (i := 850) (by decide +kernel)) rfl⟩
theorem dJ_length_0 : decode prog_26_method_54_code 0 = .ok (.aload_n 0, 1) := by decide +kernel
theorem dJ_length_1 : decode prog_26_method_54_code 1 = .ok (.getfield 9, 3) := by decide +kernel
theorem dJ_length_4 : decode prog_26_method_54_code 4 = .ok (.arraylength, 1) := by decide +kernel
theorem dJ_length_5 : decode prog_26_method_54_code 5 = .ok (.aload_n 0, 1) := by decide +kernel
theorem dJ_length_6 : decode prog_26_method_54_code 6 = .ok (.invokevirtual 335, 3) := by decide +kernel
theorem dJ_length_9 : decode prog_26_method_54_code 9 = .ok (.ishr, 1) := by decide +kernel
theorem dJ_length_10 : decode prog_26_method_54_code 10 = .ok (.ireturn, 1) := by decide +kernel
def yJ_coder : MethodName := ⟨"java/lang/String", "coder", "()B"⟩
def YJ_coder : mY := (yJ_coder, prog_26_method_152_code, 1, (some .byte))
theorem kJ_coder : mOKv YJ_coder 0 := ⟨⟨aw_w (List.mem_of_getElem? (i := 855) (by decide +kernel)) rfl, N_String, by decide +kernel, ⟨by decide +kernel, by decide +kernel, by decide +kernel⟩, by decide⟩, aw_w (List.mem_of_getElem? (i := 853) (by decide +kernel)) rfl, aw_w (List.mem_of_getElem? (i := 854) (by decide +kernel)) rfl⟩
theorem dJ_coder_0 : decode prog_26_method_152_code 0 = .ok (.getstatic 38, 3) := by decide +kernel
theorem dJ_coder_3 : decode prog_26_method_152_code 3 = .ok (.ifCond .eq 10, 3) := by decide +kernel
theorem dJ_coder_6 : decode prog_26_method_152_code 6 = .ok (.aload_n 0, 1) := by decide +kernel
theorem dJ_coder_7 : decode prog_26_method_152_code 7 = .ok (.getfield 15, 3) := by decide +kernel
theorem dJ_coder_10 : decode prog_26_method_152_code 10 = .ok (.goto 4, 3) := by decide +kernel
theorem dJ_coder_13 : decode prog_26_method_152_code 13 = .ok (.iconst 1, 1) := by decide +kernel
theorem dJ_coder_14 : decode prog_26_method_152_code 14 = .ok (.ireturn, 1) := by decide +kernel
def yJ_isLatin1 : MethodName := ⟨"java/lang/String", "isLatin1", "()Z"⟩
def YJ_isLatin1 : mY := (yJ_isLatin1, prog_26_method_154_code, 1, (some .boolean))
theorem kJ_isLatin1 : mOKv YJ_isLatin1 0 := ⟨⟨aw_w (List.mem_of_getElem? (i := 865) (by decide +kernel)) rfl, N_String, by decide +kernel, ⟨by decide +kernel, by decide +kernel, by decide +kernel⟩, by decide⟩, aw_w (List.mem_of_getElem? (i := 863) (by decide +kernel)) rfl, aw_w (List.mem_of_getElem? (i := 864) (by decide +kernel)) rfl⟩
theorem dJ_isLatin1_0 : decode prog_26_method_154_code 0 = .ok (.getstatic 38, 3) := by decide +kernel
theorem dJ_isLatin1_3 : decode prog_26_method_154_code 3 = .ok (.ifCond .eq 14, 3) := by decide +kernel
theorem dJ_isLatin1_6 : decode prog_26_method_154_code 6 = .ok (.aload_n 0, 1) := by decide +kernel
theorem dJ_isLatin1_7 : decode prog_26_method_154_code 7 = .ok (.getfield 15, 3) := by decide +kernel
theorem dJ_isLatin1_10 : decode prog_26_method_154_code 10 = .ok (.ifCond .ne 7, 3) := by decide +kernel
theorem dJ_isLatin1_13 : decode prog_26_method_154_code 13 = .ok (.iconst 1, 1) := by decide +kernel
theorem dJ_isLatin1_14 : decode prog_26_method_154_code 14 = .ok (.goto 4, 3) := by decide +kernel
theorem dJ_isLatin1_17 : decode prog_26_method_154_code 17 = .ok (.iconst 0, 1) := by decide +kernel
theorem dJ_isLatin1_18 : decode prog_26_method_154_code 18 = .ok (.ireturn, 1) := by decide +kernel
def yJ_charAt : MethodName := ⟨"java/lang/String", "charAt", "(I)C"⟩
def YJ_charAt : mY := (yJ_charAt, prog_26_method_56_code, 2, (some .char))
theorem kJ_charAt : mOKv YJ_charAt 1 := ⟨⟨aw_w (List.mem_of_getElem? (i := 861) (by decide +kernel)) rfl, N_String, by decide +kernel, ⟨by decide +kernel, by decide +kernel, by decide +kernel⟩, by decide⟩, aw_w (List.mem_of_getElem? (i := 859) (by decide +kernel)) rfl, aw_w (List.mem_of_getElem? (i := 860) (by decide +kernel)) rfl⟩
theorem dJ_charAt_0 : decode prog_26_method_56_code 0 = .ok (.aload_n 0, 1) := by decide +kernel
theorem dJ_charAt_1 : decode prog_26_method_56_code 1 = .ok (.invokevirtual 492, 3) := by decide +kernel
theorem dJ_charAt_4 : decode prog_26_method_56_code 4 = .ok (.ifCond .eq 12, 3) := by decide +kernel
theorem dJ_charAt_7 : decode prog_26_method_56_code 7 = .ok (.aload_n 0, 1) := by decide +kernel
theorem dJ_charAt_8 : decode prog_26_method_56_code 8 = .ok (.getfield 9, 3) := by decide +kernel
theorem dJ_charAt_11 : decode prog_26_method_56_code 11 = .ok (.iload_n 1, 1) := by decide +kernel
theorem dJ_charAt_12 : decode prog_26_method_56_code 12 = .ok (.invokestatic 495, 3) := by decide +kernel
theorem dJ_charAt_15 : decode prog_26_method_56_code 15 = .ok (.ireturn, 1) := by decide +kernel
theorem dJ_charAt_16 : decode prog_26_method_56_code 16 = .ok (.aload_n 0, 1) := by decide +kernel
theorem dJ_charAt_17 : decode prog_26_method_56_code 17 = .ok (.getfield 9, 3) := by decide +kernel
theorem dJ_charAt_20 : decode prog_26_method_56_code 20 = .ok (.iload_n 1, 1) := by decide +kernel
theorem dJ_charAt_21 : decode prog_26_method_56_code 21 = .ok (.invokestatic 498, 3) := by decide +kernel
theorem dJ_charAt_24 : decode prog_26_method_56_code 24 = .ok (.ireturn, 1) := by decide +kernel
def yJ_lcharAt : MethodName := ⟨"java/lang/StringLatin1", "charAt", "([BI)C"⟩
def YJ_lcharAt : mY := (yJ_lcharAt, prog_27_method_2_code, 2, (some .char))
theorem kJ_lcharAt : mOKs YJ_lcharAt 2 := ⟨⟨aw_w (List.mem_of_getElem? (i := 868) (by decide +kernel)) rfl, N_StringLatin1, by decide +kernel, ⟨by decide +kernel, by decide +kernel, by decide +kernel⟩, by decide⟩, aw_w (List.mem_of_getElem? (i := 867) (by decide +kernel)) rfl⟩
theorem dJ_lcharAt_0 : decode prog_27_method_2_code 0 = .ok (.iload_n 1, 1) := by decide +kernel
theorem dJ_lcharAt_1 : decode prog_27_method_2_code 1 = .ok (.aload_n 0, 1) := by decide +kernel
theorem dJ_lcharAt_2 : decode prog_27_method_2_code 2 = .ok (.arraylength, 1) := by decide +kernel
theorem dJ_lcharAt_3 : decode prog_27_method_2_code 3 = .ok (.invokestatic 9, 3) := by decide +kernel
theorem dJ_lcharAt_6 : decode prog_27_method_2_code 6 = .ok (.aload_n 0, 1) := by decide +kernel
theorem dJ_lcharAt_7 : decode prog_27_method_2_code 7 = .ok (.iload_n 1, 1) := by decide +kernel
theorem dJ_lcharAt_8 : decode prog_27_method_2_code 8 = .ok (.baload, 1) := by decide +kernel
theorem dJ_lcharAt_9 : decode prog_27_method_2_code 9 = .ok (.sipush 255, 3) := by decide +kernel
theorem dJ_lcharAt_12 : decode prog_27_method_2_code 12 = .ok (.iand, 1) := by decide +kernel
theorem dJ_lcharAt_13 : decode prog_27_method_2_code 13 = .ok (.i2c, 1) := by decide +kernel
theorem dJ_lcharAt_14 : decode prog_27_method_2_code 14 = .ok (.ireturn, 1) := by decide +kernel
def yJ_checkIndex : MethodName := ⟨"java/lang/String", "checkIndex", "(II)V"⟩
def YJ_checkIndex : mY := (yJ_checkIndex, prog_26_method_155_code, 2, none)
theorem kJ_checkIndex : mOKs YJ_checkIndex 2 := ⟨⟨aw_w (List.mem_of_getElem? (i := 871) (by decide +kernel)) rfl, N_String, by decide +kernel, ⟨by decide +kernel, by decide +kernel, by decide +kernel⟩, by decide⟩, aw_w (List.mem_of_getElem? (i := 870) (by decide +kernel)) rfl⟩
theorem dJ_checkIndex_0 : decode prog_26_method_155_code 0 = .ok (.iload_n 0, 1) := by decide +kernel
theorem dJ_checkIndex_1 : decode prog_26_method_155_code 1 = .ok (.iload_n 1, 1) := by decide +kernel
theorem dJ_checkIndex_2 : decode prog_26_method_155_code 2 = .ok (.getstatic 1053, 3) := by decide +kernel
theorem dJ_checkIndex_5 : decode prog_26_method_155_code 5 = .ok (.invokestatic 1059, 3) := by decide +kernel
theorem dJ_checkIndex_8 : decode prog_26_method_155_code 8 = .ok (.pop, 1) := by decide +kernel
theorem dJ_checkIndex_9 : decode prog_26_method_155_code 9 = .ok (.return_, 1) := by decide +kernel
def yJ_pCheck : MethodName := ⟨"jdk/internal/util/Preconditions", "checkIndex", "(IILjava/util/function/BiFunction;)I"⟩
def YJ_pCheck : mY := (yJ_pCheck, prog_35_method_11_code, 3, (some .int))
theorem kJ_pCheck : mOKs YJ_pCheck 3 := ⟨⟨aw_w (List.mem_of_getElem? (i := 876) (by decide +kernel)) rfl, N_Preconditions, by decide +kernel, ⟨by decide +kernel, by decide +kernel, by decide +kernel⟩, by decide⟩, aw_w (List.mem_of_getElem? (i := 875) (by decide +kernel)) rfl⟩
theorem dJ_pCheck_0 : decode prog_35_method_11_code 0 = .ok (.iload_n 0, 1) := by decide +kernel
theorem dJ_pCheck_1 : decode prog_35_method_11_code 1 = .ok (.ifCond .lt 8, 3) := by decide +kernel
theorem dJ_pCheck_4 : decode prog_35_method_11_code 4 = .ok (.iload_n 0, 1) := by decide +kernel
theorem dJ_pCheck_5 : decode prog_35_method_11_code 5 = .ok (.iload_n 1, 1) := by decide +kernel
theorem dJ_pCheck_6 : decode prog_35_method_11_code 6 = .ok (.if_icmp .lt 10, 3) := by decide +kernel
theorem dJ_pCheck_9 : decode prog_35_method_11_code 9 = .ok (.aload_n 2, 1) := by decide +kernel
theorem dJ_pCheck_10 : decode prog_35_method_11_code 10 = .ok (.iload_n 0, 1) := by decide +kernel
theorem dJ_pCheck_11 : decode prog_35_method_11_code 11 = .ok (.iload_n 1, 1) := by decide +kernel
theorem dJ_pCheck_12 : decode prog_35_method_11_code 12 = .ok (.invokestatic 95, 3) := by decide +kernel
theorem dJ_pCheck_16 : decode prog_35_method_11_code 16 = .ok (.iload_n 0, 1) := by decide +kernel
theorem dJ_pCheck_17 : decode prog_35_method_11_code 17 = .ok (.ireturn, 1) := by decide +kernel
theorem g9_28 : Cond.fieldLink RX9 28 RX8 "END" "LLeastWords$Token;" ∈ aw := aw_w (List.mem_of_getElem? (i := 178) (by decide +kernel)) rfl
theorem g9_54 : Cond.fieldLink RX9 54 RX8 "BAD" "LLeastWords$Token;" ∈ aw := aw_w (List.mem_of_getElem? (i := 814) (by decide +kernel)) rfl
theorem g9_90 : Cond.fieldLink RX9 90 RX8 "NUMBER" "LLeastWords$Token;" ∈ aw := aw_w (List.mem_of_getElem? (i := 831) (by decide +kernel)) rfl
theorem g9_83 : Cond.fieldLink RX9 83 RX8 "UNKNOWN" "LLeastWords$Token;" ∈ aw := aw_w (List.mem_of_getElem? (i := 836) (by decide +kernel)) rfl
theorem g8_126 : Cond.fieldLink RX8 126 RX8 "ALL" "[LLeastWords$Token;" ∈ aw := aw_w (List.mem_of_getElem? (i := 841) (by decide +kernel)) rfl
theorem l8_133 : Cond.methodLink RX8 133 yJ_length ∈ aw := aw_w (List.mem_of_getElem? (i := 848) (by decide +kernel)) rfl
theorem lS_335 : Cond.methodLink "java/lang/String" 335 yJ_coder ∈ aw := aw_w (List.mem_of_getElem? (i := 852) (by decide +kernel)) rfl
theorem fS_38 : Cond.fieldLink "java/lang/String" 38 "java/lang/String" "COMPACT_STRINGS" "Z" ∈ aw := aw_w (List.mem_of_getElem? (i := 856) (by decide +kernel)) rfl
theorem l8_139 : Cond.methodLink RX8 139 yJ_charAt ∈ aw := aw_w (List.mem_of_getElem? (i := 858) (by decide +kernel)) rfl
theorem lS_492 : Cond.methodLink "java/lang/String" 492 yJ_isLatin1 ∈ aw := aw_w (List.mem_of_getElem? (i := 862) (by decide +kernel)) rfl
theorem lS_495 : Cond.methodLink "java/lang/String" 495 yJ_lcharAt ∈ aw := aw_w (List.mem_of_getElem? (i := 866) (by decide +kernel)) rfl
theorem lT_9 : Cond.methodLink "java/lang/StringLatin1" 9 yJ_checkIndex ∈ aw := aw_w (List.mem_of_getElem? (i := 869) (by decide +kernel)) rfl
theorem fS_1053 : Cond.fieldLink "java/lang/String" 1053 "jdk/internal/util/Preconditions" "SIOOBE_FORMATTER" "Ljava/util/function/BiFunction;" ∈ aw := aw_w (List.mem_of_getElem? (i := 872) (by decide +kernel)) rfl
theorem lS_1059 : Cond.methodLink "java/lang/String" 1059 yJ_pCheck ∈ aw := aw_w (List.mem_of_getElem? (i := 874) (by decide +kernel)) rfl
theorem g3_46 : Cond.fieldLink RX3 46 RX8 "MARKS" "LLeastWords$Token;" ∈ aw := aw_w (List.mem_of_getElem? (i := 900) (by decide +kernel)) rfl
theorem g3_90 : Cond.fieldLink RX3 90 RX8 "BAD" "LLeastWords$Token;" ∈ aw := aw_w (List.mem_of_getElem? (i := 915) (by decide +kernel)) rfl
theorem g3_102 : Cond.fieldLink RX3 102 RX8 "NUMBER" "LLeastWords$Token;" ∈ aw := aw_w (List.mem_of_getElem? (i := 920) (by decide +kernel)) rfl
theorem g3_63 : Cond.fieldLink RX3 63 RX8 "SEMICOLON" "LLeastWords$Token;" ∈ aw := aw_w (List.mem_of_getElem? (i := 921) (by decide +kernel)) rfl
theorem g3_69 : Cond.fieldLink RX3 69 RX8 "END" "LLeastWords$Token;" ∈ aw := aw_w (List.mem_of_getElem? (i := 923) (by decide +kernel)) rfl
theorem g3_108 : Cond.fieldLink RX3 108 RX8 "WORD" "LLeastWords$Token;" ∈ aw := aw_w (List.mem_of_getElem? (i := 928) (by decide +kernel)) rfl
theorem g3_163 : Cond.fieldLink RX3 163 RX8 "SOUND" "LLeastWords$Token;" ∈ aw := aw_w (List.mem_of_getElem? (i := 934) (by decide +kernel)) rfl
theorem g3_172 : Cond.fieldLink RX3 172 RX8 "COST" "LLeastWords$Token;" ∈ aw := aw_w (List.mem_of_getElem? (i := 940) (by decide +kernel)) rfl
theorem g3_175 : Cond.fieldLink RX3 175 RX8 "COLON" "LLeastWords$Token;" ∈ aw := aw_w (List.mem_of_getElem? (i := 942) (by decide +kernel)) rfl
theorem g3_114 : Cond.fieldLink RX3 114 RX8 "CHEST" "LLeastWords$Token;" ∈ aw := aw_w (List.mem_of_getElem? (i := 944) (by decide +kernel)) rfl
theorem g3_117 : Cond.fieldLink RX3 117 RX8 "SPARE" "LLeastWords$Token;" ∈ aw := aw_w (List.mem_of_getElem? (i := 946) (by decide +kernel)) rfl
theorem g3_123 : Cond.fieldLink RX3 123 RX8 "LAMP" "LLeastWords$Token;" ∈ aw := aw_w (List.mem_of_getElem? (i := 952) (by decide +kernel)) rfl
theorem g3_129 : Cond.fieldLink RX3 129 RX8 "HIRE" "LLeastWords$Token;" ∈ aw := aw_w (List.mem_of_getElem? (i := 962) (by decide +kernel)) rfl
theorem g3_138 : Cond.fieldLink RX3 138 RX8 "PEOPLE" "LLeastWords$Token;" ∈ aw := aw_w (List.mem_of_getElem? (i := 964) (by decide +kernel)) rfl
theorem g3_207 : Cond.fieldLink RX3 207 RX8 "NOT" "LLeastWords$Token;" ∈ aw := aw_w (List.mem_of_getElem? (i := 974) (by decide +kernel)) rfl
theorem g3_214 : Cond.fieldLink RX3 214 RX8 "OPEN_TRUTH" "LLeastWords$Token;" ∈ aw := aw_w (List.mem_of_getElem? (i := 984) (by decide +kernel)) rfl
theorem g3_217 : Cond.fieldLink RX3 217 RX8 "CLOSE_TRUTH" "LLeastWords$Token;" ∈ aw := aw_w (List.mem_of_getElem? (i := 986) (by decide +kernel)) rfl
theorem g3_248 : Cond.fieldLink RX3 248 RX8 "MARK" "LLeastWords$Token;" ∈ aw := aw_w (List.mem_of_getElem? (i := 996) (by decide +kernel)) rfl
theorem g3_254 : Cond.fieldLink RX3 254 RX8 "HAS" "LLeastWords$Token;" ∈ aw := aw_w (List.mem_of_getElem? (i := 1003) (by decide +kernel)) rfl
theorem g3_257 : Cond.fieldLink RX3 257 RX8 "SUM" "LLeastWords$Token;" ∈ aw := aw_w (List.mem_of_getElem? (i := 1005) (by decide +kernel)) rfl
theorem g3_260 : Cond.fieldLink RX3 260 RX8 "ALIKE" "LLeastWords$Token;" ∈ aw := aw_w (List.mem_of_getElem? (i := 1007) (by decide +kernel)) rfl
theorem g3_263 : Cond.fieldLink RX3 263 RX8 "OWN_NUMBER" "LLeastWords$Token;" ∈ aw := aw_w (List.mem_of_getElem? (i := 1009) (by decide +kernel)) rfl
theorem g3_266 : Cond.fieldLink RX3 266 RX8 "OPEN_SUM" "LLeastWords$Token;" ∈ aw := aw_w (List.mem_of_getElem? (i := 1011) (by decide +kernel)) rfl
theorem g3_269 : Cond.fieldLink RX3 269 RX8 "CLOSE_SUM" "LLeastWords$Token;" ∈ aw := aw_w (List.mem_of_getElem? (i := 1013) (by decide +kernel)) rfl
theorem g3_239 : Cond.fieldLink RX3 239 RX8 "TIMES" "LLeastWords$Token;" ∈ aw := aw_w (List.mem_of_getElem? (i := 1015) (by decide +kernel)) rfl
theorem g3_242 : Cond.fieldLink RX3 242 RX8 "PLUS" "LLeastWords$Token;" ∈ aw := aw_w (List.mem_of_getElem? (i := 1017) (by decide +kernel)) rfl
theorem g3_245 : Cond.fieldLink RX3 245 RX8 "MINUS" "LLeastWords$Token;" ∈ aw := aw_w (List.mem_of_getElem? (i := 1019) (by decide +kernel)) rfl
theorem g3_227 : Cond.fieldLink RX3 227 RX8 "EQUAL" "LLeastWords$Token;" ∈ aw := aw_w (List.mem_of_getElem? (i := 1025) (by decide +kernel)) rfl
theorem g3_230 : Cond.fieldLink RX3 230 RX8 "BELOW" "LLeastWords$Token;" ∈ aw := aw_w (List.mem_of_getElem? (i := 1027) (by decide +kernel)) rfl
theorem g3_233 : Cond.fieldLink RX3 233 RX8 "ABOVE" "LLeastWords$Token;" ∈ aw := aw_w (List.mem_of_getElem? (i := 1029) (by decide +kernel)) rfl
theorem g3_197 : Cond.fieldLink RX3 197 RX8 "AND" "LLeastWords$Token;" ∈ aw := aw_w (List.mem_of_getElem? (i := 1031) (by decide +kernel)) rfl
theorem g3_200 : Cond.fieldLink RX3 200 RX8 "OR" "LLeastWords$Token;" ∈ aw := aw_w (List.mem_of_getElem? (i := 1033) (by decide +kernel)) rfl
theorem l12_109 : Cond.methodLink RX12 109 yJ_length ∈ aw := aw_w (List.mem_of_getElem? (i := 1765) (by decide +kernel)) rfl
theorem l12_114 : Cond.methodLink RX12 114 yJ_charAt ∈ aw := aw_w (List.mem_of_getElem? (i := 1766) (by decide +kernel)) rfl
theorem g8_122 : Cond.fieldLink RX8 122 RX8 "text" "Ljava/lang/String;" ∈ aw := aw_w (List.mem_of_getElem? (i := 2295) (by decide +kernel)) rfl
theorem fS_9 : Cond.fieldLink "java/lang/String" 9 "java/lang/String" "value" "[B" ∈ aw := aw_w (List.mem_of_getElem? (i := 2296) (by decide +kernel)) rfl
theorem fS_15 : Cond.fieldLink "java/lang/String" 15 "java/lang/String" "coder" "B" ∈ aw := aw_w (List.mem_of_getElem? (i := 2297) (by decide +kernel)) rfl
theorem al_lt {G : mG} {q : Nat} (h : q < 100) : al G q = ad G q := if_pos h
theorem KK.en {G : mG} {s : State} (h : KK G s) : EN G s := h.2.1.2.2.2.2.2.2
section VS
variable {G : mG} {y : mY} {D kc ks : Nat} {Q : Option Value → mM → Prop} {X : String → mM → Prop} {pc : Nat} {ls : List (Option Value)} {st : List Value} {M : mM}
theorem v_tret {a : Int32} {ty : FieldType} (d : decode (yb y) pc = .ok (.ireturn, 1)) (hr : yr y = some ty) (h : narrow ty (.int a) = .int a) (q : Q (some (.int a)) M) : V G y D kc ks Q X pc ls [.int a] M := by
  intro p l e s m args below meth c H locs cells slots mc ms lr E hl hR hf hc hs
  exact vx_ret (W.widen (Nat.le_trans (Nat.le_add_right _ _) hc) (Nat.le_trans (Nat.le_add_right _ _) hs) (W.zret E.1 E.2.1 (E.2.2.1.trans hr) h (fun t ht _ => ⟨some (.int a), M, rfl, q, by rw [ht]; exact hR⟩) hf d E.2.2.2.2.2.2.1))
/-- a field of a constant object -/
theorem v_getC {q idx : Nat} {o n ds : String} {v : Value} (d0 : decode (yb y) pc = .ok (.getfield idx, 3)) (hw : Cond.fieldLink (yy y).cls idx o n ds ∈ aw) (hv : ∀ s, KK G s → va_OF o n ds (aV G v) (al G q) (fr G) s G.2.2.2.1) (kk : V G y D kc ks Q X (pc + 3) ls (v :: st) M) : V G y D kc ks Q X pc ls (.ref q :: st) M := by
  intro p l e s m args below meth c H locs cells slots mc ms lr E hl hR hf hc hs
  obtain ⟨cf, k, fi, f, cell, h1, h2, h3, h4, h5, h6⟩ := (hv s E.2.2.2.2.2.2.2.1).kept (H1 := H) (fun a ha _ => hR.2.2.1 a ha)
  exact W.getf (g := F0 m pc lr _) E.1 E.2.1 E.2.2.2.2.1 (E.2.2.2.2.2.1 _ hw) h1 h2 h3 h4 (v := aV G v) h5 rfl rfl d0 (kk p l e s m args below meth c H locs cells slots mc ms lr E hl hR hf hc hs)
/-- a static that is a constant -/
theorem v_gets {idx : Nat} {o n ds : String} {v : Value} (d0 : decode (yb y) pc = .ok (.getstatic idx, 3)) (hw : Cond.fieldLink (yy y).cls idx o n ds ∈ aw) (hv : ∀ s, KK G s → va_Z o n ds (aV G v) (fr G) s G.2.2.2.1) (kk : V G y D kc ks Q X (pc + 3) ls (v :: st) M) : V G y D kc ks Q X pc ls st M := by
  intro p l e s m args below meth c H locs cells slots mc ms lr E hl hR hf hc hs T hT XX
  have hsz : s.heap.size ≤ H.size := by rw [← hT]; exact (vx_frame XX.same).1
  have hS : va_S (fr G) s.heap H locs := ⟨hsz, fun q h1 h2 => by
    have h3 : q < b0 G := Nat.not_le.mp h2
    rw [hR.2.2.1 q h3, E.2.2.2.2.2.2.2.2.2.2.2.1 q h3], hf⟩
  refine va_gets E.1 E.2.1 (v := aV G v) (A := fr G) ((hv s E.2.2.2.2.2.2.2.1).kept (fun a ha _ => E.2.2.2.2.2.2.2.2.2.2.2.1 a ha)) hS E.2.2.2.2.1 (E.2.2.2.2.2.1 _ hw) (fun x hx => hx) d0 (kk p l e s m args below meth c H locs cells slots mc ms lr E hl hR hf hc hs) T hT XX
/-- an array that is a constant: its length, its elements -/
theorem v_alenC {q N : Nat} {ty : FieldType} {f : Nat → Value} (d0 : decode (yb y) pc = .ok (.arraylength, 1)) (hv : ∀ s, KK G s → va_T ty (al G q) N f (fr G) s G.2.2.2.1) (kk : V G y D kc ks Q X (pc + 1) ls (.int (nI N) :: st) M) : V G y D kc ks Q X pc ls (.ref q :: st) M := by
  intro p l e s m args below meth c H locs cells slots mc ms lr E hl hR hf hc hs T hT XX
  have hsz : s.heap.size ≤ H.size := by rw [← hT]; exact (vx_frame XX.same).1
  have hS : va_S (fr G) s.heap H locs := ⟨hsz, fun q h1 h2 => by
    have h3 : q < b0 G := Nat.not_le.mp h2
    rw [hR.2.2.1 q h3, E.2.2.2.2.2.2.2.2.2.2.2.1 q h3], hf⟩
  exact va_tlen E.1 E.2.1 (A := fr G) ((hv s E.2.2.2.2.2.2.2.1).kept (fun a ha _ => E.2.2.2.2.2.2.2.2.2.2.2.1 a ha)) hS (v := nI N) rfl d0 (kk p l e s m args below meth c H locs cells slots mc ms lr E hl hR hf hc hs) T hT XX
theorem v_baldC {q N : Nat} {f : Nat → Int32} {i : Int32} (d0 : decode (yb y) pc = .ok (.baload, 1)) (hv : ∀ s, KK G s → va_T .byte (al G q) N (fun j => .int (f j)) (fr G) s G.2.2.2.1) (hi : vp_in i N) (kk : V G y D kc ks Q X (pc + 1) ls (.int (f i.toNatClampNeg) :: st) M) : V G y D kc ks Q X pc ls (.int i :: .ref q :: st) M := by
  intro p l e s m args below meth c H locs cells slots mc ms lr E hl hR hf hc hs T hT XX
  have hsz : s.heap.size ≤ H.size := by rw [← hT]; exact (vx_frame XX.same).1
  have hS : va_S (fr G) s.heap H locs := ⟨hsz, fun q h1 h2 => by
    have h3 : q < b0 G := Nat.not_le.mp h2
    rw [hR.2.2.1 q h3, E.2.2.2.2.2.2.2.2.2.2.2.1 q h3], hf⟩
  exact va_tb E.1 E.2.1 (A := fr G) ((hv s E.2.2.2.2.2.2.2.1).kept (fun a ha _ => E.2.2.2.2.2.2.2.2.2.2.2.1 a ha)) hS hi (v := .int (f i.toNatClampNeg)) rfl d0 (kk p l e s m args below meth c H locs cells slots mc ms lr E hl hR hf hc hs) T hT XX
theorem v_aaldC {q N : Nat} {C : String} {f : Nat → Nat} {i : Int32} (d0 : decode (yb y) pc = .ok (.aaload, 1)) (hv : ∀ s, KK G s → va_T (.object C) (al G q) N (fun j => .ref (al G (f j))) (fr G) s G.2.2.2.1) (hi : vp_in i N) (kk : V G y D kc ks Q X (pc + 1) ls (.ref (f i.toNatClampNeg) :: st) M) : V G y D kc ks Q X pc ls (.int i :: .ref q :: st) M := by
  intro p l e s m args below meth c H locs cells slots mc ms lr E hl hR hf hc hs T hT XX
  have hsz : s.heap.size ≤ H.size := by rw [← hT]; exact (vx_frame XX.same).1
  have hS : va_S (fr G) s.heap H locs := ⟨hsz, fun q h1 h2 => by
    have h3 : q < b0 G := Nat.not_le.mp h2
    rw [hR.2.2.1 q h3, E.2.2.2.2.2.2.2.2.2.2.2.1 q h3], hf⟩
  exact vb_tq E.1 E.2.1 (A := fr G) ((hv s E.2.2.2.2.2.2.2.1).kept (fun a ha _ => E.2.2.2.2.2.2.2.2.2.2.2.1 a ha)) hS hi (v := .ref (al G (f i.toNatClampNeg))) rfl d0 (kk p l e s m args below meth c H locs cells slots mc ms lr E hl hR hf hc hs) T hT XX
theorem v_ialdC {q N : Nat} {f : Nat → Int32} {i : Int32} (d0 : decode (yb y) pc = .ok (.iaload, 1)) (hv : ∀ s, KK G s → va_T .int (al G q) N (fun j => .int (f j)) (fr G) s G.2.2.2.1) (hi : vp_in i N) (kk : V G y D kc ks Q X (pc + 1) ls (.int (f i.toNatClampNeg) :: st) M) : V G y D kc ks Q X pc ls (.int i :: .ref q :: st) M := by
  intro p l e s m args below meth c H locs cells slots mc ms lr E hl hR hf hc hs T hT XX
  have hsz : s.heap.size ≤ H.size := by rw [← hT]; exact (vx_frame XX.same).1
  have hS : va_S (fr G) s.heap H locs := ⟨hsz, fun q h1 h2 => by
    have h3 : q < b0 G := Nat.not_le.mp h2
    rw [hR.2.2.1 q h3, E.2.2.2.2.2.2.2.2.2.2.2.1 q h3], hf⟩
  exact va_ti E.1 E.2.1 (A := fr G) ((hv s E.2.2.2.2.2.2.2.1).kept (fun a ha _ => E.2.2.2.2.2.2.2.2.2.2.2.1 a ha)) hS hi (v := .int (f i.toNatClampNeg)) rfl d0 (kk p l e s m args below meth c H locs cells slots mc ms lr E hl hR hf hc hs) T hT XX
theorem v_i2c {a : Int32} (d : decode (yb y) pc = .ok (.i2c, 1)) (k : V G y D kc ks Q X (pc + 1) ls (.int (a.toUInt32 % 65536).toInt32 :: st) M) : V G y D kc ks Q X pc ls (.int a :: st) M := by
  intro p l e s m args below meth c H locs cells slots mc ms lr E hl hR hf hc hs
  exact lv_i2c E.1 E.2.1 d rfl (k p l e s m args below meth c H locs cells slots mc ms lr E hl hR hf hc hs)
/-- a text of the reference's -/
theorem v_ldcS {n k : Nat} {tx : String} (d : decode (yb y) pc = .ok (.ldc n, 2)) (hy : (yy y).cls = RX12) (hz : (n, tx, k) ∈ mStr) (hk : k < 60) (kk : V G y D kc ks Q X (pc + 2) ls (.ref (40 + k) :: st) M) : V G y D kc ks Q X pc ls st M := by
  intro p l e s m args below meth c H locs cells slots mc ms lr E hl hR hf hc hs
  have h1 : vk_R RX12 n tx (ad G (40 + k)) s := E.2.2.2.2.2.2.2.1.2.2.2.2 _ hz
  have h2 := kk p l e s m args below meth c H locs cells slots mc ms lr E hl hR hf hc hs
  rw [show (Value.ref (40 + k) :: st).map (aV G) = .ref (ad G (40 + k)) :: st.map (aV G) by simp only [List.map_cons, aV]; rw [al_lt (by omega)]] at h2
  exact va_ldcS E.1 E.2.1 (own := RX12) (hy ▸ E.2.2.2.2.1) h1 d h2
theorem al_ne {G : mG} {a b : Nat} (h : ∀ s, KK G s → ¬ al G a = al G b) {s : State} (hK : KK G s) : ¬ al G a = al G b := h s hK
/-- two references, the same or not -/
theorem v_acmp_eq {a b : Nat} {off : Int} (tgt : Nat) (d : decode (yb y) pc = .ok (.if_acmp .eq off, 3)) (ht : (pc : Int) + off = (tgt : Int)) (hab : ∀ s, KK G s → al G a = al G b → a = b) (kt : a = b → V G y D kc ks Q X tgt ls st M) (kf : ¬ a = b → V G y D kc ks Q X (pc + 3) ls st M) : V G y D kc ks Q X pc ls (.ref b :: .ref a :: st) M := by
  intro p l e s m args below meth c H locs cells slots mc ms lr E hl hR hf hc hs
  refine lv_acmp_eq (rx := some (al G a)) (ry := some (al G b)) E.1 E.2.1 d ht (fun q => kt (hab s E.2.2.2.2.2.2.2.1 (Option.some.inj q)) p l e s m args below meth c H locs cells slots mc ms lr E hl hR hf hc hs) (fun q => kf (fun z => q (by rw [z])) p l e s m args below meth c H locs cells slots mc ms lr E hl hR hf hc hs)
theorem v_acmp_ne {a b : Nat} {off : Int} (tgt : Nat) (d : decode (yb y) pc = .ok (.if_acmp .ne off, 3)) (ht : (pc : Int) + off = (tgt : Int)) (hab : ∀ s, KK G s → al G a = al G b → a = b) (kt : ¬ a = b → V G y D kc ks Q X tgt ls st M) (kf : a = b → V G y D kc ks Q X (pc + 3) ls st M) : V G y D kc ks Q X pc ls (.ref b :: .ref a :: st) M := by
  intro p l e s m args below meth c H locs cells slots mc ms lr E hl hR hf hc hs
  refine lv_acmp_ne (rx := some (al G a)) (ry := some (al G b)) E.1 E.2.1 d ht (fun q => kt (fun z => q (by rw [z])) p l e s m args below meth c H locs cells slots mc ms lr E hl hR hf hc hs) (fun q => kf (hab s E.2.2.2.2.2.2.2.1 (Option.some.inj (by first | exact q | exact Decidable.not_not.mp q))) p l e s m args below meth c H locs cells slots mc ms lr E hl hR hf hc hs)
/-- a call on a text -/
theorem v_callVC {y2 : mY} {mc2 ms2 D2 n b idx : Nat} (As : List Value) {Q2 : Option Value → mM → Prop} {X2 : String → mM → Prop} (hM : Ct G y2 D2 mc2 ms2 (.ref b :: As) M Q2 X2) (hm : mOKv y2 n)
    (d : decode (yb y) pc = .ok (.invokevirtual idx, 3)) (hw : Cond.methodLink (yy y).cls idx (yy y2) ∈ aw) (hb : ∀ s, KK G s → va_O (yy y2).cls (al G b) (fr G) s G.2.2.2.1) (hn : As.length = n) (hD : D2 + 1 ≤ D) (hst : (st.map fun v => v.category).sum ≤ 8)
    (kk : ∀ v M', Q2 v M' → V G y D kc ks Q X (pc + 3) ls (v.toList ++ st) M') (kx : ∀ E M', X2 E M' → X E M') : V G y D (kc + mc2) (ks + ms2) Q X pc ls (As.reverse ++ .ref b :: st) M := by
  intro p l e s m args below meth cd H locs cells slots mc ms lr E hl hR hf hcc hss
  obtain ⟨cell, q1, q2, q3, -⟩ := (hb s E.2.2.2.2.2.2.2.1).kept (H1 := H) (fun a ha _ => hR.2.2.1 a ha)
  refine v_behind (y := y) (vx_runV (own := (yy y).cls) (C := (yy y2).cls) (b := al G b) (As := As.map (aV G)) (rest := st.map (aV G)) (n := n) (Pc := Pcy G (.ref b :: As) M) ⟨E.1, E.2.1, E.2.2.2.1, E.2.2.2.2.1, E.2.2.2.2.2.1⟩ (hM l E.2.2.2.2.2.2.2.2.1)
    (cwV n E.2.2.2.2.2.1 (gin ?_) rfl rfl rfl ⟨rfl, hm.1.2.2.2.1.1, hm.1.2.2.2.1.2.1, hm.1.2.2.2.1.2.2⟩ ⟨hD, ?_⟩) ⟨Pcy.blind, ⟨cell, q1, q2, q3⟩, Pcy.at hR E.2.2.2.2.2.2.2.1⟩ rfl (by rw [List.length_map]; exact hn) hl.1 ?_ ?_ d ⟨?_, ?_⟩) kk kx E hl hf hcc hss
  · intro w hw'
    simp only [wsV, List.cons_append, List.nil_append, List.mem_cons] at hw'
    rcases hw' with h | h | h | h | h
    · rw [h]; exact hw
    · rw [h]; exact hm.2.1
    · rw [h]; exact hm.2.2
    · rw [h]; exact hm.1.2.1
    · exact wy_in hm.1 w h
  · show 8 + (yn y2 + 11) + 64 * D2 ≤ 64 * D
    have := hm.1.2.2.2.2
    omega
  · show List.map (aV G) (As.reverse ++ .ref b :: st) = _
    simp [aV]
  · rw [cat_map]; exact lv_room (rest := []) (m := m) (pc := pc) (ls := lr) hst
  · show cells + mc2 ≤ mc; omega
  · show slots + ms2 ≤ ms; omega
theorem v_cVC {y2 : mY} {mc2 ms2 D2 n b idx : Nat} (As : List Value) {v : Value} {M2 : mM} (hM : Ct G y2 D2 mc2 ms2 (.ref b :: As) M (Rv (some v) M2) NX) (hm : mOKv y2 n) (d : decode (yb y) pc = .ok (.invokevirtual idx, 3)) (hw : Cond.methodLink (yy y).cls idx (yy y2) ∈ aw) (hb : ∀ s, KK G s → va_O (yy y2).cls (al G b) (fr G) s G.2.2.2.1) (hn : As.length = n) (hD : D2 + 1 ≤ D) (hst : (st.map fun v => v.category).sum ≤ 8) (kk : V G y D kc ks Q X (pc + 3) ls (v :: st) M2) : V G y D (kc + mc2) (ks + ms2) Q X pc ls (As.reverse ++ .ref b :: st) M :=
  v_callVC As hM hm d hw hb hn hD hst (fun w M3 hq => by obtain ⟨rfl, rfl⟩ := hq; exact kk) (fun _ _ h => h.elim)
end VS
/-! ===== what texts answer ===== -/
def stN (k : Nat) : Nat := (stX.getD k []).length
def stC (k j : Nat) : Int32 := (stX.getD k []).getD j 0
theorem st_ok : ∀ k, k < 30 → stN k < 100 ∧ ∀ j, j < stN k → ∃ x, x < 128 ∧ stC k j = nI x := by
  have h : ((List.range 30).all (fun k => decide (stN k < 100) && (List.range (stN k)).all (fun j => (List.range 128).any (fun x => decide (stC k j = nI x))))) = true := by decide +kernel
  intro k hk
  have h1 := List.all_eq_true.mp h k (List.mem_range.mpr hk)
  rw [Bool.and_eq_true, decide_eq_true_eq, List.all_eq_true] at h1
  refine ⟨h1.1, fun j hj => ?_⟩
  have h2 := h1.2 j (List.mem_range.mpr hj)
  rw [List.any_eq_true] at h2
  obtain ⟨x, hx, e⟩ := h2
  exact ⟨x, List.mem_range.mp hx, of_decide_eq_true e⟩
section VT2
variable (G : mG) (M : mM)
theorem kS_o {k : Nat} (hk : k < 30) : ∀ s, KK G s → va_O "java/lang/String" (al G (40 + k)) (fr G) s G.2.2.2.1 := fun s h => by rw [al_lt (by omega)]; exact (h.en.2.1 k hk).1
theorem kS_c {k : Nat} (hk : k < 30) : ∀ s, KK G s → va_OF "java/lang/String" "coder" "B" (aV G (.int 0)) (al G (40 + k)) (fr G) s G.2.2.2.1 := fun s h => by rw [al_lt (by omega)]; exact (h.en.2.1 k hk).2.1
theorem kS_v {k : Nat} (hk : k < 30) : ∀ s, KK G s → va_OF "java/lang/String" "value" "[B" (aV G (.ref (70 + k))) (al G (40 + k)) (fr G) s G.2.2.2.1 := fun s h => by
  show va_OF _ _ _ (.ref (al G (70 + k))) _ _ _ _
  rw [al_lt (show 40 + k < 100 by omega), al_lt (show 70 + k < 100 by omega)]; exact (h.en.2.1 k hk).2.2.1
theorem kS_t {k : Nat} (hk : k < 30) : ∀ s, KK G s → va_T .byte (al G (70 + k)) (stN k) (fun j => .int (stC k j)) (fr G) s G.2.2.2.1 := fun s h => by rw [al_lt (by omega)]; exact (h.en.2.1 k hk).2.2.2
theorem kS_z : ∀ s, KK G s → va_Z "java/lang/String" "COMPACT_STRINGS" "Z" (aV G (.int 1)) (fr G) s G.2.2.2.1 := fun s h => h.en.2.2.2.1.1.1
theorem kS_f : ∀ s, KK G s → va_Z "jdk/internal/util/Preconditions" "SIOOBE_FORMATTER" "Ljava/util/function/BiFunction;" (aV G (fmV G)) (fr G) s G.2.2.2.1 := fun s h => h.en.2.2.2.1.1.2.1
theorem cJ_coder {k : Nat} (hk : k < 30) : Ct G YJ_coder 0 0 0 [.ref (40 + k)] M (Rv (some (.int 0)) M) NX := by
  refine Ct.of kJ_coder.1 (Nat.le_of_ble_eq_true rfl) ?_
  refine v_gets dJ_coder_0 fS_38 (kS_z G) ?_
  refine v_if_eq 13 dJ_coder_3 (by decide) (fun h => absurd h (by decide)) (fun _ => ?_)
  refine v_aload_n dJ_coder_6 rfl ?_
  refine v_getC dJ_coder_7 fS_15 (kS_c G hk) ?_
  refine v_goto 14 dJ_coder_10 (by decide) ?_
  exact v_tret dJ_coder_14 rfl rfl ⟨rfl, rfl⟩
theorem cJ_isLatin1 {k : Nat} (hk : k < 30) : Ct G YJ_isLatin1 0 0 0 [.ref (40 + k)] M (Rv (some (.int 1)) M) NX := by
  refine Ct.of kJ_isLatin1.1 (Nat.le_of_ble_eq_true rfl) ?_
  refine v_gets dJ_isLatin1_0 fS_38 (kS_z G) ?_
  refine v_if_eq 17 dJ_isLatin1_3 (by decide) (fun h => absurd h (by decide)) (fun _ => ?_)
  refine v_aload_n dJ_isLatin1_6 rfl ?_
  refine v_getC dJ_isLatin1_7 fS_15 (kS_c G hk) ?_
  refine v_if_ne 17 dJ_isLatin1_10 (by decide) (fun h => absurd rfl h) (fun _ => ?_)
  refine v_iconst 1 dJ_isLatin1_13 (by decide) ?_
  refine v_goto 18 dJ_isLatin1_14 (by decide) ?_
  exact v_tret dJ_isLatin1_18 rfl rfl ⟨rfl, rfl⟩
theorem shr0 {x : Nat} (h : x < 2 ^ 31) : nI x >>> ((0 : Int32) &&& 31) = nI x := by
  apply i32_ext
  apply BitVec.eq_of_toInt_eq
  have h1 : (nI x >>> ((0 : Int32) &&& 31)).toInt = (nI x).toInt >>> 0 := pk_shr (nI x) _ 0 (by decide)
  rw [Int32.toInt_toBitVec, Int32.toInt_toBitVec, h1]
  simp
theorem cJ_length {k : Nat} (hk : k < 30) : Ct G YJ_length 1 0 0 [.ref (40 + k)] M (Rv (some (.int (nI (stN k)))) M) NX := by
  have h1 := (st_ok k hk).1
  refine Ct.of kJ_length.1 (Nat.le_of_ble_eq_true rfl) ?_
  refine v_aload_n dJ_length_0 rfl ?_
  refine v_getC dJ_length_1 fS_9 (kS_v G hk) ?_
  refine v_alenC dJ_length_4 (kS_t G hk) ?_
  refine v_aload_n dJ_length_5 rfl ?_
  refine v_cVC [] (cJ_coder G M hk) kJ_coder dJ_length_6 lS_335 (kS_o G hk) rfl (Nat.le_of_ble_eq_true rfl) (Nat.le_of_ble_eq_true rfl) ?_
  refine v_ishr dJ_length_9 ?_
  rw [shr0 (by omega)]
  exact v_iret dJ_length_10 rfl ⟨rfl, rfl⟩
theorem cJ_pCheck {a b : Nat} (h : a < b) (hb : b < 2 ^ 31) : Ct G YJ_pCheck 0 0 0 [.int (nI a), .int (nI b), fmV G] M (Rv (some (.int (nI a))) M) NX := by
  have he : eL [.int (nI a), .int (nI b), fmV G] = [some (.int (nI a)), some (.int (nI b)), some (fmV G)] := by
    unfold fmV
    split <;> rfl
  refine Ct.of kJ_pCheck.1 (by rw [he]; exact Nat.le_of_ble_eq_true rfl) ?_
  rw [he]
  refine v_iload_n dJ_pCheck_0 rfl ?_
  refine v_if_lt 9 dJ_pCheck_1 (by decide) (fun z => absurd z (nI_pos (by omega))) (fun _ => ?_)
  refine v_iload_n dJ_pCheck_4 rfl ?_
  refine v_iload_n dJ_pCheck_5 rfl ?_
  refine v_icmp_lt 16 dJ_pCheck_6 (by decide) (fun _ => ?_) (fun z => absurd (nI_lt h hb) z)
  refine v_iload_n dJ_pCheck_16 rfl ?_
  exact v_iret dJ_pCheck_17 rfl ⟨rfl, rfl⟩
theorem cJ_checkIndex {a b : Nat} (h : a < b) (hb : b < 2 ^ 31) : Ct G YJ_checkIndex 1 0 0 [.int (nI a), .int (nI b)] M (Rv none M) NX := by
  refine Ct.of kJ_checkIndex.1 (Nat.le_of_ble_eq_true rfl) ?_
  refine v_iload_n dJ_checkIndex_0 rfl ?_
  refine v_iload_n dJ_checkIndex_1 rfl ?_
  refine v_gets dJ_checkIndex_2 fS_1053 (kS_f G) ?_
  refine v_cS [_, _, _] (cJ_pCheck G M h hb) kJ_pCheck dJ_checkIndex_5 lS_1059 rfl (Nat.le_of_ble_eq_true rfl) (Nat.le_of_ble_eq_true rfl) ?_
  refine v_pop dJ_checkIndex_8 rfl ?_
  exact v_vret dJ_checkIndex_9 rfl ⟨rfl, rfl⟩
theorem chr_n {x : Nat} (h : x < 128) : ((nI x &&& 255).toUInt32 % 65536).toInt32 = nI x := by
  have e : nI x &&& 255 = nI x := by
    have h1 : nI x &&& 255 = nI ((nI x).toBitVec.toNat % 2 ^ 8) := pk_and (nI x) 8 (by decide)
    rw [h1, pk_tn (by omega), Nat.mod_eq_of_lt (by omega)]
  rw [e, pk_char, pk_tn (by omega), Nat.mod_eq_of_lt (by omega)]
theorem cJ_lcharAt {k j : Nat} (hk : k < 30) (hj : j < stN k) : Ct G YJ_lcharAt 2 0 0 [.ref (70 + k), .int (nI j)] M (Rv (some (.int (stC k j))) M) NX := by
  obtain ⟨h1, h2⟩ := st_ok k hk
  obtain ⟨x, hx, ex⟩ := h2 j hj
  refine Ct.of kJ_lcharAt.1 (Nat.le_of_ble_eq_true rfl) ?_
  refine v_iload_n dJ_lcharAt_0 rfl ?_
  refine v_aload_n dJ_lcharAt_1 rfl ?_
  refine v_alenC dJ_lcharAt_2 (kS_t G hk) ?_
  refine v_cSv [_, _] (cJ_checkIndex G M hj (by omega)) kJ_checkIndex dJ_lcharAt_3 lT_9 rfl (Nat.le_of_ble_eq_true rfl) (Nat.le_of_ble_eq_true rfl) ?_
  refine v_aload_n dJ_lcharAt_6 rfl ?_
  refine v_iload_n dJ_lcharAt_7 rfl ?_
  refine v_baldC dJ_lcharAt_8 (kS_t G hk) (vp_in_nI hj (by omega)) ?_
  rw [nI_clamp (by omega), ex]
  refine v_sipush 255 dJ_lcharAt_9 (by decide) ?_
  refine v_iand dJ_lcharAt_12 ?_
  refine v_i2c dJ_lcharAt_13 ?_
  rw [chr_n hx]
  exact v_tret dJ_lcharAt_14 rfl (by have := pk_nc (nI x &&& 255); rw [chr_n hx] at this; exact this) ⟨rfl, rfl⟩
theorem cJ_charAt {k j : Nat} (hk : k < 30) (hj : j < stN k) : Ct G YJ_charAt 3 0 0 [.ref (40 + k), .int (nI j)] M (Rv (some (.int (stC k j))) M) NX := by
  obtain ⟨h1, h2⟩ := st_ok k hk
  obtain ⟨x, hx, ex⟩ := h2 j hj
  refine Ct.of kJ_charAt.1 (Nat.le_of_ble_eq_true rfl) ?_
  refine v_aload_n dJ_charAt_0 rfl ?_
  refine v_cVC [] (cJ_isLatin1 G M hk) kJ_isLatin1 dJ_charAt_1 lS_492 (kS_o G hk) rfl (Nat.le_of_ble_eq_true rfl) (Nat.le_of_ble_eq_true rfl) ?_
  refine v_if_eq 16 dJ_charAt_4 (by decide) (fun h => absurd h (by decide)) (fun _ => ?_)
  refine v_aload_n dJ_charAt_7 rfl ?_
  refine v_getC dJ_charAt_8 fS_9 (kS_v G hk) ?_
  refine v_iload_n dJ_charAt_11 rfl ?_
  refine v_cS [_, _] (cJ_lcharAt G M hk hj) kJ_lcharAt dJ_charAt_12 lS_495 rfl (Nat.le_of_ble_eq_true rfl) (Nat.le_of_ble_eq_true rfl) ?_
  rw [ex]
  exact v_tret dJ_charAt_15 rfl (by have := pk_nc (nI x &&& 255); rw [chr_n hx] at this; exact this) ⟨rfl, rfl⟩
/-- tokens: their statics, their texts -/
theorem kT_z {i : Nat} (hi : i < 33) {n : String} (hn : tkN.getD i "" = n) : ∀ s, KK G s → va_Z RX8 n "LLeastWords$Token;" (aV G (.ref i)) (fr G) s G.2.2.2.1 := fun s h => by
  subst hn
  show va_Z _ _ _ (.ref (al G i)) _ _ _
  rw [al_lt (by omega)]; exact (h.en.1 i hi).1
theorem kT_x {i : Nat} (hi : i < 33) : ∀ s, KK G s → va_OF RX8 "text" "Ljava/lang/String;" (aV G (.ref (40 + Nat.min i 29))) (al G i) (fr G) s G.2.2.2.1 := fun s h => by
  have : Nat.min i 29 ≤ 29 := Nat.min_le_right _ _
  show va_OF _ _ _ (.ref (al G (40 + Nat.min i 29))) _ _ _ _
  rw [al_lt (show i < 100 by omega), al_lt (show 40 + Nat.min i 29 < 100 by omega)]; exact (h.en.1 i hi).2.2
theorem kT_o {i : Nat} (hi : i < 33) : ∀ s, KK G s → va_O RX8 (al G i) (fr G) s G.2.2.2.1 := fun s h => by rw [al_lt (by omega)]; exact (h.en.1 i hi).2.1
theorem kT_a : ∀ s, KK G s → va_Z RX8 "ALL" "[LLeastWords$Token;" (aV G (.ref 33)) (fr G) s G.2.2.2.1 := fun s h => by
  show va_Z _ _ _ (.ref (al G 33)) _ _ _
  rw [al_lt (by omega)]; exact h.en.2.2.1.1
theorem kT_t : ∀ s, KK G s → va_T (.object RX8) (al G 33) 33 (fun j => .ref (ad G j)) (fr G) s G.2.2.2.1 := fun s h => by rw [al_lt (by omega)]; exact h.en.2.2.1.2
theorem kT_i {i j : Nat} (hi : i < 33) (hj : j < 33) : ∀ s, KK G s → al G i = al G j → i = j := fun s h e => by
  rw [al_lt (by omega), al_lt (by omega)] at e
  exact h.en.2.2.2.2.1 i j hi hj e
end VT2

