abbrev b_Str_length : ByteArray := prog_23_method_54_code
def y_Str_length : MethodName := ⟨"java/lang/String", "length", "()I"⟩
set_option maxRecDepth 20000 in
theorem Y_Str_length : gh_Y y_Str_length b_Str_length 1 (some .int) 0 := ⟨gt_in (i := 301) rfl rfl, gt_in (i := 19) (by decide +kernel) rfl, by decide +kernel, by decide +kernel, by decide +kernel⟩
theorem V_Str_length : Cond.instanceMethod y_Str_length ∈ gTbl ∧ Cond.selects y_Str_length.cls y_Str_length y_Str_length ∈ gTbl := ⟨(gt_in (i := 299) (by decide +kernel) rfl), (gt_in (i := 300) (by decide +kernel) rfl)⟩
theorem d_Str_length_0 : decode b_Str_length 0 = .ok (.aload_n 0, 1) := by decide +kernel
theorem d_Str_length_1 : decode b_Str_length 1 = .ok (.getfield 9, 3) := by decide +kernel
theorem d_Str_length_4 : decode b_Str_length 4 = .ok (.arraylength, 1) := by decide +kernel
theorem d_Str_length_5 : decode b_Str_length 5 = .ok (.aload_n 0, 1) := by decide +kernel
theorem d_Str_length_6 : decode b_Str_length 6 = .ok (.invokevirtual 335, 3) := by decide +kernel
theorem d_Str_length_9 : decode b_Str_length 9 = .ok (.ishr, 1) := by decide +kernel
theorem d_Str_length_10 : decode b_Str_length 10 = .ok (.ireturn, 1) := by decide +kernel
abbrev b_Str_coder : ByteArray := prog_23_method_152_code
def y_Str_coder : MethodName := ⟨"java/lang/String", "coder", "()B"⟩
set_option maxRecDepth 20000 in
theorem Y_Str_coder : gh_Y y_Str_coder b_Str_coder 1 (some .byte) 0 := ⟨gt_in (i := 305) rfl rfl, gt_in (i := 19) (by decide +kernel) rfl, by decide +kernel, by decide +kernel, by decide +kernel⟩
theorem V_Str_coder : Cond.instanceMethod y_Str_coder ∈ gTbl ∧ Cond.selects y_Str_coder.cls y_Str_coder y_Str_coder ∈ gTbl := ⟨(gt_in (i := 303) (by decide +kernel) rfl), (gt_in (i := 304) (by decide +kernel) rfl)⟩
theorem d_Str_coder_0 : decode b_Str_coder 0 = .ok (.getstatic 38, 3) := by decide +kernel
theorem d_Str_coder_3 : decode b_Str_coder 3 = .ok (.ifCond .eq 10, 3) := by decide +kernel
theorem d_Str_coder_6 : decode b_Str_coder 6 = .ok (.aload_n 0, 1) := by decide +kernel
theorem d_Str_coder_7 : decode b_Str_coder 7 = .ok (.getfield 15, 3) := by decide +kernel
theorem d_Str_coder_10 : decode b_Str_coder 10 = .ok (.goto 4, 3) := by decide +kernel
theorem d_Str_coder_13 : decode b_Str_coder 13 = .ok (.iconst 1, 1) := by decide +kernel
theorem d_Str_coder_14 : decode b_Str_coder 14 = .ok (.ireturn, 1) := by decide +kernel
abbrev b_Str_charAt : ByteArray := prog_23_method_56_code
def y_Str_charAt : MethodName := ⟨"java/lang/String", "charAt", "(I)C"⟩
set_option maxRecDepth 20000 in
theorem Y_Str_charAt : gh_Y y_Str_charAt b_Str_charAt 2 (some .char) 1 := ⟨gt_in (i := 311) rfl rfl, gt_in (i := 19) (by decide +kernel) rfl, by decide +kernel, by decide +kernel, by decide +kernel⟩
theorem V_Str_charAt : Cond.instanceMethod y_Str_charAt ∈ gTbl ∧ Cond.selects y_Str_charAt.cls y_Str_charAt y_Str_charAt ∈ gTbl := ⟨(gt_in (i := 309) (by decide +kernel) rfl), (gt_in (i := 310) (by decide +kernel) rfl)⟩
theorem d_Str_charAt_0 : decode b_Str_charAt 0 = .ok (.aload_n 0, 1) := by decide +kernel
theorem d_Str_charAt_1 : decode b_Str_charAt 1 = .ok (.invokevirtual 492, 3) := by decide +kernel
theorem d_Str_charAt_4 : decode b_Str_charAt 4 = .ok (.ifCond .eq 12, 3) := by decide +kernel
theorem d_Str_charAt_7 : decode b_Str_charAt 7 = .ok (.aload_n 0, 1) := by decide +kernel
theorem d_Str_charAt_8 : decode b_Str_charAt 8 = .ok (.getfield 9, 3) := by decide +kernel
theorem d_Str_charAt_11 : decode b_Str_charAt 11 = .ok (.iload_n 1, 1) := by decide +kernel
theorem d_Str_charAt_12 : decode b_Str_charAt 12 = .ok (.invokestatic 495, 3) := by decide +kernel
theorem d_Str_charAt_15 : decode b_Str_charAt 15 = .ok (.ireturn, 1) := by decide +kernel
theorem d_Str_charAt_16 : decode b_Str_charAt 16 = .ok (.aload_n 0, 1) := by decide +kernel
theorem d_Str_charAt_17 : decode b_Str_charAt 17 = .ok (.getfield 9, 3) := by decide +kernel
theorem d_Str_charAt_20 : decode b_Str_charAt 20 = .ok (.iload_n 1, 1) := by decide +kernel
theorem d_Str_charAt_21 : decode b_Str_charAt 21 = .ok (.invokestatic 498, 3) := by decide +kernel
theorem d_Str_charAt_24 : decode b_Str_charAt 24 = .ok (.ireturn, 1) := by decide +kernel
abbrev b_Str_isLatin1 : ByteArray := prog_23_method_154_code
def y_Str_isLatin1 : MethodName := ⟨"java/lang/String", "isLatin1", "()Z"⟩
set_option maxRecDepth 20000 in
theorem Y_Str_isLatin1 : gh_Y y_Str_isLatin1 b_Str_isLatin1 1 (some .boolean) 0 := ⟨gt_in (i := 315) rfl rfl, gt_in (i := 19) (by decide +kernel) rfl, by decide +kernel, by decide +kernel, by decide +kernel⟩
theorem V_Str_isLatin1 : Cond.instanceMethod y_Str_isLatin1 ∈ gTbl ∧ Cond.selects y_Str_isLatin1.cls y_Str_isLatin1 y_Str_isLatin1 ∈ gTbl := ⟨(gt_in (i := 313) (by decide +kernel) rfl), (gt_in (i := 314) (by decide +kernel) rfl)⟩
theorem d_Str_isLatin1_0 : decode b_Str_isLatin1 0 = .ok (.getstatic 38, 3) := by decide +kernel
theorem d_Str_isLatin1_3 : decode b_Str_isLatin1 3 = .ok (.ifCond .eq 14, 3) := by decide +kernel
theorem d_Str_isLatin1_6 : decode b_Str_isLatin1 6 = .ok (.aload_n 0, 1) := by decide +kernel
theorem d_Str_isLatin1_7 : decode b_Str_isLatin1 7 = .ok (.getfield 15, 3) := by decide +kernel
theorem d_Str_isLatin1_10 : decode b_Str_isLatin1 10 = .ok (.ifCond .ne 7, 3) := by decide +kernel
theorem d_Str_isLatin1_13 : decode b_Str_isLatin1 13 = .ok (.iconst 1, 1) := by decide +kernel
theorem d_Str_isLatin1_14 : decode b_Str_isLatin1 14 = .ok (.goto 4, 3) := by decide +kernel
theorem d_Str_isLatin1_17 : decode b_Str_isLatin1 17 = .ok (.iconst 0, 1) := by decide +kernel
theorem d_Str_isLatin1_18 : decode b_Str_isLatin1 18 = .ok (.ireturn, 1) := by decide +kernel
abbrev b_Str_checkIndex : ByteArray := prog_23_method_155_code
def y_Str_checkIndex : MethodName := ⟨"java/lang/String", "checkIndex", "(II)V"⟩
set_option maxRecDepth 20000 in
theorem Y_Str_checkIndex : gh_Y y_Str_checkIndex b_Str_checkIndex 2 none 2 := ⟨gt_in (i := 321) rfl rfl, gt_in (i := 19) (by decide +kernel) rfl, by decide +kernel, by decide +kernel, by decide +kernel⟩
theorem V_Str_checkIndex : Cond.static y_Str_checkIndex ∈ gTbl := (gt_in (i := 320) (by decide +kernel) rfl)
theorem d_Str_checkIndex_0 : decode b_Str_checkIndex 0 = .ok (.iload_n 0, 1) := by decide +kernel
theorem d_Str_checkIndex_1 : decode b_Str_checkIndex 1 = .ok (.iload_n 1, 1) := by decide +kernel
theorem d_Str_checkIndex_2 : decode b_Str_checkIndex 2 = .ok (.getstatic 1053, 3) := by decide +kernel
theorem d_Str_checkIndex_5 : decode b_Str_checkIndex 5 = .ok (.invokestatic 1059, 3) := by decide +kernel
theorem d_Str_checkIndex_8 : decode b_Str_checkIndex 8 = .ok (.pop, 1) := by decide +kernel
theorem d_Str_checkIndex_9 : decode b_Str_checkIndex 9 = .ok (.return_, 1) := by decide +kernel
theorem kf_Str_9 : Cond.fieldLink "java/lang/String" 9 "java/lang/String" "value" "[B" ∈ gTbl := (gt_in (i := 713) (by decide +kernel) rfl)
theorem kf_Str_15 : Cond.fieldLink "java/lang/String" 15 "java/lang/String" "coder" "B" ∈ gTbl := (gt_in (i := 714) (by decide +kernel) rfl)
theorem kf_Str_38 : Cond.fieldLink "java/lang/String" 38 "java/lang/String" "COMPACT_STRINGS" "Z" ∈ gTbl := (gt_in (i := 306) (by decide +kernel) rfl)
theorem kf_Str_1053 : Cond.fieldLink "java/lang/String" 1053 "jdk/internal/util/Preconditions" "SIOOBE_FORMATTER" "Ljava/util/function/BiFunction;" ∈ gTbl := (gt_in (i := 322) (by decide +kernel) rfl)
theorem km_Str_335 : Cond.methodLink "java/lang/String" 335 ⟨"java/lang/String", "coder", "()B"⟩ ∈ gTbl := (gt_in (i := 302) (by decide +kernel) rfl)
theorem km_Str_492 : Cond.methodLink "java/lang/String" 492 ⟨"java/lang/String", "isLatin1", "()Z"⟩ ∈ gTbl := (gt_in (i := 312) (by decide +kernel) rfl)
theorem km_Str_495 : Cond.methodLink "java/lang/String" 495 ⟨"java/lang/StringLatin1", "charAt", "([BI)C"⟩ ∈ gTbl := (gt_in (i := 316) (by decide +kernel) rfl)
theorem km_Str_498 : Cond.methodLink "java/lang/String" 498 ⟨"java/lang/StringUTF16", "charAt", "([BI)C"⟩ ∈ gTbl := (gt_in (i := 327) (by decide +kernel) rfl)
theorem km_Str_1059 : Cond.methodLink "java/lang/String" 1059 ⟨"jdk/internal/util/Preconditions", "checkIndex", "(IILjava/util/function/BiFunction;)I"⟩ ∈ gTbl := (gt_in (i := 324) (by decide +kernel) rfl)
abbrev b_SL1_charAt : ByteArray := prog_25_method_2_code
def y_SL1_charAt : MethodName := ⟨"java/lang/StringLatin1", "charAt", "([BI)C"⟩
set_option maxRecDepth 20000 in
theorem Y_SL1_charAt : gh_Y y_SL1_charAt b_SL1_charAt 2 (some .char) 2 := ⟨gt_in (i := 318) rfl rfl, gt_in (i := 20) (by decide +kernel) rfl, by decide +kernel, by decide +kernel, by decide +kernel⟩
theorem V_SL1_charAt : Cond.static y_SL1_charAt ∈ gTbl := (gt_in (i := 317) (by decide +kernel) rfl)
theorem d_SL1_charAt_0 : decode b_SL1_charAt 0 = .ok (.iload_n 1, 1) := by decide +kernel
theorem d_SL1_charAt_1 : decode b_SL1_charAt 1 = .ok (.aload_n 0, 1) := by decide +kernel
theorem d_SL1_charAt_2 : decode b_SL1_charAt 2 = .ok (.arraylength, 1) := by decide +kernel
theorem d_SL1_charAt_3 : decode b_SL1_charAt 3 = .ok (.invokestatic 9, 3) := by decide +kernel
theorem d_SL1_charAt_6 : decode b_SL1_charAt 6 = .ok (.aload_n 0, 1) := by decide +kernel
theorem d_SL1_charAt_7 : decode b_SL1_charAt 7 = .ok (.iload_n 1, 1) := by decide +kernel
theorem d_SL1_charAt_8 : decode b_SL1_charAt 8 = .ok (.baload, 1) := by decide +kernel
theorem d_SL1_charAt_9 : decode b_SL1_charAt 9 = .ok (.sipush 255, 3) := by decide +kernel
theorem d_SL1_charAt_12 : decode b_SL1_charAt 12 = .ok (.iand, 1) := by decide +kernel
theorem d_SL1_charAt_13 : decode b_SL1_charAt 13 = .ok (.i2c, 1) := by decide +kernel
theorem d_SL1_charAt_14 : decode b_SL1_charAt 14 = .ok (.ireturn, 1) := by decide +kernel
theorem km_SL1_9 : Cond.methodLink "java/lang/StringLatin1" 9 ⟨"java/lang/String", "checkIndex", "(II)V"⟩ ∈ gTbl := (gt_in (i := 319) (by decide +kernel) rfl)
abbrev b_Pre_checkIndex : ByteArray := prog_39_method_11_code
def y_Pre_checkIndex : MethodName := ⟨"jdk/internal/util/Preconditions", "checkIndex", "(IILjava/util/function/BiFunction;)I"⟩
set_option maxRecDepth 20000 in
theorem Y_Pre_checkIndex : gh_Y y_Pre_checkIndex b_Pre_checkIndex 3 (some .int) 3 := ⟨gt_in (i := 326) rfl rfl, gt_in (i := 21) (by decide +kernel) rfl, by decide +kernel, by decide +kernel, by decide +kernel⟩
theorem V_Pre_checkIndex : Cond.static y_Pre_checkIndex ∈ gTbl := (gt_in (i := 325) (by decide +kernel) rfl)
theorem d_Pre_checkIndex_0 : decode b_Pre_checkIndex 0 = .ok (.iload_n 0, 1) := by decide +kernel
theorem d_Pre_checkIndex_1 : decode b_Pre_checkIndex 1 = .ok (.ifCond .lt 8, 3) := by decide +kernel
theorem d_Pre_checkIndex_4 : decode b_Pre_checkIndex 4 = .ok (.iload_n 0, 1) := by decide +kernel
theorem d_Pre_checkIndex_5 : decode b_Pre_checkIndex 5 = .ok (.iload_n 1, 1) := by decide +kernel
theorem d_Pre_checkIndex_6 : decode b_Pre_checkIndex 6 = .ok (.if_icmp .lt 10, 3) := by decide +kernel
theorem d_Pre_checkIndex_9 : decode b_Pre_checkIndex 9 = .ok (.aload_n 2, 1) := by decide +kernel
theorem d_Pre_checkIndex_10 : decode b_Pre_checkIndex 10 = .ok (.iload_n 0, 1) := by decide +kernel
theorem d_Pre_checkIndex_11 : decode b_Pre_checkIndex 11 = .ok (.iload_n 1, 1) := by decide +kernel
theorem d_Pre_checkIndex_12 : decode b_Pre_checkIndex 12 = .ok (.invokestatic 95, 3) := by decide +kernel
theorem d_Pre_checkIndex_15 : decode b_Pre_checkIndex 15 = .ok (.athrow, 1) := by decide +kernel
theorem d_Pre_checkIndex_16 : decode b_Pre_checkIndex 16 = .ok (.iload_n 0, 1) := by decide +kernel
theorem d_Pre_checkIndex_17 : decode b_Pre_checkIndex 17 = .ok (.ireturn, 1) := by decide +kernel
