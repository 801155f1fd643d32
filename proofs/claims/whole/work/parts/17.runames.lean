abbrev b_Ru_init : ByteArray := prog_7_method_1_code
def y_Ru_init : MethodName := ⟨"SpellDesk$Rule", "<init>", "(ZILSpellDesk$Letters;LSpellDesk$Letters;LSpellDesk$Letters;)V"⟩
set_option maxRecDepth 20000 in
theorem Y_Ru_init : gh_Y y_Ru_init b_Ru_init 6 none 5 := ⟨gt_in (i := 153) rfl rfl, gt_in (i := 11) (by decide +kernel) rfl, by decide +kernel, by decide +kernel, by decide +kernel⟩
theorem V_Ru_init : Cond.instanceMethod y_Ru_init ∈ gTbl := (gt_in (i := 152) (by decide +kernel) rfl)
theorem d_Ru_init_0 : decode b_Ru_init 0 = .ok (.aload_n 0, 1) := by decide +kernel
theorem d_Ru_init_1 : decode b_Ru_init 1 = .ok (.invokespecial 3, 3) := by decide +kernel
theorem d_Ru_init_4 : decode b_Ru_init 4 = .ok (.aload_n 0, 1) := by decide +kernel
theorem d_Ru_init_5 : decode b_Ru_init 5 = .ok (.iload_n 1, 1) := by decide +kernel
theorem d_Ru_init_6 : decode b_Ru_init 6 = .ok (.putfield 9, 3) := by decide +kernel
theorem d_Ru_init_9 : decode b_Ru_init 9 = .ok (.aload_n 0, 1) := by decide +kernel
theorem d_Ru_init_10 : decode b_Ru_init 10 = .ok (.iload_n 2, 1) := by decide +kernel
theorem d_Ru_init_11 : decode b_Ru_init 11 = .ok (.putfield 15, 3) := by decide +kernel
theorem d_Ru_init_14 : decode b_Ru_init 14 = .ok (.aload_n 0, 1) := by decide +kernel
theorem d_Ru_init_15 : decode b_Ru_init 15 = .ok (.aload_n 3, 1) := by decide +kernel
theorem d_Ru_init_16 : decode b_Ru_init 16 = .ok (.putfield 19, 3) := by decide +kernel
theorem d_Ru_init_19 : decode b_Ru_init 19 = .ok (.aload_n 0, 1) := by decide +kernel
theorem d_Ru_init_20 : decode b_Ru_init 20 = .ok (.aload 4, 2) := by decide +kernel
theorem d_Ru_init_22 : decode b_Ru_init 22 = .ok (.putfield 23, 3) := by decide +kernel
theorem d_Ru_init_25 : decode b_Ru_init 25 = .ok (.aload_n 0, 1) := by decide +kernel
theorem d_Ru_init_26 : decode b_Ru_init 26 = .ok (.aload 5, 2) := by decide +kernel
theorem d_Ru_init_28 : decode b_Ru_init 28 = .ok (.putfield 26, 3) := by decide +kernel
theorem d_Ru_init_31 : decode b_Ru_init 31 = .ok (.return_, 1) := by decide +kernel
abbrev b_Ru_addStands : ByteArray := prog_7_method_3_code
def y_Ru_addStands : MethodName := ⟨"SpellDesk$Rule", "addStands", "(LSpellDesk$Letters;II)Z"⟩
set_option maxRecDepth 20000 in
theorem Y_Ru_addStands : gh_Y y_Ru_addStands b_Ru_addStands 4 (some .boolean) 3 := ⟨gt_in (i := 920) rfl rfl, gt_in (i := 11) (by decide +kernel) rfl, by decide +kernel, by decide +kernel, by decide +kernel⟩
theorem V_Ru_addStands : Cond.instanceMethod y_Ru_addStands ∈ gTbl ∧ Cond.selects y_Ru_addStands.cls y_Ru_addStands y_Ru_addStands ∈ gTbl := ⟨(gt_in (i := 918) (by decide +kernel) rfl), (gt_in (i := 919) (by decide +kernel) rfl)⟩
theorem d_Ru_addStands_0 : decode b_Ru_addStands 0 = .ok (.aload_n 0, 1) := by decide +kernel
theorem d_Ru_addStands_1 : decode b_Ru_addStands 1 = .ok (.aload_n 0, 1) := by decide +kernel
theorem d_Ru_addStands_2 : decode b_Ru_addStands 2 = .ok (.getfield 23, 3) := by decide +kernel
theorem d_Ru_addStands_5 : decode b_Ru_addStands 5 = .ok (.aload_n 1, 1) := by decide +kernel
theorem d_Ru_addStands_6 : decode b_Ru_addStands 6 = .ok (.iload_n 2, 1) := by decide +kernel
theorem d_Ru_addStands_7 : decode b_Ru_addStands 7 = .ok (.iload_n 3, 1) := by decide +kernel
theorem d_Ru_addStands_8 : decode b_Ru_addStands 8 = .ok (.invokevirtual 43, 3) := by decide +kernel
theorem d_Ru_addStands_11 : decode b_Ru_addStands 11 = .ok (.ireturn, 1) := by decide +kernel
abbrev b_Ru_stands : ByteArray := prog_7_method_4_code
def y_Ru_stands : MethodName := ⟨"SpellDesk$Rule", "stands", "(LSpellDesk$Letters;LSpellDesk$Letters;II)Z"⟩
set_option maxRecDepth 20000 in
theorem Y_Ru_stands : gh_Y y_Ru_stands b_Ru_stands 9 (some .boolean) 4 := ⟨gt_in (i := 924) rfl rfl, gt_in (i := 11) (by decide +kernel) rfl, by decide +kernel, by decide +kernel, by decide +kernel⟩
theorem V_Ru_stands : Cond.instanceMethod y_Ru_stands ∈ gTbl ∧ Cond.selects y_Ru_stands.cls y_Ru_stands y_Ru_stands ∈ gTbl := ⟨(gt_in (i := 923) (by decide +kernel) rfl), (gt_sel (n := 5) (i := 14) (by decide +kernel))⟩
theorem d_Ru_stands_0 : decode b_Ru_stands 0 = .ok (.aload_n 1, 1) := by decide +kernel
theorem d_Ru_stands_1 : decode b_Ru_stands 1 = .ok (.invokevirtual 34, 3) := by decide +kernel
theorem d_Ru_stands_4 : decode b_Ru_stands 4 = .ok (.istore 5, 2) := by decide +kernel
theorem d_Ru_stands_6 : decode b_Ru_stands 6 = .ok (.iload 5, 2) := by decide +kernel
theorem d_Ru_stands_8 : decode b_Ru_stands 8 = .ok (.iload 4, 2) := by decide +kernel
theorem d_Ru_stands_10 : decode b_Ru_stands 10 = .ok (.if_icmp .le 5, 3) := by decide +kernel
theorem d_Ru_stands_13 : decode b_Ru_stands 13 = .ok (.iconst 0, 1) := by decide +kernel
theorem d_Ru_stands_14 : decode b_Ru_stands 14 = .ok (.ireturn, 1) := by decide +kernel
theorem d_Ru_stands_15 : decode b_Ru_stands 15 = .ok (.aload_n 0, 1) := by decide +kernel
theorem d_Ru_stands_16 : decode b_Ru_stands 16 = .ok (.getfield 9, 3) := by decide +kernel
theorem d_Ru_stands_19 : decode b_Ru_stands 19 = .ok (.ifCond .eq 7, 3) := by decide +kernel
theorem d_Ru_stands_22 : decode b_Ru_stands 22 = .ok (.iload_n 3, 1) := by decide +kernel
theorem d_Ru_stands_23 : decode b_Ru_stands 23 = .ok (.goto 10, 3) := by decide +kernel
theorem d_Ru_stands_26 : decode b_Ru_stands 26 = .ok (.iload_n 3, 1) := by decide +kernel
theorem d_Ru_stands_27 : decode b_Ru_stands 27 = .ok (.iload 4, 2) := by decide +kernel
theorem d_Ru_stands_29 : decode b_Ru_stands 29 = .ok (.iadd, 1) := by decide +kernel
theorem d_Ru_stands_30 : decode b_Ru_stands 30 = .ok (.iload 5, 2) := by decide +kernel
theorem d_Ru_stands_32 : decode b_Ru_stands 32 = .ok (.isub, 1) := by decide +kernel
theorem d_Ru_stands_33 : decode b_Ru_stands 33 = .ok (.istore 6, 2) := by decide +kernel
theorem d_Ru_stands_35 : decode b_Ru_stands 35 = .ok (.iconst 0, 1) := by decide +kernel
theorem d_Ru_stands_36 : decode b_Ru_stands 36 = .ok (.istore 7, 2) := by decide +kernel
theorem d_Ru_stands_38 : decode b_Ru_stands 38 = .ok (.iload 7, 2) := by decide +kernel
theorem d_Ru_stands_40 : decode b_Ru_stands 40 = .ok (.iload 5, 2) := by decide +kernel
theorem d_Ru_stands_42 : decode b_Ru_stands 42 = .ok (.if_icmp .ge 40, 3) := by decide +kernel
theorem d_Ru_stands_45 : decode b_Ru_stands 45 = .ok (.aload_n 1, 1) := by decide +kernel
theorem d_Ru_stands_46 : decode b_Ru_stands 46 = .ok (.iload 7, 2) := by decide +kernel
theorem d_Ru_stands_48 : decode b_Ru_stands 48 = .ok (.invokevirtual 47, 3) := by decide +kernel
theorem d_Ru_stands_51 : decode b_Ru_stands 51 = .ok (.istore 8, 2) := by decide +kernel
theorem d_Ru_stands_53 : decode b_Ru_stands 53 = .ok (.iload 8, 2) := by decide +kernel
theorem d_Ru_stands_55 : decode b_Ru_stands 55 = .ok (.bipush 46, 2) := by decide +kernel
theorem d_Ru_stands_57 : decode b_Ru_stands 57 = .ok (.if_icmp .eq 19, 3) := by decide +kernel
theorem d_Ru_stands_60 : decode b_Ru_stands 60 = .ok (.iload 8, 2) := by decide +kernel
theorem d_Ru_stands_62 : decode b_Ru_stands 62 = .ok (.aload_n 2, 1) := by decide +kernel
theorem d_Ru_stands_63 : decode b_Ru_stands 63 = .ok (.iload 6, 2) := by decide +kernel
theorem d_Ru_stands_65 : decode b_Ru_stands 65 = .ok (.iload 7, 2) := by decide +kernel
theorem d_Ru_stands_67 : decode b_Ru_stands 67 = .ok (.iadd, 1) := by decide +kernel
theorem d_Ru_stands_68 : decode b_Ru_stands 68 = .ok (.invokevirtual 47, 3) := by decide +kernel
theorem d_Ru_stands_71 : decode b_Ru_stands 71 = .ok (.if_icmp .eq 5, 3) := by decide +kernel
theorem d_Ru_stands_74 : decode b_Ru_stands 74 = .ok (.iconst 0, 1) := by decide +kernel
theorem d_Ru_stands_75 : decode b_Ru_stands 75 = .ok (.ireturn, 1) := by decide +kernel
theorem d_Ru_stands_76 : decode b_Ru_stands 76 = .ok (.iinc 7 1, 3) := by decide +kernel
theorem d_Ru_stands_79 : decode b_Ru_stands 79 = .ok (.goto (-41), 3) := by decide +kernel
theorem d_Ru_stands_82 : decode b_Ru_stands 82 = .ok (.iconst 1, 1) := by decide +kernel
theorem d_Ru_stands_83 : decode b_Ru_stands 83 = .ok (.ireturn, 1) := by decide +kernel
abbrev b_Ru_goesWith : ByteArray := prog_7_method_2_code
def y_Ru_goesWith : MethodName := ⟨"SpellDesk$Rule", "goesWith", "(LSpellDesk$Entry;)Z"⟩
set_option maxRecDepth 20000 in
theorem Y_Ru_goesWith : gh_Y y_Ru_goesWith b_Ru_goesWith 3 (some .boolean) 1 := ⟨gt_in (i := 945) rfl rfl, gt_in (i := 11) (by decide +kernel) rfl, by decide +kernel, by decide +kernel, by decide +kernel⟩
theorem V_Ru_goesWith : Cond.instanceMethod y_Ru_goesWith ∈ gTbl ∧ Cond.selects y_Ru_goesWith.cls y_Ru_goesWith y_Ru_goesWith ∈ gTbl := ⟨(gt_in (i := 943) (by decide +kernel) rfl), (gt_in (i := 944) (by decide +kernel) rfl)⟩
theorem d_Ru_goesWith_0 : decode b_Ru_goesWith 0 = .ok (.aload_n 1, 1) := by decide +kernel
theorem d_Ru_goesWith_1 : decode b_Ru_goesWith 1 = .ok (.getfield 29, 3) := by decide +kernel
theorem d_Ru_goesWith_4 : decode b_Ru_goesWith 4 = .ok (.invokevirtual 34, 3) := by decide +kernel
theorem d_Ru_goesWith_7 : decode b_Ru_goesWith 7 = .ok (.istore_n 2, 1) := by decide +kernel
theorem d_Ru_goesWith_8 : decode b_Ru_goesWith 8 = .ok (.aload_n 1, 1) := by decide +kernel
theorem d_Ru_goesWith_9 : decode b_Ru_goesWith 9 = .ok (.getfield 40, 3) := by decide +kernel
theorem d_Ru_goesWith_12 : decode b_Ru_goesWith 12 = .ok (.aload_n 0, 1) := by decide +kernel
theorem d_Ru_goesWith_13 : decode b_Ru_goesWith 13 = .ok (.getfield 15, 3) := by decide +kernel
theorem d_Ru_goesWith_16 : decode b_Ru_goesWith 16 = .ok (.iand, 1) := by decide +kernel
theorem d_Ru_goesWith_17 : decode b_Ru_goesWith 17 = .ok (.aload_n 0, 1) := by decide +kernel
theorem d_Ru_goesWith_18 : decode b_Ru_goesWith 18 = .ok (.getfield 15, 3) := by decide +kernel
theorem d_Ru_goesWith_21 : decode b_Ru_goesWith 21 = .ok (.if_icmp .ne 41, 3) := by decide +kernel
theorem d_Ru_goesWith_24 : decode b_Ru_goesWith 24 = .ok (.aload_n 0, 1) := by decide +kernel
theorem d_Ru_goesWith_25 : decode b_Ru_goesWith 25 = .ok (.aload_n 0, 1) := by decide +kernel
theorem d_Ru_goesWith_26 : decode b_Ru_goesWith 26 = .ok (.getfield 19, 3) := by decide +kernel
theorem d_Ru_goesWith_29 : decode b_Ru_goesWith 29 = .ok (.aload_n 1, 1) := by decide +kernel
theorem d_Ru_goesWith_30 : decode b_Ru_goesWith 30 = .ok (.getfield 29, 3) := by decide +kernel
theorem d_Ru_goesWith_33 : decode b_Ru_goesWith 33 = .ok (.iconst 0, 1) := by decide +kernel
theorem d_Ru_goesWith_34 : decode b_Ru_goesWith 34 = .ok (.iload_n 2, 1) := by decide +kernel
theorem d_Ru_goesWith_35 : decode b_Ru_goesWith 35 = .ok (.invokevirtual 43, 3) := by decide +kernel
theorem d_Ru_goesWith_38 : decode b_Ru_goesWith 38 = .ok (.ifCond .eq 24, 3) := by decide +kernel
theorem d_Ru_goesWith_41 : decode b_Ru_goesWith 41 = .ok (.aload_n 0, 1) := by decide +kernel
theorem d_Ru_goesWith_42 : decode b_Ru_goesWith 42 = .ok (.aload_n 0, 1) := by decide +kernel
theorem d_Ru_goesWith_43 : decode b_Ru_goesWith 43 = .ok (.getfield 26, 3) := by decide +kernel
theorem d_Ru_goesWith_46 : decode b_Ru_goesWith 46 = .ok (.aload_n 1, 1) := by decide +kernel
theorem d_Ru_goesWith_47 : decode b_Ru_goesWith 47 = .ok (.getfield 29, 3) := by decide +kernel
theorem d_Ru_goesWith_50 : decode b_Ru_goesWith 50 = .ok (.iconst 0, 1) := by decide +kernel
theorem d_Ru_goesWith_51 : decode b_Ru_goesWith 51 = .ok (.iload_n 2, 1) := by decide +kernel
theorem d_Ru_goesWith_52 : decode b_Ru_goesWith 52 = .ok (.invokevirtual 43, 3) := by decide +kernel
theorem d_Ru_goesWith_55 : decode b_Ru_goesWith 55 = .ok (.ifCond .eq 7, 3) := by decide +kernel
theorem d_Ru_goesWith_58 : decode b_Ru_goesWith 58 = .ok (.iconst 1, 1) := by decide +kernel
theorem d_Ru_goesWith_59 : decode b_Ru_goesWith 59 = .ok (.goto 4, 3) := by decide +kernel
theorem d_Ru_goesWith_62 : decode b_Ru_goesWith 62 = .ok (.iconst 0, 1) := by decide +kernel
theorem d_Ru_goesWith_63 : decode b_Ru_goesWith 63 = .ok (.ireturn, 1) := by decide +kernel
theorem kf_Ru_9 : Cond.fieldLink "SpellDesk$Rule" 9 "SpellDesk$Rule" "atFront" "Z" ∈ gTbl := (gt_in (i := 155) (by decide +kernel) rfl)
theorem kf_Ru_15 : Cond.fieldLink "SpellDesk$Rule" 15 "SpellDesk$Rule" "flag" "I" ∈ gTbl := (gt_in (i := 156) (by decide +kernel) rfl)
theorem kf_Ru_19 : Cond.fieldLink "SpellDesk$Rule" 19 "SpellDesk$Rule" "strip" "LSpellDesk$Letters;" ∈ gTbl := (gt_in (i := 157) (by decide +kernel) rfl)
theorem kf_Ru_23 : Cond.fieldLink "SpellDesk$Rule" 23 "SpellDesk$Rule" "add" "LSpellDesk$Letters;" ∈ gTbl := (gt_in (i := 159) (by decide +kernel) rfl)
theorem kf_Ru_26 : Cond.fieldLink "SpellDesk$Rule" 26 "SpellDesk$Rule" "condition" "LSpellDesk$Letters;" ∈ gTbl := (gt_in (i := 161) (by decide +kernel) rfl)
theorem kf_Ru_29 : Cond.fieldLink "SpellDesk$Rule" 29 "SpellDesk$Entry" "word" "LSpellDesk$Letters;" ∈ gTbl := (gt_in (i := 442) (by decide +kernel) rfl)
theorem kf_Ru_40 : Cond.fieldLink "SpellDesk$Rule" 40 "SpellDesk$Entry" "flags" "I" ∈ gTbl := (gt_in (i := 447) (by decide +kernel) rfl)
theorem km_Ru_3 : Cond.methodLink "SpellDesk$Rule" 3 ⟨"java/lang/Object", "<init>", "()V"⟩ ∈ gTbl := (gt_in (i := 154) (by decide +kernel) rfl)
theorem km_Ru_34 : Cond.methodLink "SpellDesk$Rule" 34 ⟨"SpellDesk$Letters", "count", "()I"⟩ ∈ gTbl := (gt_in (i := 925) (by decide +kernel) rfl)
theorem km_Ru_43 : Cond.methodLink "SpellDesk$Rule" 43 ⟨"SpellDesk$Rule", "stands", "(LSpellDesk$Letters;LSpellDesk$Letters;II)Z"⟩ ∈ gTbl := (gt_in (i := 921) (by decide +kernel) rfl)
theorem km_Ru_47 : Cond.methodLink "SpellDesk$Rule" 47 ⟨"SpellDesk$Letters", "at", "(I)C"⟩ ∈ gTbl := (gt_in (i := 926) (by decide +kernel) rfl)
abbrev b_Rs_init : ByteArray := prog_8_method_1_code
def y_Rs_init : MethodName := ⟨"SpellDesk$RuleList", "<init>", "(Z)V"⟩
set_option maxRecDepth 20000 in
theorem Y_Rs_init : gh_Y y_Rs_init b_Rs_init 3 none 1 := ⟨gt_in (i := 143) rfl rfl, gt_in (i := 10) (by decide +kernel) rfl, by decide +kernel, by decide +kernel, by decide +kernel⟩
theorem V_Rs_init : Cond.instanceMethod y_Rs_init ∈ gTbl := (gt_in (i := 142) (by decide +kernel) rfl)
theorem d_Rs_init_0 : decode b_Rs_init 0 = .ok (.aload_n 0, 1) := by decide +kernel
theorem d_Rs_init_1 : decode b_Rs_init 1 = .ok (.invokespecial 1, 3) := by decide +kernel
theorem d_Rs_init_4 : decode b_Rs_init 4 = .ok (.aload_n 0, 1) := by decide +kernel
theorem d_Rs_init_5 : decode b_Rs_init 5 = .ok (.iload_n 1, 1) := by decide +kernel
theorem d_Rs_init_6 : decode b_Rs_init 6 = .ok (.putfield 7, 3) := by decide +kernel
theorem d_Rs_init_9 : decode b_Rs_init 9 = .ok (.aload_n 0, 1) := by decide +kernel
theorem d_Rs_init_10 : decode b_Rs_init 10 = .ok (.new 13, 3) := by decide +kernel
theorem d_Rs_init_13 : decode b_Rs_init 13 = .ok (.dup, 1) := by decide +kernel
theorem d_Rs_init_14 : decode b_Rs_init 14 = .ok (.invokespecial 15, 3) := by decide +kernel
theorem d_Rs_init_17 : decode b_Rs_init 17 = .ok (.putfield 16, 3) := by decide +kernel
theorem d_Rs_init_20 : decode b_Rs_init 20 = .ok (.new 20, 3) := by decide +kernel
theorem d_Rs_init_23 : decode b_Rs_init 23 = .ok (.dup, 1) := by decide +kernel
theorem d_Rs_init_24 : decode b_Rs_init 24 = .ok (.iconst 0, 1) := by decide +kernel
theorem d_Rs_init_25 : decode b_Rs_init 25 = .ok (.invokespecial 22, 3) := by decide +kernel
theorem d_Rs_init_28 : decode b_Rs_init 28 = .ok (.astore_n 2, 1) := by decide +kernel
theorem d_Rs_init_29 : decode b_Rs_init 29 = .ok (.aload_n 0, 1) := by decide +kernel
theorem d_Rs_init_30 : decode b_Rs_init 30 = .ok (.new 25, 3) := by decide +kernel
theorem d_Rs_init_33 : decode b_Rs_init 33 = .ok (.dup, 1) := by decide +kernel
theorem d_Rs_init_34 : decode b_Rs_init 34 = .ok (.iload_n 1, 1) := by decide +kernel
theorem d_Rs_init_35 : decode b_Rs_init 35 = .ok (.iconst 0, 1) := by decide +kernel
theorem d_Rs_init_36 : decode b_Rs_init 36 = .ok (.aload_n 2, 1) := by decide +kernel
theorem d_Rs_init_37 : decode b_Rs_init 37 = .ok (.aload_n 2, 1) := by decide +kernel
theorem d_Rs_init_38 : decode b_Rs_init 38 = .ok (.aload_n 2, 1) := by decide +kernel
theorem d_Rs_init_39 : decode b_Rs_init 39 = .ok (.invokespecial 27, 3) := by decide +kernel
theorem d_Rs_init_42 : decode b_Rs_init 42 = .ok (.putfield 30, 3) := by decide +kernel
theorem d_Rs_init_45 : decode b_Rs_init 45 = .ok (.return_, 1) := by decide +kernel
abbrev b_Rs_atFront : ByteArray := prog_8_method_2_code
def y_Rs_atFront : MethodName := ⟨"SpellDesk$RuleList", "atFront", "()Z"⟩
set_option maxRecDepth 20000 in
theorem Y_Rs_atFront : gh_Y y_Rs_atFront b_Rs_atFront 1 (some .boolean) 0 := ⟨gt_in (i := 835) rfl rfl, gt_in (i := 10) (by decide +kernel) rfl, by decide +kernel, by decide +kernel, by decide +kernel⟩
theorem V_Rs_atFront : Cond.instanceMethod y_Rs_atFront ∈ gTbl ∧ Cond.selects y_Rs_atFront.cls y_Rs_atFront y_Rs_atFront ∈ gTbl := ⟨(gt_in (i := 833) (by decide +kernel) rfl), (gt_in (i := 834) (by decide +kernel) rfl)⟩
theorem d_Rs_atFront_0 : decode b_Rs_atFront 0 = .ok (.aload_n 0, 1) := by decide +kernel
theorem d_Rs_atFront_1 : decode b_Rs_atFront 1 = .ok (.getfield 7, 3) := by decide +kernel
theorem d_Rs_atFront_4 : decode b_Rs_atFront 4 = .ok (.ireturn, 1) := by decide +kernel
abbrev b_Rs_count : ByteArray := prog_8_method_3_code
def y_Rs_count : MethodName := ⟨"SpellDesk$RuleList", "count", "()I"⟩
set_option maxRecDepth 20000 in
theorem Y_Rs_count : gh_Y y_Rs_count b_Rs_count 1 (some .int) 0 := ⟨gt_in (i := 860) rfl rfl, gt_in (i := 10) (by decide +kernel) rfl, by decide +kernel, by decide +kernel, by decide +kernel⟩
theorem V_Rs_count : Cond.instanceMethod y_Rs_count ∈ gTbl ∧ Cond.selects y_Rs_count.cls y_Rs_count y_Rs_count ∈ gTbl := ⟨(gt_in (i := 858) (by decide +kernel) rfl), (gt_in (i := 859) (by decide +kernel) rfl)⟩
theorem d_Rs_count_0 : decode b_Rs_count 0 = .ok (.aload_n 0, 1) := by decide +kernel
theorem d_Rs_count_1 : decode b_Rs_count 1 = .ok (.getfield 16, 3) := by decide +kernel
theorem d_Rs_count_4 : decode b_Rs_count 4 = .ok (.invokevirtual 34, 3) := by decide +kernel
theorem d_Rs_count_7 : decode b_Rs_count 7 = .ok (.ireturn, 1) := by decide +kernel
abbrev b_Rs_append : ByteArray := prog_8_method_5_code
def y_Rs_append : MethodName := ⟨"SpellDesk$RuleList", "append", "(LSpellDesk$Rule;)V"⟩
set_option maxRecDepth 20000 in
theorem Y_Rs_append : gh_Y y_Rs_append b_Rs_append 2 none 1 := ⟨gt_in (i := 865) rfl rfl, gt_in (i := 10) (by decide +kernel) rfl, by decide +kernel, by decide +kernel, by decide +kernel⟩
theorem V_Rs_append : Cond.instanceMethod y_Rs_append ∈ gTbl ∧ Cond.selects y_Rs_append.cls y_Rs_append y_Rs_append ∈ gTbl := ⟨(gt_in (i := 863) (by decide +kernel) rfl), (gt_in (i := 864) (by decide +kernel) rfl)⟩
theorem d_Rs_append_0 : decode b_Rs_append 0 = .ok (.aload_n 0, 1) := by decide +kernel
theorem d_Rs_append_1 : decode b_Rs_append 1 = .ok (.getfield 16, 3) := by decide +kernel
theorem d_Rs_append_4 : decode b_Rs_append 4 = .ok (.aload_n 1, 1) := by decide +kernel
theorem d_Rs_append_5 : decode b_Rs_append 5 = .ok (.invokevirtual 41, 3) := by decide +kernel
theorem d_Rs_append_8 : decode b_Rs_append 8 = .ok (.pop, 1) := by decide +kernel
theorem d_Rs_append_9 : decode b_Rs_append 9 = .ok (.return_, 1) := by decide +kernel
abbrev b_Rs_at : ByteArray := prog_8_method_6_code
def y_Rs_at : MethodName := ⟨"SpellDesk$RuleList", "at", "(I)LSpellDesk$Rule;"⟩
set_option maxRecDepth 20000 in
theorem Y_Rs_at : gh_Y y_Rs_at b_Rs_at 2 (some (.object "SpellDesk$Rule")) 1 := ⟨gt_in (i := 915) rfl rfl, gt_in (i := 10) (by decide +kernel) rfl, by decide +kernel, by decide +kernel, by decide +kernel⟩
theorem V_Rs_at : Cond.instanceMethod y_Rs_at ∈ gTbl ∧ Cond.selects y_Rs_at.cls y_Rs_at y_Rs_at ∈ gTbl := ⟨(gt_in (i := 913) (by decide +kernel) rfl), (gt_in (i := 914) (by decide +kernel) rfl)⟩
theorem d_Rs_at_0 : decode b_Rs_at 0 = .ok (.iload_n 1, 1) := by decide +kernel
theorem d_Rs_at_1 : decode b_Rs_at 1 = .ok (.iconst 1, 1) := by decide +kernel
theorem d_Rs_at_2 : decode b_Rs_at 2 = .ok (.if_icmp .lt 30, 3) := by decide +kernel
theorem d_Rs_at_5 : decode b_Rs_at 5 = .ok (.iload_n 1, 1) := by decide +kernel
theorem d_Rs_at_6 : decode b_Rs_at 6 = .ok (.aload_n 0, 1) := by decide +kernel
theorem d_Rs_at_7 : decode b_Rs_at 7 = .ok (.getfield 16, 3) := by decide +kernel
theorem d_Rs_at_10 : decode b_Rs_at 10 = .ok (.invokevirtual 34, 3) := by decide +kernel
theorem d_Rs_at_13 : decode b_Rs_at 13 = .ok (.if_icmp .gt 19, 3) := by decide +kernel
theorem d_Rs_at_16 : decode b_Rs_at 16 = .ok (.aload_n 0, 1) := by decide +kernel
theorem d_Rs_at_17 : decode b_Rs_at 17 = .ok (.getfield 16, 3) := by decide +kernel
theorem d_Rs_at_20 : decode b_Rs_at 20 = .ok (.iload_n 1, 1) := by decide +kernel
theorem d_Rs_at_21 : decode b_Rs_at 21 = .ok (.iconst 1, 1) := by decide +kernel
theorem d_Rs_at_22 : decode b_Rs_at 22 = .ok (.isub, 1) := by decide +kernel
theorem d_Rs_at_23 : decode b_Rs_at 23 = .ok (.invokevirtual 45, 3) := by decide +kernel
theorem d_Rs_at_26 : decode b_Rs_at 26 = .ok (.checkcast 25, 3) := by decide +kernel
theorem d_Rs_at_29 : decode b_Rs_at 29 = .ok (.goto 7, 3) := by decide +kernel
theorem d_Rs_at_32 : decode b_Rs_at 32 = .ok (.aload_n 0, 1) := by decide +kernel
theorem d_Rs_at_33 : decode b_Rs_at 33 = .ok (.getfield 30, 3) := by decide +kernel
theorem d_Rs_at_36 : decode b_Rs_at 36 = .ok (.areturn, 1) := by decide +kernel
abbrev b_Rs_clear : ByteArray := prog_8_method_4_code
def y_Rs_clear : MethodName := ⟨"SpellDesk$RuleList", "clear", "()V"⟩
set_option maxRecDepth 20000 in
theorem Y_Rs_clear : gh_Y y_Rs_clear b_Rs_clear 1 none 0 := ⟨gt_in (i := 1054) rfl rfl, gt_in (i := 10) (by decide +kernel) rfl, by decide +kernel, by decide +kernel, by decide +kernel⟩
theorem V_Rs_clear : Cond.instanceMethod y_Rs_clear ∈ gTbl ∧ Cond.selects y_Rs_clear.cls y_Rs_clear y_Rs_clear ∈ gTbl := ⟨(gt_in (i := 1052) (by decide +kernel) rfl), (gt_in (i := 1053) (by decide +kernel) rfl)⟩
theorem d_Rs_clear_0 : decode b_Rs_clear 0 = .ok (.aload_n 0, 1) := by decide +kernel
theorem d_Rs_clear_1 : decode b_Rs_clear 1 = .ok (.getfield 16, 3) := by decide +kernel
theorem d_Rs_clear_4 : decode b_Rs_clear 4 = .ok (.invokevirtual 38, 3) := by decide +kernel
theorem d_Rs_clear_7 : decode b_Rs_clear 7 = .ok (.return_, 1) := by decide +kernel
theorem kf_Rs_7 : Cond.fieldLink "SpellDesk$RuleList" 7 "SpellDesk$RuleList" "atFront" "Z" ∈ gTbl := (gt_in (i := 173) (by decide +kernel) rfl)
theorem kf_Rs_16 : Cond.fieldLink "SpellDesk$RuleList" 16 "SpellDesk$RuleList" "list" "Ljava/util/ArrayList;" ∈ gTbl := (gt_in (i := 174) (by decide +kernel) rfl)
theorem kf_Rs_30 : Cond.fieldLink "SpellDesk$RuleList" 30 "SpellDesk$RuleList" "none" "LSpellDesk$Rule;" ∈ gTbl := (gt_in (i := 175) (by decide +kernel) rfl)
theorem kc_Rs_13 : Cond.classLink "SpellDesk$RuleList" 13 "java/util/ArrayList" ∈ gTbl := (gt_in (i := 145) (by decide +kernel) rfl)
theorem kc_Rs_20 : Cond.classLink "SpellDesk$RuleList" 20 "SpellDesk$Letters" ∈ gTbl := (gt_in (i := 147) (by decide +kernel) rfl)
theorem kc_Rs_25 : Cond.classLink "SpellDesk$RuleList" 25 "SpellDesk$Rule" ∈ gTbl := (gt_in (i := 149) (by decide +kernel) rfl)
theorem km_Rs_1 : Cond.methodLink "SpellDesk$RuleList" 1 ⟨"java/lang/Object", "<init>", "()V"⟩ ∈ gTbl := (gt_in (i := 144) (by decide +kernel) rfl)
theorem km_Rs_15 : Cond.methodLink "SpellDesk$RuleList" 15 ⟨"java/util/ArrayList", "<init>", "()V"⟩ ∈ gTbl := (gt_in (i := 146) (by decide +kernel) rfl)
theorem km_Rs_22 : Cond.methodLink "SpellDesk$RuleList" 22 ⟨"SpellDesk$Letters", "<init>", "(I)V"⟩ ∈ gTbl := (gt_in (i := 148) (by decide +kernel) rfl)
theorem km_Rs_27 : Cond.methodLink "SpellDesk$RuleList" 27 ⟨"SpellDesk$Rule", "<init>", "(ZILSpellDesk$Letters;LSpellDesk$Letters;LSpellDesk$Letters;)V"⟩ ∈ gTbl := (gt_in (i := 151) (by decide +kernel) rfl)
theorem km_Rs_34 : Cond.methodLink "SpellDesk$RuleList" 34 ⟨"java/util/ArrayList", "size", "()I"⟩ ∈ gTbl := (gt_in (i := 861) (by decide +kernel) rfl)
theorem km_Rs_38 : Cond.methodLink "SpellDesk$RuleList" 38 ⟨"java/util/ArrayList", "clear", "()V"⟩ ∈ gTbl := (gt_in (i := 1055) (by decide +kernel) rfl)
theorem km_Rs_41 : Cond.methodLink "SpellDesk$RuleList" 41 ⟨"java/util/ArrayList", "add", "(Ljava/lang/Object;)Z"⟩ ∈ gTbl := (gt_in (i := 866) (by decide +kernel) rfl)
theorem km_Rs_45 : Cond.methodLink "SpellDesk$RuleList" 45 ⟨"java/util/ArrayList", "get", "(I)Ljava/lang/Object;"⟩ ∈ gTbl := (gt_in (i := 916) (by decide +kernel) rfl)
