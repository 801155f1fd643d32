abbrev b_Lt_init : ByteArray := prog_4_method_1_code
def y_Lt_init : MethodName := ⟨"SpellDesk$Letters", "<init>", "(I)V"⟩
set_option maxRecDepth 20000 in
theorem Y_Lt_init : gh_Y y_Lt_init b_Lt_init 2 none 1 := ⟨gt_in (i := 44) rfl rfl, gt_in (i := 2) (by decide +kernel) rfl, by decide +kernel, by decide +kernel, by decide +kernel⟩
theorem V_Lt_init : Cond.instanceMethod y_Lt_init ∈ gTbl := (gt_in (i := 43) (by decide +kernel) rfl)
theorem d_Lt_init_0 : decode b_Lt_init 0 = .ok (.aload_n 0, 1) := by decide +kernel
theorem d_Lt_init_1 : decode b_Lt_init 1 = .ok (.invokespecial 1, 3) := by decide +kernel
theorem d_Lt_init_4 : decode b_Lt_init 4 = .ok (.aload_n 0, 1) := by decide +kernel
theorem d_Lt_init_5 : decode b_Lt_init 5 = .ok (.iload_n 1, 1) := by decide +kernel
theorem d_Lt_init_6 : decode b_Lt_init 6 = .ok (.iconst 0, 1) := by decide +kernel
theorem d_Lt_init_7 : decode b_Lt_init 7 = .ok (.invokestatic 7, 3) := by decide +kernel
theorem d_Lt_init_10 : decode b_Lt_init 10 = .ok (.newarray .char, 2) := by decide +kernel
theorem d_Lt_init_12 : decode b_Lt_init 12 = .ok (.putfield 13, 3) := by decide +kernel
theorem d_Lt_init_15 : decode b_Lt_init 15 = .ok (.aload_n 0, 1) := by decide +kernel
theorem d_Lt_init_16 : decode b_Lt_init 16 = .ok (.iconst 0, 1) := by decide +kernel
theorem d_Lt_init_17 : decode b_Lt_init 17 = .ok (.putfield 19, 3) := by decide +kernel
theorem d_Lt_init_20 : decode b_Lt_init 20 = .ok (.return_, 1) := by decide +kernel
abbrev b_Lt_count : ByteArray := prog_4_method_2_code
def y_Lt_count : MethodName := ⟨"SpellDesk$Letters", "count", "()I"⟩
set_option maxRecDepth 20000 in
theorem Y_Lt_count : gh_Y y_Lt_count b_Lt_count 1 (some .int) 0 := ⟨gt_in (i := 271) rfl rfl, gt_in (i := 2) (by decide +kernel) rfl, by decide +kernel, by decide +kernel, by decide +kernel⟩
theorem V_Lt_count : Cond.instanceMethod y_Lt_count ∈ gTbl ∧ Cond.selects y_Lt_count.cls y_Lt_count y_Lt_count ∈ gTbl := ⟨(gt_in (i := 269) (by decide +kernel) rfl), (gt_in (i := 270) (by decide +kernel) rfl)⟩
theorem d_Lt_count_0 : decode b_Lt_count 0 = .ok (.aload_n 0, 1) := by decide +kernel
theorem d_Lt_count_1 : decode b_Lt_count 1 = .ok (.getfield 19, 3) := by decide +kernel
theorem d_Lt_count_4 : decode b_Lt_count 4 = .ok (.ireturn, 1) := by decide +kernel
abbrev b_Lt_at : ByteArray := prog_4_method_3_code
def y_Lt_at : MethodName := ⟨"SpellDesk$Letters", "at", "(I)C"⟩
set_option maxRecDepth 20000 in
theorem Y_Lt_at : gh_Y y_Lt_at b_Lt_at 2 (some .char) 1 := ⟨gt_in (i := 279) rfl rfl, gt_in (i := 2) (by decide +kernel) rfl, by decide +kernel, by decide +kernel, by decide +kernel⟩
theorem V_Lt_at : Cond.instanceMethod y_Lt_at ∈ gTbl ∧ Cond.selects y_Lt_at.cls y_Lt_at y_Lt_at ∈ gTbl := ⟨(gt_in (i := 277) (by decide +kernel) rfl), (gt_in (i := 278) (by decide +kernel) rfl)⟩
theorem d_Lt_at_0 : decode b_Lt_at 0 = .ok (.iload_n 1, 1) := by decide +kernel
theorem d_Lt_at_1 : decode b_Lt_at 1 = .ok (.ifCond .lt 20, 3) := by decide +kernel
theorem d_Lt_at_4 : decode b_Lt_at 4 = .ok (.iload_n 1, 1) := by decide +kernel
theorem d_Lt_at_5 : decode b_Lt_at 5 = .ok (.aload_n 0, 1) := by decide +kernel
theorem d_Lt_at_6 : decode b_Lt_at 6 = .ok (.getfield 19, 3) := by decide +kernel
theorem d_Lt_at_9 : decode b_Lt_at 9 = .ok (.if_icmp .ge 12, 3) := by decide +kernel
theorem d_Lt_at_12 : decode b_Lt_at 12 = .ok (.aload_n 0, 1) := by decide +kernel
theorem d_Lt_at_13 : decode b_Lt_at 13 = .ok (.getfield 13, 3) := by decide +kernel
theorem d_Lt_at_16 : decode b_Lt_at 16 = .ok (.iload_n 1, 1) := by decide +kernel
theorem d_Lt_at_17 : decode b_Lt_at 17 = .ok (.caload, 1) := by decide +kernel
theorem d_Lt_at_18 : decode b_Lt_at 18 = .ok (.goto 4, 3) := by decide +kernel
theorem d_Lt_at_21 : decode b_Lt_at 21 = .ok (.iconst 0, 1) := by decide +kernel
theorem d_Lt_at_22 : decode b_Lt_at 22 = .ok (.ireturn, 1) := by decide +kernel
abbrev b_Lt_compare : ByteArray := prog_4_method_8_code
def y_Lt_compare : MethodName := ⟨"SpellDesk$Letters", "compare", "(IILSpellDesk$Letters;II)I"⟩
set_option maxRecDepth 20000 in
theorem Y_Lt_compare : gh_Y y_Lt_compare b_Lt_compare 9 (some .int) 5 := ⟨gt_in (i := 398) rfl rfl, gt_in (i := 2) (by decide +kernel) rfl, by decide +kernel, by decide +kernel, by decide +kernel⟩
theorem V_Lt_compare : Cond.instanceMethod y_Lt_compare ∈ gTbl ∧ Cond.selects y_Lt_compare.cls y_Lt_compare y_Lt_compare ∈ gTbl := ⟨(gt_in (i := 396) (by decide +kernel) rfl), (gt_in (i := 397) (by decide +kernel) rfl)⟩
theorem d_Lt_compare_0 : decode b_Lt_compare 0 = .ok (.iconst 0, 1) := by decide +kernel
theorem d_Lt_compare_1 : decode b_Lt_compare 1 = .ok (.istore 6, 2) := by decide +kernel
theorem d_Lt_compare_3 : decode b_Lt_compare 3 = .ok (.iload 6, 2) := by decide +kernel
theorem d_Lt_compare_5 : decode b_Lt_compare 5 = .ok (.iload_n 2, 1) := by decide +kernel
theorem d_Lt_compare_6 : decode b_Lt_compare 6 = .ok (.if_icmp .ge 93, 3) := by decide +kernel
theorem d_Lt_compare_9 : decode b_Lt_compare 9 = .ok (.iload 6, 2) := by decide +kernel
theorem d_Lt_compare_11 : decode b_Lt_compare 11 = .ok (.iload 5, 2) := by decide +kernel
theorem d_Lt_compare_13 : decode b_Lt_compare 13 = .ok (.if_icmp .ge 86, 3) := by decide +kernel
theorem d_Lt_compare_16 : decode b_Lt_compare 16 = .ok (.iload_n 1, 1) := by decide +kernel
theorem d_Lt_compare_17 : decode b_Lt_compare 17 = .ok (.iload 6, 2) := by decide +kernel
theorem d_Lt_compare_19 : decode b_Lt_compare 19 = .ok (.iadd, 1) := by decide +kernel
theorem d_Lt_compare_20 : decode b_Lt_compare 20 = .ok (.istore 7, 2) := by decide +kernel
theorem d_Lt_compare_22 : decode b_Lt_compare 22 = .ok (.iload 4, 2) := by decide +kernel
theorem d_Lt_compare_24 : decode b_Lt_compare 24 = .ok (.iload 6, 2) := by decide +kernel
theorem d_Lt_compare_26 : decode b_Lt_compare 26 = .ok (.iadd, 1) := by decide +kernel
theorem d_Lt_compare_27 : decode b_Lt_compare 27 = .ok (.istore 8, 2) := by decide +kernel
theorem d_Lt_compare_29 : decode b_Lt_compare 29 = .ok (.iload 7, 2) := by decide +kernel
theorem d_Lt_compare_31 : decode b_Lt_compare 31 = .ok (.ifCond .lt 68, 3) := by decide +kernel
theorem d_Lt_compare_34 : decode b_Lt_compare 34 = .ok (.iload 7, 2) := by decide +kernel
theorem d_Lt_compare_36 : decode b_Lt_compare 36 = .ok (.aload_n 0, 1) := by decide +kernel
theorem d_Lt_compare_37 : decode b_Lt_compare 37 = .ok (.getfield 19, 3) := by decide +kernel
theorem d_Lt_compare_40 : decode b_Lt_compare 40 = .ok (.if_icmp .ge 59, 3) := by decide +kernel
theorem d_Lt_compare_43 : decode b_Lt_compare 43 = .ok (.iload 8, 2) := by decide +kernel
theorem d_Lt_compare_45 : decode b_Lt_compare 45 = .ok (.ifCond .lt 54, 3) := by decide +kernel
theorem d_Lt_compare_48 : decode b_Lt_compare 48 = .ok (.iload 8, 2) := by decide +kernel
theorem d_Lt_compare_50 : decode b_Lt_compare 50 = .ok (.aload_n 3, 1) := by decide +kernel
theorem d_Lt_compare_51 : decode b_Lt_compare 51 = .ok (.getfield 19, 3) := by decide +kernel
theorem d_Lt_compare_54 : decode b_Lt_compare 54 = .ok (.if_icmp .lt 6, 3) := by decide +kernel
theorem d_Lt_compare_57 : decode b_Lt_compare 57 = .ok (.goto 42, 3) := by decide +kernel
theorem d_Lt_compare_60 : decode b_Lt_compare 60 = .ok (.aload_n 0, 1) := by decide +kernel
theorem d_Lt_compare_61 : decode b_Lt_compare 61 = .ok (.getfield 13, 3) := by decide +kernel
theorem d_Lt_compare_64 : decode b_Lt_compare 64 = .ok (.iload 7, 2) := by decide +kernel
theorem d_Lt_compare_66 : decode b_Lt_compare 66 = .ok (.caload, 1) := by decide +kernel
theorem d_Lt_compare_67 : decode b_Lt_compare 67 = .ok (.aload_n 3, 1) := by decide +kernel
theorem d_Lt_compare_68 : decode b_Lt_compare 68 = .ok (.getfield 13, 3) := by decide +kernel
theorem d_Lt_compare_71 : decode b_Lt_compare 71 = .ok (.iload 8, 2) := by decide +kernel
theorem d_Lt_compare_73 : decode b_Lt_compare 73 = .ok (.caload, 1) := by decide +kernel
theorem d_Lt_compare_74 : decode b_Lt_compare 74 = .ok (.if_icmp .eq 19, 3) := by decide +kernel
theorem d_Lt_compare_77 : decode b_Lt_compare 77 = .ok (.aload_n 0, 1) := by decide +kernel
theorem d_Lt_compare_78 : decode b_Lt_compare 78 = .ok (.getfield 13, 3) := by decide +kernel
theorem d_Lt_compare_81 : decode b_Lt_compare 81 = .ok (.iload 7, 2) := by decide +kernel
theorem d_Lt_compare_83 : decode b_Lt_compare 83 = .ok (.caload, 1) := by decide +kernel
theorem d_Lt_compare_84 : decode b_Lt_compare 84 = .ok (.aload_n 3, 1) := by decide +kernel
theorem d_Lt_compare_85 : decode b_Lt_compare 85 = .ok (.getfield 13, 3) := by decide +kernel
theorem d_Lt_compare_88 : decode b_Lt_compare 88 = .ok (.iload 8, 2) := by decide +kernel
theorem d_Lt_compare_90 : decode b_Lt_compare 90 = .ok (.caload, 1) := by decide +kernel
theorem d_Lt_compare_91 : decode b_Lt_compare 91 = .ok (.isub, 1) := by decide +kernel
theorem d_Lt_compare_92 : decode b_Lt_compare 92 = .ok (.ireturn, 1) := by decide +kernel
theorem d_Lt_compare_93 : decode b_Lt_compare 93 = .ok (.iinc 6 1, 3) := by decide +kernel
theorem d_Lt_compare_96 : decode b_Lt_compare 96 = .ok (.goto (-93), 3) := by decide +kernel
theorem d_Lt_compare_99 : decode b_Lt_compare 99 = .ok (.iload_n 2, 1) := by decide +kernel
theorem d_Lt_compare_100 : decode b_Lt_compare 100 = .ok (.iload 5, 2) := by decide +kernel
theorem d_Lt_compare_102 : decode b_Lt_compare 102 = .ok (.isub, 1) := by decide +kernel
theorem d_Lt_compare_103 : decode b_Lt_compare 103 = .ok (.ireturn, 1) := by decide +kernel
abbrev b_Lt_append : ByteArray := prog_4_method_4_code
def y_Lt_append : MethodName := ⟨"SpellDesk$Letters", "append", "(C)Z"⟩
set_option maxRecDepth 20000 in
theorem Y_Lt_append : gh_Y y_Lt_append b_Lt_append 2 (some .boolean) 1 := ⟨gt_in (i := 421) rfl rfl, gt_in (i := 2) (by decide +kernel) rfl, by decide +kernel, by decide +kernel, by decide +kernel⟩
theorem V_Lt_append : Cond.instanceMethod y_Lt_append ∈ gTbl ∧ Cond.selects y_Lt_append.cls y_Lt_append y_Lt_append ∈ gTbl := ⟨(gt_in (i := 419) (by decide +kernel) rfl), (gt_in (i := 420) (by decide +kernel) rfl)⟩
theorem d_Lt_append_0 : decode b_Lt_append 0 = .ok (.aload_n 0, 1) := by decide +kernel
theorem d_Lt_append_1 : decode b_Lt_append 1 = .ok (.getfield 19, 3) := by decide +kernel
theorem d_Lt_append_4 : decode b_Lt_append 4 = .ok (.aload_n 0, 1) := by decide +kernel
theorem d_Lt_append_5 : decode b_Lt_append 5 = .ok (.getfield 13, 3) := by decide +kernel
theorem d_Lt_append_8 : decode b_Lt_append 8 = .ok (.arraylength, 1) := by decide +kernel
theorem d_Lt_append_9 : decode b_Lt_append 9 = .ok (.if_icmp .lt 5, 3) := by decide +kernel
theorem d_Lt_append_12 : decode b_Lt_append 12 = .ok (.iconst 0, 1) := by decide +kernel
theorem d_Lt_append_13 : decode b_Lt_append 13 = .ok (.ireturn, 1) := by decide +kernel
theorem d_Lt_append_14 : decode b_Lt_append 14 = .ok (.aload_n 0, 1) := by decide +kernel
theorem d_Lt_append_15 : decode b_Lt_append 15 = .ok (.getfield 13, 3) := by decide +kernel
theorem d_Lt_append_18 : decode b_Lt_append 18 = .ok (.aload_n 0, 1) := by decide +kernel
theorem d_Lt_append_19 : decode b_Lt_append 19 = .ok (.getfield 19, 3) := by decide +kernel
theorem d_Lt_append_22 : decode b_Lt_append 22 = .ok (.iload_n 1, 1) := by decide +kernel
theorem d_Lt_append_23 : decode b_Lt_append 23 = .ok (.castore, 1) := by decide +kernel
theorem d_Lt_append_24 : decode b_Lt_append 24 = .ok (.aload_n 0, 1) := by decide +kernel
theorem d_Lt_append_25 : decode b_Lt_append 25 = .ok (.dup, 1) := by decide +kernel
theorem d_Lt_append_26 : decode b_Lt_append 26 = .ok (.getfield 19, 3) := by decide +kernel
theorem d_Lt_append_29 : decode b_Lt_append 29 = .ok (.iconst 1, 1) := by decide +kernel
theorem d_Lt_append_30 : decode b_Lt_append 30 = .ok (.iadd, 1) := by decide +kernel
theorem d_Lt_append_31 : decode b_Lt_append 31 = .ok (.putfield 19, 3) := by decide +kernel
theorem d_Lt_append_34 : decode b_Lt_append 34 = .ok (.iconst 1, 1) := by decide +kernel
theorem d_Lt_append_35 : decode b_Lt_append 35 = .ok (.ireturn, 1) := by decide +kernel
abbrev b_Lt_copy : ByteArray := prog_4_method_7_code
def y_Lt_copy : MethodName := ⟨"SpellDesk$Letters", "copy", "(II)LSpellDesk$Letters;"⟩
set_option maxRecDepth 20000 in
theorem Y_Lt_copy : gh_Y y_Lt_copy b_Lt_copy 5 (some (.object "SpellDesk$Letters")) 2 := ⟨gt_in (i := 432) rfl rfl, gt_in (i := 2) (by decide +kernel) rfl, by decide +kernel, by decide +kernel, by decide +kernel⟩
theorem V_Lt_copy : Cond.instanceMethod y_Lt_copy ∈ gTbl ∧ Cond.selects y_Lt_copy.cls y_Lt_copy y_Lt_copy ∈ gTbl := ⟨(gt_in (i := 430) (by decide +kernel) rfl), (gt_in (i := 431) (by decide +kernel) rfl)⟩
theorem d_Lt_copy_0 : decode b_Lt_copy 0 = .ok (.new 14, 3) := by decide +kernel
theorem d_Lt_copy_3 : decode b_Lt_copy 3 = .ok (.dup, 1) := by decide +kernel
theorem d_Lt_copy_4 : decode b_Lt_copy 4 = .ok (.iload_n 2, 1) := by decide +kernel
theorem d_Lt_copy_5 : decode b_Lt_copy 5 = .ok (.invokespecial 31, 3) := by decide +kernel
theorem d_Lt_copy_8 : decode b_Lt_copy 8 = .ok (.astore_n 3, 1) := by decide +kernel
theorem d_Lt_copy_9 : decode b_Lt_copy 9 = .ok (.iconst 0, 1) := by decide +kernel
theorem d_Lt_copy_10 : decode b_Lt_copy 10 = .ok (.istore 4, 2) := by decide +kernel
theorem d_Lt_copy_12 : decode b_Lt_copy 12 = .ok (.iload 4, 2) := by decide +kernel
theorem d_Lt_copy_14 : decode b_Lt_copy 14 = .ok (.iload_n 2, 1) := by decide +kernel
theorem d_Lt_copy_15 : decode b_Lt_copy 15 = .ok (.if_icmp .ge 22, 3) := by decide +kernel
theorem d_Lt_copy_18 : decode b_Lt_copy 18 = .ok (.aload_n 3, 1) := by decide +kernel
theorem d_Lt_copy_19 : decode b_Lt_copy 19 = .ok (.aload_n 0, 1) := by decide +kernel
theorem d_Lt_copy_20 : decode b_Lt_copy 20 = .ok (.iload_n 1, 1) := by decide +kernel
theorem d_Lt_copy_21 : decode b_Lt_copy 21 = .ok (.iload 4, 2) := by decide +kernel
theorem d_Lt_copy_23 : decode b_Lt_copy 23 = .ok (.iadd, 1) := by decide +kernel
theorem d_Lt_copy_24 : decode b_Lt_copy 24 = .ok (.invokevirtual 23, 3) := by decide +kernel
theorem d_Lt_copy_27 : decode b_Lt_copy 27 = .ok (.invokevirtual 27, 3) := by decide +kernel
theorem d_Lt_copy_30 : decode b_Lt_copy 30 = .ok (.pop, 1) := by decide +kernel
theorem d_Lt_copy_31 : decode b_Lt_copy 31 = .ok (.iinc 4 1, 3) := by decide +kernel
theorem d_Lt_copy_34 : decode b_Lt_copy 34 = .ok (.goto (-22), 3) := by decide +kernel
theorem d_Lt_copy_37 : decode b_Lt_copy 37 = .ok (.aload_n 3, 1) := by decide +kernel
theorem d_Lt_copy_38 : decode b_Lt_copy 38 = .ok (.areturn, 1) := by decide +kernel
abbrev b_Lt_clear : ByteArray := prog_4_method_6_code
def y_Lt_clear : MethodName := ⟨"SpellDesk$Letters", "clear", "()V"⟩
set_option maxRecDepth 20000 in
theorem Y_Lt_clear : gh_Y y_Lt_clear b_Lt_clear 1 none 0 := ⟨gt_in (i := 935) rfl rfl, gt_in (i := 2) (by decide +kernel) rfl, by decide +kernel, by decide +kernel, by decide +kernel⟩
theorem V_Lt_clear : Cond.instanceMethod y_Lt_clear ∈ gTbl ∧ Cond.selects y_Lt_clear.cls y_Lt_clear y_Lt_clear ∈ gTbl := ⟨(gt_in (i := 933) (by decide +kernel) rfl), (gt_in (i := 934) (by decide +kernel) rfl)⟩
theorem d_Lt_clear_0 : decode b_Lt_clear 0 = .ok (.aload_n 0, 1) := by decide +kernel
theorem d_Lt_clear_1 : decode b_Lt_clear 1 = .ok (.iconst 0, 1) := by decide +kernel
theorem d_Lt_clear_2 : decode b_Lt_clear 2 = .ok (.putfield 19, 3) := by decide +kernel
theorem d_Lt_clear_5 : decode b_Lt_clear 5 = .ok (.return_, 1) := by decide +kernel
abbrev b_Lt_appendAll : ByteArray := prog_4_method_5_code
def y_Lt_appendAll : MethodName := ⟨"SpellDesk$Letters", "appendAll", "(LSpellDesk$Letters;II)V"⟩
set_option maxRecDepth 20000 in
theorem Y_Lt_appendAll : gh_Y y_Lt_appendAll b_Lt_appendAll 5 none 3 := ⟨gt_in (i := 939) rfl rfl, gt_in (i := 2) (by decide +kernel) rfl, by decide +kernel, by decide +kernel, by decide +kernel⟩
theorem V_Lt_appendAll : Cond.instanceMethod y_Lt_appendAll ∈ gTbl ∧ Cond.selects y_Lt_appendAll.cls y_Lt_appendAll y_Lt_appendAll ∈ gTbl := ⟨(gt_in (i := 937) (by decide +kernel) rfl), (gt_in (i := 938) (by decide +kernel) rfl)⟩
theorem d_Lt_appendAll_0 : decode b_Lt_appendAll 0 = .ok (.iconst 0, 1) := by decide +kernel
theorem d_Lt_appendAll_1 : decode b_Lt_appendAll 1 = .ok (.istore 4, 2) := by decide +kernel
theorem d_Lt_appendAll_3 : decode b_Lt_appendAll 3 = .ok (.iload 4, 2) := by decide +kernel
theorem d_Lt_appendAll_5 : decode b_Lt_appendAll 5 = .ok (.iload_n 3, 1) := by decide +kernel
theorem d_Lt_appendAll_6 : decode b_Lt_appendAll 6 = .ok (.if_icmp .ge 22, 3) := by decide +kernel
theorem d_Lt_appendAll_9 : decode b_Lt_appendAll 9 = .ok (.aload_n 0, 1) := by decide +kernel
theorem d_Lt_appendAll_10 : decode b_Lt_appendAll 10 = .ok (.aload_n 1, 1) := by decide +kernel
theorem d_Lt_appendAll_11 : decode b_Lt_appendAll 11 = .ok (.iload_n 2, 1) := by decide +kernel
theorem d_Lt_appendAll_12 : decode b_Lt_appendAll 12 = .ok (.iload 4, 2) := by decide +kernel
theorem d_Lt_appendAll_14 : decode b_Lt_appendAll 14 = .ok (.iadd, 1) := by decide +kernel
theorem d_Lt_appendAll_15 : decode b_Lt_appendAll 15 = .ok (.invokevirtual 23, 3) := by decide +kernel
theorem d_Lt_appendAll_18 : decode b_Lt_appendAll 18 = .ok (.invokevirtual 27, 3) := by decide +kernel
theorem d_Lt_appendAll_21 : decode b_Lt_appendAll 21 = .ok (.pop, 1) := by decide +kernel
theorem d_Lt_appendAll_22 : decode b_Lt_appendAll 22 = .ok (.iinc 4 1, 3) := by decide +kernel
theorem d_Lt_appendAll_25 : decode b_Lt_appendAll 25 = .ok (.goto (-22), 3) := by decide +kernel
theorem d_Lt_appendAll_28 : decode b_Lt_appendAll 28 = .ok (.return_, 1) := by decide +kernel
theorem kf_Lt_13 : Cond.fieldLink "SpellDesk$Letters" 13 "SpellDesk$Letters" "row" "[C" ∈ gTbl := (gt_in (i := 49) (by decide +kernel) rfl)
theorem kf_Lt_19 : Cond.fieldLink "SpellDesk$Letters" 19 "SpellDesk$Letters" "count" "I" ∈ gTbl := (gt_in (i := 50) (by decide +kernel) rfl)
theorem kc_Lt_14 : Cond.classLink "SpellDesk$Letters" 14 "SpellDesk$Letters" ∈ gTbl := (gt_in (i := 433) (by decide +kernel) rfl)
theorem km_Lt_1 : Cond.methodLink "SpellDesk$Letters" 1 ⟨"java/lang/Object", "<init>", "()V"⟩ ∈ gTbl := (gt_in (i := 45) (by decide +kernel) rfl)
theorem km_Lt_7 : Cond.methodLink "SpellDesk$Letters" 7 ⟨"java/lang/Math", "max", "(II)I"⟩ ∈ gTbl := (gt_in (i := 46) (by decide +kernel) rfl)
theorem km_Lt_23 : Cond.methodLink "SpellDesk$Letters" 23 ⟨"SpellDesk$Letters", "at", "(I)C"⟩ ∈ gTbl := (gt_in (i := 435) (by decide +kernel) rfl)
theorem km_Lt_27 : Cond.methodLink "SpellDesk$Letters" 27 ⟨"SpellDesk$Letters", "append", "(C)Z"⟩ ∈ gTbl := (gt_in (i := 436) (by decide +kernel) rfl)
theorem km_Lt_31 : Cond.methodLink "SpellDesk$Letters" 31 ⟨"SpellDesk$Letters", "<init>", "(I)V"⟩ ∈ gTbl := (gt_in (i := 434) (by decide +kernel) rfl)
abbrev b_Mt_max : ByteArray := prog_21_method_65_code
def y_Mt_max : MethodName := ⟨"java/lang/Math", "max", "(II)I"⟩
set_option maxRecDepth 20000 in
theorem Y_Mt_max : gh_Y y_Mt_max b_Mt_max 2 (some .int) 2 := ⟨gt_in (i := 48) rfl rfl, gt_in (i := 3) (by decide +kernel) rfl, by decide +kernel, by decide +kernel, by decide +kernel⟩
theorem V_Mt_max : Cond.static y_Mt_max ∈ gTbl := (gt_in (i := 47) (by decide +kernel) rfl)
theorem d_Mt_max_0 : decode b_Mt_max 0 = .ok (.iload_n 0, 1) := by decide +kernel
theorem d_Mt_max_1 : decode b_Mt_max 1 = .ok (.iload_n 1, 1) := by decide +kernel
theorem d_Mt_max_2 : decode b_Mt_max 2 = .ok (.if_icmp .lt 7, 3) := by decide +kernel
theorem d_Mt_max_5 : decode b_Mt_max 5 = .ok (.iload_n 0, 1) := by decide +kernel
theorem d_Mt_max_6 : decode b_Mt_max 6 = .ok (.goto 4, 3) := by decide +kernel
theorem d_Mt_max_9 : decode b_Mt_max 9 = .ok (.iload_n 1, 1) := by decide +kernel
theorem d_Mt_max_10 : decode b_Mt_max 10 = .ok (.ireturn, 1) := by decide +kernel
