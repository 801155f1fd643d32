abbrev b_En_init : ByteArray := prog_3_method_1_code
def y_En_init : MethodName := ⟨"SpellDesk$Entry", "<init>", "(LSpellDesk$Letters;I)V"⟩
set_option maxRecDepth 20000 in
theorem Y_En_init : gh_Y y_En_init b_En_init 3 none 2 := ⟨gt_in (i := 439) rfl rfl, gt_in (i := 24) (by decide +kernel) rfl, by decide +kernel, by decide +kernel, by decide +kernel⟩
theorem V_En_init : Cond.instanceMethod y_En_init ∈ gTbl := (gt_in (i := 438) (by decide +kernel) rfl)
theorem d_En_init_0 : decode b_En_init 0 = .ok (.aload_n 0, 1) := by decide +kernel
theorem d_En_init_1 : decode b_En_init 1 = .ok (.invokespecial 1, 3) := by decide +kernel
theorem d_En_init_4 : decode b_En_init 4 = .ok (.aload_n 0, 1) := by decide +kernel
theorem d_En_init_5 : decode b_En_init 5 = .ok (.aload_n 1, 1) := by decide +kernel
theorem d_En_init_6 : decode b_En_init 6 = .ok (.putfield 7, 3) := by decide +kernel
theorem d_En_init_9 : decode b_En_init 9 = .ok (.aload_n 0, 1) := by decide +kernel
theorem d_En_init_10 : decode b_En_init 10 = .ok (.iload_n 2, 1) := by decide +kernel
theorem d_En_init_11 : decode b_En_init 11 = .ok (.putfield 13, 3) := by decide +kernel
theorem d_En_init_14 : decode b_En_init 14 = .ok (.return_, 1) := by decide +kernel
abbrev b_En_beginsWith : ByteArray := prog_3_method_2_code
def y_En_beginsWith : MethodName := ⟨"SpellDesk$Entry", "beginsWith", "(LSpellDesk$Letters;II)Z"⟩
set_option maxRecDepth 20000 in
theorem Y_En_beginsWith : gh_Y y_En_beginsWith b_En_beginsWith 4 (some .boolean) 3 := ⟨gt_in (i := 976) rfl rfl, gt_in (i := 24) (by decide +kernel) rfl, by decide +kernel, by decide +kernel, by decide +kernel⟩
theorem V_En_beginsWith : Cond.instanceMethod y_En_beginsWith ∈ gTbl ∧ Cond.selects y_En_beginsWith.cls y_En_beginsWith y_En_beginsWith ∈ gTbl := ⟨(gt_in (i := 974) (by decide +kernel) rfl), (gt_in (i := 975) (by decide +kernel) rfl)⟩
theorem d_En_beginsWith_0 : decode b_En_beginsWith 0 = .ok (.iload_n 3, 1) := by decide +kernel
theorem d_En_beginsWith_1 : decode b_En_beginsWith 1 = .ok (.aload_n 0, 1) := by decide +kernel
theorem d_En_beginsWith_2 : decode b_En_beginsWith 2 = .ok (.getfield 7, 3) := by decide +kernel
theorem d_En_beginsWith_5 : decode b_En_beginsWith 5 = .ok (.invokevirtual 17, 3) := by decide +kernel
theorem d_En_beginsWith_8 : decode b_En_beginsWith 8 = .ok (.if_icmp .gt 22, 3) := by decide +kernel
theorem d_En_beginsWith_11 : decode b_En_beginsWith 11 = .ok (.aload_n 0, 1) := by decide +kernel
theorem d_En_beginsWith_12 : decode b_En_beginsWith 12 = .ok (.getfield 7, 3) := by decide +kernel
theorem d_En_beginsWith_15 : decode b_En_beginsWith 15 = .ok (.iconst 0, 1) := by decide +kernel
theorem d_En_beginsWith_16 : decode b_En_beginsWith 16 = .ok (.iload_n 3, 1) := by decide +kernel
theorem d_En_beginsWith_17 : decode b_En_beginsWith 17 = .ok (.aload_n 1, 1) := by decide +kernel
theorem d_En_beginsWith_18 : decode b_En_beginsWith 18 = .ok (.iload_n 2, 1) := by decide +kernel
theorem d_En_beginsWith_19 : decode b_En_beginsWith 19 = .ok (.iload_n 3, 1) := by decide +kernel
theorem d_En_beginsWith_20 : decode b_En_beginsWith 20 = .ok (.invokevirtual 23, 3) := by decide +kernel
theorem d_En_beginsWith_23 : decode b_En_beginsWith 23 = .ok (.ifCond .ne 7, 3) := by decide +kernel
theorem d_En_beginsWith_26 : decode b_En_beginsWith 26 = .ok (.iconst 1, 1) := by decide +kernel
theorem d_En_beginsWith_27 : decode b_En_beginsWith 27 = .ok (.goto 4, 3) := by decide +kernel
theorem d_En_beginsWith_30 : decode b_En_beginsWith 30 = .ok (.iconst 0, 1) := by decide +kernel
theorem d_En_beginsWith_31 : decode b_En_beginsWith 31 = .ok (.ireturn, 1) := by decide +kernel
theorem kf_En_7 : Cond.fieldLink "SpellDesk$Entry" 7 "SpellDesk$Entry" "word" "LSpellDesk$Letters;" ∈ gTbl := (gt_in (i := 441) (by decide +kernel) rfl)
theorem kf_En_13 : Cond.fieldLink "SpellDesk$Entry" 13 "SpellDesk$Entry" "flags" "I" ∈ gTbl := (gt_in (i := 446) (by decide +kernel) rfl)
theorem km_En_1 : Cond.methodLink "SpellDesk$Entry" 1 ⟨"java/lang/Object", "<init>", "()V"⟩ ∈ gTbl := (gt_in (i := 440) (by decide +kernel) rfl)
theorem km_En_17 : Cond.methodLink "SpellDesk$Entry" 17 ⟨"SpellDesk$Letters", "count", "()I"⟩ ∈ gTbl := (gt_in (i := 977) (by decide +kernel) rfl)
theorem km_En_23 : Cond.methodLink "SpellDesk$Entry" 23 ⟨"SpellDesk$Letters", "compare", "(IILSpellDesk$Letters;II)I"⟩ ∈ gTbl := (gt_in (i := 978) (by decide +kernel) rfl)
abbrev b_Dc_init : ByteArray := prog_2_method_1_code
def y_Dc_init : MethodName := ⟨"SpellDesk$Dictionary", "<init>", "()V"⟩
set_option maxRecDepth 20000 in
theorem Y_Dc_init : gh_Y y_Dc_init b_Dc_init 1 none 0 := ⟨gt_in (i := 107) rfl rfl, gt_in (i := 6) (by decide +kernel) rfl, by decide +kernel, by decide +kernel, by decide +kernel⟩
theorem V_Dc_init : Cond.instanceMethod y_Dc_init ∈ gTbl := (gt_in (i := 106) (by decide +kernel) rfl)
theorem d_Dc_init_0 : decode b_Dc_init 0 = .ok (.aload_n 0, 1) := by decide +kernel
theorem d_Dc_init_1 : decode b_Dc_init 1 = .ok (.invokespecial 3, 3) := by decide +kernel
theorem d_Dc_init_4 : decode b_Dc_init 4 = .ok (.aload_n 0, 1) := by decide +kernel
theorem d_Dc_init_5 : decode b_Dc_init 5 = .ok (.new 9, 3) := by decide +kernel
theorem d_Dc_init_8 : decode b_Dc_init 8 = .ok (.dup, 1) := by decide +kernel
theorem d_Dc_init_9 : decode b_Dc_init 9 = .ok (.invokespecial 11, 3) := by decide +kernel
theorem d_Dc_init_12 : decode b_Dc_init 12 = .ok (.putfield 12, 3) := by decide +kernel
theorem d_Dc_init_15 : decode b_Dc_init 15 = .ok (.return_, 1) := by decide +kernel
abbrev b_Dc_rankOf : ByteArray := prog_2_method_6_code
def y_Dc_rankOf : MethodName := ⟨"SpellDesk$Dictionary", "rankOf", "(LSpellDesk$Letters;II)I"⟩
set_option maxRecDepth 20000 in
theorem Y_Dc_rankOf : gh_Y y_Dc_rankOf b_Dc_rankOf 9 (some .int) 3 := ⟨gt_in (i := 376) rfl rfl, gt_in (i := 6) (by decide +kernel) rfl, by decide +kernel, by decide +kernel, by decide +kernel⟩
theorem V_Dc_rankOf : Cond.instanceMethod y_Dc_rankOf ∈ gTbl ∧ Cond.selects y_Dc_rankOf.cls y_Dc_rankOf y_Dc_rankOf ∈ gTbl := ⟨(gt_in (i := 374) (by decide +kernel) rfl), (gt_in (i := 375) (by decide +kernel) rfl)⟩
theorem d_Dc_rankOf_0 : decode b_Dc_rankOf 0 = .ok (.iconst 0, 1) := by decide +kernel
theorem d_Dc_rankOf_1 : decode b_Dc_rankOf 1 = .ok (.istore 4, 2) := by decide +kernel
theorem d_Dc_rankOf_3 : decode b_Dc_rankOf 3 = .ok (.aload_n 0, 1) := by decide +kernel
theorem d_Dc_rankOf_4 : decode b_Dc_rankOf 4 = .ok (.getfield 12, 3) := by decide +kernel
theorem d_Dc_rankOf_7 : decode b_Dc_rankOf 7 = .ok (.invokevirtual 18, 3) := by decide +kernel
theorem d_Dc_rankOf_10 : decode b_Dc_rankOf 10 = .ok (.istore 5, 2) := by decide +kernel
theorem d_Dc_rankOf_12 : decode b_Dc_rankOf 12 = .ok (.iconst 0, 1) := by decide +kernel
theorem d_Dc_rankOf_13 : decode b_Dc_rankOf 13 = .ok (.istore 6, 2) := by decide +kernel
theorem d_Dc_rankOf_15 : decode b_Dc_rankOf 15 = .ok (.iload 6, 2) := by decide +kernel
theorem d_Dc_rankOf_17 : decode b_Dc_rankOf 17 = .ok (.bipush 32, 2) := by decide +kernel
theorem d_Dc_rankOf_19 : decode b_Dc_rankOf 19 = .ok (.if_icmp .ge 72, 3) := by decide +kernel
theorem d_Dc_rankOf_22 : decode b_Dc_rankOf 22 = .ok (.iload 4, 2) := by decide +kernel
theorem d_Dc_rankOf_24 : decode b_Dc_rankOf 24 = .ok (.iload 5, 2) := by decide +kernel
theorem d_Dc_rankOf_26 : decode b_Dc_rankOf 26 = .ok (.if_icmp .ge 65, 3) := by decide +kernel
theorem d_Dc_rankOf_29 : decode b_Dc_rankOf 29 = .ok (.iload 4, 2) := by decide +kernel
theorem d_Dc_rankOf_31 : decode b_Dc_rankOf 31 = .ok (.iload 5, 2) := by decide +kernel
theorem d_Dc_rankOf_33 : decode b_Dc_rankOf 33 = .ok (.iadd, 1) := by decide +kernel
theorem d_Dc_rankOf_34 : decode b_Dc_rankOf 34 = .ok (.iconst 2, 1) := by decide +kernel
theorem d_Dc_rankOf_35 : decode b_Dc_rankOf 35 = .ok (.idiv, 1) := by decide +kernel
theorem d_Dc_rankOf_36 : decode b_Dc_rankOf 36 = .ok (.istore 7, 2) := by decide +kernel
theorem d_Dc_rankOf_38 : decode b_Dc_rankOf 38 = .ok (.aload_n 0, 1) := by decide +kernel
theorem d_Dc_rankOf_39 : decode b_Dc_rankOf 39 = .ok (.getfield 12, 3) := by decide +kernel
theorem d_Dc_rankOf_42 : decode b_Dc_rankOf 42 = .ok (.iload 7, 2) := by decide +kernel
theorem d_Dc_rankOf_44 : decode b_Dc_rankOf 44 = .ok (.invokevirtual 25, 3) := by decide +kernel
theorem d_Dc_rankOf_47 : decode b_Dc_rankOf 47 = .ok (.checkcast 29, 3) := by decide +kernel
theorem d_Dc_rankOf_50 : decode b_Dc_rankOf 50 = .ok (.getfield 35, 3) := by decide +kernel
theorem d_Dc_rankOf_53 : decode b_Dc_rankOf 53 = .ok (.astore 8, 2) := by decide +kernel
theorem d_Dc_rankOf_55 : decode b_Dc_rankOf 55 = .ok (.aload 8, 2) := by decide +kernel
theorem d_Dc_rankOf_57 : decode b_Dc_rankOf 57 = .ok (.iconst 0, 1) := by decide +kernel
theorem d_Dc_rankOf_58 : decode b_Dc_rankOf 58 = .ok (.aload 8, 2) := by decide +kernel
theorem d_Dc_rankOf_60 : decode b_Dc_rankOf 60 = .ok (.invokevirtual 39, 3) := by decide +kernel
theorem d_Dc_rankOf_63 : decode b_Dc_rankOf 63 = .ok (.aload_n 1, 1) := by decide +kernel
theorem d_Dc_rankOf_64 : decode b_Dc_rankOf 64 = .ok (.iload_n 2, 1) := by decide +kernel
theorem d_Dc_rankOf_65 : decode b_Dc_rankOf 65 = .ok (.iload_n 3, 1) := by decide +kernel
theorem d_Dc_rankOf_66 : decode b_Dc_rankOf 66 = .ok (.invokevirtual 44, 3) := by decide +kernel
theorem d_Dc_rankOf_69 : decode b_Dc_rankOf 69 = .ok (.ifCond .ge 12, 3) := by decide +kernel
theorem d_Dc_rankOf_72 : decode b_Dc_rankOf 72 = .ok (.iload 7, 2) := by decide +kernel
theorem d_Dc_rankOf_74 : decode b_Dc_rankOf 74 = .ok (.iconst 1, 1) := by decide +kernel
theorem d_Dc_rankOf_75 : decode b_Dc_rankOf 75 = .ok (.iadd, 1) := by decide +kernel
theorem d_Dc_rankOf_76 : decode b_Dc_rankOf 76 = .ok (.istore 4, 2) := by decide +kernel
theorem d_Dc_rankOf_78 : decode b_Dc_rankOf 78 = .ok (.goto 7, 3) := by decide +kernel
theorem d_Dc_rankOf_81 : decode b_Dc_rankOf 81 = .ok (.iload 7, 2) := by decide +kernel
theorem d_Dc_rankOf_83 : decode b_Dc_rankOf 83 = .ok (.istore 5, 2) := by decide +kernel
theorem d_Dc_rankOf_85 : decode b_Dc_rankOf 85 = .ok (.iinc 6 1, 3) := by decide +kernel
theorem d_Dc_rankOf_88 : decode b_Dc_rankOf 88 = .ok (.goto (-73), 3) := by decide +kernel
theorem d_Dc_rankOf_91 : decode b_Dc_rankOf 91 = .ok (.iload 4, 2) := by decide +kernel
theorem d_Dc_rankOf_93 : decode b_Dc_rankOf 93 = .ok (.ireturn, 1) := by decide +kernel
abbrev b_Dc_at : ByteArray := prog_2_method_5_code
def y_Dc_at : MethodName := ⟨"SpellDesk$Dictionary", "at", "(ILSpellDesk$Letters;II)LSpellDesk$Entry;"⟩
set_option maxRecDepth 20000 in
theorem Y_Dc_at : gh_Y y_Dc_at b_Dc_at 6 (some (.object "SpellDesk$Entry")) 4 := ⟨gt_in (i := 402) rfl rfl, gt_in (i := 6) (by decide +kernel) rfl, by decide +kernel, by decide +kernel, by decide +kernel⟩
theorem V_Dc_at : Cond.instanceMethod y_Dc_at ∈ gTbl ∧ Cond.selects y_Dc_at.cls y_Dc_at y_Dc_at ∈ gTbl := ⟨(gt_in (i := 400) (by decide +kernel) rfl), (gt_in (i := 401) (by decide +kernel) rfl)⟩
theorem d_Dc_at_0 : decode b_Dc_at 0 = .ok (.aload_n 0, 1) := by decide +kernel
theorem d_Dc_at_1 : decode b_Dc_at 1 = .ok (.iload_n 1, 1) := by decide +kernel
theorem d_Dc_at_2 : decode b_Dc_at 2 = .ok (.invokevirtual 31, 3) := by decide +kernel
theorem d_Dc_at_5 : decode b_Dc_at 5 = .ok (.astore 5, 2) := by decide +kernel
theorem d_Dc_at_7 : decode b_Dc_at 7 = .ok (.aload 5, 2) := by decide +kernel
theorem d_Dc_at_9 : decode b_Dc_at 9 = .ok (.ifnull 27, 3) := by decide +kernel
theorem d_Dc_at_12 : decode b_Dc_at 12 = .ok (.aload 5, 2) := by decide +kernel
theorem d_Dc_at_14 : decode b_Dc_at 14 = .ok (.getfield 35, 3) := by decide +kernel
theorem d_Dc_at_17 : decode b_Dc_at 17 = .ok (.iconst 0, 1) := by decide +kernel
theorem d_Dc_at_18 : decode b_Dc_at 18 = .ok (.aload 5, 2) := by decide +kernel
theorem d_Dc_at_20 : decode b_Dc_at 20 = .ok (.getfield 35, 3) := by decide +kernel
theorem d_Dc_at_23 : decode b_Dc_at 23 = .ok (.invokevirtual 39, 3) := by decide +kernel
theorem d_Dc_at_26 : decode b_Dc_at 26 = .ok (.aload_n 2, 1) := by decide +kernel
theorem d_Dc_at_27 : decode b_Dc_at 27 = .ok (.iload_n 3, 1) := by decide +kernel
theorem d_Dc_at_28 : decode b_Dc_at 28 = .ok (.iload 4, 2) := by decide +kernel
theorem d_Dc_at_30 : decode b_Dc_at 30 = .ok (.invokevirtual 44, 3) := by decide +kernel
theorem d_Dc_at_33 : decode b_Dc_at 33 = .ok (.ifCond .eq 5, 3) := by decide +kernel
theorem d_Dc_at_36 : decode b_Dc_at 36 = .ok (.aconst_null, 1) := by decide +kernel
theorem d_Dc_at_37 : decode b_Dc_at 37 = .ok (.areturn, 1) := by decide +kernel
theorem d_Dc_at_38 : decode b_Dc_at 38 = .ok (.aload 5, 2) := by decide +kernel
theorem d_Dc_at_40 : decode b_Dc_at 40 = .ok (.areturn, 1) := by decide +kernel
abbrev b_Dc_at1 : ByteArray := prog_2_method_4_code
def y_Dc_at1 : MethodName := ⟨"SpellDesk$Dictionary", "at", "(I)LSpellDesk$Entry;"⟩
set_option maxRecDepth 20000 in
theorem Y_Dc_at1 : gh_Y y_Dc_at1 b_Dc_at1 2 (some (.object "SpellDesk$Entry")) 1 := ⟨gt_in (i := 406) rfl rfl, gt_in (i := 6) (by decide +kernel) rfl, by decide +kernel, by decide +kernel, by decide +kernel⟩
theorem V_Dc_at1 : Cond.instanceMethod y_Dc_at1 ∈ gTbl ∧ Cond.selects y_Dc_at1.cls y_Dc_at1 y_Dc_at1 ∈ gTbl := ⟨(gt_in (i := 404) (by decide +kernel) rfl), (gt_in (i := 405) (by decide +kernel) rfl)⟩
theorem d_Dc_at1_0 : decode b_Dc_at1 0 = .ok (.iload_n 1, 1) := by decide +kernel
theorem d_Dc_at1_1 : decode b_Dc_at1 1 = .ok (.ifCond .lt 28, 3) := by decide +kernel
theorem d_Dc_at1_4 : decode b_Dc_at1 4 = .ok (.iload_n 1, 1) := by decide +kernel
theorem d_Dc_at1_5 : decode b_Dc_at1 5 = .ok (.aload_n 0, 1) := by decide +kernel
theorem d_Dc_at1_6 : decode b_Dc_at1 6 = .ok (.getfield 12, 3) := by decide +kernel
theorem d_Dc_at1_9 : decode b_Dc_at1 9 = .ok (.invokevirtual 18, 3) := by decide +kernel
theorem d_Dc_at1_12 : decode b_Dc_at1 12 = .ok (.if_icmp .ge 17, 3) := by decide +kernel
theorem d_Dc_at1_15 : decode b_Dc_at1 15 = .ok (.aload_n 0, 1) := by decide +kernel
theorem d_Dc_at1_16 : decode b_Dc_at1 16 = .ok (.getfield 12, 3) := by decide +kernel
theorem d_Dc_at1_19 : decode b_Dc_at1 19 = .ok (.iload_n 1, 1) := by decide +kernel
theorem d_Dc_at1_20 : decode b_Dc_at1 20 = .ok (.invokevirtual 25, 3) := by decide +kernel
theorem d_Dc_at1_23 : decode b_Dc_at1 23 = .ok (.checkcast 29, 3) := by decide +kernel
theorem d_Dc_at1_26 : decode b_Dc_at1 26 = .ok (.goto 4, 3) := by decide +kernel
theorem d_Dc_at1_29 : decode b_Dc_at1 29 = .ok (.aconst_null, 1) := by decide +kernel
theorem d_Dc_at1_30 : decode b_Dc_at1 30 = .ok (.areturn, 1) := by decide +kernel
abbrev b_Dc_count : ByteArray := prog_2_method_2_code
def y_Dc_count : MethodName := ⟨"SpellDesk$Dictionary", "count", "()I"⟩
set_option maxRecDepth 20000 in
theorem Y_Dc_count : gh_Y y_Dc_count b_Dc_count 1 (some .int) 0 := ⟨gt_in (i := 425) rfl rfl, gt_in (i := 6) (by decide +kernel) rfl, by decide +kernel, by decide +kernel, by decide +kernel⟩
theorem V_Dc_count : Cond.instanceMethod y_Dc_count ∈ gTbl ∧ Cond.selects y_Dc_count.cls y_Dc_count y_Dc_count ∈ gTbl := ⟨(gt_in (i := 423) (by decide +kernel) rfl), (gt_in (i := 424) (by decide +kernel) rfl)⟩
theorem d_Dc_count_0 : decode b_Dc_count 0 = .ok (.aload_n 0, 1) := by decide +kernel
theorem d_Dc_count_1 : decode b_Dc_count 1 = .ok (.getfield 12, 3) := by decide +kernel
theorem d_Dc_count_4 : decode b_Dc_count 4 = .ok (.invokevirtual 18, 3) := by decide +kernel
theorem d_Dc_count_7 : decode b_Dc_count 7 = .ok (.ireturn, 1) := by decide +kernel
abbrev b_Dc_insert : ByteArray := prog_2_method_7_code
def y_Dc_insert : MethodName := ⟨"SpellDesk$Dictionary", "insert", "(ILSpellDesk$Entry;)V"⟩
set_option maxRecDepth 20000 in
theorem Y_Dc_insert : gh_Y y_Dc_insert b_Dc_insert 3 none 2 := ⟨gt_in (i := 458) rfl rfl, gt_in (i := 6) (by decide +kernel) rfl, by decide +kernel, by decide +kernel, by decide +kernel⟩
theorem V_Dc_insert : Cond.instanceMethod y_Dc_insert ∈ gTbl ∧ Cond.selects y_Dc_insert.cls y_Dc_insert y_Dc_insert ∈ gTbl := ⟨(gt_in (i := 456) (by decide +kernel) rfl), (gt_in (i := 457) (by decide +kernel) rfl)⟩
theorem d_Dc_insert_0 : decode b_Dc_insert 0 = .ok (.iload_n 1, 1) := by decide +kernel
theorem d_Dc_insert_1 : decode b_Dc_insert 1 = .ok (.ifCond .lt 23, 3) := by decide +kernel
theorem d_Dc_insert_4 : decode b_Dc_insert 4 = .ok (.iload_n 1, 1) := by decide +kernel
theorem d_Dc_insert_5 : decode b_Dc_insert 5 = .ok (.aload_n 0, 1) := by decide +kernel
theorem d_Dc_insert_6 : decode b_Dc_insert 6 = .ok (.getfield 12, 3) := by decide +kernel
theorem d_Dc_insert_9 : decode b_Dc_insert 9 = .ok (.invokevirtual 18, 3) := by decide +kernel
theorem d_Dc_insert_12 : decode b_Dc_insert 12 = .ok (.if_icmp .gt 12, 3) := by decide +kernel
theorem d_Dc_insert_15 : decode b_Dc_insert 15 = .ok (.aload_n 0, 1) := by decide +kernel
theorem d_Dc_insert_16 : decode b_Dc_insert 16 = .ok (.getfield 12, 3) := by decide +kernel
theorem d_Dc_insert_19 : decode b_Dc_insert 19 = .ok (.iload_n 1, 1) := by decide +kernel
theorem d_Dc_insert_20 : decode b_Dc_insert 20 = .ok (.aload_n 2, 1) := by decide +kernel
theorem d_Dc_insert_21 : decode b_Dc_insert 21 = .ok (.invokevirtual 48, 3) := by decide +kernel
theorem d_Dc_insert_24 : decode b_Dc_insert 24 = .ok (.return_, 1) := by decide +kernel
abbrev b_Dc_remove : ByteArray := prog_2_method_8_code
def y_Dc_remove : MethodName := ⟨"SpellDesk$Dictionary", "remove", "(I)V"⟩
set_option maxRecDepth 20000 in
theorem Y_Dc_remove : gh_Y y_Dc_remove b_Dc_remove 2 none 1 := ⟨gt_in (i := 818) rfl rfl, gt_in (i := 6) (by decide +kernel) rfl, by decide +kernel, by decide +kernel, by decide +kernel⟩
theorem V_Dc_remove : Cond.instanceMethod y_Dc_remove ∈ gTbl ∧ Cond.selects y_Dc_remove.cls y_Dc_remove y_Dc_remove ∈ gTbl := ⟨(gt_in (i := 816) (by decide +kernel) rfl), (gt_in (i := 817) (by decide +kernel) rfl)⟩
theorem d_Dc_remove_0 : decode b_Dc_remove 0 = .ok (.iload_n 1, 1) := by decide +kernel
theorem d_Dc_remove_1 : decode b_Dc_remove 1 = .ok (.ifCond .lt 23, 3) := by decide +kernel
theorem d_Dc_remove_4 : decode b_Dc_remove 4 = .ok (.iload_n 1, 1) := by decide +kernel
theorem d_Dc_remove_5 : decode b_Dc_remove 5 = .ok (.aload_n 0, 1) := by decide +kernel
theorem d_Dc_remove_6 : decode b_Dc_remove 6 = .ok (.getfield 12, 3) := by decide +kernel
theorem d_Dc_remove_9 : decode b_Dc_remove 9 = .ok (.invokevirtual 18, 3) := by decide +kernel
theorem d_Dc_remove_12 : decode b_Dc_remove 12 = .ok (.if_icmp .ge 12, 3) := by decide +kernel
theorem d_Dc_remove_15 : decode b_Dc_remove 15 = .ok (.aload_n 0, 1) := by decide +kernel
theorem d_Dc_remove_16 : decode b_Dc_remove 16 = .ok (.getfield 12, 3) := by decide +kernel
theorem d_Dc_remove_19 : decode b_Dc_remove 19 = .ok (.iload_n 1, 1) := by decide +kernel
theorem d_Dc_remove_20 : decode b_Dc_remove 20 = .ok (.invokevirtual 52, 3) := by decide +kernel
theorem d_Dc_remove_23 : decode b_Dc_remove 23 = .ok (.pop, 1) := by decide +kernel
theorem d_Dc_remove_24 : decode b_Dc_remove 24 = .ok (.return_, 1) := by decide +kernel
abbrev b_Dc_clear : ByteArray := prog_2_method_3_code
def y_Dc_clear : MethodName := ⟨"SpellDesk$Dictionary", "clear", "()V"⟩
set_option maxRecDepth 20000 in
theorem Y_Dc_clear : gh_Y y_Dc_clear b_Dc_clear 1 none 0 := ⟨gt_in (i := 1046) rfl rfl, gt_in (i := 6) (by decide +kernel) rfl, by decide +kernel, by decide +kernel, by decide +kernel⟩
theorem V_Dc_clear : Cond.instanceMethod y_Dc_clear ∈ gTbl ∧ Cond.selects y_Dc_clear.cls y_Dc_clear y_Dc_clear ∈ gTbl := ⟨(gt_in (i := 1044) (by decide +kernel) rfl), (gt_in (i := 1045) (by decide +kernel) rfl)⟩
theorem d_Dc_clear_0 : decode b_Dc_clear 0 = .ok (.aload_n 0, 1) := by decide +kernel
theorem d_Dc_clear_1 : decode b_Dc_clear 1 = .ok (.getfield 12, 3) := by decide +kernel
theorem d_Dc_clear_4 : decode b_Dc_clear 4 = .ok (.invokevirtual 22, 3) := by decide +kernel
theorem d_Dc_clear_7 : decode b_Dc_clear 7 = .ok (.return_, 1) := by decide +kernel
theorem kf_Dc_12 : Cond.fieldLink "SpellDesk$Dictionary" 12 "SpellDesk$Dictionary" "list" "Ljava/util/ArrayList;" ∈ gTbl := (gt_in (i := 135) (by decide +kernel) rfl)
theorem kf_Dc_35 : Cond.fieldLink "SpellDesk$Dictionary" 35 "SpellDesk$Entry" "word" "LSpellDesk$Letters;" ∈ gTbl := (gt_in (i := 443) (by decide +kernel) rfl)
theorem kc_Dc_9 : Cond.classLink "SpellDesk$Dictionary" 9 "java/util/ArrayList" ∈ gTbl := (gt_in (i := 109) (by decide +kernel) rfl)
theorem kc_Dc_29 : Cond.classLink "SpellDesk$Dictionary" 29 "SpellDesk$Entry" ∈ gTbl := (gt_in (i := 393) (by decide +kernel) rfl)
theorem km_Dc_3 : Cond.methodLink "SpellDesk$Dictionary" 3 ⟨"java/lang/Object", "<init>", "()V"⟩ ∈ gTbl := (gt_in (i := 108) (by decide +kernel) rfl)
theorem km_Dc_11 : Cond.methodLink "SpellDesk$Dictionary" 11 ⟨"java/util/ArrayList", "<init>", "()V"⟩ ∈ gTbl := (gt_in (i := 111) (by decide +kernel) rfl)
theorem km_Dc_18 : Cond.methodLink "SpellDesk$Dictionary" 18 ⟨"java/util/ArrayList", "size", "()I"⟩ ∈ gTbl := (gt_in (i := 377) (by decide +kernel) rfl)
theorem km_Dc_22 : Cond.methodLink "SpellDesk$Dictionary" 22 ⟨"java/util/ArrayList", "clear", "()V"⟩ ∈ gTbl := (gt_in (i := 1047) (by decide +kernel) rfl)
theorem km_Dc_25 : Cond.methodLink "SpellDesk$Dictionary" 25 ⟨"java/util/ArrayList", "get", "(I)Ljava/lang/Object;"⟩ ∈ gTbl := (gt_in (i := 381) (by decide +kernel) rfl)
theorem km_Dc_31 : Cond.methodLink "SpellDesk$Dictionary" 31 ⟨"SpellDesk$Dictionary", "at", "(I)LSpellDesk$Entry;"⟩ ∈ gTbl := (gt_in (i := 403) (by decide +kernel) rfl)
theorem km_Dc_39 : Cond.methodLink "SpellDesk$Dictionary" 39 ⟨"SpellDesk$Letters", "count", "()I"⟩ ∈ gTbl := (gt_in (i := 394) (by decide +kernel) rfl)
theorem km_Dc_44 : Cond.methodLink "SpellDesk$Dictionary" 44 ⟨"SpellDesk$Letters", "compare", "(IILSpellDesk$Letters;II)I"⟩ ∈ gTbl := (gt_in (i := 395) (by decide +kernel) rfl)
theorem km_Dc_48 : Cond.methodLink "SpellDesk$Dictionary" 48 ⟨"java/util/ArrayList", "add", "(ILjava/lang/Object;)V"⟩ ∈ gTbl := (gt_in (i := 459) (by decide +kernel) rfl)
theorem km_Dc_52 : Cond.methodLink "SpellDesk$Dictionary" 52 ⟨"java/util/ArrayList", "remove", "(I)Ljava/lang/Object;"⟩ ∈ gTbl := (gt_in (i := 819) (by decide +kernel) rfl)
