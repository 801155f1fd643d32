abbrev b_Ln_init : ByteArray := prog_5_method_1_code
def y_Ln_init : MethodName := ⟨"SpellDesk$Line", "<init>", "(LSpellDesk$Letters;)V"⟩
set_option maxRecDepth 20000 in
theorem Y_Ln_init : gh_Y y_Ln_init b_Ln_init 2 none 1 := ⟨gt_in (i := 61) rfl rfl, gt_in (i := 4) (by decide +kernel) rfl, by decide +kernel, by decide +kernel, by decide +kernel⟩
theorem V_Ln_init : Cond.instanceMethod y_Ln_init ∈ gTbl := (gt_in (i := 60) (by decide +kernel) rfl)
theorem d_Ln_init_0 : decode b_Ln_init 0 = .ok (.aload_n 0, 1) := by decide +kernel
theorem d_Ln_init_1 : decode b_Ln_init 1 = .ok (.invokespecial 3, 3) := by decide +kernel
theorem d_Ln_init_4 : decode b_Ln_init 4 = .ok (.aload_n 0, 1) := by decide +kernel
theorem d_Ln_init_5 : decode b_Ln_init 5 = .ok (.aload_n 1, 1) := by decide +kernel
theorem d_Ln_init_6 : decode b_Ln_init 6 = .ok (.putfield 9, 3) := by decide +kernel
theorem d_Ln_init_9 : decode b_Ln_init 9 = .ok (.return_, 1) := by decide +kernel
abbrev b_Ln_open : ByteArray := prog_5_method_2_code
def y_Ln_open : MethodName := ⟨"SpellDesk$Line", "open", "(II)V"⟩
set_option maxRecDepth 20000 in
theorem Y_Ln_open : gh_Y y_Ln_open b_Ln_open 3 none 2 := ⟨gt_in (i := 287) rfl rfl, gt_in (i := 4) (by decide +kernel) rfl, by decide +kernel, by decide +kernel, by decide +kernel⟩
theorem V_Ln_open : Cond.instanceMethod y_Ln_open ∈ gTbl ∧ Cond.selects y_Ln_open.cls y_Ln_open y_Ln_open ∈ gTbl := ⟨(gt_in (i := 285) (by decide +kernel) rfl), (gt_in (i := 286) (by decide +kernel) rfl)⟩
theorem d_Ln_open_0 : decode b_Ln_open 0 = .ok (.aload_n 0, 1) := by decide +kernel
theorem d_Ln_open_1 : decode b_Ln_open 1 = .ok (.iload_n 1, 1) := by decide +kernel
theorem d_Ln_open_2 : decode b_Ln_open 2 = .ok (.putfield 15, 3) := by decide +kernel
theorem d_Ln_open_5 : decode b_Ln_open 5 = .ok (.aload_n 0, 1) := by decide +kernel
theorem d_Ln_open_6 : decode b_Ln_open 6 = .ok (.iload_n 2, 1) := by decide +kernel
theorem d_Ln_open_7 : decode b_Ln_open 7 = .ok (.putfield 19, 3) := by decide +kernel
theorem d_Ln_open_10 : decode b_Ln_open 10 = .ok (.aload_n 0, 1) := by decide +kernel
theorem d_Ln_open_11 : decode b_Ln_open 11 = .ok (.iload_n 1, 1) := by decide +kernel
theorem d_Ln_open_12 : decode b_Ln_open 12 = .ok (.putfield 22, 3) := by decide +kernel
theorem d_Ln_open_15 : decode b_Ln_open 15 = .ok (.aload_n 0, 1) := by decide +kernel
theorem d_Ln_open_16 : decode b_Ln_open 16 = .ok (.iload_n 1, 1) := by decide +kernel
theorem d_Ln_open_17 : decode b_Ln_open 17 = .ok (.putfield 25, 3) := by decide +kernel
theorem d_Ln_open_20 : decode b_Ln_open 20 = .ok (.return_, 1) := by decide +kernel
abbrev b_Ln_next : ByteArray := prog_5_method_3_code
def y_Ln_next : MethodName := ⟨"SpellDesk$Line", "next", "()Z"⟩
set_option maxRecDepth 20000 in
theorem Y_Ln_next : gh_Y y_Ln_next b_Ln_next 1 (some .boolean) 0 := ⟨gt_in (i := 291) rfl rfl, gt_in (i := 4) (by decide +kernel) rfl, by decide +kernel, by decide +kernel, by decide +kernel⟩
theorem V_Ln_next : Cond.instanceMethod y_Ln_next ∈ gTbl ∧ Cond.selects y_Ln_next.cls y_Ln_next y_Ln_next ∈ gTbl := ⟨(gt_in (i := 289) (by decide +kernel) rfl), (gt_in (i := 290) (by decide +kernel) rfl)⟩
theorem d_Ln_next_0 : decode b_Ln_next 0 = .ok (.aload_n 0, 1) := by decide +kernel
theorem d_Ln_next_1 : decode b_Ln_next 1 = .ok (.aload_n 0, 1) := by decide +kernel
theorem d_Ln_next_2 : decode b_Ln_next 2 = .ok (.getfield 25, 3) := by decide +kernel
theorem d_Ln_next_5 : decode b_Ln_next 5 = .ok (.putfield 22, 3) := by decide +kernel
theorem d_Ln_next_8 : decode b_Ln_next 8 = .ok (.aload_n 0, 1) := by decide +kernel
theorem d_Ln_next_9 : decode b_Ln_next 9 = .ok (.getfield 22, 3) := by decide +kernel
theorem d_Ln_next_12 : decode b_Ln_next 12 = .ok (.aload_n 0, 1) := by decide +kernel
theorem d_Ln_next_13 : decode b_Ln_next 13 = .ok (.getfield 19, 3) := by decide +kernel
theorem d_Ln_next_16 : decode b_Ln_next 16 = .ok (.if_icmp .ge 32, 3) := by decide +kernel
theorem d_Ln_next_19 : decode b_Ln_next 19 = .ok (.aload_n 0, 1) := by decide +kernel
theorem d_Ln_next_20 : decode b_Ln_next 20 = .ok (.getfield 9, 3) := by decide +kernel
theorem d_Ln_next_23 : decode b_Ln_next 23 = .ok (.aload_n 0, 1) := by decide +kernel
theorem d_Ln_next_24 : decode b_Ln_next 24 = .ok (.getfield 22, 3) := by decide +kernel
theorem d_Ln_next_27 : decode b_Ln_next 27 = .ok (.invokevirtual 28, 3) := by decide +kernel
theorem d_Ln_next_30 : decode b_Ln_next 30 = .ok (.bipush 32, 2) := by decide +kernel
theorem d_Ln_next_32 : decode b_Ln_next 32 = .ok (.if_icmp .ne 16, 3) := by decide +kernel
theorem d_Ln_next_35 : decode b_Ln_next 35 = .ok (.aload_n 0, 1) := by decide +kernel
theorem d_Ln_next_36 : decode b_Ln_next 36 = .ok (.dup, 1) := by decide +kernel
theorem d_Ln_next_37 : decode b_Ln_next 37 = .ok (.getfield 22, 3) := by decide +kernel
theorem d_Ln_next_40 : decode b_Ln_next 40 = .ok (.iconst 1, 1) := by decide +kernel
theorem d_Ln_next_41 : decode b_Ln_next 41 = .ok (.iadd, 1) := by decide +kernel
theorem d_Ln_next_42 : decode b_Ln_next 42 = .ok (.putfield 22, 3) := by decide +kernel
theorem d_Ln_next_45 : decode b_Ln_next 45 = .ok (.goto (-37), 3) := by decide +kernel
theorem d_Ln_next_48 : decode b_Ln_next 48 = .ok (.aload_n 0, 1) := by decide +kernel
theorem d_Ln_next_49 : decode b_Ln_next 49 = .ok (.aload_n 0, 1) := by decide +kernel
theorem d_Ln_next_50 : decode b_Ln_next 50 = .ok (.getfield 22, 3) := by decide +kernel
theorem d_Ln_next_53 : decode b_Ln_next 53 = .ok (.putfield 25, 3) := by decide +kernel
theorem d_Ln_next_56 : decode b_Ln_next 56 = .ok (.aload_n 0, 1) := by decide +kernel
theorem d_Ln_next_57 : decode b_Ln_next 57 = .ok (.getfield 25, 3) := by decide +kernel
theorem d_Ln_next_60 : decode b_Ln_next 60 = .ok (.aload_n 0, 1) := by decide +kernel
theorem d_Ln_next_61 : decode b_Ln_next 61 = .ok (.getfield 19, 3) := by decide +kernel
theorem d_Ln_next_64 : decode b_Ln_next 64 = .ok (.if_icmp .ge 32, 3) := by decide +kernel
theorem d_Ln_next_67 : decode b_Ln_next 67 = .ok (.aload_n 0, 1) := by decide +kernel
theorem d_Ln_next_68 : decode b_Ln_next 68 = .ok (.getfield 9, 3) := by decide +kernel
theorem d_Ln_next_71 : decode b_Ln_next 71 = .ok (.aload_n 0, 1) := by decide +kernel
theorem d_Ln_next_72 : decode b_Ln_next 72 = .ok (.getfield 25, 3) := by decide +kernel
theorem d_Ln_next_75 : decode b_Ln_next 75 = .ok (.invokevirtual 28, 3) := by decide +kernel
theorem d_Ln_next_78 : decode b_Ln_next 78 = .ok (.bipush 32, 2) := by decide +kernel
theorem d_Ln_next_80 : decode b_Ln_next 80 = .ok (.if_icmp .eq 16, 3) := by decide +kernel
theorem d_Ln_next_83 : decode b_Ln_next 83 = .ok (.aload_n 0, 1) := by decide +kernel
theorem d_Ln_next_84 : decode b_Ln_next 84 = .ok (.dup, 1) := by decide +kernel
theorem d_Ln_next_85 : decode b_Ln_next 85 = .ok (.getfield 25, 3) := by decide +kernel
theorem d_Ln_next_88 : decode b_Ln_next 88 = .ok (.iconst 1, 1) := by decide +kernel
theorem d_Ln_next_89 : decode b_Ln_next 89 = .ok (.iadd, 1) := by decide +kernel
theorem d_Ln_next_90 : decode b_Ln_next 90 = .ok (.putfield 25, 3) := by decide +kernel
theorem d_Ln_next_93 : decode b_Ln_next 93 = .ok (.goto (-37), 3) := by decide +kernel
theorem d_Ln_next_96 : decode b_Ln_next 96 = .ok (.aload_n 0, 1) := by decide +kernel
theorem d_Ln_next_97 : decode b_Ln_next 97 = .ok (.getfield 22, 3) := by decide +kernel
theorem d_Ln_next_100 : decode b_Ln_next 100 = .ok (.aload_n 0, 1) := by decide +kernel
theorem d_Ln_next_101 : decode b_Ln_next 101 = .ok (.getfield 25, 3) := by decide +kernel
theorem d_Ln_next_104 : decode b_Ln_next 104 = .ok (.if_icmp .ge 7, 3) := by decide +kernel
theorem d_Ln_next_107 : decode b_Ln_next 107 = .ok (.iconst 1, 1) := by decide +kernel
theorem d_Ln_next_108 : decode b_Ln_next 108 = .ok (.goto 4, 3) := by decide +kernel
theorem d_Ln_next_111 : decode b_Ln_next 111 = .ok (.iconst 0, 1) := by decide +kernel
theorem d_Ln_next_112 : decode b_Ln_next 112 = .ok (.ireturn, 1) := by decide +kernel
abbrev b_Ln_is : ByteArray := prog_5_method_9_code
def y_Ln_is : MethodName := ⟨"SpellDesk$Line", "is", "(Ljava/lang/String;)Z"⟩
set_option maxRecDepth 20000 in
theorem Y_Ln_is : gh_Y y_Ln_is b_Ln_is 3 (some .boolean) 1 := ⟨gt_in (i := 297) rfl rfl, gt_in (i := 4) (by decide +kernel) rfl, by decide +kernel, by decide +kernel, by decide +kernel⟩
theorem V_Ln_is : Cond.instanceMethod y_Ln_is ∈ gTbl ∧ Cond.selects y_Ln_is.cls y_Ln_is y_Ln_is ∈ gTbl := ⟨(gt_in (i := 295) (by decide +kernel) rfl), (gt_in (i := 296) (by decide +kernel) rfl)⟩
theorem d_Ln_is_0 : decode b_Ln_is 0 = .ok (.aload_n 0, 1) := by decide +kernel
theorem d_Ln_is_1 : decode b_Ln_is 1 = .ok (.getfield 25, 3) := by decide +kernel
theorem d_Ln_is_4 : decode b_Ln_is 4 = .ok (.aload_n 0, 1) := by decide +kernel
theorem d_Ln_is_5 : decode b_Ln_is 5 = .ok (.getfield 22, 3) := by decide +kernel
theorem d_Ln_is_8 : decode b_Ln_is 8 = .ok (.isub, 1) := by decide +kernel
theorem d_Ln_is_9 : decode b_Ln_is 9 = .ok (.aload_n 1, 1) := by decide +kernel
theorem d_Ln_is_10 : decode b_Ln_is 10 = .ok (.invokevirtual 44, 3) := by decide +kernel
theorem d_Ln_is_13 : decode b_Ln_is 13 = .ok (.if_icmp .eq 5, 3) := by decide +kernel
theorem d_Ln_is_16 : decode b_Ln_is 16 = .ok (.iconst 0, 1) := by decide +kernel
theorem d_Ln_is_17 : decode b_Ln_is 17 = .ok (.ireturn, 1) := by decide +kernel
theorem d_Ln_is_18 : decode b_Ln_is 18 = .ok (.iconst 0, 1) := by decide +kernel
theorem d_Ln_is_19 : decode b_Ln_is 19 = .ok (.istore_n 2, 1) := by decide +kernel
theorem d_Ln_is_20 : decode b_Ln_is 20 = .ok (.iload_n 2, 1) := by decide +kernel
theorem d_Ln_is_21 : decode b_Ln_is 21 = .ok (.aload_n 1, 1) := by decide +kernel
theorem d_Ln_is_22 : decode b_Ln_is 22 = .ok (.invokevirtual 44, 3) := by decide +kernel
theorem d_Ln_is_25 : decode b_Ln_is 25 = .ok (.if_icmp .ge 32, 3) := by decide +kernel
theorem d_Ln_is_28 : decode b_Ln_is 28 = .ok (.aload_n 0, 1) := by decide +kernel
theorem d_Ln_is_29 : decode b_Ln_is 29 = .ok (.getfield 9, 3) := by decide +kernel
theorem d_Ln_is_32 : decode b_Ln_is 32 = .ok (.aload_n 0, 1) := by decide +kernel
theorem d_Ln_is_33 : decode b_Ln_is 33 = .ok (.getfield 22, 3) := by decide +kernel
theorem d_Ln_is_36 : decode b_Ln_is 36 = .ok (.iload_n 2, 1) := by decide +kernel
theorem d_Ln_is_37 : decode b_Ln_is 37 = .ok (.iadd, 1) := by decide +kernel
theorem d_Ln_is_38 : decode b_Ln_is 38 = .ok (.invokevirtual 28, 3) := by decide +kernel
theorem d_Ln_is_41 : decode b_Ln_is 41 = .ok (.aload_n 1, 1) := by decide +kernel
theorem d_Ln_is_42 : decode b_Ln_is 42 = .ok (.iload_n 2, 1) := by decide +kernel
theorem d_Ln_is_43 : decode b_Ln_is 43 = .ok (.invokevirtual 50, 3) := by decide +kernel
theorem d_Ln_is_46 : decode b_Ln_is 46 = .ok (.if_icmp .eq 5, 3) := by decide +kernel
theorem d_Ln_is_49 : decode b_Ln_is 49 = .ok (.iconst 0, 1) := by decide +kernel
theorem d_Ln_is_50 : decode b_Ln_is 50 = .ok (.ireturn, 1) := by decide +kernel
theorem d_Ln_is_51 : decode b_Ln_is 51 = .ok (.iinc 2 1, 3) := by decide +kernel
theorem d_Ln_is_54 : decode b_Ln_is 54 = .ok (.goto (-34), 3) := by decide +kernel
theorem d_Ln_is_57 : decode b_Ln_is 57 = .ok (.iconst 1, 1) := by decide +kernel
theorem d_Ln_is_58 : decode b_Ln_is 58 = .ok (.ireturn, 1) := by decide +kernel
abbrev b_Ln_start : ByteArray := prog_5_method_5_code
def y_Ln_start : MethodName := ⟨"SpellDesk$Line", "start", "()I"⟩
set_option maxRecDepth 20000 in
theorem Y_Ln_start : gh_Y y_Ln_start b_Ln_start 1 (some .int) 0 := ⟨gt_in (i := 353) rfl rfl, gt_in (i := 4) (by decide +kernel) rfl, by decide +kernel, by decide +kernel, by decide +kernel⟩
theorem V_Ln_start : Cond.instanceMethod y_Ln_start ∈ gTbl ∧ Cond.selects y_Ln_start.cls y_Ln_start y_Ln_start ∈ gTbl := ⟨(gt_in (i := 351) (by decide +kernel) rfl), (gt_in (i := 352) (by decide +kernel) rfl)⟩
theorem d_Ln_start_0 : decode b_Ln_start 0 = .ok (.aload_n 0, 1) := by decide +kernel
theorem d_Ln_start_1 : decode b_Ln_start 1 = .ok (.getfield 22, 3) := by decide +kernel
theorem d_Ln_start_4 : decode b_Ln_start 4 = .ok (.ireturn, 1) := by decide +kernel
abbrev b_Ln_leadingLetters : ByteArray := prog_5_method_10_code
def y_Ln_leadingLetters : MethodName := ⟨"SpellDesk$Line", "leadingLetters", "()I"⟩
set_option maxRecDepth 20000 in
theorem Y_Ln_leadingLetters : gh_Y y_Ln_leadingLetters b_Ln_leadingLetters 2 (some .int) 0 := ⟨gt_in (i := 357) rfl rfl, gt_in (i := 4) (by decide +kernel) rfl, by decide +kernel, by decide +kernel, by decide +kernel⟩
theorem V_Ln_leadingLetters : Cond.instanceMethod y_Ln_leadingLetters ∈ gTbl ∧ Cond.selects y_Ln_leadingLetters.cls y_Ln_leadingLetters y_Ln_leadingLetters ∈ gTbl := ⟨(gt_in (i := 355) (by decide +kernel) rfl), (gt_in (i := 356) (by decide +kernel) rfl)⟩
theorem d_Ln_leadingLetters_0 : decode b_Ln_leadingLetters 0 = .ok (.aload_n 0, 1) := by decide +kernel
theorem d_Ln_leadingLetters_1 : decode b_Ln_leadingLetters 1 = .ok (.getfield 22, 3) := by decide +kernel
theorem d_Ln_leadingLetters_4 : decode b_Ln_leadingLetters 4 = .ok (.istore_n 1, 1) := by decide +kernel
theorem d_Ln_leadingLetters_5 : decode b_Ln_leadingLetters 5 = .ok (.iload_n 1, 1) := by decide +kernel
theorem d_Ln_leadingLetters_6 : decode b_Ln_leadingLetters 6 = .ok (.aload_n 0, 1) := by decide +kernel
theorem d_Ln_leadingLetters_7 : decode b_Ln_leadingLetters 7 = .ok (.getfield 25, 3) := by decide +kernel
theorem d_Ln_leadingLetters_10 : decode b_Ln_leadingLetters 10 = .ok (.if_icmp .ge 23, 3) := by decide +kernel
theorem d_Ln_leadingLetters_13 : decode b_Ln_leadingLetters 13 = .ok (.aload_n 0, 1) := by decide +kernel
theorem d_Ln_leadingLetters_14 : decode b_Ln_leadingLetters 14 = .ok (.getfield 9, 3) := by decide +kernel
theorem d_Ln_leadingLetters_17 : decode b_Ln_leadingLetters 17 = .ok (.iload_n 1, 1) := by decide +kernel
theorem d_Ln_leadingLetters_18 : decode b_Ln_leadingLetters 18 = .ok (.invokevirtual 28, 3) := by decide +kernel
theorem d_Ln_leadingLetters_21 : decode b_Ln_leadingLetters 21 = .ok (.invokestatic 53, 3) := by decide +kernel
theorem d_Ln_leadingLetters_24 : decode b_Ln_leadingLetters 24 = .ok (.ifCond .eq 9, 3) := by decide +kernel
theorem d_Ln_leadingLetters_27 : decode b_Ln_leadingLetters 27 = .ok (.iinc 1 1, 3) := by decide +kernel
theorem d_Ln_leadingLetters_30 : decode b_Ln_leadingLetters 30 = .ok (.goto (-25), 3) := by decide +kernel
theorem d_Ln_leadingLetters_33 : decode b_Ln_leadingLetters 33 = .ok (.iload_n 1, 1) := by decide +kernel
theorem d_Ln_leadingLetters_34 : decode b_Ln_leadingLetters 34 = .ok (.aload_n 0, 1) := by decide +kernel
theorem d_Ln_leadingLetters_35 : decode b_Ln_leadingLetters 35 = .ok (.getfield 22, 3) := by decide +kernel
theorem d_Ln_leadingLetters_38 : decode b_Ln_leadingLetters 38 = .ok (.isub, 1) := by decide +kernel
theorem d_Ln_leadingLetters_39 : decode b_Ln_leadingLetters 39 = .ok (.ireturn, 1) := by decide +kernel
abbrev b_Ln_isLetter : ByteArray := prog_5_method_18_code
def y_Ln_isLetter : MethodName := ⟨"SpellDesk$Line", "isLetter", "(C)Z"⟩
set_option maxRecDepth 20000 in
theorem Y_Ln_isLetter : gh_Y y_Ln_isLetter b_Ln_isLetter 1 (some .boolean) 1 := ⟨gt_in (i := 360) rfl rfl, gt_in (i := 4) (by decide +kernel) rfl, by decide +kernel, by decide +kernel, by decide +kernel⟩
theorem V_Ln_isLetter : Cond.static y_Ln_isLetter ∈ gTbl := (gt_in (i := 359) (by decide +kernel) rfl)
theorem d_Ln_isLetter_0 : decode b_Ln_isLetter 0 = .ok (.iload_n 0, 1) := by decide +kernel
theorem d_Ln_isLetter_1 : decode b_Ln_isLetter 1 = .ok (.bipush 97, 2) := by decide +kernel
theorem d_Ln_isLetter_3 : decode b_Ln_isLetter 3 = .ok (.if_icmp .lt 13, 3) := by decide +kernel
theorem d_Ln_isLetter_6 : decode b_Ln_isLetter 6 = .ok (.iload_n 0, 1) := by decide +kernel
theorem d_Ln_isLetter_7 : decode b_Ln_isLetter 7 = .ok (.bipush 122, 2) := by decide +kernel
theorem d_Ln_isLetter_9 : decode b_Ln_isLetter 9 = .ok (.if_icmp .gt 7, 3) := by decide +kernel
theorem d_Ln_isLetter_12 : decode b_Ln_isLetter 12 = .ok (.iconst 1, 1) := by decide +kernel
theorem d_Ln_isLetter_13 : decode b_Ln_isLetter 13 = .ok (.goto 4, 3) := by decide +kernel
theorem d_Ln_isLetter_16 : decode b_Ln_isLetter 16 = .ok (.iconst 0, 1) := by decide +kernel
theorem d_Ln_isLetter_17 : decode b_Ln_isLetter 17 = .ok (.ireturn, 1) := by decide +kernel
abbrev b_Ln_flagsBehind : ByteArray := prog_5_method_14_code
def y_Ln_flagsBehind : MethodName := ⟨"SpellDesk$Line", "flagsBehind", "(I)I"⟩
set_option maxRecDepth 20000 in
theorem Y_Ln_flagsBehind : gh_Y y_Ln_flagsBehind b_Ln_flagsBehind 6 (some .int) 1 := ⟨gt_in (i := 364) rfl rfl, gt_in (i := 4) (by decide +kernel) rfl, by decide +kernel, by decide +kernel, by decide +kernel⟩
theorem V_Ln_flagsBehind : Cond.instanceMethod y_Ln_flagsBehind ∈ gTbl ∧ Cond.selects y_Ln_flagsBehind.cls y_Ln_flagsBehind y_Ln_flagsBehind ∈ gTbl := ⟨(gt_in (i := 362) (by decide +kernel) rfl), (gt_in (i := 363) (by decide +kernel) rfl)⟩
theorem d_Ln_flagsBehind_0 : decode b_Ln_flagsBehind 0 = .ok (.aload_n 0, 1) := by decide +kernel
theorem d_Ln_flagsBehind_1 : decode b_Ln_flagsBehind 1 = .ok (.getfield 22, 3) := by decide +kernel
theorem d_Ln_flagsBehind_4 : decode b_Ln_flagsBehind 4 = .ok (.iload_n 1, 1) := by decide +kernel
theorem d_Ln_flagsBehind_5 : decode b_Ln_flagsBehind 5 = .ok (.iadd, 1) := by decide +kernel
theorem d_Ln_flagsBehind_6 : decode b_Ln_flagsBehind 6 = .ok (.istore_n 2, 1) := by decide +kernel
theorem d_Ln_flagsBehind_7 : decode b_Ln_flagsBehind 7 = .ok (.iload_n 2, 1) := by decide +kernel
theorem d_Ln_flagsBehind_8 : decode b_Ln_flagsBehind 8 = .ok (.aload_n 0, 1) := by decide +kernel
theorem d_Ln_flagsBehind_9 : decode b_Ln_flagsBehind 9 = .ok (.getfield 25, 3) := by decide +kernel
theorem d_Ln_flagsBehind_12 : decode b_Ln_flagsBehind 12 = .ok (.if_icmp .ne 5, 3) := by decide +kernel
theorem d_Ln_flagsBehind_15 : decode b_Ln_flagsBehind 15 = .ok (.iconst 0, 1) := by decide +kernel
theorem d_Ln_flagsBehind_16 : decode b_Ln_flagsBehind 16 = .ok (.ireturn, 1) := by decide +kernel
theorem d_Ln_flagsBehind_17 : decode b_Ln_flagsBehind 17 = .ok (.aload_n 0, 1) := by decide +kernel
theorem d_Ln_flagsBehind_18 : decode b_Ln_flagsBehind 18 = .ok (.getfield 9, 3) := by decide +kernel
theorem d_Ln_flagsBehind_21 : decode b_Ln_flagsBehind 21 = .ok (.iload_n 2, 1) := by decide +kernel
theorem d_Ln_flagsBehind_22 : decode b_Ln_flagsBehind 22 = .ok (.invokevirtual 28, 3) := by decide +kernel
theorem d_Ln_flagsBehind_25 : decode b_Ln_flagsBehind 25 = .ok (.bipush 47, 2) := by decide +kernel
theorem d_Ln_flagsBehind_27 : decode b_Ln_flagsBehind 27 = .ok (.if_icmp .ne 13, 3) := by decide +kernel
theorem d_Ln_flagsBehind_30 : decode b_Ln_flagsBehind 30 = .ok (.iload_n 2, 1) := by decide +kernel
theorem d_Ln_flagsBehind_31 : decode b_Ln_flagsBehind 31 = .ok (.iconst 1, 1) := by decide +kernel
theorem d_Ln_flagsBehind_32 : decode b_Ln_flagsBehind 32 = .ok (.iadd, 1) := by decide +kernel
theorem d_Ln_flagsBehind_33 : decode b_Ln_flagsBehind 33 = .ok (.aload_n 0, 1) := by decide +kernel
theorem d_Ln_flagsBehind_34 : decode b_Ln_flagsBehind 34 = .ok (.getfield 25, 3) := by decide +kernel
theorem d_Ln_flagsBehind_37 : decode b_Ln_flagsBehind 37 = .ok (.if_icmp .ne 5, 3) := by decide +kernel
theorem d_Ln_flagsBehind_40 : decode b_Ln_flagsBehind 40 = .ok (.iconst (-1), 1) := by decide +kernel
theorem d_Ln_flagsBehind_41 : decode b_Ln_flagsBehind 41 = .ok (.ireturn, 1) := by decide +kernel
theorem d_Ln_flagsBehind_42 : decode b_Ln_flagsBehind 42 = .ok (.iconst 0, 1) := by decide +kernel
theorem d_Ln_flagsBehind_43 : decode b_Ln_flagsBehind 43 = .ok (.istore_n 3, 1) := by decide +kernel
theorem d_Ln_flagsBehind_44 : decode b_Ln_flagsBehind 44 = .ok (.iload_n 2, 1) := by decide +kernel
theorem d_Ln_flagsBehind_45 : decode b_Ln_flagsBehind 45 = .ok (.iconst 1, 1) := by decide +kernel
theorem d_Ln_flagsBehind_46 : decode b_Ln_flagsBehind 46 = .ok (.iadd, 1) := by decide +kernel
theorem d_Ln_flagsBehind_47 : decode b_Ln_flagsBehind 47 = .ok (.istore 4, 2) := by decide +kernel
theorem d_Ln_flagsBehind_49 : decode b_Ln_flagsBehind 49 = .ok (.iload 4, 2) := by decide +kernel
theorem d_Ln_flagsBehind_51 : decode b_Ln_flagsBehind 51 = .ok (.aload_n 0, 1) := by decide +kernel
theorem d_Ln_flagsBehind_52 : decode b_Ln_flagsBehind 52 = .ok (.getfield 25, 3) := by decide +kernel
theorem d_Ln_flagsBehind_55 : decode b_Ln_flagsBehind 55 = .ok (.if_icmp .ge 42, 3) := by decide +kernel
theorem d_Ln_flagsBehind_58 : decode b_Ln_flagsBehind 58 = .ok (.aload_n 0, 1) := by decide +kernel
theorem d_Ln_flagsBehind_59 : decode b_Ln_flagsBehind 59 = .ok (.getfield 9, 3) := by decide +kernel
theorem d_Ln_flagsBehind_62 : decode b_Ln_flagsBehind 62 = .ok (.iload 4, 2) := by decide +kernel
theorem d_Ln_flagsBehind_64 : decode b_Ln_flagsBehind 64 = .ok (.invokevirtual 28, 3) := by decide +kernel
theorem d_Ln_flagsBehind_67 : decode b_Ln_flagsBehind 67 = .ok (.invokestatic 67, 3) := by decide +kernel
theorem d_Ln_flagsBehind_70 : decode b_Ln_flagsBehind 70 = .ok (.istore 5, 2) := by decide +kernel
theorem d_Ln_flagsBehind_72 : decode b_Ln_flagsBehind 72 = .ok (.iload 5, 2) := by decide +kernel
theorem d_Ln_flagsBehind_74 : decode b_Ln_flagsBehind 74 = .ok (.ifCond .eq 10, 3) := by decide +kernel
theorem d_Ln_flagsBehind_77 : decode b_Ln_flagsBehind 77 = .ok (.iload_n 3, 1) := by decide +kernel
theorem d_Ln_flagsBehind_78 : decode b_Ln_flagsBehind 78 = .ok (.iload 5, 2) := by decide +kernel
theorem d_Ln_flagsBehind_80 : decode b_Ln_flagsBehind 80 = .ok (.iand, 1) := by decide +kernel
theorem d_Ln_flagsBehind_81 : decode b_Ln_flagsBehind 81 = .ok (.ifCond .eq 5, 3) := by decide +kernel
theorem d_Ln_flagsBehind_84 : decode b_Ln_flagsBehind 84 = .ok (.iconst (-1), 1) := by decide +kernel
theorem d_Ln_flagsBehind_85 : decode b_Ln_flagsBehind 85 = .ok (.ireturn, 1) := by decide +kernel
theorem d_Ln_flagsBehind_86 : decode b_Ln_flagsBehind 86 = .ok (.iload_n 3, 1) := by decide +kernel
theorem d_Ln_flagsBehind_87 : decode b_Ln_flagsBehind 87 = .ok (.iload 5, 2) := by decide +kernel
theorem d_Ln_flagsBehind_89 : decode b_Ln_flagsBehind 89 = .ok (.ior, 1) := by decide +kernel
theorem d_Ln_flagsBehind_90 : decode b_Ln_flagsBehind 90 = .ok (.istore_n 3, 1) := by decide +kernel
theorem d_Ln_flagsBehind_91 : decode b_Ln_flagsBehind 91 = .ok (.iinc 4 1, 3) := by decide +kernel
theorem d_Ln_flagsBehind_94 : decode b_Ln_flagsBehind 94 = .ok (.goto (-45), 3) := by decide +kernel
theorem d_Ln_flagsBehind_97 : decode b_Ln_flagsBehind 97 = .ok (.iload_n 3, 1) := by decide +kernel
theorem d_Ln_flagsBehind_98 : decode b_Ln_flagsBehind 98 = .ok (.ireturn, 1) := by decide +kernel
abbrev b_Ln_flagBit : ByteArray := prog_5_method_19_code
def y_Ln_flagBit : MethodName := ⟨"SpellDesk$Line", "flagBit", "(C)I"⟩
set_option maxRecDepth 20000 in
theorem Y_Ln_flagBit : gh_Y y_Ln_flagBit b_Ln_flagBit 1 (some .int) 1 := ⟨gt_in (i := 367) rfl rfl, gt_in (i := 4) (by decide +kernel) rfl, by decide +kernel, by decide +kernel, by decide +kernel⟩
theorem V_Ln_flagBit : Cond.static y_Ln_flagBit ∈ gTbl := (gt_in (i := 366) (by decide +kernel) rfl)
theorem d_Ln_flagBit_0 : decode b_Ln_flagBit 0 = .ok (.iload_n 0, 1) := by decide +kernel
theorem d_Ln_flagBit_1 : decode b_Ln_flagBit 1 = .ok (.bipush 65, 2) := by decide +kernel
theorem d_Ln_flagBit_3 : decode b_Ln_flagBit 3 = .ok (.if_icmp .lt 18, 3) := by decide +kernel
theorem d_Ln_flagBit_6 : decode b_Ln_flagBit 6 = .ok (.iload_n 0, 1) := by decide +kernel
theorem d_Ln_flagBit_7 : decode b_Ln_flagBit 7 = .ok (.bipush 90, 2) := by decide +kernel
theorem d_Ln_flagBit_9 : decode b_Ln_flagBit 9 = .ok (.if_icmp .gt 12, 3) := by decide +kernel
theorem d_Ln_flagBit_12 : decode b_Ln_flagBit 12 = .ok (.iconst 1, 1) := by decide +kernel
theorem d_Ln_flagBit_13 : decode b_Ln_flagBit 13 = .ok (.iload_n 0, 1) := by decide +kernel
theorem d_Ln_flagBit_14 : decode b_Ln_flagBit 14 = .ok (.bipush 65, 2) := by decide +kernel
theorem d_Ln_flagBit_16 : decode b_Ln_flagBit 16 = .ok (.isub, 1) := by decide +kernel
theorem d_Ln_flagBit_17 : decode b_Ln_flagBit 17 = .ok (.ishl, 1) := by decide +kernel
theorem d_Ln_flagBit_18 : decode b_Ln_flagBit 18 = .ok (.goto 4, 3) := by decide +kernel
theorem d_Ln_flagBit_21 : decode b_Ln_flagBit 21 = .ok (.iconst 0, 1) := by decide +kernel
theorem d_Ln_flagBit_22 : decode b_Ln_flagBit 22 = .ok (.ireturn, 1) := by decide +kernel
abbrev b_Ln_ends : ByteArray := prog_5_method_4_code
def y_Ln_ends : MethodName := ⟨"SpellDesk$Line", "ends", "()Z"⟩
set_option maxRecDepth 20000 in
theorem Y_Ln_ends : gh_Y y_Ln_ends b_Ln_ends 1 (some .boolean) 0 := ⟨gt_in (i := 371) rfl rfl, gt_in (i := 4) (by decide +kernel) rfl, by decide +kernel, by decide +kernel, by decide +kernel⟩
theorem V_Ln_ends : Cond.instanceMethod y_Ln_ends ∈ gTbl ∧ Cond.selects y_Ln_ends.cls y_Ln_ends y_Ln_ends ∈ gTbl := ⟨(gt_in (i := 369) (by decide +kernel) rfl), (gt_in (i := 370) (by decide +kernel) rfl)⟩
theorem d_Ln_ends_0 : decode b_Ln_ends 0 = .ok (.aload_n 0, 1) := by decide +kernel
theorem d_Ln_ends_1 : decode b_Ln_ends 1 = .ok (.invokevirtual 34, 3) := by decide +kernel
theorem d_Ln_ends_4 : decode b_Ln_ends 4 = .ok (.ifCond .ne 7, 3) := by decide +kernel
theorem d_Ln_ends_7 : decode b_Ln_ends 7 = .ok (.iconst 1, 1) := by decide +kernel
theorem d_Ln_ends_8 : decode b_Ln_ends 8 = .ok (.goto 4, 3) := by decide +kernel
theorem d_Ln_ends_11 : decode b_Ln_ends 11 = .ok (.iconst 0, 1) := by decide +kernel
theorem d_Ln_ends_12 : decode b_Ln_ends 12 = .ok (.ireturn, 1) := by decide +kernel
abbrev b_Ln_nextIsOnlyWord : ByteArray := prog_5_method_13_code
def y_Ln_nextIsOnlyWord : MethodName := ⟨"SpellDesk$Line", "nextIsOnlyWord", "(I)Z"⟩
set_option maxRecDepth 20000 in
theorem Y_Ln_nextIsOnlyWord : gh_Y y_Ln_nextIsOnlyWord b_Ln_nextIsOnlyWord 2 (some .boolean) 1 := ⟨gt_in (i := 799) rfl rfl, gt_in (i := 4) (by decide +kernel) rfl, by decide +kernel, by decide +kernel, by decide +kernel⟩
theorem V_Ln_nextIsOnlyWord : Cond.instanceMethod y_Ln_nextIsOnlyWord ∈ gTbl ∧ Cond.selects y_Ln_nextIsOnlyWord.cls y_Ln_nextIsOnlyWord y_Ln_nextIsOnlyWord ∈ gTbl := ⟨(gt_in (i := 797) (by decide +kernel) rfl), (gt_in (i := 798) (by decide +kernel) rfl)⟩
theorem d_Ln_nextIsOnlyWord_0 : decode b_Ln_nextIsOnlyWord 0 = .ok (.aload_n 0, 1) := by decide +kernel
theorem d_Ln_nextIsOnlyWord_1 : decode b_Ln_nextIsOnlyWord 1 = .ok (.invokevirtual 34, 3) := by decide +kernel
theorem d_Ln_nextIsOnlyWord_4 : decode b_Ln_nextIsOnlyWord 4 = .ok (.ifCond .eq 22, 3) := by decide +kernel
theorem d_Ln_nextIsOnlyWord_7 : decode b_Ln_nextIsOnlyWord 7 = .ok (.aload_n 0, 1) := by decide +kernel
theorem d_Ln_nextIsOnlyWord_8 : decode b_Ln_nextIsOnlyWord 8 = .ok (.iload_n 1, 1) := by decide +kernel
theorem d_Ln_nextIsOnlyWord_9 : decode b_Ln_nextIsOnlyWord 9 = .ok (.invokevirtual 60, 3) := by decide +kernel
theorem d_Ln_nextIsOnlyWord_12 : decode b_Ln_nextIsOnlyWord 12 = .ok (.ifCond .eq 14, 3) := by decide +kernel
theorem d_Ln_nextIsOnlyWord_15 : decode b_Ln_nextIsOnlyWord 15 = .ok (.aload_n 0, 1) := by decide +kernel
theorem d_Ln_nextIsOnlyWord_16 : decode b_Ln_nextIsOnlyWord 16 = .ok (.invokevirtual 64, 3) := by decide +kernel
theorem d_Ln_nextIsOnlyWord_19 : decode b_Ln_nextIsOnlyWord 19 = .ok (.ifCond .eq 7, 3) := by decide +kernel
theorem d_Ln_nextIsOnlyWord_22 : decode b_Ln_nextIsOnlyWord 22 = .ok (.iconst 1, 1) := by decide +kernel
theorem d_Ln_nextIsOnlyWord_23 : decode b_Ln_nextIsOnlyWord 23 = .ok (.goto 4, 3) := by decide +kernel
theorem d_Ln_nextIsOnlyWord_26 : decode b_Ln_nextIsOnlyWord 26 = .ok (.iconst 0, 1) := by decide +kernel
theorem d_Ln_nextIsOnlyWord_27 : decode b_Ln_nextIsOnlyWord 27 = .ok (.ireturn, 1) := by decide +kernel
abbrev b_Ln_isWord : ByteArray := prog_5_method_11_code
def y_Ln_isWord : MethodName := ⟨"SpellDesk$Line", "isWord", "(I)Z"⟩
set_option maxRecDepth 20000 in
theorem Y_Ln_isWord : gh_Y y_Ln_isWord b_Ln_isWord 2 (some .boolean) 1 := ⟨gt_in (i := 803) rfl rfl, gt_in (i := 4) (by decide +kernel) rfl, by decide +kernel, by decide +kernel, by decide +kernel⟩
theorem V_Ln_isWord : Cond.instanceMethod y_Ln_isWord ∈ gTbl ∧ Cond.selects y_Ln_isWord.cls y_Ln_isWord y_Ln_isWord ∈ gTbl := ⟨(gt_in (i := 801) (by decide +kernel) rfl), (gt_in (i := 802) (by decide +kernel) rfl)⟩
theorem d_Ln_isWord_0 : decode b_Ln_isWord 0 = .ok (.aload_n 0, 1) := by decide +kernel
theorem d_Ln_isWord_1 : decode b_Ln_isWord 1 = .ok (.aload_n 0, 1) := by decide +kernel
theorem d_Ln_isWord_2 : decode b_Ln_isWord 2 = .ok (.getfield 22, 3) := by decide +kernel
theorem d_Ln_isWord_5 : decode b_Ln_isWord 5 = .ok (.putfield 38, 3) := by decide +kernel
theorem d_Ln_isWord_8 : decode b_Ln_isWord 8 = .ok (.aload_n 0, 1) := by decide +kernel
theorem d_Ln_isWord_9 : decode b_Ln_isWord 9 = .ok (.aload_n 0, 1) := by decide +kernel
theorem d_Ln_isWord_10 : decode b_Ln_isWord 10 = .ok (.invokevirtual 57, 3) := by decide +kernel
theorem d_Ln_isWord_13 : decode b_Ln_isWord 13 = .ok (.putfield 41, 3) := by decide +kernel
theorem d_Ln_isWord_16 : decode b_Ln_isWord 16 = .ok (.aload_n 0, 1) := by decide +kernel
theorem d_Ln_isWord_17 : decode b_Ln_isWord 17 = .ok (.getfield 41, 3) := by decide +kernel
theorem d_Ln_isWord_20 : decode b_Ln_isWord 20 = .ok (.iconst 1, 1) := by decide +kernel
theorem d_Ln_isWord_21 : decode b_Ln_isWord 21 = .ok (.if_icmp .lt 31, 3) := by decide +kernel
theorem d_Ln_isWord_24 : decode b_Ln_isWord 24 = .ok (.aload_n 0, 1) := by decide +kernel
theorem d_Ln_isWord_25 : decode b_Ln_isWord 25 = .ok (.getfield 41, 3) := by decide +kernel
theorem d_Ln_isWord_28 : decode b_Ln_isWord 28 = .ok (.iload_n 1, 1) := by decide +kernel
theorem d_Ln_isWord_29 : decode b_Ln_isWord 29 = .ok (.if_icmp .gt 23, 3) := by decide +kernel
theorem d_Ln_isWord_32 : decode b_Ln_isWord 32 = .ok (.aload_n 0, 1) := by decide +kernel
theorem d_Ln_isWord_33 : decode b_Ln_isWord 33 = .ok (.getfield 41, 3) := by decide +kernel
theorem d_Ln_isWord_36 : decode b_Ln_isWord 36 = .ok (.aload_n 0, 1) := by decide +kernel
theorem d_Ln_isWord_37 : decode b_Ln_isWord 37 = .ok (.getfield 25, 3) := by decide +kernel
theorem d_Ln_isWord_40 : decode b_Ln_isWord 40 = .ok (.aload_n 0, 1) := by decide +kernel
theorem d_Ln_isWord_41 : decode b_Ln_isWord 41 = .ok (.getfield 22, 3) := by decide +kernel
theorem d_Ln_isWord_44 : decode b_Ln_isWord 44 = .ok (.isub, 1) := by decide +kernel
theorem d_Ln_isWord_45 : decode b_Ln_isWord 45 = .ok (.if_icmp .ne 7, 3) := by decide +kernel
theorem d_Ln_isWord_48 : decode b_Ln_isWord 48 = .ok (.iconst 1, 1) := by decide +kernel
theorem d_Ln_isWord_49 : decode b_Ln_isWord 49 = .ok (.goto 4, 3) := by decide +kernel
theorem d_Ln_isWord_52 : decode b_Ln_isWord 52 = .ok (.iconst 0, 1) := by decide +kernel
theorem d_Ln_isWord_53 : decode b_Ln_isWord 53 = .ok (.ireturn, 1) := by decide +kernel
abbrev b_Ln_wordFrom : ByteArray := prog_5_method_7_code
def y_Ln_wordFrom : MethodName := ⟨"SpellDesk$Line", "wordFrom", "()I"⟩
set_option maxRecDepth 20000 in
theorem Y_Ln_wordFrom : gh_Y y_Ln_wordFrom b_Ln_wordFrom 1 (some .int) 0 := ⟨gt_in (i := 809) rfl rfl, gt_in (i := 4) (by decide +kernel) rfl, by decide +kernel, by decide +kernel, by decide +kernel⟩
theorem V_Ln_wordFrom : Cond.instanceMethod y_Ln_wordFrom ∈ gTbl ∧ Cond.selects y_Ln_wordFrom.cls y_Ln_wordFrom y_Ln_wordFrom ∈ gTbl := ⟨(gt_in (i := 807) (by decide +kernel) rfl), (gt_in (i := 808) (by decide +kernel) rfl)⟩
theorem d_Ln_wordFrom_0 : decode b_Ln_wordFrom 0 = .ok (.aload_n 0, 1) := by decide +kernel
theorem d_Ln_wordFrom_1 : decode b_Ln_wordFrom 1 = .ok (.getfield 38, 3) := by decide +kernel
theorem d_Ln_wordFrom_4 : decode b_Ln_wordFrom 4 = .ok (.ireturn, 1) := by decide +kernel
abbrev b_Ln_wordLength : ByteArray := prog_5_method_8_code
def y_Ln_wordLength : MethodName := ⟨"SpellDesk$Line", "wordLength", "()I"⟩
set_option maxRecDepth 20000 in
theorem Y_Ln_wordLength : gh_Y y_Ln_wordLength b_Ln_wordLength 1 (some .int) 0 := ⟨gt_in (i := 813) rfl rfl, gt_in (i := 4) (by decide +kernel) rfl, by decide +kernel, by decide +kernel, by decide +kernel⟩
theorem V_Ln_wordLength : Cond.instanceMethod y_Ln_wordLength ∈ gTbl ∧ Cond.selects y_Ln_wordLength.cls y_Ln_wordLength y_Ln_wordLength ∈ gTbl := ⟨(gt_in (i := 811) (by decide +kernel) rfl), (gt_in (i := 812) (by decide +kernel) rfl)⟩
theorem d_Ln_wordLength_0 : decode b_Ln_wordLength 0 = .ok (.aload_n 0, 1) := by decide +kernel
theorem d_Ln_wordLength_1 : decode b_Ln_wordLength 1 = .ok (.getfield 41, 3) := by decide +kernel
theorem d_Ln_wordLength_4 : decode b_Ln_wordLength 4 = .ok (.ireturn, 1) := by decide +kernel
abbrev b_Ln_flag : ByteArray := prog_5_method_15_code
def y_Ln_flag : MethodName := ⟨"SpellDesk$Line", "flag", "()I"⟩
set_option maxRecDepth 20000 in
theorem Y_Ln_flag : gh_Y y_Ln_flag b_Ln_flag 1 (some .int) 0 := ⟨gt_in (i := 843) rfl rfl, gt_in (i := 4) (by decide +kernel) rfl, by decide +kernel, by decide +kernel, by decide +kernel⟩
theorem V_Ln_flag : Cond.instanceMethod y_Ln_flag ∈ gTbl ∧ Cond.selects y_Ln_flag.cls y_Ln_flag y_Ln_flag ∈ gTbl := ⟨(gt_in (i := 841) (by decide +kernel) rfl), (gt_in (i := 842) (by decide +kernel) rfl)⟩
theorem d_Ln_flag_0 : decode b_Ln_flag 0 = .ok (.aload_n 0, 1) := by decide +kernel
theorem d_Ln_flag_1 : decode b_Ln_flag 1 = .ok (.getfield 25, 3) := by decide +kernel
theorem d_Ln_flag_4 : decode b_Ln_flag 4 = .ok (.aload_n 0, 1) := by decide +kernel
theorem d_Ln_flag_5 : decode b_Ln_flag 5 = .ok (.getfield 22, 3) := by decide +kernel
theorem d_Ln_flag_8 : decode b_Ln_flag 8 = .ok (.isub, 1) := by decide +kernel
theorem d_Ln_flag_9 : decode b_Ln_flag 9 = .ok (.iconst 1, 1) := by decide +kernel
theorem d_Ln_flag_10 : decode b_Ln_flag 10 = .ok (.if_icmp .ne 20, 3) := by decide +kernel
theorem d_Ln_flag_13 : decode b_Ln_flag 13 = .ok (.aload_n 0, 1) := by decide +kernel
theorem d_Ln_flag_14 : decode b_Ln_flag 14 = .ok (.getfield 9, 3) := by decide +kernel
theorem d_Ln_flag_17 : decode b_Ln_flag 17 = .ok (.aload_n 0, 1) := by decide +kernel
theorem d_Ln_flag_18 : decode b_Ln_flag 18 = .ok (.getfield 22, 3) := by decide +kernel
theorem d_Ln_flag_21 : decode b_Ln_flag 21 = .ok (.invokevirtual 28, 3) := by decide +kernel
theorem d_Ln_flag_24 : decode b_Ln_flag 24 = .ok (.invokestatic 67, 3) := by decide +kernel
theorem d_Ln_flag_27 : decode b_Ln_flag 27 = .ok (.goto 4, 3) := by decide +kernel
theorem d_Ln_flag_30 : decode b_Ln_flag 30 = .ok (.iconst 0, 1) := by decide +kernel
theorem d_Ln_flag_31 : decode b_Ln_flag 31 = .ok (.ireturn, 1) := by decide +kernel
abbrev b_Ln_nextIsPart : ByteArray := prog_5_method_16_code
def y_Ln_nextIsPart : MethodName := ⟨"SpellDesk$Line", "nextIsPart", "(Z)Z"⟩
set_option maxRecDepth 20000 in
theorem Y_Ln_nextIsPart : gh_Y y_Ln_nextIsPart b_Ln_nextIsPart 3 (some .boolean) 1 := ⟨gt_in (i := 847) rfl rfl, gt_in (i := 4) (by decide +kernel) rfl, by decide +kernel, by decide +kernel, by decide +kernel⟩
theorem V_Ln_nextIsPart : Cond.instanceMethod y_Ln_nextIsPart ∈ gTbl ∧ Cond.selects y_Ln_nextIsPart.cls y_Ln_nextIsPart y_Ln_nextIsPart ∈ gTbl := ⟨(gt_in (i := 845) (by decide +kernel) rfl), (gt_in (i := 846) (by decide +kernel) rfl)⟩
theorem d_Ln_nextIsPart_0 : decode b_Ln_nextIsPart 0 = .ok (.aload_n 0, 1) := by decide +kernel
theorem d_Ln_nextIsPart_1 : decode b_Ln_nextIsPart 1 = .ok (.invokevirtual 34, 3) := by decide +kernel
theorem d_Ln_nextIsPart_4 : decode b_Ln_nextIsPart 4 = .ok (.ifCond .ne 5, 3) := by decide +kernel
theorem d_Ln_nextIsPart_7 : decode b_Ln_nextIsPart 7 = .ok (.iconst 0, 1) := by decide +kernel
theorem d_Ln_nextIsPart_8 : decode b_Ln_nextIsPart 8 = .ok (.ireturn, 1) := by decide +kernel
theorem d_Ln_nextIsPart_9 : decode b_Ln_nextIsPart 9 = .ok (.aload_n 0, 1) := by decide +kernel
theorem d_Ln_nextIsPart_10 : decode b_Ln_nextIsPart 10 = .ok (.ldc 71, 2) := by decide +kernel
theorem d_Ln_nextIsPart_12 : decode b_Ln_nextIsPart 12 = .ok (.invokevirtual 73, 3) := by decide +kernel
theorem d_Ln_nextIsPart_15 : decode b_Ln_nextIsPart 15 = .ok (.ifCond .eq 5, 3) := by decide +kernel
theorem d_Ln_nextIsPart_18 : decode b_Ln_nextIsPart 18 = .ok (.iconst 1, 1) := by decide +kernel
theorem d_Ln_nextIsPart_19 : decode b_Ln_nextIsPart 19 = .ok (.ireturn, 1) := by decide +kernel
theorem d_Ln_nextIsPart_20 : decode b_Ln_nextIsPart 20 = .ok (.aload_n 0, 1) := by decide +kernel
theorem d_Ln_nextIsPart_21 : decode b_Ln_nextIsPart 21 = .ok (.getfield 22, 3) := by decide +kernel
theorem d_Ln_nextIsPart_24 : decode b_Ln_nextIsPart 24 = .ok (.istore_n 2, 1) := by decide +kernel
theorem d_Ln_nextIsPart_25 : decode b_Ln_nextIsPart 25 = .ok (.iload_n 2, 1) := by decide +kernel
theorem d_Ln_nextIsPart_26 : decode b_Ln_nextIsPart 26 = .ok (.aload_n 0, 1) := by decide +kernel
theorem d_Ln_nextIsPart_27 : decode b_Ln_nextIsPart 27 = .ok (.getfield 25, 3) := by decide +kernel
theorem d_Ln_nextIsPart_30 : decode b_Ln_nextIsPart 30 = .ok (.if_icmp .ge 42, 3) := by decide +kernel
theorem d_Ln_nextIsPart_33 : decode b_Ln_nextIsPart 33 = .ok (.aload_n 0, 1) := by decide +kernel
theorem d_Ln_nextIsPart_34 : decode b_Ln_nextIsPart 34 = .ok (.getfield 9, 3) := by decide +kernel
theorem d_Ln_nextIsPart_37 : decode b_Ln_nextIsPart 37 = .ok (.iload_n 2, 1) := by decide +kernel
theorem d_Ln_nextIsPart_38 : decode b_Ln_nextIsPart 38 = .ok (.invokevirtual 28, 3) := by decide +kernel
theorem d_Ln_nextIsPart_41 : decode b_Ln_nextIsPart 41 = .ok (.invokestatic 53, 3) := by decide +kernel
theorem d_Ln_nextIsPart_44 : decode b_Ln_nextIsPart 44 = .ok (.ifCond .ne 22, 3) := by decide +kernel
theorem d_Ln_nextIsPart_47 : decode b_Ln_nextIsPart 47 = .ok (.iload_n 1, 1) := by decide +kernel
theorem d_Ln_nextIsPart_48 : decode b_Ln_nextIsPart 48 = .ok (.ifCond .eq 16, 3) := by decide +kernel
theorem d_Ln_nextIsPart_51 : decode b_Ln_nextIsPart 51 = .ok (.aload_n 0, 1) := by decide +kernel
theorem d_Ln_nextIsPart_52 : decode b_Ln_nextIsPart 52 = .ok (.getfield 9, 3) := by decide +kernel
theorem d_Ln_nextIsPart_55 : decode b_Ln_nextIsPart 55 = .ok (.iload_n 2, 1) := by decide +kernel
theorem d_Ln_nextIsPart_56 : decode b_Ln_nextIsPart 56 = .ok (.invokevirtual 28, 3) := by decide +kernel
theorem d_Ln_nextIsPart_59 : decode b_Ln_nextIsPart 59 = .ok (.bipush 46, 2) := by decide +kernel
theorem d_Ln_nextIsPart_61 : decode b_Ln_nextIsPart 61 = .ok (.if_icmp .eq 5, 3) := by decide +kernel
theorem d_Ln_nextIsPart_64 : decode b_Ln_nextIsPart 64 = .ok (.iconst 0, 1) := by decide +kernel
theorem d_Ln_nextIsPart_65 : decode b_Ln_nextIsPart 65 = .ok (.ireturn, 1) := by decide +kernel
theorem d_Ln_nextIsPart_66 : decode b_Ln_nextIsPart 66 = .ok (.iinc 2 1, 3) := by decide +kernel
theorem d_Ln_nextIsPart_69 : decode b_Ln_nextIsPart 69 = .ok (.goto (-44), 3) := by decide +kernel
theorem d_Ln_nextIsPart_72 : decode b_Ln_nextIsPart 72 = .ok (.aload_n 0, 1) := by decide +kernel
theorem d_Ln_nextIsPart_73 : decode b_Ln_nextIsPart 73 = .ok (.getfield 25, 3) := by decide +kernel
theorem d_Ln_nextIsPart_76 : decode b_Ln_nextIsPart 76 = .ok (.aload_n 0, 1) := by decide +kernel
theorem d_Ln_nextIsPart_77 : decode b_Ln_nextIsPart 77 = .ok (.getfield 22, 3) := by decide +kernel
theorem d_Ln_nextIsPart_80 : decode b_Ln_nextIsPart 80 = .ok (.isub, 1) := by decide +kernel
theorem d_Ln_nextIsPart_81 : decode b_Ln_nextIsPart 81 = .ok (.bipush 6, 2) := by decide +kernel
theorem d_Ln_nextIsPart_83 : decode b_Ln_nextIsPart 83 = .ok (.if_icmp .gt 7, 3) := by decide +kernel
theorem d_Ln_nextIsPart_86 : decode b_Ln_nextIsPart 86 = .ok (.iconst 1, 1) := by decide +kernel
theorem d_Ln_nextIsPart_87 : decode b_Ln_nextIsPart 87 = .ok (.goto 4, 3) := by decide +kernel
theorem d_Ln_nextIsPart_90 : decode b_Ln_nextIsPart 90 = .ok (.iconst 0, 1) := by decide +kernel
theorem d_Ln_nextIsPart_91 : decode b_Ln_nextIsPart 91 = .ok (.ireturn, 1) := by decide +kernel
abbrev b_Ln_part : ByteArray := prog_5_method_17_code
def y_Ln_part : MethodName := ⟨"SpellDesk$Line", "part", "()LSpellDesk$Letters;"⟩
set_option maxRecDepth 20000 in
theorem Y_Ln_part : gh_Y y_Ln_part b_Ln_part 1 (some (.object "SpellDesk$Letters")) 0 := ⟨gt_in (i := 853) rfl rfl, gt_in (i := 4) (by decide +kernel) rfl, by decide +kernel, by decide +kernel, by decide +kernel⟩
theorem V_Ln_part : Cond.instanceMethod y_Ln_part ∈ gTbl ∧ Cond.selects y_Ln_part.cls y_Ln_part y_Ln_part ∈ gTbl := ⟨(gt_in (i := 851) (by decide +kernel) rfl), (gt_in (i := 852) (by decide +kernel) rfl)⟩
theorem d_Ln_part_0 : decode b_Ln_part 0 = .ok (.aload_n 0, 1) := by decide +kernel
theorem d_Ln_part_1 : decode b_Ln_part 1 = .ok (.getfield 9, 3) := by decide +kernel
theorem d_Ln_part_4 : decode b_Ln_part 4 = .ok (.aload_n 0, 1) := by decide +kernel
theorem d_Ln_part_5 : decode b_Ln_part 5 = .ok (.getfield 22, 3) := by decide +kernel
theorem d_Ln_part_8 : decode b_Ln_part 8 = .ok (.aload_n 0, 1) := by decide +kernel
theorem d_Ln_part_9 : decode b_Ln_part 9 = .ok (.ldc 71, 2) := by decide +kernel
theorem d_Ln_part_11 : decode b_Ln_part 11 = .ok (.invokevirtual 73, 3) := by decide +kernel
theorem d_Ln_part_14 : decode b_Ln_part 14 = .ok (.ifCond .eq 7, 3) := by decide +kernel
theorem d_Ln_part_17 : decode b_Ln_part 17 = .ok (.iconst 0, 1) := by decide +kernel
theorem d_Ln_part_18 : decode b_Ln_part 18 = .ok (.goto 12, 3) := by decide +kernel
theorem d_Ln_part_21 : decode b_Ln_part 21 = .ok (.aload_n 0, 1) := by decide +kernel
theorem d_Ln_part_22 : decode b_Ln_part 22 = .ok (.getfield 25, 3) := by decide +kernel
theorem d_Ln_part_25 : decode b_Ln_part 25 = .ok (.aload_n 0, 1) := by decide +kernel
theorem d_Ln_part_26 : decode b_Ln_part 26 = .ok (.getfield 22, 3) := by decide +kernel
theorem d_Ln_part_29 : decode b_Ln_part 29 = .ok (.isub, 1) := by decide +kernel
theorem d_Ln_part_30 : decode b_Ln_part 30 = .ok (.invokevirtual 77, 3) := by decide +kernel
theorem d_Ln_part_33 : decode b_Ln_part 33 = .ok (.areturn, 1) := by decide +kernel
abbrev b_Ln_nextIsWord : ByteArray := prog_5_method_12_code
def y_Ln_nextIsWord : MethodName := ⟨"SpellDesk$Line", "nextIsWord", "(I)Z"⟩
set_option maxRecDepth 20000 in
theorem Y_Ln_nextIsWord : gh_Y y_Ln_nextIsWord b_Ln_nextIsWord 2 (some .boolean) 1 := ⟨gt_in (i := 887) rfl rfl, gt_in (i := 4) (by decide +kernel) rfl, by decide +kernel, by decide +kernel, by decide +kernel⟩
theorem V_Ln_nextIsWord : Cond.instanceMethod y_Ln_nextIsWord ∈ gTbl ∧ Cond.selects y_Ln_nextIsWord.cls y_Ln_nextIsWord y_Ln_nextIsWord ∈ gTbl := ⟨(gt_in (i := 885) (by decide +kernel) rfl), (gt_in (i := 886) (by decide +kernel) rfl)⟩
theorem d_Ln_nextIsWord_0 : decode b_Ln_nextIsWord 0 = .ok (.aload_n 0, 1) := by decide +kernel
theorem d_Ln_nextIsWord_1 : decode b_Ln_nextIsWord 1 = .ok (.invokevirtual 34, 3) := by decide +kernel
theorem d_Ln_nextIsWord_4 : decode b_Ln_nextIsWord 4 = .ok (.ifCond .eq 15, 3) := by decide +kernel
theorem d_Ln_nextIsWord_7 : decode b_Ln_nextIsWord 7 = .ok (.aload_n 0, 1) := by decide +kernel
theorem d_Ln_nextIsWord_8 : decode b_Ln_nextIsWord 8 = .ok (.iload_n 1, 1) := by decide +kernel
theorem d_Ln_nextIsWord_9 : decode b_Ln_nextIsWord 9 = .ok (.invokevirtual 60, 3) := by decide +kernel
theorem d_Ln_nextIsWord_12 : decode b_Ln_nextIsWord 12 = .ok (.ifCond .eq 7, 3) := by decide +kernel
theorem d_Ln_nextIsWord_15 : decode b_Ln_nextIsWord 15 = .ok (.iconst 1, 1) := by decide +kernel
theorem d_Ln_nextIsWord_16 : decode b_Ln_nextIsWord 16 = .ok (.goto 4, 3) := by decide +kernel
theorem d_Ln_nextIsWord_19 : decode b_Ln_nextIsWord 19 = .ok (.iconst 0, 1) := by decide +kernel
theorem d_Ln_nextIsWord_20 : decode b_Ln_nextIsWord 20 = .ok (.ireturn, 1) := by decide +kernel
abbrev b_Ln_place : ByteArray := prog_5_method_6_code
def y_Ln_place : MethodName := ⟨"SpellDesk$Line", "place", "()I"⟩
set_option maxRecDepth 20000 in
theorem Y_Ln_place : gh_Y y_Ln_place b_Ln_place 1 (some .int) 0 := ⟨gt_in (i := 1060) rfl rfl, gt_in (i := 4) (by decide +kernel) rfl, by decide +kernel, by decide +kernel, by decide +kernel⟩
theorem V_Ln_place : Cond.instanceMethod y_Ln_place ∈ gTbl ∧ Cond.selects y_Ln_place.cls y_Ln_place y_Ln_place ∈ gTbl := ⟨(gt_in (i := 1058) (by decide +kernel) rfl), (gt_in (i := 1059) (by decide +kernel) rfl)⟩
theorem d_Ln_place_0 : decode b_Ln_place 0 = .ok (.aload_n 0, 1) := by decide +kernel
theorem d_Ln_place_1 : decode b_Ln_place 1 = .ok (.getfield 22, 3) := by decide +kernel
theorem d_Ln_place_4 : decode b_Ln_place 4 = .ok (.aload_n 0, 1) := by decide +kernel
theorem d_Ln_place_5 : decode b_Ln_place 5 = .ok (.getfield 15, 3) := by decide +kernel
theorem d_Ln_place_8 : decode b_Ln_place 8 = .ok (.isub, 1) := by decide +kernel
theorem d_Ln_place_9 : decode b_Ln_place 9 = .ok (.iconst 1, 1) := by decide +kernel
theorem d_Ln_place_10 : decode b_Ln_place 10 = .ok (.iadd, 1) := by decide +kernel
theorem d_Ln_place_11 : decode b_Ln_place 11 = .ok (.ireturn, 1) := by decide +kernel
theorem kf_Ln_9 : Cond.fieldLink "SpellDesk$Line" 9 "SpellDesk$Line" "text" "LSpellDesk$Letters;" ∈ gTbl := (gt_in (i := 63) (by decide +kernel) rfl)
theorem kf_Ln_15 : Cond.fieldLink "SpellDesk$Line" 15 "SpellDesk$Line" "lineStart" "I" ∈ gTbl := (gt_in (i := 64) (by decide +kernel) rfl)
theorem kf_Ln_19 : Cond.fieldLink "SpellDesk$Line" 19 "SpellDesk$Line" "lineEnd" "I" ∈ gTbl := (gt_in (i := 65) (by decide +kernel) rfl)
theorem kf_Ln_22 : Cond.fieldLink "SpellDesk$Line" 22 "SpellDesk$Line" "start" "I" ∈ gTbl := (gt_in (i := 66) (by decide +kernel) rfl)
theorem kf_Ln_25 : Cond.fieldLink "SpellDesk$Line" 25 "SpellDesk$Line" "end" "I" ∈ gTbl := (gt_in (i := 67) (by decide +kernel) rfl)
theorem kf_Ln_38 : Cond.fieldLink "SpellDesk$Line" 38 "SpellDesk$Line" "wordFrom" "I" ∈ gTbl := (gt_in (i := 68) (by decide +kernel) rfl)
theorem kf_Ln_41 : Cond.fieldLink "SpellDesk$Line" 41 "SpellDesk$Line" "wordLength" "I" ∈ gTbl := (gt_in (i := 69) (by decide +kernel) rfl)
theorem km_Ln_3 : Cond.methodLink "SpellDesk$Line" 3 ⟨"java/lang/Object", "<init>", "()V"⟩ ∈ gTbl := (gt_in (i := 62) (by decide +kernel) rfl)
theorem km_Ln_28 : Cond.methodLink "SpellDesk$Line" 28 ⟨"SpellDesk$Letters", "at", "(I)C"⟩ ∈ gTbl := (gt_in (i := 292) (by decide +kernel) rfl)
theorem km_Ln_34 : Cond.methodLink "SpellDesk$Line" 34 ⟨"SpellDesk$Line", "next", "()Z"⟩ ∈ gTbl := (gt_in (i := 372) (by decide +kernel) rfl)
theorem km_Ln_44 : Cond.methodLink "SpellDesk$Line" 44 ⟨"java/lang/String", "length", "()I"⟩ ∈ gTbl := (gt_in (i := 298) (by decide +kernel) rfl)
theorem km_Ln_50 : Cond.methodLink "SpellDesk$Line" 50 ⟨"java/lang/String", "charAt", "(I)C"⟩ ∈ gTbl := (gt_in (i := 308) (by decide +kernel) rfl)
theorem km_Ln_53 : Cond.methodLink "SpellDesk$Line" 53 ⟨"SpellDesk$Line", "isLetter", "(C)Z"⟩ ∈ gTbl := (gt_in (i := 358) (by decide +kernel) rfl)
theorem km_Ln_57 : Cond.methodLink "SpellDesk$Line" 57 ⟨"SpellDesk$Line", "leadingLetters", "()I"⟩ ∈ gTbl := (gt_in (i := 804) (by decide +kernel) rfl)
theorem km_Ln_60 : Cond.methodLink "SpellDesk$Line" 60 ⟨"SpellDesk$Line", "isWord", "(I)Z"⟩ ∈ gTbl := (gt_in (i := 800) (by decide +kernel) rfl)
theorem km_Ln_64 : Cond.methodLink "SpellDesk$Line" 64 ⟨"SpellDesk$Line", "ends", "()Z"⟩ ∈ gTbl := (gt_in (i := 805) (by decide +kernel) rfl)
theorem km_Ln_67 : Cond.methodLink "SpellDesk$Line" 67 ⟨"SpellDesk$Line", "flagBit", "(C)I"⟩ ∈ gTbl := (gt_in (i := 365) (by decide +kernel) rfl)
theorem km_Ln_73 : Cond.methodLink "SpellDesk$Line" 73 ⟨"SpellDesk$Line", "is", "(Ljava/lang/String;)Z"⟩ ∈ gTbl := (gt_in (i := 849) (by decide +kernel) rfl)
theorem km_Ln_77 : Cond.methodLink "SpellDesk$Line" 77 ⟨"SpellDesk$Letters", "copy", "(II)LSpellDesk$Letters;"⟩ ∈ gTbl := (gt_in (i := 854) (by decide +kernel) rfl)
