abbrev b_Pr_init : ByteArray := prog_6_method_1_code
def y_Pr_init : MethodName := ⟨"SpellDesk$Printer", "<init>", "()V"⟩
set_option maxRecDepth 20000 in
theorem Y_Pr_init : gh_Y y_Pr_init b_Pr_init 1 none 0 := ⟨gt_in (i := 89) rfl rfl, gt_in (i := 5) (by decide +kernel) rfl, by decide +kernel, by decide +kernel, by decide +kernel⟩
theorem V_Pr_init : Cond.instanceMethod y_Pr_init ∈ gTbl := (gt_in (i := 88) (by decide +kernel) rfl)
theorem d_Pr_init_0 : decode b_Pr_init 0 = .ok (.aload_n 0, 1) := by decide +kernel
theorem d_Pr_init_1 : decode b_Pr_init 1 = .ok (.invokespecial 3, 3) := by decide +kernel
theorem d_Pr_init_4 : decode b_Pr_init 4 = .ok (.aload_n 0, 1) := by decide +kernel
theorem d_Pr_init_5 : decode b_Pr_init 5 = .ok (.new 9, 3) := by decide +kernel
theorem d_Pr_init_8 : decode b_Pr_init 8 = .ok (.dup, 1) := by decide +kernel
theorem d_Pr_init_9 : decode b_Pr_init 9 = .ok (.sipush 6000, 3) := by decide +kernel
theorem d_Pr_init_12 : decode b_Pr_init 12 = .ok (.invokespecial 11, 3) := by decide +kernel
theorem d_Pr_init_15 : decode b_Pr_init 15 = .ok (.putfield 14, 3) := by decide +kernel
theorem d_Pr_init_18 : decode b_Pr_init 18 = .ok (.return_, 1) := by decide +kernel
abbrev b_Pr_printText : ByteArray := prog_6_method_6_code
def y_Pr_printText : MethodName := ⟨"SpellDesk$Printer", "printText", "(Ljava/lang/String;)V"⟩
set_option maxRecDepth 20000 in
theorem Y_Pr_printText : gh_Y y_Pr_printText b_Pr_printText 3 none 1 := ⟨gt_in (i := 411) rfl rfl, gt_in (i := 5) (by decide +kernel) rfl, by decide +kernel, by decide +kernel, by decide +kernel⟩
theorem V_Pr_printText : Cond.instanceMethod y_Pr_printText ∈ gTbl ∧ Cond.selects y_Pr_printText.cls y_Pr_printText y_Pr_printText ∈ gTbl := ⟨(gt_in (i := 409) (by decide +kernel) rfl), (gt_in (i := 410) (by decide +kernel) rfl)⟩
theorem d_Pr_printText_0 : decode b_Pr_printText 0 = .ok (.iconst 0, 1) := by decide +kernel
theorem d_Pr_printText_1 : decode b_Pr_printText 1 = .ok (.istore_n 2, 1) := by decide +kernel
theorem d_Pr_printText_2 : decode b_Pr_printText 2 = .ok (.iload_n 2, 1) := by decide +kernel
theorem d_Pr_printText_3 : decode b_Pr_printText 3 = .ok (.aload_n 1, 1) := by decide +kernel
theorem d_Pr_printText_4 : decode b_Pr_printText 4 = .ok (.invokevirtual 35, 3) := by decide +kernel
theorem d_Pr_printText_7 : decode b_Pr_printText 7 = .ok (.if_icmp .ge 18, 3) := by decide +kernel
theorem d_Pr_printText_10 : decode b_Pr_printText 10 = .ok (.aload_n 0, 1) := by decide +kernel
theorem d_Pr_printText_11 : decode b_Pr_printText 11 = .ok (.aload_n 1, 1) := by decide +kernel
theorem d_Pr_printText_12 : decode b_Pr_printText 12 = .ok (.iload_n 2, 1) := by decide +kernel
theorem d_Pr_printText_13 : decode b_Pr_printText 13 = .ok (.invokevirtual 40, 3) := by decide +kernel
theorem d_Pr_printText_16 : decode b_Pr_printText 16 = .ok (.invokevirtual 43, 3) := by decide +kernel
theorem d_Pr_printText_19 : decode b_Pr_printText 19 = .ok (.iinc 2 1, 3) := by decide +kernel
theorem d_Pr_printText_22 : decode b_Pr_printText 22 = .ok (.goto (-20), 3) := by decide +kernel
theorem d_Pr_printText_25 : decode b_Pr_printText 25 = .ok (.return_, 1) := by decide +kernel
abbrev b_Pr_print : ByteArray := prog_6_method_13_code
def y_Pr_print : MethodName := ⟨"SpellDesk$Printer", "print", "(C)V"⟩
set_option maxRecDepth 20000 in
theorem Y_Pr_print : gh_Y y_Pr_print b_Pr_print 2 none 1 := ⟨gt_in (i := 417) rfl rfl, gt_in (i := 5) (by decide +kernel) rfl, by decide +kernel, by decide +kernel, by decide +kernel⟩
theorem V_Pr_print : Cond.instanceMethod y_Pr_print ∈ gTbl ∧ Cond.selects y_Pr_print.cls y_Pr_print y_Pr_print ∈ gTbl := ⟨(gt_in (i := 416) (by decide +kernel) rfl), (gt_sel (n := 3) (i := 2) (by decide +kernel))⟩
theorem d_Pr_print_0 : decode b_Pr_print 0 = .ok (.aload_n 0, 1) := by decide +kernel
theorem d_Pr_print_1 : decode b_Pr_print 1 = .ok (.getfield 14, 3) := by decide +kernel
theorem d_Pr_print_4 : decode b_Pr_print 4 = .ok (.iload_n 1, 1) := by decide +kernel
theorem d_Pr_print_5 : decode b_Pr_print 5 = .ok (.invokevirtual 57, 3) := by decide +kernel
theorem d_Pr_print_8 : decode b_Pr_print 8 = .ok (.ifCond .ne 13, 3) := by decide +kernel
theorem d_Pr_print_11 : decode b_Pr_print 11 = .ok (.aload_n 0, 1) := by decide +kernel
theorem d_Pr_print_12 : decode b_Pr_print 12 = .ok (.dup, 1) := by decide +kernel
theorem d_Pr_print_13 : decode b_Pr_print 13 = .ok (.getfield 28, 3) := by decide +kernel
theorem d_Pr_print_16 : decode b_Pr_print 16 = .ok (.iconst 1, 1) := by decide +kernel
theorem d_Pr_print_17 : decode b_Pr_print 17 = .ok (.iadd, 1) := by decide +kernel
theorem d_Pr_print_18 : decode b_Pr_print 18 = .ok (.putfield 28, 3) := by decide +kernel
theorem d_Pr_print_21 : decode b_Pr_print 21 = .ok (.return_, 1) := by decide +kernel
abbrev b_Pr_printItem : ByteArray := prog_6_method_10_code
def y_Pr_printItem : MethodName := ⟨"SpellDesk$Printer", "printItem", "(LSpellDesk$Letters;II)V"⟩
set_option maxRecDepth 20000 in
theorem Y_Pr_printItem : gh_Y y_Pr_printItem b_Pr_printItem 4 none 3 := ⟨gt_in (i := 953) rfl rfl, gt_in (i := 5) (by decide +kernel) rfl, by decide +kernel, by decide +kernel, by decide +kernel⟩
theorem V_Pr_printItem : Cond.instanceMethod y_Pr_printItem ∈ gTbl ∧ Cond.selects y_Pr_printItem.cls y_Pr_printItem y_Pr_printItem ∈ gTbl := ⟨(gt_in (i := 951) (by decide +kernel) rfl), (gt_in (i := 952) (by decide +kernel) rfl)⟩
theorem d_Pr_printItem_0 : decode b_Pr_printItem 0 = .ok (.aload_n 0, 1) := by decide +kernel
theorem d_Pr_printItem_1 : decode b_Pr_printItem 1 = .ok (.invokevirtual 50, 3) := by decide +kernel
theorem d_Pr_printItem_4 : decode b_Pr_printItem 4 = .ok (.aload_n 0, 1) := by decide +kernel
theorem d_Pr_printItem_5 : decode b_Pr_printItem 5 = .ok (.aload_n 1, 1) := by decide +kernel
theorem d_Pr_printItem_6 : decode b_Pr_printItem 6 = .ok (.iload_n 2, 1) := by decide +kernel
theorem d_Pr_printItem_7 : decode b_Pr_printItem 7 = .ok (.iload_n 3, 1) := by decide +kernel
theorem d_Pr_printItem_8 : decode b_Pr_printItem 8 = .ok (.invokevirtual 53, 3) := by decide +kernel
theorem d_Pr_printItem_11 : decode b_Pr_printItem 11 = .ok (.return_, 1) := by decide +kernel
abbrev b_Pr_startItem : ByteArray := prog_6_method_9_code
def y_Pr_startItem : MethodName := ⟨"SpellDesk$Printer", "startItem", "()V"⟩
set_option maxRecDepth 20000 in
theorem Y_Pr_startItem : gh_Y y_Pr_startItem b_Pr_startItem 1 none 0 := ⟨gt_in (i := 957) rfl rfl, gt_in (i := 5) (by decide +kernel) rfl, by decide +kernel, by decide +kernel, by decide +kernel⟩
theorem V_Pr_startItem : Cond.instanceMethod y_Pr_startItem ∈ gTbl ∧ Cond.selects y_Pr_startItem.cls y_Pr_startItem y_Pr_startItem ∈ gTbl := ⟨(gt_in (i := 955) (by decide +kernel) rfl), (gt_in (i := 956) (by decide +kernel) rfl)⟩
theorem d_Pr_startItem_0 : decode b_Pr_startItem 0 = .ok (.aload_n 0, 1) := by decide +kernel
theorem d_Pr_startItem_1 : decode b_Pr_startItem 1 = .ok (.getfield 47, 3) := by decide +kernel
theorem d_Pr_startItem_4 : decode b_Pr_startItem 4 = .ok (.ifCond .le 9, 3) := by decide +kernel
theorem d_Pr_startItem_7 : decode b_Pr_startItem 7 = .ok (.aload_n 0, 1) := by decide +kernel
theorem d_Pr_startItem_8 : decode b_Pr_startItem 8 = .ok (.bipush 32, 2) := by decide +kernel
theorem d_Pr_startItem_10 : decode b_Pr_startItem 10 = .ok (.invokevirtual 43, 3) := by decide +kernel
theorem d_Pr_startItem_13 : decode b_Pr_startItem 13 = .ok (.aload_n 0, 1) := by decide +kernel
theorem d_Pr_startItem_14 : decode b_Pr_startItem 14 = .ok (.dup, 1) := by decide +kernel
theorem d_Pr_startItem_15 : decode b_Pr_startItem 15 = .ok (.getfield 47, 3) := by decide +kernel
theorem d_Pr_startItem_18 : decode b_Pr_startItem 18 = .ok (.iconst 1, 1) := by decide +kernel
theorem d_Pr_startItem_19 : decode b_Pr_startItem 19 = .ok (.iadd, 1) := by decide +kernel
theorem d_Pr_startItem_20 : decode b_Pr_startItem 20 = .ok (.putfield 47, 3) := by decide +kernel
theorem d_Pr_startItem_23 : decode b_Pr_startItem 23 = .ok (.return_, 1) := by decide +kernel
abbrev b_Pr_printLetters : ByteArray := prog_6_method_7_code
def y_Pr_printLetters : MethodName := ⟨"SpellDesk$Printer", "printLetters", "(LSpellDesk$Letters;II)V"⟩
set_option maxRecDepth 20000 in
theorem Y_Pr_printLetters : gh_Y y_Pr_printLetters b_Pr_printLetters 5 none 3 := ⟨gt_in (i := 961) rfl rfl, gt_in (i := 5) (by decide +kernel) rfl, by decide +kernel, by decide +kernel, by decide +kernel⟩
theorem V_Pr_printLetters : Cond.instanceMethod y_Pr_printLetters ∈ gTbl ∧ Cond.selects y_Pr_printLetters.cls y_Pr_printLetters y_Pr_printLetters ∈ gTbl := ⟨(gt_in (i := 959) (by decide +kernel) rfl), (gt_in (i := 960) (by decide +kernel) rfl)⟩
theorem d_Pr_printLetters_0 : decode b_Pr_printLetters 0 = .ok (.iconst 0, 1) := by decide +kernel
theorem d_Pr_printLetters_1 : decode b_Pr_printLetters 1 = .ok (.istore 4, 2) := by decide +kernel
theorem d_Pr_printLetters_3 : decode b_Pr_printLetters 3 = .ok (.iload 4, 2) := by decide +kernel
theorem d_Pr_printLetters_5 : decode b_Pr_printLetters 5 = .ok (.iload_n 3, 1) := by decide +kernel
theorem d_Pr_printLetters_6 : decode b_Pr_printLetters 6 = .ok (.if_icmp .ge 21, 3) := by decide +kernel
theorem d_Pr_printLetters_9 : decode b_Pr_printLetters 9 = .ok (.aload_n 0, 1) := by decide +kernel
theorem d_Pr_printLetters_10 : decode b_Pr_printLetters 10 = .ok (.aload_n 1, 1) := by decide +kernel
theorem d_Pr_printLetters_11 : decode b_Pr_printLetters 11 = .ok (.iload_n 2, 1) := by decide +kernel
theorem d_Pr_printLetters_12 : decode b_Pr_printLetters 12 = .ok (.iload 4, 2) := by decide +kernel
theorem d_Pr_printLetters_14 : decode b_Pr_printLetters 14 = .ok (.iadd, 1) := by decide +kernel
theorem d_Pr_printLetters_15 : decode b_Pr_printLetters 15 = .ok (.invokevirtual 24, 3) := by decide +kernel
theorem d_Pr_printLetters_18 : decode b_Pr_printLetters 18 = .ok (.invokevirtual 43, 3) := by decide +kernel
theorem d_Pr_printLetters_21 : decode b_Pr_printLetters 21 = .ok (.iinc 4 1, 3) := by decide +kernel
theorem d_Pr_printLetters_24 : decode b_Pr_printLetters 24 = .ok (.goto (-21), 3) := by decide +kernel
theorem d_Pr_printLetters_27 : decode b_Pr_printLetters 27 = .ok (.return_, 1) := by decide +kernel
abbrev b_Pr_endItems : ByteArray := prog_6_method_11_code
def y_Pr_endItems : MethodName := ⟨"SpellDesk$Printer", "endItems", "()V"⟩
set_option maxRecDepth 20000 in
theorem Y_Pr_endItems : gh_Y y_Pr_endItems b_Pr_endItems 1 none 0 := ⟨gt_in (i := 966) rfl rfl, gt_in (i := 5) (by decide +kernel) rfl, by decide +kernel, by decide +kernel, by decide +kernel⟩
theorem V_Pr_endItems : Cond.instanceMethod y_Pr_endItems ∈ gTbl ∧ Cond.selects y_Pr_endItems.cls y_Pr_endItems y_Pr_endItems ∈ gTbl := ⟨(gt_in (i := 964) (by decide +kernel) rfl), (gt_in (i := 965) (by decide +kernel) rfl)⟩
theorem d_Pr_endItems_0 : decode b_Pr_endItems 0 = .ok (.aload_n 0, 1) := by decide +kernel
theorem d_Pr_endItems_1 : decode b_Pr_endItems 1 = .ok (.getfield 47, 3) := by decide +kernel
theorem d_Pr_endItems_4 : decode b_Pr_endItems 4 = .ok (.ifCond .ne 9, 3) := by decide +kernel
theorem d_Pr_endItems_7 : decode b_Pr_endItems 7 = .ok (.aload_n 0, 1) := by decide +kernel
theorem d_Pr_endItems_8 : decode b_Pr_endItems 8 = .ok (.bipush 45, 2) := by decide +kernel
theorem d_Pr_endItems_10 : decode b_Pr_endItems 10 = .ok (.invokevirtual 43, 3) := by decide +kernel
theorem d_Pr_endItems_13 : decode b_Pr_endItems 13 = .ok (.return_, 1) := by decide +kernel
abbrev b_Pr_printNumber : ByteArray := prog_6_method_8_code
def y_Pr_printNumber : MethodName := ⟨"SpellDesk$Printer", "printNumber", "(I)V"⟩
set_option maxRecDepth 20000 in
theorem Y_Pr_printNumber : gh_Y y_Pr_printNumber b_Pr_printNumber 4 none 1 := ⟨gt_in (i := 1010) rfl rfl, gt_in (i := 5) (by decide +kernel) rfl, by decide +kernel, by decide +kernel, by decide +kernel⟩
theorem V_Pr_printNumber : Cond.instanceMethod y_Pr_printNumber ∈ gTbl ∧ Cond.selects y_Pr_printNumber.cls y_Pr_printNumber y_Pr_printNumber ∈ gTbl := ⟨(gt_in (i := 1008) (by decide +kernel) rfl), (gt_in (i := 1009) (by decide +kernel) rfl)⟩
theorem d_Pr_printNumber_0 : decode b_Pr_printNumber 0 = .ok (.iconst 1, 1) := by decide +kernel
theorem d_Pr_printNumber_1 : decode b_Pr_printNumber 1 = .ok (.istore_n 2, 1) := by decide +kernel
theorem d_Pr_printNumber_2 : decode b_Pr_printNumber 2 = .ok (.iload_n 1, 1) := by decide +kernel
theorem d_Pr_printNumber_3 : decode b_Pr_printNumber 3 = .ok (.bipush 10, 2) := by decide +kernel
theorem d_Pr_printNumber_5 : decode b_Pr_printNumber 5 = .ok (.idiv, 1) := by decide +kernel
theorem d_Pr_printNumber_6 : decode b_Pr_printNumber 6 = .ok (.istore_n 3, 1) := by decide +kernel
theorem d_Pr_printNumber_7 : decode b_Pr_printNumber 7 = .ok (.iload_n 3, 1) := by decide +kernel
theorem d_Pr_printNumber_8 : decode b_Pr_printNumber 8 = .ok (.ifCond .le 16, 3) := by decide +kernel
theorem d_Pr_printNumber_11 : decode b_Pr_printNumber 11 = .ok (.iload_n 2, 1) := by decide +kernel
theorem d_Pr_printNumber_12 : decode b_Pr_printNumber 12 = .ok (.bipush 10, 2) := by decide +kernel
theorem d_Pr_printNumber_14 : decode b_Pr_printNumber 14 = .ok (.imul, 1) := by decide +kernel
theorem d_Pr_printNumber_15 : decode b_Pr_printNumber 15 = .ok (.istore_n 2, 1) := by decide +kernel
theorem d_Pr_printNumber_16 : decode b_Pr_printNumber 16 = .ok (.iload_n 3, 1) := by decide +kernel
theorem d_Pr_printNumber_17 : decode b_Pr_printNumber 17 = .ok (.bipush 10, 2) := by decide +kernel
theorem d_Pr_printNumber_19 : decode b_Pr_printNumber 19 = .ok (.idiv, 1) := by decide +kernel
theorem d_Pr_printNumber_20 : decode b_Pr_printNumber 20 = .ok (.istore_n 3, 1) := by decide +kernel
theorem d_Pr_printNumber_21 : decode b_Pr_printNumber 21 = .ok (.goto (-14), 3) := by decide +kernel
theorem d_Pr_printNumber_24 : decode b_Pr_printNumber 24 = .ok (.iload_n 2, 1) := by decide +kernel
theorem d_Pr_printNumber_25 : decode b_Pr_printNumber 25 = .ok (.istore_n 3, 1) := by decide +kernel
theorem d_Pr_printNumber_26 : decode b_Pr_printNumber 26 = .ok (.iload_n 3, 1) := by decide +kernel
theorem d_Pr_printNumber_27 : decode b_Pr_printNumber 27 = .ok (.ifCond .le 25, 3) := by decide +kernel
theorem d_Pr_printNumber_30 : decode b_Pr_printNumber 30 = .ok (.aload_n 0, 1) := by decide +kernel
theorem d_Pr_printNumber_31 : decode b_Pr_printNumber 31 = .ok (.bipush 48, 2) := by decide +kernel
theorem d_Pr_printNumber_33 : decode b_Pr_printNumber 33 = .ok (.iload_n 1, 1) := by decide +kernel
theorem d_Pr_printNumber_34 : decode b_Pr_printNumber 34 = .ok (.iload_n 3, 1) := by decide +kernel
theorem d_Pr_printNumber_35 : decode b_Pr_printNumber 35 = .ok (.idiv, 1) := by decide +kernel
theorem d_Pr_printNumber_36 : decode b_Pr_printNumber 36 = .ok (.bipush 10, 2) := by decide +kernel
theorem d_Pr_printNumber_38 : decode b_Pr_printNumber 38 = .ok (.irem, 1) := by decide +kernel
theorem d_Pr_printNumber_39 : decode b_Pr_printNumber 39 = .ok (.iadd, 1) := by decide +kernel
theorem d_Pr_printNumber_40 : decode b_Pr_printNumber 40 = .ok (.i2c, 1) := by decide +kernel
theorem d_Pr_printNumber_41 : decode b_Pr_printNumber 41 = .ok (.invokevirtual 43, 3) := by decide +kernel
theorem d_Pr_printNumber_44 : decode b_Pr_printNumber 44 = .ok (.iload_n 3, 1) := by decide +kernel
theorem d_Pr_printNumber_45 : decode b_Pr_printNumber 45 = .ok (.bipush 10, 2) := by decide +kernel
theorem d_Pr_printNumber_47 : decode b_Pr_printNumber 47 = .ok (.idiv, 1) := by decide +kernel
theorem d_Pr_printNumber_48 : decode b_Pr_printNumber 48 = .ok (.istore_n 3, 1) := by decide +kernel
theorem d_Pr_printNumber_49 : decode b_Pr_printNumber 49 = .ok (.goto (-23), 3) := by decide +kernel
theorem d_Pr_printNumber_52 : decode b_Pr_printNumber 52 = .ok (.return_, 1) := by decide +kernel
abbrev b_Pr_endLine : ByteArray := prog_6_method_12_code
def y_Pr_endLine : MethodName := ⟨"SpellDesk$Printer", "endLine", "()V"⟩
set_option maxRecDepth 20000 in
theorem Y_Pr_endLine : gh_Y y_Pr_endLine b_Pr_endLine 1 none 0 := ⟨gt_in (i := 1064) rfl rfl, gt_in (i := 5) (by decide +kernel) rfl, by decide +kernel, by decide +kernel, by decide +kernel⟩
theorem V_Pr_endLine : Cond.instanceMethod y_Pr_endLine ∈ gTbl ∧ Cond.selects y_Pr_endLine.cls y_Pr_endLine y_Pr_endLine ∈ gTbl := ⟨(gt_in (i := 1062) (by decide +kernel) rfl), (gt_in (i := 1063) (by decide +kernel) rfl)⟩
theorem d_Pr_endLine_0 : decode b_Pr_endLine 0 = .ok (.aload_n 0, 1) := by decide +kernel
theorem d_Pr_endLine_1 : decode b_Pr_endLine 1 = .ok (.bipush 10, 2) := by decide +kernel
theorem d_Pr_endLine_3 : decode b_Pr_endLine 3 = .ok (.invokevirtual 43, 3) := by decide +kernel
theorem d_Pr_endLine_6 : decode b_Pr_endLine 6 = .ok (.aload_n 0, 1) := by decide +kernel
theorem d_Pr_endLine_7 : decode b_Pr_endLine 7 = .ok (.iconst 0, 1) := by decide +kernel
theorem d_Pr_endLine_8 : decode b_Pr_endLine 8 = .ok (.putfield 47, 3) := by decide +kernel
theorem d_Pr_endLine_11 : decode b_Pr_endLine 11 = .ok (.return_, 1) := by decide +kernel
abbrev b_Pr_count : ByteArray := prog_6_method_2_code
def y_Pr_count : MethodName := ⟨"SpellDesk$Printer", "count", "()I"⟩
set_option maxRecDepth 20000 in
theorem Y_Pr_count : gh_Y y_Pr_count b_Pr_count 1 (some .int) 0 := ⟨gt_in (i := 1073) rfl rfl, gt_in (i := 5) (by decide +kernel) rfl, by decide +kernel, by decide +kernel, by decide +kernel⟩
theorem V_Pr_count : Cond.instanceMethod y_Pr_count ∈ gTbl ∧ Cond.selects y_Pr_count.cls y_Pr_count y_Pr_count ∈ gTbl := ⟨(gt_in (i := 1071) (by decide +kernel) rfl), (gt_in (i := 1072) (by decide +kernel) rfl)⟩
theorem d_Pr_count_0 : decode b_Pr_count 0 = .ok (.aload_n 0, 1) := by decide +kernel
theorem d_Pr_count_1 : decode b_Pr_count 1 = .ok (.getfield 14, 3) := by decide +kernel
theorem d_Pr_count_4 : decode b_Pr_count 4 = .ok (.invokevirtual 20, 3) := by decide +kernel
theorem d_Pr_count_7 : decode b_Pr_count 7 = .ok (.ireturn, 1) := by decide +kernel
abbrev b_Pr_lostCount : ByteArray := prog_6_method_4_code
def y_Pr_lostCount : MethodName := ⟨"SpellDesk$Printer", "lostCount", "()I"⟩
set_option maxRecDepth 20000 in
theorem Y_Pr_lostCount : gh_Y y_Pr_lostCount b_Pr_lostCount 1 (some .int) 0 := ⟨gt_in (i := 1082) rfl rfl, gt_in (i := 5) (by decide +kernel) rfl, by decide +kernel, by decide +kernel, by decide +kernel⟩
theorem V_Pr_lostCount : Cond.instanceMethod y_Pr_lostCount ∈ gTbl ∧ Cond.selects y_Pr_lostCount.cls y_Pr_lostCount y_Pr_lostCount ∈ gTbl := ⟨(gt_in (i := 1080) (by decide +kernel) rfl), (gt_in (i := 1081) (by decide +kernel) rfl)⟩
theorem d_Pr_lostCount_0 : decode b_Pr_lostCount 0 = .ok (.aload_n 0, 1) := by decide +kernel
theorem d_Pr_lostCount_1 : decode b_Pr_lostCount 1 = .ok (.getfield 28, 3) := by decide +kernel
theorem d_Pr_lostCount_4 : decode b_Pr_lostCount 4 = .ok (.ireturn, 1) := by decide +kernel
abbrev b_Pr_clear : ByteArray := prog_6_method_5_code
def y_Pr_clear : MethodName := ⟨"SpellDesk$Printer", "clear", "()V"⟩
set_option maxRecDepth 20000 in
theorem Y_Pr_clear : gh_Y y_Pr_clear b_Pr_clear 1 none 0 := ⟨gt_in (i := 1090) rfl rfl, gt_in (i := 5) (by decide +kernel) rfl, by decide +kernel, by decide +kernel, by decide +kernel⟩
theorem V_Pr_clear : Cond.instanceMethod y_Pr_clear ∈ gTbl ∧ Cond.selects y_Pr_clear.cls y_Pr_clear y_Pr_clear ∈ gTbl := ⟨(gt_in (i := 1088) (by decide +kernel) rfl), (gt_in (i := 1089) (by decide +kernel) rfl)⟩
theorem d_Pr_clear_0 : decode b_Pr_clear 0 = .ok (.aload_n 0, 1) := by decide +kernel
theorem d_Pr_clear_1 : decode b_Pr_clear 1 = .ok (.getfield 14, 3) := by decide +kernel
theorem d_Pr_clear_4 : decode b_Pr_clear 4 = .ok (.invokevirtual 32, 3) := by decide +kernel
theorem d_Pr_clear_7 : decode b_Pr_clear 7 = .ok (.aload_n 0, 1) := by decide +kernel
theorem d_Pr_clear_8 : decode b_Pr_clear 8 = .ok (.iconst 0, 1) := by decide +kernel
theorem d_Pr_clear_9 : decode b_Pr_clear 9 = .ok (.putfield 28, 3) := by decide +kernel
theorem d_Pr_clear_12 : decode b_Pr_clear 12 = .ok (.return_, 1) := by decide +kernel
abbrev b_Pr_at : ByteArray := prog_6_method_3_code
def y_Pr_at : MethodName := ⟨"SpellDesk$Printer", "at", "(I)C"⟩
set_option maxRecDepth 20000 in
theorem Y_Pr_at : gh_Y y_Pr_at b_Pr_at 2 (some .char) 1 := ⟨gt_in (i := 1146) rfl rfl, gt_in (i := 5) (by decide +kernel) rfl, by decide +kernel, by decide +kernel, by decide +kernel⟩
theorem V_Pr_at : Cond.instanceMethod y_Pr_at ∈ gTbl ∧ Cond.selects y_Pr_at.cls y_Pr_at y_Pr_at ∈ gTbl := ⟨(gt_in (i := 1144) (by decide +kernel) rfl), (gt_in (i := 1145) (by decide +kernel) rfl)⟩
theorem d_Pr_at_0 : decode b_Pr_at 0 = .ok (.aload_n 0, 1) := by decide +kernel
theorem d_Pr_at_1 : decode b_Pr_at 1 = .ok (.getfield 14, 3) := by decide +kernel
theorem d_Pr_at_4 : decode b_Pr_at 4 = .ok (.iload_n 1, 1) := by decide +kernel
theorem d_Pr_at_5 : decode b_Pr_at 5 = .ok (.invokevirtual 24, 3) := by decide +kernel
theorem d_Pr_at_8 : decode b_Pr_at 8 = .ok (.ireturn, 1) := by decide +kernel
theorem kf_Pr_14 : Cond.fieldLink "SpellDesk$Printer" 14 "SpellDesk$Printer" "printed" "LSpellDesk$Letters;" ∈ gTbl := (gt_in (i := 93) (by decide +kernel) rfl)
theorem kf_Pr_28 : Cond.fieldLink "SpellDesk$Printer" 28 "SpellDesk$Printer" "lostCount" "I" ∈ gTbl := (gt_in (i := 94) (by decide +kernel) rfl)
theorem kf_Pr_47 : Cond.fieldLink "SpellDesk$Printer" 47 "SpellDesk$Printer" "items" "I" ∈ gTbl := (gt_in (i := 95) (by decide +kernel) rfl)
theorem kc_Pr_9 : Cond.classLink "SpellDesk$Printer" 9 "SpellDesk$Letters" ∈ gTbl := (gt_in (i := 91) (by decide +kernel) rfl)
theorem km_Pr_3 : Cond.methodLink "SpellDesk$Printer" 3 ⟨"java/lang/Object", "<init>", "()V"⟩ ∈ gTbl := (gt_in (i := 90) (by decide +kernel) rfl)
theorem km_Pr_11 : Cond.methodLink "SpellDesk$Printer" 11 ⟨"SpellDesk$Letters", "<init>", "(I)V"⟩ ∈ gTbl := (gt_in (i := 92) (by decide +kernel) rfl)
theorem km_Pr_20 : Cond.methodLink "SpellDesk$Printer" 20 ⟨"SpellDesk$Letters", "count", "()I"⟩ ∈ gTbl := (gt_in (i := 1074) (by decide +kernel) rfl)
theorem km_Pr_24 : Cond.methodLink "SpellDesk$Printer" 24 ⟨"SpellDesk$Letters", "at", "(I)C"⟩ ∈ gTbl := (gt_in (i := 962) (by decide +kernel) rfl)
theorem km_Pr_32 : Cond.methodLink "SpellDesk$Printer" 32 ⟨"SpellDesk$Letters", "clear", "()V"⟩ ∈ gTbl := (gt_in (i := 1091) (by decide +kernel) rfl)
theorem km_Pr_35 : Cond.methodLink "SpellDesk$Printer" 35 ⟨"java/lang/String", "length", "()I"⟩ ∈ gTbl := (gt_in (i := 412) (by decide +kernel) rfl)
theorem km_Pr_40 : Cond.methodLink "SpellDesk$Printer" 40 ⟨"java/lang/String", "charAt", "(I)C"⟩ ∈ gTbl := (gt_in (i := 413) (by decide +kernel) rfl)
theorem km_Pr_43 : Cond.methodLink "SpellDesk$Printer" 43 ⟨"SpellDesk$Printer", "print", "(C)V"⟩ ∈ gTbl := (gt_in (i := 414) (by decide +kernel) rfl)
theorem km_Pr_50 : Cond.methodLink "SpellDesk$Printer" 50 ⟨"SpellDesk$Printer", "startItem", "()V"⟩ ∈ gTbl := (gt_in (i := 954) (by decide +kernel) rfl)
theorem km_Pr_53 : Cond.methodLink "SpellDesk$Printer" 53 ⟨"SpellDesk$Printer", "printLetters", "(LSpellDesk$Letters;II)V"⟩ ∈ gTbl := (gt_in (i := 958) (by decide +kernel) rfl)
theorem km_Pr_57 : Cond.methodLink "SpellDesk$Printer" 57 ⟨"SpellDesk$Letters", "append", "(C)Z"⟩ ∈ gTbl := (gt_in (i := 418) (by decide +kernel) rfl)
