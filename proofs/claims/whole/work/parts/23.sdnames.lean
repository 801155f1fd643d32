abbrev b_SD_init : ByteArray := prog_1_method_1_code
def y_SD_init : MethodName := ⟨"SpellDesk", "<init>", "()V"⟩
set_option maxRecDepth 20000 in
theorem Y_SD_init : gh_Y y_SD_init b_SD_init 1 none 0 := ⟨gt_in (i := 36) rfl rfl, gt_in (i := 1) (by decide +kernel) rfl, by decide +kernel, by decide +kernel, by decide +kernel⟩
theorem V_SD_init : Cond.instanceMethod y_SD_init ∈ gTbl := (gt_in (i := 35) (by decide +kernel) rfl)
theorem d_SD_init_0 : decode b_SD_init 0 = .ok (.aload_n 0, 1) := by decide +kernel
theorem d_SD_init_1 : decode b_SD_init 1 = .ok (.invokespecial 3, 3) := by decide +kernel
theorem d_SD_init_4 : decode b_SD_init 4 = .ok (.aload_n 0, 1) := by decide +kernel
theorem d_SD_init_5 : decode b_SD_init 5 = .ok (.new 9, 3) := by decide +kernel
theorem d_SD_init_8 : decode b_SD_init 8 = .ok (.dup, 1) := by decide +kernel
theorem d_SD_init_9 : decode b_SD_init 9 = .ok (.sipush 2048, 3) := by decide +kernel
theorem d_SD_init_12 : decode b_SD_init 12 = .ok (.invokespecial 11, 3) := by decide +kernel
theorem d_SD_init_15 : decode b_SD_init 15 = .ok (.putfield 14, 3) := by decide +kernel
theorem d_SD_init_18 : decode b_SD_init 18 = .ok (.aload_n 0, 1) := by decide +kernel
theorem d_SD_init_19 : decode b_SD_init 19 = .ok (.new 18, 3) := by decide +kernel
theorem d_SD_init_22 : decode b_SD_init 22 = .ok (.dup, 1) := by decide +kernel
theorem d_SD_init_23 : decode b_SD_init 23 = .ok (.aload_n 0, 1) := by decide +kernel
theorem d_SD_init_24 : decode b_SD_init 24 = .ok (.getfield 14, 3) := by decide +kernel
theorem d_SD_init_27 : decode b_SD_init 27 = .ok (.invokespecial 20, 3) := by decide +kernel
theorem d_SD_init_30 : decode b_SD_init 30 = .ok (.putfield 23, 3) := by decide +kernel
theorem d_SD_init_33 : decode b_SD_init 33 = .ok (.aload_n 0, 1) := by decide +kernel
theorem d_SD_init_34 : decode b_SD_init 34 = .ok (.new 27, 3) := by decide +kernel
theorem d_SD_init_37 : decode b_SD_init 37 = .ok (.dup, 1) := by decide +kernel
theorem d_SD_init_38 : decode b_SD_init 38 = .ok (.invokespecial 29, 3) := by decide +kernel
theorem d_SD_init_41 : decode b_SD_init 41 = .ok (.putfield 30, 3) := by decide +kernel
theorem d_SD_init_44 : decode b_SD_init 44 = .ok (.aload_n 0, 1) := by decide +kernel
theorem d_SD_init_45 : decode b_SD_init 45 = .ok (.new 34, 3) := by decide +kernel
theorem d_SD_init_48 : decode b_SD_init 48 = .ok (.dup, 1) := by decide +kernel
theorem d_SD_init_49 : decode b_SD_init 49 = .ok (.invokespecial 36, 3) := by decide +kernel
theorem d_SD_init_52 : decode b_SD_init 52 = .ok (.putfield 37, 3) := by decide +kernel
theorem d_SD_init_55 : decode b_SD_init 55 = .ok (.aload_n 0, 1) := by decide +kernel
theorem d_SD_init_56 : decode b_SD_init 56 = .ok (.new 41, 3) := by decide +kernel
theorem d_SD_init_59 : decode b_SD_init 59 = .ok (.dup, 1) := by decide +kernel
theorem d_SD_init_60 : decode b_SD_init 60 = .ok (.iconst 1, 1) := by decide +kernel
theorem d_SD_init_61 : decode b_SD_init 61 = .ok (.invokespecial 43, 3) := by decide +kernel
theorem d_SD_init_64 : decode b_SD_init 64 = .ok (.putfield 46, 3) := by decide +kernel
theorem d_SD_init_67 : decode b_SD_init 67 = .ok (.aload_n 0, 1) := by decide +kernel
theorem d_SD_init_68 : decode b_SD_init 68 = .ok (.new 41, 3) := by decide +kernel
theorem d_SD_init_71 : decode b_SD_init 71 = .ok (.dup, 1) := by decide +kernel
theorem d_SD_init_72 : decode b_SD_init 72 = .ok (.iconst 0, 1) := by decide +kernel
theorem d_SD_init_73 : decode b_SD_init 73 = .ok (.invokespecial 43, 3) := by decide +kernel
theorem d_SD_init_76 : decode b_SD_init 76 = .ok (.putfield 50, 3) := by decide +kernel
theorem d_SD_init_79 : decode b_SD_init 79 = .ok (.aload_n 0, 1) := by decide +kernel
theorem d_SD_init_80 : decode b_SD_init 80 = .ok (.new 53, 3) := by decide +kernel
theorem d_SD_init_83 : decode b_SD_init 83 = .ok (.dup, 1) := by decide +kernel
theorem d_SD_init_84 : decode b_SD_init 84 = .ok (.aload_n 0, 1) := by decide +kernel
theorem d_SD_init_85 : decode b_SD_init 85 = .ok (.getfield 37, 3) := by decide +kernel
theorem d_SD_init_88 : decode b_SD_init 88 = .ok (.aload_n 0, 1) := by decide +kernel
theorem d_SD_init_89 : decode b_SD_init 89 = .ok (.getfield 46, 3) := by decide +kernel
theorem d_SD_init_92 : decode b_SD_init 92 = .ok (.aload_n 0, 1) := by decide +kernel
theorem d_SD_init_93 : decode b_SD_init 93 = .ok (.getfield 50, 3) := by decide +kernel
theorem d_SD_init_96 : decode b_SD_init 96 = .ok (.invokespecial 55, 3) := by decide +kernel
theorem d_SD_init_99 : decode b_SD_init 99 = .ok (.putfield 58, 3) := by decide +kernel
theorem d_SD_init_102 : decode b_SD_init 102 = .ok (.aload_n 0, 1) := by decide +kernel
theorem d_SD_init_103 : decode b_SD_init 103 = .ok (.new 62, 3) := by decide +kernel
theorem d_SD_init_106 : decode b_SD_init 106 = .ok (.dup, 1) := by decide +kernel
theorem d_SD_init_107 : decode b_SD_init 107 = .ok (.aload_n 0, 1) := by decide +kernel
theorem d_SD_init_108 : decode b_SD_init 108 = .ok (.getfield 14, 3) := by decide +kernel
theorem d_SD_init_111 : decode b_SD_init 111 = .ok (.sipush 1024, 3) := by decide +kernel
theorem d_SD_init_114 : decode b_SD_init 114 = .ok (.invokespecial 64, 3) := by decide +kernel
theorem d_SD_init_117 : decode b_SD_init 117 = .ok (.putfield 67, 3) := by decide +kernel
theorem d_SD_init_120 : decode b_SD_init 120 = .ok (.return_, 1) := by decide +kernel
abbrev b_SD_typed : ByteArray := prog_1_method_3_code
def y_SD_typed : MethodName := ⟨"SpellDesk", "typed", "()I"⟩
set_option maxRecDepth 20000 in
theorem Y_SD_typed : gh_Y y_SD_typed b_SD_typed 1 (some .int) 0 := ⟨gt_in (i := 267) rfl rfl, gt_in (i := 1) (by decide +kernel) rfl, by decide +kernel, by decide +kernel, by decide +kernel⟩
theorem V_SD_typed : Cond.instanceMethod y_SD_typed ∈ gTbl ∧ Cond.selects y_SD_typed.cls y_SD_typed y_SD_typed ∈ gTbl := ⟨(gt_in (i := 265) (by decide +kernel) rfl), (gt_in (i := 266) (by decide +kernel) rfl)⟩
theorem d_SD_typed_0 : decode b_SD_typed 0 = .ok (.aload_n 0, 1) := by decide +kernel
theorem d_SD_typed_1 : decode b_SD_typed 1 = .ok (.getfield 14, 3) := by decide +kernel
theorem d_SD_typed_4 : decode b_SD_typed 4 = .ok (.invokevirtual 75, 3) := by decide +kernel
theorem d_SD_typed_7 : decode b_SD_typed 7 = .ok (.ireturn, 1) := by decide +kernel
abbrev b_SD_run : ByteArray := prog_1_method_4_code
def y_SD_run : MethodName := ⟨"SpellDesk", "run", "()I"⟩
set_option maxRecDepth 20000 in
theorem Y_SD_run : gh_Y y_SD_run b_SD_run 5 (some .int) 0 := ⟨gt_in (i := 275) rfl rfl, gt_in (i := 1) (by decide +kernel) rfl, by decide +kernel, by decide +kernel, by decide +kernel⟩
theorem V_SD_run : Cond.instanceMethod y_SD_run ∈ gTbl ∧ Cond.selects y_SD_run.cls y_SD_run y_SD_run ∈ gTbl := ⟨(gt_in (i := 273) (by decide +kernel) rfl), (gt_in (i := 274) (by decide +kernel) rfl)⟩
theorem d_SD_run_0 : decode b_SD_run 0 = .ok (.iconst 0, 1) := by decide +kernel
theorem d_SD_run_1 : decode b_SD_run 1 = .ok (.istore_n 1, 1) := by decide +kernel
theorem d_SD_run_2 : decode b_SD_run 2 = .ok (.iconst 0, 1) := by decide +kernel
theorem d_SD_run_3 : decode b_SD_run 3 = .ok (.istore_n 2, 1) := by decide +kernel
theorem d_SD_run_4 : decode b_SD_run 4 = .ok (.aload_n 0, 1) := by decide +kernel
theorem d_SD_run_5 : decode b_SD_run 5 = .ok (.getfield 14, 3) := by decide +kernel
theorem d_SD_run_8 : decode b_SD_run 8 = .ok (.invokevirtual 75, 3) := by decide +kernel
theorem d_SD_run_11 : decode b_SD_run 11 = .ok (.istore_n 3, 1) := by decide +kernel
theorem d_SD_run_12 : decode b_SD_run 12 = .ok (.iconst 0, 1) := by decide +kernel
theorem d_SD_run_13 : decode b_SD_run 13 = .ok (.istore 4, 2) := by decide +kernel
theorem d_SD_run_15 : decode b_SD_run 15 = .ok (.iload 4, 2) := by decide +kernel
theorem d_SD_run_17 : decode b_SD_run 17 = .ok (.iload_n 3, 1) := by decide +kernel
theorem d_SD_run_18 : decode b_SD_run 18 = .ok (.if_icmp .ge 38, 3) := by decide +kernel
theorem d_SD_run_21 : decode b_SD_run 21 = .ok (.aload_n 0, 1) := by decide +kernel
theorem d_SD_run_22 : decode b_SD_run 22 = .ok (.getfield 14, 3) := by decide +kernel
theorem d_SD_run_25 : decode b_SD_run 25 = .ok (.iload 4, 2) := by decide +kernel
theorem d_SD_run_27 : decode b_SD_run 27 = .ok (.invokevirtual 89, 3) := by decide +kernel
theorem d_SD_run_30 : decode b_SD_run 30 = .ok (.bipush 10, 2) := by decide +kernel
theorem d_SD_run_32 : decode b_SD_run 32 = .ok (.if_icmp .ne 18, 3) := by decide +kernel
theorem d_SD_run_35 : decode b_SD_run 35 = .ok (.aload_n 0, 1) := by decide +kernel
theorem d_SD_run_36 : decode b_SD_run 36 = .ok (.iload_n 2, 1) := by decide +kernel
theorem d_SD_run_37 : decode b_SD_run 37 = .ok (.iload 4, 2) := by decide +kernel
theorem d_SD_run_39 : decode b_SD_run 39 = .ok (.invokevirtual 93, 3) := by decide +kernel
theorem d_SD_run_42 : decode b_SD_run 42 = .ok (.iinc 1 1, 3) := by decide +kernel
theorem d_SD_run_45 : decode b_SD_run 45 = .ok (.iload 4, 2) := by decide +kernel
theorem d_SD_run_47 : decode b_SD_run 47 = .ok (.iconst 1, 1) := by decide +kernel
theorem d_SD_run_48 : decode b_SD_run 48 = .ok (.iadd, 1) := by decide +kernel
theorem d_SD_run_49 : decode b_SD_run 49 = .ok (.istore_n 2, 1) := by decide +kernel
theorem d_SD_run_50 : decode b_SD_run 50 = .ok (.iinc 4 1, 3) := by decide +kernel
theorem d_SD_run_53 : decode b_SD_run 53 = .ok (.goto (-38), 3) := by decide +kernel
theorem d_SD_run_56 : decode b_SD_run 56 = .ok (.iload_n 2, 1) := by decide +kernel
theorem d_SD_run_57 : decode b_SD_run 57 = .ok (.iload_n 3, 1) := by decide +kernel
theorem d_SD_run_58 : decode b_SD_run 58 = .ok (.if_icmp .ge 12, 3) := by decide +kernel
theorem d_SD_run_61 : decode b_SD_run 61 = .ok (.aload_n 0, 1) := by decide +kernel
theorem d_SD_run_62 : decode b_SD_run 62 = .ok (.iload_n 2, 1) := by decide +kernel
theorem d_SD_run_63 : decode b_SD_run 63 = .ok (.iload_n 3, 1) := by decide +kernel
theorem d_SD_run_64 : decode b_SD_run 64 = .ok (.invokevirtual 93, 3) := by decide +kernel
theorem d_SD_run_67 : decode b_SD_run 67 = .ok (.iinc 1 1, 3) := by decide +kernel
theorem d_SD_run_70 : decode b_SD_run 70 = .ok (.aload_n 0, 1) := by decide +kernel
theorem d_SD_run_71 : decode b_SD_run 71 = .ok (.getfield 14, 3) := by decide +kernel
theorem d_SD_run_74 : decode b_SD_run 74 = .ok (.invokevirtual 97, 3) := by decide +kernel
theorem d_SD_run_77 : decode b_SD_run 77 = .ok (.iload_n 1, 1) := by decide +kernel
theorem d_SD_run_78 : decode b_SD_run 78 = .ok (.ireturn, 1) := by decide +kernel
abbrev b_SD_doLine : ByteArray := prog_1_method_13_code
def y_SD_doLine : MethodName := ⟨"SpellDesk", "doLine", "(II)V"⟩
set_option maxRecDepth 20000 in
theorem Y_SD_doLine : gh_Y y_SD_doLine b_SD_doLine 4 none 2 := ⟨gt_in (i := 283) rfl rfl, gt_in (i := 1) (by decide +kernel) rfl, by decide +kernel, by decide +kernel, by decide +kernel⟩
theorem V_SD_doLine : Cond.instanceMethod y_SD_doLine ∈ gTbl ∧ Cond.selects y_SD_doLine.cls y_SD_doLine y_SD_doLine ∈ gTbl := ⟨(gt_in (i := 282) (by decide +kernel) rfl), (gt_sel (n := 8) (i := 0) (by decide +kernel))⟩
theorem d_SD_doLine_0 : decode b_SD_doLine 0 = .ok (.aload_n 0, 1) := by decide +kernel
theorem d_SD_doLine_1 : decode b_SD_doLine 1 = .ok (.getfield 23, 3) := by decide +kernel
theorem d_SD_doLine_4 : decode b_SD_doLine 4 = .ok (.iload_n 1, 1) := by decide +kernel
theorem d_SD_doLine_5 : decode b_SD_doLine 5 = .ok (.iload_n 2, 1) := by decide +kernel
theorem d_SD_doLine_6 : decode b_SD_doLine 6 = .ok (.invokevirtual 117, 3) := by decide +kernel
theorem d_SD_doLine_9 : decode b_SD_doLine 9 = .ok (.aload_n 0, 1) := by decide +kernel
theorem d_SD_doLine_10 : decode b_SD_doLine 10 = .ok (.getfield 23, 3) := by decide +kernel
theorem d_SD_doLine_13 : decode b_SD_doLine 13 = .ok (.invokevirtual 120, 3) := by decide +kernel
theorem d_SD_doLine_16 : decode b_SD_doLine 16 = .ok (.ifCond .ne 4, 3) := by decide +kernel
theorem d_SD_doLine_19 : decode b_SD_doLine 19 = .ok (.return_, 1) := by decide +kernel
theorem d_SD_doLine_20 : decode b_SD_doLine 20 = .ok (.iconst 0, 1) := by decide +kernel
theorem d_SD_doLine_21 : decode b_SD_doLine 21 = .ok (.istore_n 3, 1) := by decide +kernel
theorem d_SD_doLine_22 : decode b_SD_doLine 22 = .ok (.aload_n 0, 1) := by decide +kernel
theorem d_SD_doLine_23 : decode b_SD_doLine 23 = .ok (.getfield 23, 3) := by decide +kernel
theorem d_SD_doLine_26 : decode b_SD_doLine 26 = .ok (.ldc 124, 2) := by decide +kernel
theorem d_SD_doLine_28 : decode b_SD_doLine 28 = .ok (.invokevirtual 126, 3) := by decide +kernel
theorem d_SD_doLine_31 : decode b_SD_doLine 31 = .ok (.ifCond .eq 11, 3) := by decide +kernel
theorem d_SD_doLine_34 : decode b_SD_doLine 34 = .ok (.aload_n 0, 1) := by decide +kernel
theorem d_SD_doLine_35 : decode b_SD_doLine 35 = .ok (.invokevirtual 130, 3) := by decide +kernel
theorem d_SD_doLine_38 : decode b_SD_doLine 38 = .ok (.istore_n 3, 1) := by decide +kernel
theorem d_SD_doLine_39 : decode b_SD_doLine 39 = .ok (.goto 188, 3) := by decide +kernel
theorem d_SD_doLine_42 : decode b_SD_doLine 42 = .ok (.aload_n 0, 1) := by decide +kernel
theorem d_SD_doLine_43 : decode b_SD_doLine 43 = .ok (.getfield 23, 3) := by decide +kernel
theorem d_SD_doLine_46 : decode b_SD_doLine 46 = .ok (.ldc 133, 2) := by decide +kernel
theorem d_SD_doLine_48 : decode b_SD_doLine 48 = .ok (.invokevirtual 126, 3) := by decide +kernel
theorem d_SD_doLine_51 : decode b_SD_doLine 51 = .ok (.ifCond .eq 11, 3) := by decide +kernel
theorem d_SD_doLine_54 : decode b_SD_doLine 54 = .ok (.aload_n 0, 1) := by decide +kernel
theorem d_SD_doLine_55 : decode b_SD_doLine 55 = .ok (.invokevirtual 135, 3) := by decide +kernel
theorem d_SD_doLine_58 : decode b_SD_doLine 58 = .ok (.istore_n 3, 1) := by decide +kernel
theorem d_SD_doLine_59 : decode b_SD_doLine 59 = .ok (.goto 168, 3) := by decide +kernel
theorem d_SD_doLine_62 : decode b_SD_doLine 62 = .ok (.aload_n 0, 1) := by decide +kernel
theorem d_SD_doLine_63 : decode b_SD_doLine 63 = .ok (.getfield 23, 3) := by decide +kernel
theorem d_SD_doLine_66 : decode b_SD_doLine 66 = .ok (.ldc 138, 2) := by decide +kernel
theorem d_SD_doLine_68 : decode b_SD_doLine 68 = .ok (.invokevirtual 126, 3) := by decide +kernel
theorem d_SD_doLine_71 : decode b_SD_doLine 71 = .ok (.ifCond .eq 15, 3) := by decide +kernel
theorem d_SD_doLine_74 : decode b_SD_doLine 74 = .ok (.aload_n 0, 1) := by decide +kernel
theorem d_SD_doLine_75 : decode b_SD_doLine 75 = .ok (.aload_n 0, 1) := by decide +kernel
theorem d_SD_doLine_76 : decode b_SD_doLine 76 = .ok (.getfield 46, 3) := by decide +kernel
theorem d_SD_doLine_79 : decode b_SD_doLine 79 = .ok (.invokevirtual 140, 3) := by decide +kernel
theorem d_SD_doLine_82 : decode b_SD_doLine 82 = .ok (.istore_n 3, 1) := by decide +kernel
theorem d_SD_doLine_83 : decode b_SD_doLine 83 = .ok (.goto 144, 3) := by decide +kernel
theorem d_SD_doLine_86 : decode b_SD_doLine 86 = .ok (.aload_n 0, 1) := by decide +kernel
theorem d_SD_doLine_87 : decode b_SD_doLine 87 = .ok (.getfield 23, 3) := by decide +kernel
theorem d_SD_doLine_90 : decode b_SD_doLine 90 = .ok (.ldc 144, 2) := by decide +kernel
theorem d_SD_doLine_92 : decode b_SD_doLine 92 = .ok (.invokevirtual 126, 3) := by decide +kernel
theorem d_SD_doLine_95 : decode b_SD_doLine 95 = .ok (.ifCond .eq 15, 3) := by decide +kernel
theorem d_SD_doLine_98 : decode b_SD_doLine 98 = .ok (.aload_n 0, 1) := by decide +kernel
theorem d_SD_doLine_99 : decode b_SD_doLine 99 = .ok (.aload_n 0, 1) := by decide +kernel
theorem d_SD_doLine_100 : decode b_SD_doLine 100 = .ok (.getfield 50, 3) := by decide +kernel
theorem d_SD_doLine_103 : decode b_SD_doLine 103 = .ok (.invokevirtual 140, 3) := by decide +kernel
theorem d_SD_doLine_106 : decode b_SD_doLine 106 = .ok (.istore_n 3, 1) := by decide +kernel
theorem d_SD_doLine_107 : decode b_SD_doLine 107 = .ok (.goto 120, 3) := by decide +kernel
theorem d_SD_doLine_110 : decode b_SD_doLine 110 = .ok (.aload_n 0, 1) := by decide +kernel
theorem d_SD_doLine_111 : decode b_SD_doLine 111 = .ok (.getfield 23, 3) := by decide +kernel
theorem d_SD_doLine_114 : decode b_SD_doLine 114 = .ok (.ldc 146, 2) := by decide +kernel
theorem d_SD_doLine_116 : decode b_SD_doLine 116 = .ok (.invokevirtual 126, 3) := by decide +kernel
theorem d_SD_doLine_119 : decode b_SD_doLine 119 = .ok (.ifCond .eq 11, 3) := by decide +kernel
theorem d_SD_doLine_122 : decode b_SD_doLine 122 = .ok (.aload_n 0, 1) := by decide +kernel
theorem d_SD_doLine_123 : decode b_SD_doLine 123 = .ok (.invokevirtual 148, 3) := by decide +kernel
theorem d_SD_doLine_126 : decode b_SD_doLine 126 = .ok (.istore_n 3, 1) := by decide +kernel
theorem d_SD_doLine_127 : decode b_SD_doLine 127 = .ok (.goto 100, 3) := by decide +kernel
theorem d_SD_doLine_130 : decode b_SD_doLine 130 = .ok (.aload_n 0, 1) := by decide +kernel
theorem d_SD_doLine_131 : decode b_SD_doLine 131 = .ok (.getfield 23, 3) := by decide +kernel
theorem d_SD_doLine_134 : decode b_SD_doLine 134 = .ok (.ldc 151, 2) := by decide +kernel
theorem d_SD_doLine_136 : decode b_SD_doLine 136 = .ok (.invokevirtual 126, 3) := by decide +kernel
theorem d_SD_doLine_139 : decode b_SD_doLine 139 = .ok (.ifCond .eq 11, 3) := by decide +kernel
theorem d_SD_doLine_142 : decode b_SD_doLine 142 = .ok (.aload_n 0, 1) := by decide +kernel
theorem d_SD_doLine_143 : decode b_SD_doLine 143 = .ok (.invokevirtual 153, 3) := by decide +kernel
theorem d_SD_doLine_146 : decode b_SD_doLine 146 = .ok (.istore_n 3, 1) := by decide +kernel
theorem d_SD_doLine_147 : decode b_SD_doLine 147 = .ok (.goto 80, 3) := by decide +kernel
theorem d_SD_doLine_150 : decode b_SD_doLine 150 = .ok (.aload_n 0, 1) := by decide +kernel
theorem d_SD_doLine_151 : decode b_SD_doLine 151 = .ok (.getfield 23, 3) := by decide +kernel
theorem d_SD_doLine_154 : decode b_SD_doLine 154 = .ok (.ldc 156, 2) := by decide +kernel
theorem d_SD_doLine_156 : decode b_SD_doLine 156 = .ok (.invokevirtual 126, 3) := by decide +kernel
theorem d_SD_doLine_159 : decode b_SD_doLine 159 = .ok (.ifCond .eq 11, 3) := by decide +kernel
theorem d_SD_doLine_162 : decode b_SD_doLine 162 = .ok (.aload_n 0, 1) := by decide +kernel
theorem d_SD_doLine_163 : decode b_SD_doLine 163 = .ok (.invokevirtual 158, 3) := by decide +kernel
theorem d_SD_doLine_166 : decode b_SD_doLine 166 = .ok (.istore_n 3, 1) := by decide +kernel
theorem d_SD_doLine_167 : decode b_SD_doLine 167 = .ok (.goto 60, 3) := by decide +kernel
theorem d_SD_doLine_170 : decode b_SD_doLine 170 = .ok (.aload_n 0, 1) := by decide +kernel
theorem d_SD_doLine_171 : decode b_SD_doLine 171 = .ok (.getfield 23, 3) := by decide +kernel
theorem d_SD_doLine_174 : decode b_SD_doLine 174 = .ok (.ldc 161, 2) := by decide +kernel
theorem d_SD_doLine_176 : decode b_SD_doLine 176 = .ok (.invokevirtual 126, 3) := by decide +kernel
theorem d_SD_doLine_179 : decode b_SD_doLine 179 = .ok (.ifCond .eq 11, 3) := by decide +kernel
theorem d_SD_doLine_182 : decode b_SD_doLine 182 = .ok (.aload_n 0, 1) := by decide +kernel
theorem d_SD_doLine_183 : decode b_SD_doLine 183 = .ok (.invokevirtual 163, 3) := by decide +kernel
theorem d_SD_doLine_186 : decode b_SD_doLine 186 = .ok (.istore_n 3, 1) := by decide +kernel
theorem d_SD_doLine_187 : decode b_SD_doLine 187 = .ok (.goto 40, 3) := by decide +kernel
theorem d_SD_doLine_190 : decode b_SD_doLine 190 = .ok (.aload_n 0, 1) := by decide +kernel
theorem d_SD_doLine_191 : decode b_SD_doLine 191 = .ok (.getfield 23, 3) := by decide +kernel
theorem d_SD_doLine_194 : decode b_SD_doLine 194 = .ok (.ldc 166, 2) := by decide +kernel
theorem d_SD_doLine_196 : decode b_SD_doLine 196 = .ok (.invokevirtual 126, 3) := by decide +kernel
theorem d_SD_doLine_199 : decode b_SD_doLine 199 = .ok (.ifCond .eq 11, 3) := by decide +kernel
theorem d_SD_doLine_202 : decode b_SD_doLine 202 = .ok (.aload_n 0, 1) := by decide +kernel
theorem d_SD_doLine_203 : decode b_SD_doLine 203 = .ok (.invokevirtual 167, 3) := by decide +kernel
theorem d_SD_doLine_206 : decode b_SD_doLine 206 = .ok (.istore_n 3, 1) := by decide +kernel
theorem d_SD_doLine_207 : decode b_SD_doLine 207 = .ok (.goto 20, 3) := by decide +kernel
theorem d_SD_doLine_210 : decode b_SD_doLine 210 = .ok (.aload_n 0, 1) := by decide +kernel
theorem d_SD_doLine_211 : decode b_SD_doLine 211 = .ok (.getfield 23, 3) := by decide +kernel
theorem d_SD_doLine_214 : decode b_SD_doLine 214 = .ok (.ldc 170, 2) := by decide +kernel
theorem d_SD_doLine_216 : decode b_SD_doLine 216 = .ok (.invokevirtual 126, 3) := by decide +kernel
theorem d_SD_doLine_219 : decode b_SD_doLine 219 = .ok (.ifCond .eq 8, 3) := by decide +kernel
theorem d_SD_doLine_222 : decode b_SD_doLine 222 = .ok (.aload_n 0, 1) := by decide +kernel
theorem d_SD_doLine_223 : decode b_SD_doLine 223 = .ok (.invokevirtual 171, 3) := by decide +kernel
theorem d_SD_doLine_226 : decode b_SD_doLine 226 = .ok (.istore_n 3, 1) := by decide +kernel
theorem d_SD_doLine_227 : decode b_SD_doLine 227 = .ok (.iload_n 3, 1) := by decide +kernel
theorem d_SD_doLine_228 : decode b_SD_doLine 228 = .ok (.ifCond .ne 26, 3) := by decide +kernel
theorem d_SD_doLine_231 : decode b_SD_doLine 231 = .ok (.aload_n 0, 1) := by decide +kernel
theorem d_SD_doLine_232 : decode b_SD_doLine 232 = .ok (.getfield 30, 3) := by decide +kernel
theorem d_SD_doLine_235 : decode b_SD_doLine 235 = .ok (.ldc 174, 2) := by decide +kernel
theorem d_SD_doLine_237 : decode b_SD_doLine 237 = .ok (.invokevirtual 176, 3) := by decide +kernel
theorem d_SD_doLine_240 : decode b_SD_doLine 240 = .ok (.aload_n 0, 1) := by decide +kernel
theorem d_SD_doLine_241 : decode b_SD_doLine 241 = .ok (.getfield 30, 3) := by decide +kernel
theorem d_SD_doLine_244 : decode b_SD_doLine 244 = .ok (.aload_n 0, 1) := by decide +kernel
theorem d_SD_doLine_245 : decode b_SD_doLine 245 = .ok (.getfield 23, 3) := by decide +kernel
theorem d_SD_doLine_248 : decode b_SD_doLine 248 = .ok (.invokevirtual 179, 3) := by decide +kernel
theorem d_SD_doLine_251 : decode b_SD_doLine 251 = .ok (.invokevirtual 182, 3) := by decide +kernel
theorem d_SD_doLine_254 : decode b_SD_doLine 254 = .ok (.aload_n 0, 1) := by decide +kernel
theorem d_SD_doLine_255 : decode b_SD_doLine 255 = .ok (.getfield 30, 3) := by decide +kernel
theorem d_SD_doLine_258 : decode b_SD_doLine 258 = .ok (.invokevirtual 185, 3) := by decide +kernel
theorem d_SD_doLine_261 : decode b_SD_doLine 261 = .ok (.return_, 1) := by decide +kernel
abbrev b_SD_doAdd : ByteArray := prog_1_method_14_code
def y_SD_doAdd : MethodName := ⟨"SpellDesk", "doAdd", "()Z"⟩
set_option maxRecDepth 20000 in
theorem Y_SD_doAdd : gh_Y y_SD_doAdd b_SD_doAdd 6 (some .boolean) 0 := ⟨gt_in (i := 349) rfl rfl, gt_in (i := 1) (by decide +kernel) rfl, by decide +kernel, by decide +kernel, by decide +kernel⟩
theorem V_SD_doAdd : Cond.instanceMethod y_SD_doAdd ∈ gTbl ∧ Cond.selects y_SD_doAdd.cls y_SD_doAdd y_SD_doAdd ∈ gTbl := ⟨(gt_in (i := 348) (by decide +kernel) rfl), (gt_sel (n := 8) (i := 1) (by decide +kernel))⟩
theorem d_SD_doAdd_0 : decode b_SD_doAdd 0 = .ok (.aload_n 0, 1) := by decide +kernel
theorem d_SD_doAdd_1 : decode b_SD_doAdd 1 = .ok (.getfield 23, 3) := by decide +kernel
theorem d_SD_doAdd_4 : decode b_SD_doAdd 4 = .ok (.invokevirtual 120, 3) := by decide +kernel
theorem d_SD_doAdd_7 : decode b_SD_doAdd 7 = .ok (.ifCond .ne 5, 3) := by decide +kernel
theorem d_SD_doAdd_10 : decode b_SD_doAdd 10 = .ok (.iconst 0, 1) := by decide +kernel
theorem d_SD_doAdd_11 : decode b_SD_doAdd 11 = .ok (.ireturn, 1) := by decide +kernel
theorem d_SD_doAdd_12 : decode b_SD_doAdd 12 = .ok (.aload_n 0, 1) := by decide +kernel
theorem d_SD_doAdd_13 : decode b_SD_doAdd 13 = .ok (.getfield 23, 3) := by decide +kernel
theorem d_SD_doAdd_16 : decode b_SD_doAdd 16 = .ok (.invokevirtual 188, 3) := by decide +kernel
theorem d_SD_doAdd_19 : decode b_SD_doAdd 19 = .ok (.istore_n 1, 1) := by decide +kernel
theorem d_SD_doAdd_20 : decode b_SD_doAdd 20 = .ok (.aload_n 0, 1) := by decide +kernel
theorem d_SD_doAdd_21 : decode b_SD_doAdd 21 = .ok (.getfield 23, 3) := by decide +kernel
theorem d_SD_doAdd_24 : decode b_SD_doAdd 24 = .ok (.invokevirtual 191, 3) := by decide +kernel
theorem d_SD_doAdd_27 : decode b_SD_doAdd 27 = .ok (.istore_n 2, 1) := by decide +kernel
theorem d_SD_doAdd_28 : decode b_SD_doAdd 28 = .ok (.aload_n 0, 1) := by decide +kernel
theorem d_SD_doAdd_29 : decode b_SD_doAdd 29 = .ok (.getfield 23, 3) := by decide +kernel
theorem d_SD_doAdd_32 : decode b_SD_doAdd 32 = .ok (.iload_n 2, 1) := by decide +kernel
theorem d_SD_doAdd_33 : decode b_SD_doAdd 33 = .ok (.invokevirtual 194, 3) := by decide +kernel
theorem d_SD_doAdd_36 : decode b_SD_doAdd 36 = .ok (.istore_n 3, 1) := by decide +kernel
theorem d_SD_doAdd_37 : decode b_SD_doAdd 37 = .ok (.iload_n 2, 1) := by decide +kernel
theorem d_SD_doAdd_38 : decode b_SD_doAdd 38 = .ok (.iconst 1, 1) := by decide +kernel
theorem d_SD_doAdd_39 : decode b_SD_doAdd 39 = .ok (.if_icmp .lt 23, 3) := by decide +kernel
theorem d_SD_doAdd_42 : decode b_SD_doAdd 42 = .ok (.iload_n 2, 1) := by decide +kernel
theorem d_SD_doAdd_43 : decode b_SD_doAdd 43 = .ok (.bipush 16, 2) := by decide +kernel
theorem d_SD_doAdd_45 : decode b_SD_doAdd 45 = .ok (.if_icmp .gt 17, 3) := by decide +kernel
theorem d_SD_doAdd_48 : decode b_SD_doAdd 48 = .ok (.iload_n 3, 1) := by decide +kernel
theorem d_SD_doAdd_49 : decode b_SD_doAdd 49 = .ok (.ifCond .lt 13, 3) := by decide +kernel
theorem d_SD_doAdd_52 : decode b_SD_doAdd 52 = .ok (.aload_n 0, 1) := by decide +kernel
theorem d_SD_doAdd_53 : decode b_SD_doAdd 53 = .ok (.getfield 23, 3) := by decide +kernel
theorem d_SD_doAdd_56 : decode b_SD_doAdd 56 = .ok (.invokevirtual 197, 3) := by decide +kernel
theorem d_SD_doAdd_59 : decode b_SD_doAdd 59 = .ok (.ifCond .ne 5, 3) := by decide +kernel
theorem d_SD_doAdd_62 : decode b_SD_doAdd 62 = .ok (.iconst 0, 1) := by decide +kernel
theorem d_SD_doAdd_63 : decode b_SD_doAdd 63 = .ok (.ireturn, 1) := by decide +kernel
theorem d_SD_doAdd_64 : decode b_SD_doAdd 64 = .ok (.aload_n 0, 1) := by decide +kernel
theorem d_SD_doAdd_65 : decode b_SD_doAdd 65 = .ok (.getfield 37, 3) := by decide +kernel
theorem d_SD_doAdd_68 : decode b_SD_doAdd 68 = .ok (.aload_n 0, 1) := by decide +kernel
theorem d_SD_doAdd_69 : decode b_SD_doAdd 69 = .ok (.getfield 14, 3) := by decide +kernel
theorem d_SD_doAdd_72 : decode b_SD_doAdd 72 = .ok (.iload_n 1, 1) := by decide +kernel
theorem d_SD_doAdd_73 : decode b_SD_doAdd 73 = .ok (.iload_n 2, 1) := by decide +kernel
theorem d_SD_doAdd_74 : decode b_SD_doAdd 74 = .ok (.invokevirtual 200, 3) := by decide +kernel
theorem d_SD_doAdd_77 : decode b_SD_doAdd 77 = .ok (.istore 4, 2) := by decide +kernel
theorem d_SD_doAdd_79 : decode b_SD_doAdd 79 = .ok (.aload_n 0, 1) := by decide +kernel
theorem d_SD_doAdd_80 : decode b_SD_doAdd 80 = .ok (.getfield 37, 3) := by decide +kernel
theorem d_SD_doAdd_83 : decode b_SD_doAdd 83 = .ok (.iload 4, 2) := by decide +kernel
theorem d_SD_doAdd_85 : decode b_SD_doAdd 85 = .ok (.aload_n 0, 1) := by decide +kernel
theorem d_SD_doAdd_86 : decode b_SD_doAdd 86 = .ok (.getfield 14, 3) := by decide +kernel
theorem d_SD_doAdd_89 : decode b_SD_doAdd 89 = .ok (.iload_n 1, 1) := by decide +kernel
theorem d_SD_doAdd_90 : decode b_SD_doAdd 90 = .ok (.iload_n 2, 1) := by decide +kernel
theorem d_SD_doAdd_91 : decode b_SD_doAdd 91 = .ok (.invokevirtual 204, 3) := by decide +kernel
theorem d_SD_doAdd_94 : decode b_SD_doAdd 94 = .ok (.astore 5, 2) := by decide +kernel
theorem d_SD_doAdd_96 : decode b_SD_doAdd 96 = .ok (.aload 5, 2) := by decide +kernel
theorem d_SD_doAdd_98 : decode b_SD_doAdd 98 = .ok (.ifnull 21, 3) := by decide +kernel
theorem d_SD_doAdd_101 : decode b_SD_doAdd 101 = .ok (.aload 5, 2) := by decide +kernel
theorem d_SD_doAdd_103 : decode b_SD_doAdd 103 = .ok (.iload_n 3, 1) := by decide +kernel
theorem d_SD_doAdd_104 : decode b_SD_doAdd 104 = .ok (.putfield 207, 3) := by decide +kernel
theorem d_SD_doAdd_107 : decode b_SD_doAdd 107 = .ok (.aload_n 0, 1) := by decide +kernel
theorem d_SD_doAdd_108 : decode b_SD_doAdd 108 = .ok (.getfield 30, 3) := by decide +kernel
theorem d_SD_doAdd_111 : decode b_SD_doAdd 111 = .ok (.ldc 213, 2) := by decide +kernel
theorem d_SD_doAdd_113 : decode b_SD_doAdd 113 = .ok (.invokevirtual 176, 3) := by decide +kernel
theorem d_SD_doAdd_116 : decode b_SD_doAdd 116 = .ok (.goto 63, 3) := by decide +kernel
theorem d_SD_doAdd_119 : decode b_SD_doAdd 119 = .ok (.aload_n 0, 1) := by decide +kernel
theorem d_SD_doAdd_120 : decode b_SD_doAdd 120 = .ok (.getfield 37, 3) := by decide +kernel
theorem d_SD_doAdd_123 : decode b_SD_doAdd 123 = .ok (.invokevirtual 111, 3) := by decide +kernel
theorem d_SD_doAdd_126 : decode b_SD_doAdd 126 = .ok (.sipush 300, 3) := by decide +kernel
theorem d_SD_doAdd_129 : decode b_SD_doAdd 129 = .ok (.if_icmp .lt 15, 3) := by decide +kernel
theorem d_SD_doAdd_132 : decode b_SD_doAdd 132 = .ok (.aload_n 0, 1) := by decide +kernel
theorem d_SD_doAdd_133 : decode b_SD_doAdd 133 = .ok (.getfield 30, 3) := by decide +kernel
theorem d_SD_doAdd_136 : decode b_SD_doAdd 136 = .ok (.ldc 215, 2) := by decide +kernel
theorem d_SD_doAdd_138 : decode b_SD_doAdd 138 = .ok (.invokevirtual 176, 3) := by decide +kernel
theorem d_SD_doAdd_141 : decode b_SD_doAdd 141 = .ok (.goto 38, 3) := by decide +kernel
theorem d_SD_doAdd_144 : decode b_SD_doAdd 144 = .ok (.aload_n 0, 1) := by decide +kernel
theorem d_SD_doAdd_145 : decode b_SD_doAdd 145 = .ok (.getfield 37, 3) := by decide +kernel
theorem d_SD_doAdd_148 : decode b_SD_doAdd 148 = .ok (.iload 4, 2) := by decide +kernel
theorem d_SD_doAdd_150 : decode b_SD_doAdd 150 = .ok (.new 208, 3) := by decide +kernel
theorem d_SD_doAdd_153 : decode b_SD_doAdd 153 = .ok (.dup, 1) := by decide +kernel
theorem d_SD_doAdd_154 : decode b_SD_doAdd 154 = .ok (.aload_n 0, 1) := by decide +kernel
theorem d_SD_doAdd_155 : decode b_SD_doAdd 155 = .ok (.getfield 14, 3) := by decide +kernel
theorem d_SD_doAdd_158 : decode b_SD_doAdd 158 = .ok (.iload_n 1, 1) := by decide +kernel
theorem d_SD_doAdd_159 : decode b_SD_doAdd 159 = .ok (.iload_n 2, 1) := by decide +kernel
theorem d_SD_doAdd_160 : decode b_SD_doAdd 160 = .ok (.invokevirtual 217, 3) := by decide +kernel
theorem d_SD_doAdd_163 : decode b_SD_doAdd 163 = .ok (.iload_n 3, 1) := by decide +kernel
theorem d_SD_doAdd_164 : decode b_SD_doAdd 164 = .ok (.invokespecial 221, 3) := by decide +kernel
theorem d_SD_doAdd_167 : decode b_SD_doAdd 167 = .ok (.invokevirtual 222, 3) := by decide +kernel
theorem d_SD_doAdd_170 : decode b_SD_doAdd 170 = .ok (.aload_n 0, 1) := by decide +kernel
theorem d_SD_doAdd_171 : decode b_SD_doAdd 171 = .ok (.getfield 30, 3) := by decide +kernel
theorem d_SD_doAdd_174 : decode b_SD_doAdd 174 = .ok (.ldc 226, 2) := by decide +kernel
theorem d_SD_doAdd_176 : decode b_SD_doAdd 176 = .ok (.invokevirtual 176, 3) := by decide +kernel
theorem d_SD_doAdd_179 : decode b_SD_doAdd 179 = .ok (.iconst 1, 1) := by decide +kernel
theorem d_SD_doAdd_180 : decode b_SD_doAdd 180 = .ok (.ireturn, 1) := by decide +kernel
abbrev b_SD_doDrop : ByteArray := prog_1_method_15_code
def y_SD_doDrop : MethodName := ⟨"SpellDesk", "doDrop", "()Z"⟩
set_option maxRecDepth 20000 in
theorem Y_SD_doDrop : gh_Y y_SD_doDrop b_SD_doDrop 2 (some .boolean) 0 := ⟨gt_in (i := 795) rfl rfl, gt_in (i := 1) (by decide +kernel) rfl, by decide +kernel, by decide +kernel, by decide +kernel⟩
theorem V_SD_doDrop : Cond.instanceMethod y_SD_doDrop ∈ gTbl ∧ Cond.selects y_SD_doDrop.cls y_SD_doDrop y_SD_doDrop ∈ gTbl := ⟨(gt_in (i := 794) (by decide +kernel) rfl), (gt_sel (n := 8) (i := 8) (by decide +kernel))⟩
theorem d_SD_doDrop_0 : decode b_SD_doDrop 0 = .ok (.aload_n 0, 1) := by decide +kernel
theorem d_SD_doDrop_1 : decode b_SD_doDrop 1 = .ok (.getfield 23, 3) := by decide +kernel
theorem d_SD_doDrop_4 : decode b_SD_doDrop 4 = .ok (.bipush 16, 2) := by decide +kernel
theorem d_SD_doDrop_6 : decode b_SD_doDrop 6 = .ok (.invokevirtual 228, 3) := by decide +kernel
theorem d_SD_doDrop_9 : decode b_SD_doDrop 9 = .ok (.ifCond .ne 5, 3) := by decide +kernel
theorem d_SD_doDrop_12 : decode b_SD_doDrop 12 = .ok (.iconst 0, 1) := by decide +kernel
theorem d_SD_doDrop_13 : decode b_SD_doDrop 13 = .ok (.ireturn, 1) := by decide +kernel
theorem d_SD_doDrop_14 : decode b_SD_doDrop 14 = .ok (.aload_n 0, 1) := by decide +kernel
theorem d_SD_doDrop_15 : decode b_SD_doDrop 15 = .ok (.getfield 37, 3) := by decide +kernel
theorem d_SD_doDrop_18 : decode b_SD_doDrop 18 = .ok (.aload_n 0, 1) := by decide +kernel
theorem d_SD_doDrop_19 : decode b_SD_doDrop 19 = .ok (.getfield 14, 3) := by decide +kernel
theorem d_SD_doDrop_22 : decode b_SD_doDrop 22 = .ok (.aload_n 0, 1) := by decide +kernel
theorem d_SD_doDrop_23 : decode b_SD_doDrop 23 = .ok (.getfield 23, 3) := by decide +kernel
theorem d_SD_doDrop_26 : decode b_SD_doDrop 26 = .ok (.invokevirtual 232, 3) := by decide +kernel
theorem d_SD_doDrop_29 : decode b_SD_doDrop 29 = .ok (.aload_n 0, 1) := by decide +kernel
theorem d_SD_doDrop_30 : decode b_SD_doDrop 30 = .ok (.getfield 23, 3) := by decide +kernel
theorem d_SD_doDrop_33 : decode b_SD_doDrop 33 = .ok (.invokevirtual 235, 3) := by decide +kernel
theorem d_SD_doDrop_36 : decode b_SD_doDrop 36 = .ok (.invokevirtual 200, 3) := by decide +kernel
theorem d_SD_doDrop_39 : decode b_SD_doDrop 39 = .ok (.istore_n 1, 1) := by decide +kernel
theorem d_SD_doDrop_40 : decode b_SD_doDrop 40 = .ok (.aload_n 0, 1) := by decide +kernel
theorem d_SD_doDrop_41 : decode b_SD_doDrop 41 = .ok (.getfield 37, 3) := by decide +kernel
theorem d_SD_doDrop_44 : decode b_SD_doDrop 44 = .ok (.iload_n 1, 1) := by decide +kernel
theorem d_SD_doDrop_45 : decode b_SD_doDrop 45 = .ok (.aload_n 0, 1) := by decide +kernel
theorem d_SD_doDrop_46 : decode b_SD_doDrop 46 = .ok (.getfield 14, 3) := by decide +kernel
theorem d_SD_doDrop_49 : decode b_SD_doDrop 49 = .ok (.aload_n 0, 1) := by decide +kernel
theorem d_SD_doDrop_50 : decode b_SD_doDrop 50 = .ok (.getfield 23, 3) := by decide +kernel
theorem d_SD_doDrop_53 : decode b_SD_doDrop 53 = .ok (.invokevirtual 232, 3) := by decide +kernel
theorem d_SD_doDrop_56 : decode b_SD_doDrop 56 = .ok (.aload_n 0, 1) := by decide +kernel
theorem d_SD_doDrop_57 : decode b_SD_doDrop 57 = .ok (.getfield 23, 3) := by decide +kernel
theorem d_SD_doDrop_60 : decode b_SD_doDrop 60 = .ok (.invokevirtual 235, 3) := by decide +kernel
theorem d_SD_doDrop_63 : decode b_SD_doDrop 63 = .ok (.invokevirtual 204, 3) := by decide +kernel
theorem d_SD_doDrop_66 : decode b_SD_doDrop 66 = .ok (.ifnonnull 15, 3) := by decide +kernel
theorem d_SD_doDrop_69 : decode b_SD_doDrop 69 = .ok (.aload_n 0, 1) := by decide +kernel
theorem d_SD_doDrop_70 : decode b_SD_doDrop 70 = .ok (.getfield 30, 3) := by decide +kernel
theorem d_SD_doDrop_73 : decode b_SD_doDrop 73 = .ok (.ldc 238, 2) := by decide +kernel
theorem d_SD_doDrop_75 : decode b_SD_doDrop 75 = .ok (.invokevirtual 176, 3) := by decide +kernel
theorem d_SD_doDrop_78 : decode b_SD_doDrop 78 = .ok (.goto 20, 3) := by decide +kernel
theorem d_SD_doDrop_81 : decode b_SD_doDrop 81 = .ok (.aload_n 0, 1) := by decide +kernel
theorem d_SD_doDrop_82 : decode b_SD_doDrop 82 = .ok (.getfield 37, 3) := by decide +kernel
theorem d_SD_doDrop_85 : decode b_SD_doDrop 85 = .ok (.iload_n 1, 1) := by decide +kernel
theorem d_SD_doDrop_86 : decode b_SD_doDrop 86 = .ok (.invokevirtual 240, 3) := by decide +kernel
theorem d_SD_doDrop_89 : decode b_SD_doDrop 89 = .ok (.aload_n 0, 1) := by decide +kernel
theorem d_SD_doDrop_90 : decode b_SD_doDrop 90 = .ok (.getfield 30, 3) := by decide +kernel
theorem d_SD_doDrop_93 : decode b_SD_doDrop 93 = .ok (.ldc 226, 2) := by decide +kernel
theorem d_SD_doDrop_95 : decode b_SD_doDrop 95 = .ok (.invokevirtual 176, 3) := by decide +kernel
theorem d_SD_doDrop_98 : decode b_SD_doDrop 98 = .ok (.iconst 1, 1) := by decide +kernel
theorem d_SD_doDrop_99 : decode b_SD_doDrop 99 = .ok (.ireturn, 1) := by decide +kernel
abbrev b_SD_doRule : ByteArray := prog_1_method_16_code
def y_SD_doRule : MethodName := ⟨"SpellDesk", "doRule", "(LSpellDesk$RuleList;)Z"⟩
set_option maxRecDepth 20000 in
theorem Y_SD_doRule : gh_Y y_SD_doRule b_SD_doRule 3 (some .boolean) 1 := ⟨gt_in (i := 831) rfl rfl, gt_in (i := 1) (by decide +kernel) rfl, by decide +kernel, by decide +kernel, by decide +kernel⟩
theorem V_SD_doRule : Cond.instanceMethod y_SD_doRule ∈ gTbl ∧ Cond.selects y_SD_doRule.cls y_SD_doRule y_SD_doRule ∈ gTbl := ⟨(gt_in (i := 830) (by decide +kernel) rfl), (gt_sel (n := 8) (i := 10) (by decide +kernel))⟩
theorem d_SD_doRule_0 : decode b_SD_doRule 0 = .ok (.aload_n 0, 1) := by decide +kernel
theorem d_SD_doRule_1 : decode b_SD_doRule 1 = .ok (.aload_n 1, 1) := by decide +kernel
theorem d_SD_doRule_2 : decode b_SD_doRule 2 = .ok (.invokevirtual 243, 3) := by decide +kernel
theorem d_SD_doRule_5 : decode b_SD_doRule 5 = .ok (.invokevirtual 246, 3) := by decide +kernel
theorem d_SD_doRule_8 : decode b_SD_doRule 8 = .ok (.astore_n 2, 1) := by decide +kernel
theorem d_SD_doRule_9 : decode b_SD_doRule 9 = .ok (.aload_n 2, 1) := by decide +kernel
theorem d_SD_doRule_10 : decode b_SD_doRule 10 = .ok (.ifnonnull 5, 3) := by decide +kernel
theorem d_SD_doRule_13 : decode b_SD_doRule 13 = .ok (.iconst 0, 1) := by decide +kernel
theorem d_SD_doRule_14 : decode b_SD_doRule 14 = .ok (.ireturn, 1) := by decide +kernel
theorem d_SD_doRule_15 : decode b_SD_doRule 15 = .ok (.aload_n 1, 1) := by decide +kernel
theorem d_SD_doRule_16 : decode b_SD_doRule 16 = .ok (.invokevirtual 112, 3) := by decide +kernel
theorem d_SD_doRule_19 : decode b_SD_doRule 19 = .ok (.bipush 8, 2) := by decide +kernel
theorem d_SD_doRule_21 : decode b_SD_doRule 21 = .ok (.if_icmp .lt 15, 3) := by decide +kernel
theorem d_SD_doRule_24 : decode b_SD_doRule 24 = .ok (.aload_n 0, 1) := by decide +kernel
theorem d_SD_doRule_25 : decode b_SD_doRule 25 = .ok (.getfield 30, 3) := by decide +kernel
theorem d_SD_doRule_28 : decode b_SD_doRule 28 = .ok (.ldc 215, 2) := by decide +kernel
theorem d_SD_doRule_30 : decode b_SD_doRule 30 = .ok (.invokevirtual 176, 3) := by decide +kernel
theorem d_SD_doRule_33 : decode b_SD_doRule 33 = .ok (.goto 17, 3) := by decide +kernel
theorem d_SD_doRule_36 : decode b_SD_doRule 36 = .ok (.aload_n 1, 1) := by decide +kernel
theorem d_SD_doRule_37 : decode b_SD_doRule 37 = .ok (.aload_n 2, 1) := by decide +kernel
theorem d_SD_doRule_38 : decode b_SD_doRule 38 = .ok (.invokevirtual 250, 3) := by decide +kernel
theorem d_SD_doRule_41 : decode b_SD_doRule 41 = .ok (.aload_n 0, 1) := by decide +kernel
theorem d_SD_doRule_42 : decode b_SD_doRule 42 = .ok (.getfield 30, 3) := by decide +kernel
theorem d_SD_doRule_45 : decode b_SD_doRule 45 = .ok (.ldc 226, 2) := by decide +kernel
theorem d_SD_doRule_47 : decode b_SD_doRule 47 = .ok (.invokevirtual 176, 3) := by decide +kernel
theorem d_SD_doRule_50 : decode b_SD_doRule 50 = .ok (.iconst 1, 1) := by decide +kernel
theorem d_SD_doRule_51 : decode b_SD_doRule 51 = .ok (.ireturn, 1) := by decide +kernel
abbrev b_SD_readRule : ByteArray := prog_1_method_17_code
def y_SD_readRule : MethodName := ⟨"SpellDesk", "readRule", "(Z)LSpellDesk$Rule;"⟩
set_option maxRecDepth 20000 in
theorem Y_SD_readRule : gh_Y y_SD_readRule b_SD_readRule 6 (some (.object "SpellDesk$Rule")) 1 := ⟨gt_in (i := 839) rfl rfl, gt_in (i := 1) (by decide +kernel) rfl, by decide +kernel, by decide +kernel, by decide +kernel⟩
theorem V_SD_readRule : Cond.instanceMethod y_SD_readRule ∈ gTbl ∧ Cond.selects y_SD_readRule.cls y_SD_readRule y_SD_readRule ∈ gTbl := ⟨(gt_in (i := 838) (by decide +kernel) rfl), (gt_sel (n := 8) (i := 11) (by decide +kernel))⟩
theorem d_SD_readRule_0 : decode b_SD_readRule 0 = .ok (.aload_n 0, 1) := by decide +kernel
theorem d_SD_readRule_1 : decode b_SD_readRule 1 = .ok (.getfield 23, 3) := by decide +kernel
theorem d_SD_readRule_4 : decode b_SD_readRule 4 = .ok (.invokevirtual 120, 3) := by decide +kernel
theorem d_SD_readRule_7 : decode b_SD_readRule 7 = .ok (.ifCond .eq 13, 3) := by decide +kernel
theorem d_SD_readRule_10 : decode b_SD_readRule 10 = .ok (.aload_n 0, 1) := by decide +kernel
theorem d_SD_readRule_11 : decode b_SD_readRule 11 = .ok (.getfield 23, 3) := by decide +kernel
theorem d_SD_readRule_14 : decode b_SD_readRule 14 = .ok (.invokevirtual 253, 3) := by decide +kernel
theorem d_SD_readRule_17 : decode b_SD_readRule 17 = .ok (.ifCond .ne 5, 3) := by decide +kernel
theorem d_SD_readRule_20 : decode b_SD_readRule 20 = .ok (.aconst_null, 1) := by decide +kernel
theorem d_SD_readRule_21 : decode b_SD_readRule 21 = .ok (.areturn, 1) := by decide +kernel
theorem d_SD_readRule_22 : decode b_SD_readRule 22 = .ok (.aload_n 0, 1) := by decide +kernel
theorem d_SD_readRule_23 : decode b_SD_readRule 23 = .ok (.getfield 23, 3) := by decide +kernel
theorem d_SD_readRule_26 : decode b_SD_readRule 26 = .ok (.invokevirtual 253, 3) := by decide +kernel
theorem d_SD_readRule_29 : decode b_SD_readRule 29 = .ok (.istore_n 2, 1) := by decide +kernel
theorem d_SD_readRule_30 : decode b_SD_readRule 30 = .ok (.aload_n 0, 1) := by decide +kernel
theorem d_SD_readRule_31 : decode b_SD_readRule 31 = .ok (.getfield 23, 3) := by decide +kernel
theorem d_SD_readRule_34 : decode b_SD_readRule 34 = .ok (.iconst 0, 1) := by decide +kernel
theorem d_SD_readRule_35 : decode b_SD_readRule 35 = .ok (.invokevirtual 256, 3) := by decide +kernel
theorem d_SD_readRule_38 : decode b_SD_readRule 38 = .ok (.ifCond .ne 5, 3) := by decide +kernel
theorem d_SD_readRule_41 : decode b_SD_readRule 41 = .ok (.aconst_null, 1) := by decide +kernel
theorem d_SD_readRule_42 : decode b_SD_readRule 42 = .ok (.areturn, 1) := by decide +kernel
theorem d_SD_readRule_43 : decode b_SD_readRule 43 = .ok (.aload_n 0, 1) := by decide +kernel
theorem d_SD_readRule_44 : decode b_SD_readRule 44 = .ok (.getfield 23, 3) := by decide +kernel
theorem d_SD_readRule_47 : decode b_SD_readRule 47 = .ok (.invokevirtual 260, 3) := by decide +kernel
theorem d_SD_readRule_50 : decode b_SD_readRule 50 = .ok (.astore_n 3, 1) := by decide +kernel
theorem d_SD_readRule_51 : decode b_SD_readRule 51 = .ok (.aload_n 0, 1) := by decide +kernel
theorem d_SD_readRule_52 : decode b_SD_readRule 52 = .ok (.getfield 23, 3) := by decide +kernel
theorem d_SD_readRule_55 : decode b_SD_readRule 55 = .ok (.iconst 0, 1) := by decide +kernel
theorem d_SD_readRule_56 : decode b_SD_readRule 56 = .ok (.invokevirtual 256, 3) := by decide +kernel
theorem d_SD_readRule_59 : decode b_SD_readRule 59 = .ok (.ifCond .ne 5, 3) := by decide +kernel
theorem d_SD_readRule_62 : decode b_SD_readRule 62 = .ok (.aconst_null, 1) := by decide +kernel
theorem d_SD_readRule_63 : decode b_SD_readRule 63 = .ok (.areturn, 1) := by decide +kernel
theorem d_SD_readRule_64 : decode b_SD_readRule 64 = .ok (.aload_n 0, 1) := by decide +kernel
theorem d_SD_readRule_65 : decode b_SD_readRule 65 = .ok (.getfield 23, 3) := by decide +kernel
theorem d_SD_readRule_68 : decode b_SD_readRule 68 = .ok (.invokevirtual 260, 3) := by decide +kernel
theorem d_SD_readRule_71 : decode b_SD_readRule 71 = .ok (.astore 4, 2) := by decide +kernel
theorem d_SD_readRule_73 : decode b_SD_readRule 73 = .ok (.aload_n 0, 1) := by decide +kernel
theorem d_SD_readRule_74 : decode b_SD_readRule 74 = .ok (.getfield 23, 3) := by decide +kernel
theorem d_SD_readRule_77 : decode b_SD_readRule 77 = .ok (.iconst 1, 1) := by decide +kernel
theorem d_SD_readRule_78 : decode b_SD_readRule 78 = .ok (.invokevirtual 256, 3) := by decide +kernel
theorem d_SD_readRule_81 : decode b_SD_readRule 81 = .ok (.ifCond .ne 5, 3) := by decide +kernel
theorem d_SD_readRule_84 : decode b_SD_readRule 84 = .ok (.aconst_null, 1) := by decide +kernel
theorem d_SD_readRule_85 : decode b_SD_readRule 85 = .ok (.areturn, 1) := by decide +kernel
theorem d_SD_readRule_86 : decode b_SD_readRule 86 = .ok (.aload_n 0, 1) := by decide +kernel
theorem d_SD_readRule_87 : decode b_SD_readRule 87 = .ok (.getfield 23, 3) := by decide +kernel
theorem d_SD_readRule_90 : decode b_SD_readRule 90 = .ok (.invokevirtual 260, 3) := by decide +kernel
theorem d_SD_readRule_93 : decode b_SD_readRule 93 = .ok (.astore 5, 2) := by decide +kernel
theorem d_SD_readRule_95 : decode b_SD_readRule 95 = .ok (.aload_n 0, 1) := by decide +kernel
theorem d_SD_readRule_96 : decode b_SD_readRule 96 = .ok (.getfield 23, 3) := by decide +kernel
theorem d_SD_readRule_99 : decode b_SD_readRule 99 = .ok (.invokevirtual 197, 3) := by decide +kernel
theorem d_SD_readRule_102 : decode b_SD_readRule 102 = .ok (.ifCond .ne 5, 3) := by decide +kernel
theorem d_SD_readRule_105 : decode b_SD_readRule 105 = .ok (.aconst_null, 1) := by decide +kernel
theorem d_SD_readRule_106 : decode b_SD_readRule 106 = .ok (.areturn, 1) := by decide +kernel
theorem d_SD_readRule_107 : decode b_SD_readRule 107 = .ok (.new 264, 3) := by decide +kernel
theorem d_SD_readRule_110 : decode b_SD_readRule 110 = .ok (.dup, 1) := by decide +kernel
theorem d_SD_readRule_111 : decode b_SD_readRule 111 = .ok (.iload_n 1, 1) := by decide +kernel
theorem d_SD_readRule_112 : decode b_SD_readRule 112 = .ok (.iload_n 2, 1) := by decide +kernel
theorem d_SD_readRule_113 : decode b_SD_readRule 113 = .ok (.aload_n 3, 1) := by decide +kernel
theorem d_SD_readRule_114 : decode b_SD_readRule 114 = .ok (.aload 4, 2) := by decide +kernel
theorem d_SD_readRule_116 : decode b_SD_readRule 116 = .ok (.aload 5, 2) := by decide +kernel
theorem d_SD_readRule_118 : decode b_SD_readRule 118 = .ok (.invokespecial 266, 3) := by decide +kernel
theorem d_SD_readRule_121 : decode b_SD_readRule 121 = .ok (.areturn, 1) := by decide +kernel
abbrev b_SD_doCheck : ByteArray := prog_1_method_18_code
def y_SD_doCheck : MethodName := ⟨"SpellDesk", "doCheck", "()Z"⟩
set_option maxRecDepth 20000 in
theorem Y_SD_doCheck : gh_Y y_SD_doCheck b_SD_doCheck 2 (some .boolean) 0 := ⟨gt_in (i := 879) rfl rfl, gt_in (i := 1) (by decide +kernel) rfl, by decide +kernel, by decide +kernel, by decide +kernel⟩
theorem V_SD_doCheck : Cond.instanceMethod y_SD_doCheck ∈ gTbl ∧ Cond.selects y_SD_doCheck.cls y_SD_doCheck y_SD_doCheck ∈ gTbl := ⟨(gt_in (i := 878) (by decide +kernel) rfl), (gt_sel (n := 8) (i := 13) (by decide +kernel))⟩
theorem d_SD_doCheck_0 : decode b_SD_doCheck 0 = .ok (.aload_n 0, 1) := by decide +kernel
theorem d_SD_doCheck_1 : decode b_SD_doCheck 1 = .ok (.getfield 67, 3) := by decide +kernel
theorem d_SD_doCheck_4 : decode b_SD_doCheck 4 = .ok (.invokevirtual 269, 3) := by decide +kernel
theorem d_SD_doCheck_7 : decode b_SD_doCheck 7 = .ok (.aload_n 0, 1) := by decide +kernel
theorem d_SD_doCheck_8 : decode b_SD_doCheck 8 = .ok (.getfield 23, 3) := by decide +kernel
theorem d_SD_doCheck_11 : decode b_SD_doCheck 11 = .ok (.bipush 28, 2) := by decide +kernel
theorem d_SD_doCheck_13 : decode b_SD_doCheck 13 = .ok (.invokevirtual 270, 3) := by decide +kernel
theorem d_SD_doCheck_16 : decode b_SD_doCheck 16 = .ok (.ifCond .ne 5, 3) := by decide +kernel
theorem d_SD_doCheck_19 : decode b_SD_doCheck 19 = .ok (.iconst 0, 1) := by decide +kernel
theorem d_SD_doCheck_20 : decode b_SD_doCheck 20 = .ok (.ireturn, 1) := by decide +kernel
theorem d_SD_doCheck_21 : decode b_SD_doCheck 21 = .ok (.aload_n 0, 1) := by decide +kernel
theorem d_SD_doCheck_22 : decode b_SD_doCheck 22 = .ok (.getfield 67, 3) := by decide +kernel
theorem d_SD_doCheck_25 : decode b_SD_doCheck 25 = .ok (.aload_n 0, 1) := by decide +kernel
theorem d_SD_doCheck_26 : decode b_SD_doCheck 26 = .ok (.getfield 23, 3) := by decide +kernel
theorem d_SD_doCheck_29 : decode b_SD_doCheck 29 = .ok (.invokevirtual 232, 3) := by decide +kernel
theorem d_SD_doCheck_32 : decode b_SD_doCheck 32 = .ok (.aload_n 0, 1) := by decide +kernel
theorem d_SD_doCheck_33 : decode b_SD_doCheck 33 = .ok (.getfield 23, 3) := by decide +kernel
theorem d_SD_doCheck_36 : decode b_SD_doCheck 36 = .ok (.invokevirtual 235, 3) := by decide +kernel
theorem d_SD_doCheck_39 : decode b_SD_doCheck 39 = .ok (.invokevirtual 273, 3) := by decide +kernel
theorem d_SD_doCheck_42 : decode b_SD_doCheck 42 = .ok (.iconst 0, 1) := by decide +kernel
theorem d_SD_doCheck_43 : decode b_SD_doCheck 43 = .ok (.istore_n 1, 1) := by decide +kernel
theorem d_SD_doCheck_44 : decode b_SD_doCheck 44 = .ok (.iload_n 1, 1) := by decide +kernel
theorem d_SD_doCheck_45 : decode b_SD_doCheck 45 = .ok (.sipush 1024, 3) := by decide +kernel
theorem d_SD_doCheck_48 : decode b_SD_doCheck 48 = .ok (.if_icmp .ge 54, 3) := by decide +kernel
theorem d_SD_doCheck_51 : decode b_SD_doCheck 51 = .ok (.aload_n 0, 1) := by decide +kernel
theorem d_SD_doCheck_52 : decode b_SD_doCheck 52 = .ok (.getfield 23, 3) := by decide +kernel
theorem d_SD_doCheck_55 : decode b_SD_doCheck 55 = .ok (.invokevirtual 197, 3) := by decide +kernel
theorem d_SD_doCheck_58 : decode b_SD_doCheck 58 = .ok (.ifCond .ne 44, 3) := by decide +kernel
theorem d_SD_doCheck_61 : decode b_SD_doCheck 61 = .ok (.aload_n 0, 1) := by decide +kernel
theorem d_SD_doCheck_62 : decode b_SD_doCheck 62 = .ok (.getfield 23, 3) := by decide +kernel
theorem d_SD_doCheck_65 : decode b_SD_doCheck 65 = .ok (.bipush 28, 2) := by decide +kernel
theorem d_SD_doCheck_67 : decode b_SD_doCheck 67 = .ok (.invokevirtual 276, 3) := by decide +kernel
theorem d_SD_doCheck_70 : decode b_SD_doCheck 70 = .ok (.ifCond .ne 5, 3) := by decide +kernel
theorem d_SD_doCheck_73 : decode b_SD_doCheck 73 = .ok (.iconst 0, 1) := by decide +kernel
theorem d_SD_doCheck_74 : decode b_SD_doCheck 74 = .ok (.ireturn, 1) := by decide +kernel
theorem d_SD_doCheck_75 : decode b_SD_doCheck 75 = .ok (.aload_n 0, 1) := by decide +kernel
theorem d_SD_doCheck_76 : decode b_SD_doCheck 76 = .ok (.getfield 67, 3) := by decide +kernel
theorem d_SD_doCheck_79 : decode b_SD_doCheck 79 = .ok (.aload_n 0, 1) := by decide +kernel
theorem d_SD_doCheck_80 : decode b_SD_doCheck 80 = .ok (.getfield 23, 3) := by decide +kernel
theorem d_SD_doCheck_83 : decode b_SD_doCheck 83 = .ok (.invokevirtual 232, 3) := by decide +kernel
theorem d_SD_doCheck_86 : decode b_SD_doCheck 86 = .ok (.aload_n 0, 1) := by decide +kernel
theorem d_SD_doCheck_87 : decode b_SD_doCheck 87 = .ok (.getfield 23, 3) := by decide +kernel
theorem d_SD_doCheck_90 : decode b_SD_doCheck 90 = .ok (.invokevirtual 235, 3) := by decide +kernel
theorem d_SD_doCheck_93 : decode b_SD_doCheck 93 = .ok (.invokevirtual 273, 3) := by decide +kernel
theorem d_SD_doCheck_96 : decode b_SD_doCheck 96 = .ok (.iinc 1 1, 3) := by decide +kernel
theorem d_SD_doCheck_99 : decode b_SD_doCheck 99 = .ok (.goto (-55), 3) := by decide +kernel
theorem d_SD_doCheck_102 : decode b_SD_doCheck 102 = .ok (.iconst 0, 1) := by decide +kernel
theorem d_SD_doCheck_103 : decode b_SD_doCheck 103 = .ok (.istore_n 1, 1) := by decide +kernel
theorem d_SD_doCheck_104 : decode b_SD_doCheck 104 = .ok (.iload_n 1, 1) := by decide +kernel
theorem d_SD_doCheck_105 : decode b_SD_doCheck 105 = .ok (.aload_n 0, 1) := by decide +kernel
theorem d_SD_doCheck_106 : decode b_SD_doCheck 106 = .ok (.getfield 67, 3) := by decide +kernel
theorem d_SD_doCheck_109 : decode b_SD_doCheck 109 = .ok (.invokevirtual 279, 3) := by decide +kernel
theorem d_SD_doCheck_112 : decode b_SD_doCheck 112 = .ok (.if_icmp .ge 67, 3) := by decide +kernel
theorem d_SD_doCheck_115 : decode b_SD_doCheck 115 = .ok (.aload_n 0, 1) := by decide +kernel
theorem d_SD_doCheck_116 : decode b_SD_doCheck 116 = .ok (.getfield 58, 3) := by decide +kernel
theorem d_SD_doCheck_119 : decode b_SD_doCheck 119 = .ok (.aload_n 0, 1) := by decide +kernel
theorem d_SD_doCheck_120 : decode b_SD_doCheck 120 = .ok (.getfield 14, 3) := by decide +kernel
theorem d_SD_doCheck_123 : decode b_SD_doCheck 123 = .ok (.aload_n 0, 1) := by decide +kernel
theorem d_SD_doCheck_124 : decode b_SD_doCheck 124 = .ok (.getfield 67, 3) := by decide +kernel
theorem d_SD_doCheck_127 : decode b_SD_doCheck 127 = .ok (.iload_n 1, 1) := by decide +kernel
theorem d_SD_doCheck_128 : decode b_SD_doCheck 128 = .ok (.invokevirtual 280, 3) := by decide +kernel
theorem d_SD_doCheck_131 : decode b_SD_doCheck 131 = .ok (.aload_n 0, 1) := by decide +kernel
theorem d_SD_doCheck_132 : decode b_SD_doCheck 132 = .ok (.getfield 67, 3) := by decide +kernel
theorem d_SD_doCheck_135 : decode b_SD_doCheck 135 = .ok (.iload_n 1, 1) := by decide +kernel
theorem d_SD_doCheck_136 : decode b_SD_doCheck 136 = .ok (.invokevirtual 283, 3) := by decide +kernel
theorem d_SD_doCheck_139 : decode b_SD_doCheck 139 = .ok (.iconst 1, 1) := by decide +kernel
theorem d_SD_doCheck_140 : decode b_SD_doCheck 140 = .ok (.invokevirtual 286, 3) := by decide +kernel
theorem d_SD_doCheck_143 : decode b_SD_doCheck 143 = .ok (.ifCond .ne 30, 3) := by decide +kernel
theorem d_SD_doCheck_146 : decode b_SD_doCheck 146 = .ok (.aload_n 0, 1) := by decide +kernel
theorem d_SD_doCheck_147 : decode b_SD_doCheck 147 = .ok (.getfield 30, 3) := by decide +kernel
theorem d_SD_doCheck_150 : decode b_SD_doCheck 150 = .ok (.aload_n 0, 1) := by decide +kernel
theorem d_SD_doCheck_151 : decode b_SD_doCheck 151 = .ok (.getfield 14, 3) := by decide +kernel
theorem d_SD_doCheck_154 : decode b_SD_doCheck 154 = .ok (.aload_n 0, 1) := by decide +kernel
theorem d_SD_doCheck_155 : decode b_SD_doCheck 155 = .ok (.getfield 67, 3) := by decide +kernel
theorem d_SD_doCheck_158 : decode b_SD_doCheck 158 = .ok (.iload_n 1, 1) := by decide +kernel
theorem d_SD_doCheck_159 : decode b_SD_doCheck 159 = .ok (.invokevirtual 280, 3) := by decide +kernel
theorem d_SD_doCheck_162 : decode b_SD_doCheck 162 = .ok (.aload_n 0, 1) := by decide +kernel
theorem d_SD_doCheck_163 : decode b_SD_doCheck 163 = .ok (.getfield 67, 3) := by decide +kernel
theorem d_SD_doCheck_166 : decode b_SD_doCheck 166 = .ok (.iload_n 1, 1) := by decide +kernel
theorem d_SD_doCheck_167 : decode b_SD_doCheck 167 = .ok (.invokevirtual 283, 3) := by decide +kernel
theorem d_SD_doCheck_170 : decode b_SD_doCheck 170 = .ok (.invokevirtual 290, 3) := by decide +kernel
theorem d_SD_doCheck_173 : decode b_SD_doCheck 173 = .ok (.iinc 1 1, 3) := by decide +kernel
theorem d_SD_doCheck_176 : decode b_SD_doCheck 176 = .ok (.goto (-72), 3) := by decide +kernel
theorem d_SD_doCheck_179 : decode b_SD_doCheck 179 = .ok (.aload_n 0, 1) := by decide +kernel
theorem d_SD_doCheck_180 : decode b_SD_doCheck 180 = .ok (.getfield 30, 3) := by decide +kernel
theorem d_SD_doCheck_183 : decode b_SD_doCheck 183 = .ok (.invokevirtual 294, 3) := by decide +kernel
theorem d_SD_doCheck_186 : decode b_SD_doCheck 186 = .ok (.iconst 1, 1) := by decide +kernel
theorem d_SD_doCheck_187 : decode b_SD_doCheck 187 = .ok (.ireturn, 1) := by decide +kernel
abbrev b_SD_doLook : ByteArray := prog_1_method_19_code
def y_SD_doLook : MethodName := ⟨"SpellDesk", "doLook", "()Z"⟩
set_option maxRecDepth 20000 in
theorem Y_SD_doLook : gh_Y y_SD_doLook b_SD_doLook 4 (some .boolean) 0 := ⟨gt_in (i := 971) rfl rfl, gt_in (i := 1) (by decide +kernel) rfl, by decide +kernel, by decide +kernel, by decide +kernel⟩
theorem V_SD_doLook : Cond.instanceMethod y_SD_doLook ∈ gTbl ∧ Cond.selects y_SD_doLook.cls y_SD_doLook y_SD_doLook ∈ gTbl := ⟨(gt_in (i := 970) (by decide +kernel) rfl), (gt_sel (n := 8) (i := 17) (by decide +kernel))⟩
theorem d_SD_doLook_0 : decode b_SD_doLook 0 = .ok (.aload_n 0, 1) := by decide +kernel
theorem d_SD_doLook_1 : decode b_SD_doLook 1 = .ok (.getfield 23, 3) := by decide +kernel
theorem d_SD_doLook_4 : decode b_SD_doLook 4 = .ok (.bipush 16, 2) := by decide +kernel
theorem d_SD_doLook_6 : decode b_SD_doLook 6 = .ok (.invokevirtual 228, 3) := by decide +kernel
theorem d_SD_doLook_9 : decode b_SD_doLook 9 = .ok (.ifCond .ne 5, 3) := by decide +kernel
theorem d_SD_doLook_12 : decode b_SD_doLook 12 = .ok (.iconst 0, 1) := by decide +kernel
theorem d_SD_doLook_13 : decode b_SD_doLook 13 = .ok (.ireturn, 1) := by decide +kernel
theorem d_SD_doLook_14 : decode b_SD_doLook 14 = .ok (.aload_n 0, 1) := by decide +kernel
theorem d_SD_doLook_15 : decode b_SD_doLook 15 = .ok (.getfield 37, 3) := by decide +kernel
theorem d_SD_doLook_18 : decode b_SD_doLook 18 = .ok (.aload_n 0, 1) := by decide +kernel
theorem d_SD_doLook_19 : decode b_SD_doLook 19 = .ok (.getfield 14, 3) := by decide +kernel
theorem d_SD_doLook_22 : decode b_SD_doLook 22 = .ok (.aload_n 0, 1) := by decide +kernel
theorem d_SD_doLook_23 : decode b_SD_doLook 23 = .ok (.getfield 23, 3) := by decide +kernel
theorem d_SD_doLook_26 : decode b_SD_doLook 26 = .ok (.invokevirtual 232, 3) := by decide +kernel
theorem d_SD_doLook_29 : decode b_SD_doLook 29 = .ok (.aload_n 0, 1) := by decide +kernel
theorem d_SD_doLook_30 : decode b_SD_doLook 30 = .ok (.getfield 23, 3) := by decide +kernel
theorem d_SD_doLook_33 : decode b_SD_doLook 33 = .ok (.invokevirtual 235, 3) := by decide +kernel
theorem d_SD_doLook_36 : decode b_SD_doLook 36 = .ok (.invokevirtual 200, 3) := by decide +kernel
theorem d_SD_doLook_39 : decode b_SD_doLook 39 = .ok (.istore_n 1, 1) := by decide +kernel
theorem d_SD_doLook_40 : decode b_SD_doLook 40 = .ok (.iload_n 1, 1) := by decide +kernel
theorem d_SD_doLook_41 : decode b_SD_doLook 41 = .ok (.istore_n 2, 1) := by decide +kernel
theorem d_SD_doLook_42 : decode b_SD_doLook 42 = .ok (.iload_n 2, 1) := by decide +kernel
theorem d_SD_doLook_43 : decode b_SD_doLook 43 = .ok (.aload_n 0, 1) := by decide +kernel
theorem d_SD_doLook_44 : decode b_SD_doLook 44 = .ok (.getfield 37, 3) := by decide +kernel
theorem d_SD_doLook_47 : decode b_SD_doLook 47 = .ok (.invokevirtual 111, 3) := by decide +kernel
theorem d_SD_doLook_50 : decode b_SD_doLook 50 = .ok (.if_icmp .ge 69, 3) := by decide +kernel
theorem d_SD_doLook_53 : decode b_SD_doLook 53 = .ok (.aload_n 0, 1) := by decide +kernel
theorem d_SD_doLook_54 : decode b_SD_doLook 54 = .ok (.getfield 37, 3) := by decide +kernel
theorem d_SD_doLook_57 : decode b_SD_doLook 57 = .ok (.iload_n 2, 1) := by decide +kernel
theorem d_SD_doLook_58 : decode b_SD_doLook 58 = .ok (.invokevirtual 297, 3) := by decide +kernel
theorem d_SD_doLook_61 : decode b_SD_doLook 61 = .ok (.astore_n 3, 1) := by decide +kernel
theorem d_SD_doLook_62 : decode b_SD_doLook 62 = .ok (.aload_n 3, 1) := by decide +kernel
theorem d_SD_doLook_63 : decode b_SD_doLook 63 = .ok (.ifnull 56, 3) := by decide +kernel
theorem d_SD_doLook_66 : decode b_SD_doLook 66 = .ok (.aload_n 3, 1) := by decide +kernel
theorem d_SD_doLook_67 : decode b_SD_doLook 67 = .ok (.aload_n 0, 1) := by decide +kernel
theorem d_SD_doLook_68 : decode b_SD_doLook 68 = .ok (.getfield 14, 3) := by decide +kernel
theorem d_SD_doLook_71 : decode b_SD_doLook 71 = .ok (.aload_n 0, 1) := by decide +kernel
theorem d_SD_doLook_72 : decode b_SD_doLook 72 = .ok (.getfield 23, 3) := by decide +kernel
theorem d_SD_doLook_75 : decode b_SD_doLook 75 = .ok (.invokevirtual 232, 3) := by decide +kernel
theorem d_SD_doLook_78 : decode b_SD_doLook 78 = .ok (.aload_n 0, 1) := by decide +kernel
theorem d_SD_doLook_79 : decode b_SD_doLook 79 = .ok (.getfield 23, 3) := by decide +kernel
theorem d_SD_doLook_82 : decode b_SD_doLook 82 = .ok (.invokevirtual 235, 3) := by decide +kernel
theorem d_SD_doLook_85 : decode b_SD_doLook 85 = .ok (.invokevirtual 300, 3) := by decide +kernel
theorem d_SD_doLook_88 : decode b_SD_doLook 88 = .ok (.ifCond .ne 6, 3) := by decide +kernel
theorem d_SD_doLook_91 : decode b_SD_doLook 91 = .ok (.goto 28, 3) := by decide +kernel
theorem d_SD_doLook_94 : decode b_SD_doLook 94 = .ok (.aload_n 0, 1) := by decide +kernel
theorem d_SD_doLook_95 : decode b_SD_doLook 95 = .ok (.getfield 30, 3) := by decide +kernel
theorem d_SD_doLook_98 : decode b_SD_doLook 98 = .ok (.aload_n 3, 1) := by decide +kernel
theorem d_SD_doLook_99 : decode b_SD_doLook 99 = .ok (.getfield 304, 3) := by decide +kernel
theorem d_SD_doLook_102 : decode b_SD_doLook 102 = .ok (.iconst 0, 1) := by decide +kernel
theorem d_SD_doLook_103 : decode b_SD_doLook 103 = .ok (.aload_n 3, 1) := by decide +kernel
theorem d_SD_doLook_104 : decode b_SD_doLook 104 = .ok (.getfield 304, 3) := by decide +kernel
theorem d_SD_doLook_107 : decode b_SD_doLook 107 = .ok (.invokevirtual 75, 3) := by decide +kernel
theorem d_SD_doLook_110 : decode b_SD_doLook 110 = .ok (.invokevirtual 290, 3) := by decide +kernel
theorem d_SD_doLook_113 : decode b_SD_doLook 113 = .ok (.iinc 2 1, 3) := by decide +kernel
theorem d_SD_doLook_116 : decode b_SD_doLook 116 = .ok (.goto (-74), 3) := by decide +kernel
theorem d_SD_doLook_119 : decode b_SD_doLook 119 = .ok (.aload_n 0, 1) := by decide +kernel
theorem d_SD_doLook_120 : decode b_SD_doLook 120 = .ok (.getfield 30, 3) := by decide +kernel
theorem d_SD_doLook_123 : decode b_SD_doLook 123 = .ok (.invokevirtual 294, 3) := by decide +kernel
theorem d_SD_doLook_126 : decode b_SD_doLook 126 = .ok (.iconst 1, 1) := by decide +kernel
theorem d_SD_doLook_127 : decode b_SD_doLook 127 = .ok (.ireturn, 1) := by decide +kernel
abbrev b_SD_doWhy : ByteArray := prog_1_method_20_code
def y_SD_doWhy : MethodName := ⟨"SpellDesk", "doWhy", "()Z"⟩
set_option maxRecDepth 20000 in
theorem Y_SD_doWhy : gh_Y y_SD_doWhy b_SD_doWhy 3 (some .boolean) 0 := ⟨gt_in (i := 983) rfl rfl, gt_in (i := 1) (by decide +kernel) rfl, by decide +kernel, by decide +kernel, by decide +kernel⟩
theorem V_SD_doWhy : Cond.instanceMethod y_SD_doWhy ∈ gTbl ∧ Cond.selects y_SD_doWhy.cls y_SD_doWhy y_SD_doWhy ∈ gTbl := ⟨(gt_in (i := 982) (by decide +kernel) rfl), (gt_sel (n := 8) (i := 18) (by decide +kernel))⟩
theorem d_SD_doWhy_0 : decode b_SD_doWhy 0 = .ok (.aload_n 0, 1) := by decide +kernel
theorem d_SD_doWhy_1 : decode b_SD_doWhy 1 = .ok (.getfield 23, 3) := by decide +kernel
theorem d_SD_doWhy_4 : decode b_SD_doWhy 4 = .ok (.bipush 28, 2) := by decide +kernel
theorem d_SD_doWhy_6 : decode b_SD_doWhy 6 = .ok (.invokevirtual 228, 3) := by decide +kernel
theorem d_SD_doWhy_9 : decode b_SD_doWhy 9 = .ok (.ifCond .ne 5, 3) := by decide +kernel
theorem d_SD_doWhy_12 : decode b_SD_doWhy 12 = .ok (.iconst 0, 1) := by decide +kernel
theorem d_SD_doWhy_13 : decode b_SD_doWhy 13 = .ok (.ireturn, 1) := by decide +kernel
theorem d_SD_doWhy_14 : decode b_SD_doWhy 14 = .ok (.aload_n 0, 1) := by decide +kernel
theorem d_SD_doWhy_15 : decode b_SD_doWhy 15 = .ok (.getfield 58, 3) := by decide +kernel
theorem d_SD_doWhy_18 : decode b_SD_doWhy 18 = .ok (.aload_n 0, 1) := by decide +kernel
theorem d_SD_doWhy_19 : decode b_SD_doWhy 19 = .ok (.getfield 14, 3) := by decide +kernel
theorem d_SD_doWhy_22 : decode b_SD_doWhy 22 = .ok (.aload_n 0, 1) := by decide +kernel
theorem d_SD_doWhy_23 : decode b_SD_doWhy 23 = .ok (.getfield 23, 3) := by decide +kernel
theorem d_SD_doWhy_26 : decode b_SD_doWhy 26 = .ok (.invokevirtual 232, 3) := by decide +kernel
theorem d_SD_doWhy_29 : decode b_SD_doWhy 29 = .ok (.aload_n 0, 1) := by decide +kernel
theorem d_SD_doWhy_30 : decode b_SD_doWhy 30 = .ok (.getfield 23, 3) := by decide +kernel
theorem d_SD_doWhy_33 : decode b_SD_doWhy 33 = .ok (.invokevirtual 235, 3) := by decide +kernel
theorem d_SD_doWhy_36 : decode b_SD_doWhy 36 = .ok (.bipush 81, 2) := by decide +kernel
theorem d_SD_doWhy_38 : decode b_SD_doWhy 38 = .ok (.invokevirtual 286, 3) := by decide +kernel
theorem d_SD_doWhy_41 : decode b_SD_doWhy 41 = .ok (.istore_n 1, 1) := by decide +kernel
theorem d_SD_doWhy_42 : decode b_SD_doWhy 42 = .ok (.iconst 0, 1) := by decide +kernel
theorem d_SD_doWhy_43 : decode b_SD_doWhy 43 = .ok (.istore_n 2, 1) := by decide +kernel
theorem d_SD_doWhy_44 : decode b_SD_doWhy 44 = .ok (.iload_n 2, 1) := by decide +kernel
theorem d_SD_doWhy_45 : decode b_SD_doWhy 45 = .ok (.iload_n 1, 1) := by decide +kernel
theorem d_SD_doWhy_46 : decode b_SD_doWhy 46 = .ok (.if_icmp .ge 37, 3) := by decide +kernel
theorem d_SD_doWhy_49 : decode b_SD_doWhy 49 = .ok (.aload_n 0, 1) := by decide +kernel
theorem d_SD_doWhy_50 : decode b_SD_doWhy 50 = .ok (.aload_n 0, 1) := by decide +kernel
theorem d_SD_doWhy_51 : decode b_SD_doWhy 51 = .ok (.getfield 58, 3) := by decide +kernel
theorem d_SD_doWhy_54 : decode b_SD_doWhy 54 = .ok (.iload_n 2, 1) := by decide +kernel
theorem d_SD_doWhy_55 : decode b_SD_doWhy 55 = .ok (.invokevirtual 307, 3) := by decide +kernel
theorem d_SD_doWhy_58 : decode b_SD_doWhy 58 = .ok (.aload_n 0, 1) := by decide +kernel
theorem d_SD_doWhy_59 : decode b_SD_doWhy 59 = .ok (.getfield 58, 3) := by decide +kernel
theorem d_SD_doWhy_62 : decode b_SD_doWhy 62 = .ok (.iload_n 2, 1) := by decide +kernel
theorem d_SD_doWhy_63 : decode b_SD_doWhy 63 = .ok (.invokevirtual 310, 3) := by decide +kernel
theorem d_SD_doWhy_66 : decode b_SD_doWhy 66 = .ok (.aload_n 0, 1) := by decide +kernel
theorem d_SD_doWhy_67 : decode b_SD_doWhy 67 = .ok (.getfield 58, 3) := by decide +kernel
theorem d_SD_doWhy_70 : decode b_SD_doWhy 70 = .ok (.iload_n 2, 1) := by decide +kernel
theorem d_SD_doWhy_71 : decode b_SD_doWhy 71 = .ok (.invokevirtual 313, 3) := by decide +kernel
theorem d_SD_doWhy_74 : decode b_SD_doWhy 74 = .ok (.invokevirtual 316, 3) := by decide +kernel
theorem d_SD_doWhy_77 : decode b_SD_doWhy 77 = .ok (.iinc 2 1, 3) := by decide +kernel
theorem d_SD_doWhy_80 : decode b_SD_doWhy 80 = .ok (.goto (-36), 3) := by decide +kernel
theorem d_SD_doWhy_83 : decode b_SD_doWhy 83 = .ok (.aload_n 0, 1) := by decide +kernel
theorem d_SD_doWhy_84 : decode b_SD_doWhy 84 = .ok (.getfield 30, 3) := by decide +kernel
theorem d_SD_doWhy_87 : decode b_SD_doWhy 87 = .ok (.invokevirtual 294, 3) := by decide +kernel
theorem d_SD_doWhy_90 : decode b_SD_doWhy 90 = .ok (.iconst 1, 1) := by decide +kernel
theorem d_SD_doWhy_91 : decode b_SD_doWhy 91 = .ok (.ireturn, 1) := by decide +kernel
abbrev b_SD_printWay : ByteArray := prog_1_method_21_code
def y_SD_printWay : MethodName := ⟨"SpellDesk", "printWay", "(LSpellDesk$Entry;II)V"⟩
set_option maxRecDepth 20000 in
theorem Y_SD_printWay : gh_Y y_SD_printWay b_SD_printWay 4 none 3 := ⟨gt_in (i := 1004) rfl rfl, gt_in (i := 1) (by decide +kernel) rfl, by decide +kernel, by decide +kernel, by decide +kernel⟩
theorem V_SD_printWay : Cond.instanceMethod y_SD_printWay ∈ gTbl ∧ Cond.selects y_SD_printWay.cls y_SD_printWay y_SD_printWay ∈ gTbl := ⟨(gt_in (i := 1003) (by decide +kernel) rfl), (gt_sel (n := 8) (i := 20) (by decide +kernel))⟩
theorem d_SD_printWay_0 : decode b_SD_printWay 0 = .ok (.aload_n 1, 1) := by decide +kernel
theorem d_SD_printWay_1 : decode b_SD_printWay 1 = .ok (.ifnonnull 4, 3) := by decide +kernel
theorem d_SD_printWay_4 : decode b_SD_printWay 4 = .ok (.return_, 1) := by decide +kernel
theorem d_SD_printWay_5 : decode b_SD_printWay 5 = .ok (.aload_n 0, 1) := by decide +kernel
theorem d_SD_printWay_6 : decode b_SD_printWay 6 = .ok (.getfield 30, 3) := by decide +kernel
theorem d_SD_printWay_9 : decode b_SD_printWay 9 = .ok (.invokevirtual 320, 3) := by decide +kernel
theorem d_SD_printWay_12 : decode b_SD_printWay 12 = .ok (.iload_n 2, 1) := by decide +kernel
theorem d_SD_printWay_13 : decode b_SD_printWay 13 = .ok (.ifCond .le 31, 3) := by decide +kernel
theorem d_SD_printWay_16 : decode b_SD_printWay 16 = .ok (.aload_n 0, 1) := by decide +kernel
theorem d_SD_printWay_17 : decode b_SD_printWay 17 = .ok (.getfield 30, 3) := by decide +kernel
theorem d_SD_printWay_20 : decode b_SD_printWay 20 = .ok (.ldc_w 323, 3) := by decide +kernel
theorem d_SD_printWay_23 : decode b_SD_printWay 23 = .ok (.invokevirtual 176, 3) := by decide +kernel
theorem d_SD_printWay_26 : decode b_SD_printWay 26 = .ok (.aload_n 0, 1) := by decide +kernel
theorem d_SD_printWay_27 : decode b_SD_printWay 27 = .ok (.getfield 30, 3) := by decide +kernel
theorem d_SD_printWay_30 : decode b_SD_printWay 30 = .ok (.iload_n 2, 1) := by decide +kernel
theorem d_SD_printWay_31 : decode b_SD_printWay 31 = .ok (.invokevirtual 182, 3) := by decide +kernel
theorem d_SD_printWay_34 : decode b_SD_printWay 34 = .ok (.aload_n 0, 1) := by decide +kernel
theorem d_SD_printWay_35 : decode b_SD_printWay 35 = .ok (.getfield 30, 3) := by decide +kernel
theorem d_SD_printWay_38 : decode b_SD_printWay 38 = .ok (.ldc_w 325, 3) := by decide +kernel
theorem d_SD_printWay_41 : decode b_SD_printWay 41 = .ok (.invokevirtual 176, 3) := by decide +kernel
theorem d_SD_printWay_44 : decode b_SD_printWay 44 = .ok (.aload_n 0, 1) := by decide +kernel
theorem d_SD_printWay_45 : decode b_SD_printWay 45 = .ok (.getfield 30, 3) := by decide +kernel
theorem d_SD_printWay_48 : decode b_SD_printWay 48 = .ok (.aload_n 1, 1) := by decide +kernel
theorem d_SD_printWay_49 : decode b_SD_printWay 49 = .ok (.getfield 304, 3) := by decide +kernel
theorem d_SD_printWay_52 : decode b_SD_printWay 52 = .ok (.iconst 0, 1) := by decide +kernel
theorem d_SD_printWay_53 : decode b_SD_printWay 53 = .ok (.aload_n 1, 1) := by decide +kernel
theorem d_SD_printWay_54 : decode b_SD_printWay 54 = .ok (.getfield 304, 3) := by decide +kernel
theorem d_SD_printWay_57 : decode b_SD_printWay 57 = .ok (.invokevirtual 75, 3) := by decide +kernel
theorem d_SD_printWay_60 : decode b_SD_printWay 60 = .ok (.invokevirtual 327, 3) := by decide +kernel
theorem d_SD_printWay_63 : decode b_SD_printWay 63 = .ok (.iload_n 3, 1) := by decide +kernel
theorem d_SD_printWay_64 : decode b_SD_printWay 64 = .ok (.ifCond .le 21, 3) := by decide +kernel
theorem d_SD_printWay_67 : decode b_SD_printWay 67 = .ok (.aload_n 0, 1) := by decide +kernel
theorem d_SD_printWay_68 : decode b_SD_printWay 68 = .ok (.getfield 30, 3) := by decide +kernel
theorem d_SD_printWay_71 : decode b_SD_printWay 71 = .ok (.ldc_w 330, 3) := by decide +kernel
theorem d_SD_printWay_74 : decode b_SD_printWay 74 = .ok (.invokevirtual 176, 3) := by decide +kernel
theorem d_SD_printWay_77 : decode b_SD_printWay 77 = .ok (.aload_n 0, 1) := by decide +kernel
theorem d_SD_printWay_78 : decode b_SD_printWay 78 = .ok (.getfield 30, 3) := by decide +kernel
theorem d_SD_printWay_81 : decode b_SD_printWay 81 = .ok (.iload_n 3, 1) := by decide +kernel
theorem d_SD_printWay_82 : decode b_SD_printWay 82 = .ok (.invokevirtual 182, 3) := by decide +kernel
theorem d_SD_printWay_85 : decode b_SD_printWay 85 = .ok (.return_, 1) := by decide +kernel
abbrev b_SD_doForms : ByteArray := prog_1_method_22_code
def y_SD_doForms : MethodName := ⟨"SpellDesk", "doForms", "()Z"⟩
set_option maxRecDepth 20000 in
theorem Y_SD_doForms : gh_Y y_SD_doForms b_SD_doForms 5 (some .boolean) 0 := ⟨gt_in (i := 1018) rfl rfl, gt_in (i := 1) (by decide +kernel) rfl, by decide +kernel, by decide +kernel, by decide +kernel⟩
theorem V_SD_doForms : Cond.instanceMethod y_SD_doForms ∈ gTbl ∧ Cond.selects y_SD_doForms.cls y_SD_doForms y_SD_doForms ∈ gTbl := ⟨(gt_in (i := 1017) (by decide +kernel) rfl), (gt_sel (n := 8) (i := 21) (by decide +kernel))⟩
theorem d_SD_doForms_0 : decode b_SD_doForms 0 = .ok (.aload_n 0, 1) := by decide +kernel
theorem d_SD_doForms_1 : decode b_SD_doForms 1 = .ok (.getfield 23, 3) := by decide +kernel
theorem d_SD_doForms_4 : decode b_SD_doForms 4 = .ok (.bipush 16, 2) := by decide +kernel
theorem d_SD_doForms_6 : decode b_SD_doForms 6 = .ok (.invokevirtual 228, 3) := by decide +kernel
theorem d_SD_doForms_9 : decode b_SD_doForms 9 = .ok (.ifCond .ne 5, 3) := by decide +kernel
theorem d_SD_doForms_12 : decode b_SD_doForms 12 = .ok (.iconst 0, 1) := by decide +kernel
theorem d_SD_doForms_13 : decode b_SD_doForms 13 = .ok (.ireturn, 1) := by decide +kernel
theorem d_SD_doForms_14 : decode b_SD_doForms 14 = .ok (.aload_n 0, 1) := by decide +kernel
theorem d_SD_doForms_15 : decode b_SD_doForms 15 = .ok (.getfield 37, 3) := by decide +kernel
theorem d_SD_doForms_18 : decode b_SD_doForms 18 = .ok (.aload_n 0, 1) := by decide +kernel
theorem d_SD_doForms_19 : decode b_SD_doForms 19 = .ok (.getfield 14, 3) := by decide +kernel
theorem d_SD_doForms_22 : decode b_SD_doForms 22 = .ok (.aload_n 0, 1) := by decide +kernel
theorem d_SD_doForms_23 : decode b_SD_doForms 23 = .ok (.getfield 23, 3) := by decide +kernel
theorem d_SD_doForms_26 : decode b_SD_doForms 26 = .ok (.invokevirtual 232, 3) := by decide +kernel
theorem d_SD_doForms_29 : decode b_SD_doForms 29 = .ok (.aload_n 0, 1) := by decide +kernel
theorem d_SD_doForms_30 : decode b_SD_doForms 30 = .ok (.getfield 23, 3) := by decide +kernel
theorem d_SD_doForms_33 : decode b_SD_doForms 33 = .ok (.invokevirtual 235, 3) := by decide +kernel
theorem d_SD_doForms_36 : decode b_SD_doForms 36 = .ok (.invokevirtual 200, 3) := by decide +kernel
theorem d_SD_doForms_39 : decode b_SD_doForms 39 = .ok (.istore_n 1, 1) := by decide +kernel
theorem d_SD_doForms_40 : decode b_SD_doForms 40 = .ok (.aload_n 0, 1) := by decide +kernel
theorem d_SD_doForms_41 : decode b_SD_doForms 41 = .ok (.getfield 37, 3) := by decide +kernel
theorem d_SD_doForms_44 : decode b_SD_doForms 44 = .ok (.iload_n 1, 1) := by decide +kernel
theorem d_SD_doForms_45 : decode b_SD_doForms 45 = .ok (.aload_n 0, 1) := by decide +kernel
theorem d_SD_doForms_46 : decode b_SD_doForms 46 = .ok (.getfield 14, 3) := by decide +kernel
theorem d_SD_doForms_49 : decode b_SD_doForms 49 = .ok (.aload_n 0, 1) := by decide +kernel
theorem d_SD_doForms_50 : decode b_SD_doForms 50 = .ok (.getfield 23, 3) := by decide +kernel
theorem d_SD_doForms_53 : decode b_SD_doForms 53 = .ok (.invokevirtual 232, 3) := by decide +kernel
theorem d_SD_doForms_56 : decode b_SD_doForms 56 = .ok (.aload_n 0, 1) := by decide +kernel
theorem d_SD_doForms_57 : decode b_SD_doForms 57 = .ok (.getfield 23, 3) := by decide +kernel
theorem d_SD_doForms_60 : decode b_SD_doForms 60 = .ok (.invokevirtual 235, 3) := by decide +kernel
theorem d_SD_doForms_63 : decode b_SD_doForms 63 = .ok (.invokevirtual 204, 3) := by decide +kernel
theorem d_SD_doForms_66 : decode b_SD_doForms 66 = .ok (.astore_n 2, 1) := by decide +kernel
theorem d_SD_doForms_67 : decode b_SD_doForms 67 = .ok (.aload_n 2, 1) := by decide +kernel
theorem d_SD_doForms_68 : decode b_SD_doForms 68 = .ok (.ifnull 53, 3) := by decide +kernel
theorem d_SD_doForms_71 : decode b_SD_doForms 71 = .ok (.aload_n 0, 1) := by decide +kernel
theorem d_SD_doForms_72 : decode b_SD_doForms 72 = .ok (.getfield 58, 3) := by decide +kernel
theorem d_SD_doForms_75 : decode b_SD_doForms 75 = .ok (.aload_n 2, 1) := by decide +kernel
theorem d_SD_doForms_76 : decode b_SD_doForms 76 = .ok (.invokevirtual 332, 3) := by decide +kernel
theorem d_SD_doForms_79 : decode b_SD_doForms 79 = .ok (.astore_n 3, 1) := by decide +kernel
theorem d_SD_doForms_80 : decode b_SD_doForms 80 = .ok (.iconst 0, 1) := by decide +kernel
theorem d_SD_doForms_81 : decode b_SD_doForms 81 = .ok (.istore 4, 2) := by decide +kernel
theorem d_SD_doForms_83 : decode b_SD_doForms 83 = .ok (.iload 4, 2) := by decide +kernel
theorem d_SD_doForms_85 : decode b_SD_doForms 85 = .ok (.aload_n 3, 1) := by decide +kernel
theorem d_SD_doForms_86 : decode b_SD_doForms 86 = .ok (.invokevirtual 279, 3) := by decide +kernel
theorem d_SD_doForms_89 : decode b_SD_doForms 89 = .ok (.if_icmp .ge 32, 3) := by decide +kernel
theorem d_SD_doForms_92 : decode b_SD_doForms 92 = .ok (.aload_n 0, 1) := by decide +kernel
theorem d_SD_doForms_93 : decode b_SD_doForms 93 = .ok (.getfield 30, 3) := by decide +kernel
theorem d_SD_doForms_96 : decode b_SD_doForms 96 = .ok (.aload_n 3, 1) := by decide +kernel
theorem d_SD_doForms_97 : decode b_SD_doForms 97 = .ok (.invokevirtual 336, 3) := by decide +kernel
theorem d_SD_doForms_100 : decode b_SD_doForms 100 = .ok (.aload_n 3, 1) := by decide +kernel
theorem d_SD_doForms_101 : decode b_SD_doForms 101 = .ok (.iload 4, 2) := by decide +kernel
theorem d_SD_doForms_103 : decode b_SD_doForms 103 = .ok (.invokevirtual 280, 3) := by decide +kernel
theorem d_SD_doForms_106 : decode b_SD_doForms 106 = .ok (.aload_n 3, 1) := by decide +kernel
theorem d_SD_doForms_107 : decode b_SD_doForms 107 = .ok (.iload 4, 2) := by decide +kernel
theorem d_SD_doForms_109 : decode b_SD_doForms 109 = .ok (.invokevirtual 283, 3) := by decide +kernel
theorem d_SD_doForms_112 : decode b_SD_doForms 112 = .ok (.invokevirtual 290, 3) := by decide +kernel
theorem d_SD_doForms_115 : decode b_SD_doForms 115 = .ok (.iinc 4 1, 3) := by decide +kernel
theorem d_SD_doForms_118 : decode b_SD_doForms 118 = .ok (.goto (-35), 3) := by decide +kernel
theorem d_SD_doForms_121 : decode b_SD_doForms 121 = .ok (.aload_n 0, 1) := by decide +kernel
theorem d_SD_doForms_122 : decode b_SD_doForms 122 = .ok (.getfield 30, 3) := by decide +kernel
theorem d_SD_doForms_125 : decode b_SD_doForms 125 = .ok (.invokevirtual 294, 3) := by decide +kernel
theorem d_SD_doForms_128 : decode b_SD_doForms 128 = .ok (.iconst 1, 1) := by decide +kernel
theorem d_SD_doForms_129 : decode b_SD_doForms 129 = .ok (.ireturn, 1) := by decide +kernel
abbrev b_SD_doCount : ByteArray := prog_1_method_23_code
def y_SD_doCount : MethodName := ⟨"SpellDesk", "doCount", "()Z"⟩
set_option maxRecDepth 20000 in
theorem Y_SD_doCount : gh_Y y_SD_doCount b_SD_doCount 1 (some .boolean) 0 := ⟨gt_in (i := 1037) rfl rfl, gt_in (i := 1) (by decide +kernel) rfl, by decide +kernel, by decide +kernel, by decide +kernel⟩
theorem V_SD_doCount : Cond.instanceMethod y_SD_doCount ∈ gTbl ∧ Cond.selects y_SD_doCount.cls y_SD_doCount y_SD_doCount ∈ gTbl := ⟨(gt_in (i := 1036) (by decide +kernel) rfl), (gt_sel (n := 8) (i := 23) (by decide +kernel))⟩
theorem d_SD_doCount_0 : decode b_SD_doCount 0 = .ok (.aload_n 0, 1) := by decide +kernel
theorem d_SD_doCount_1 : decode b_SD_doCount 1 = .ok (.getfield 23, 3) := by decide +kernel
theorem d_SD_doCount_4 : decode b_SD_doCount 4 = .ok (.invokevirtual 197, 3) := by decide +kernel
theorem d_SD_doCount_7 : decode b_SD_doCount 7 = .ok (.ifCond .ne 5, 3) := by decide +kernel
theorem d_SD_doCount_10 : decode b_SD_doCount 10 = .ok (.iconst 0, 1) := by decide +kernel
theorem d_SD_doCount_11 : decode b_SD_doCount 11 = .ok (.ireturn, 1) := by decide +kernel
theorem d_SD_doCount_12 : decode b_SD_doCount 12 = .ok (.aload_n 0, 1) := by decide +kernel
theorem d_SD_doCount_13 : decode b_SD_doCount 13 = .ok (.getfield 30, 3) := by decide +kernel
theorem d_SD_doCount_16 : decode b_SD_doCount 16 = .ok (.invokevirtual 320, 3) := by decide +kernel
theorem d_SD_doCount_19 : decode b_SD_doCount 19 = .ok (.aload_n 0, 1) := by decide +kernel
theorem d_SD_doCount_20 : decode b_SD_doCount 20 = .ok (.getfield 30, 3) := by decide +kernel
theorem d_SD_doCount_23 : decode b_SD_doCount 23 = .ok (.aload_n 0, 1) := by decide +kernel
theorem d_SD_doCount_24 : decode b_SD_doCount 24 = .ok (.getfield 37, 3) := by decide +kernel
theorem d_SD_doCount_27 : decode b_SD_doCount 27 = .ok (.invokevirtual 111, 3) := by decide +kernel
theorem d_SD_doCount_30 : decode b_SD_doCount 30 = .ok (.invokevirtual 182, 3) := by decide +kernel
theorem d_SD_doCount_33 : decode b_SD_doCount 33 = .ok (.aload_n 0, 1) := by decide +kernel
theorem d_SD_doCount_34 : decode b_SD_doCount 34 = .ok (.getfield 30, 3) := by decide +kernel
theorem d_SD_doCount_37 : decode b_SD_doCount 37 = .ok (.invokevirtual 320, 3) := by decide +kernel
theorem d_SD_doCount_40 : decode b_SD_doCount 40 = .ok (.aload_n 0, 1) := by decide +kernel
theorem d_SD_doCount_41 : decode b_SD_doCount 41 = .ok (.getfield 30, 3) := by decide +kernel
theorem d_SD_doCount_44 : decode b_SD_doCount 44 = .ok (.aload_n 0, 1) := by decide +kernel
theorem d_SD_doCount_45 : decode b_SD_doCount 45 = .ok (.getfield 46, 3) := by decide +kernel
theorem d_SD_doCount_48 : decode b_SD_doCount 48 = .ok (.invokevirtual 112, 3) := by decide +kernel
theorem d_SD_doCount_51 : decode b_SD_doCount 51 = .ok (.invokevirtual 182, 3) := by decide +kernel
theorem d_SD_doCount_54 : decode b_SD_doCount 54 = .ok (.aload_n 0, 1) := by decide +kernel
theorem d_SD_doCount_55 : decode b_SD_doCount 55 = .ok (.getfield 30, 3) := by decide +kernel
theorem d_SD_doCount_58 : decode b_SD_doCount 58 = .ok (.invokevirtual 320, 3) := by decide +kernel
theorem d_SD_doCount_61 : decode b_SD_doCount 61 = .ok (.aload_n 0, 1) := by decide +kernel
theorem d_SD_doCount_62 : decode b_SD_doCount 62 = .ok (.getfield 30, 3) := by decide +kernel
theorem d_SD_doCount_65 : decode b_SD_doCount 65 = .ok (.aload_n 0, 1) := by decide +kernel
theorem d_SD_doCount_66 : decode b_SD_doCount 66 = .ok (.getfield 50, 3) := by decide +kernel
theorem d_SD_doCount_69 : decode b_SD_doCount 69 = .ok (.invokevirtual 112, 3) := by decide +kernel
theorem d_SD_doCount_72 : decode b_SD_doCount 72 = .ok (.invokevirtual 182, 3) := by decide +kernel
theorem d_SD_doCount_75 : decode b_SD_doCount 75 = .ok (.iconst 1, 1) := by decide +kernel
theorem d_SD_doCount_76 : decode b_SD_doCount 76 = .ok (.ireturn, 1) := by decide +kernel
abbrev b_SD_doClear : ByteArray := prog_1_method_24_code
def y_SD_doClear : MethodName := ⟨"SpellDesk", "doClear", "()Z"⟩
set_option maxRecDepth 20000 in
theorem Y_SD_doClear : gh_Y y_SD_doClear b_SD_doClear 1 (some .boolean) 0 := ⟨gt_in (i := 1042) rfl rfl, gt_in (i := 1) (by decide +kernel) rfl, by decide +kernel, by decide +kernel, by decide +kernel⟩
theorem V_SD_doClear : Cond.instanceMethod y_SD_doClear ∈ gTbl ∧ Cond.selects y_SD_doClear.cls y_SD_doClear y_SD_doClear ∈ gTbl := ⟨(gt_in (i := 1041) (by decide +kernel) rfl), (gt_sel (n := 8) (i := 24) (by decide +kernel))⟩
theorem d_SD_doClear_0 : decode b_SD_doClear 0 = .ok (.aload_n 0, 1) := by decide +kernel
theorem d_SD_doClear_1 : decode b_SD_doClear 1 = .ok (.getfield 23, 3) := by decide +kernel
theorem d_SD_doClear_4 : decode b_SD_doClear 4 = .ok (.invokevirtual 197, 3) := by decide +kernel
theorem d_SD_doClear_7 : decode b_SD_doClear 7 = .ok (.ifCond .ne 5, 3) := by decide +kernel
theorem d_SD_doClear_10 : decode b_SD_doClear 10 = .ok (.iconst 0, 1) := by decide +kernel
theorem d_SD_doClear_11 : decode b_SD_doClear 11 = .ok (.ireturn, 1) := by decide +kernel
theorem d_SD_doClear_12 : decode b_SD_doClear 12 = .ok (.aload_n 0, 1) := by decide +kernel
theorem d_SD_doClear_13 : decode b_SD_doClear 13 = .ok (.getfield 37, 3) := by decide +kernel
theorem d_SD_doClear_16 : decode b_SD_doClear 16 = .ok (.invokevirtual 339, 3) := by decide +kernel
theorem d_SD_doClear_19 : decode b_SD_doClear 19 = .ok (.aload_n 0, 1) := by decide +kernel
theorem d_SD_doClear_20 : decode b_SD_doClear 20 = .ok (.getfield 46, 3) := by decide +kernel
theorem d_SD_doClear_23 : decode b_SD_doClear 23 = .ok (.invokevirtual 340, 3) := by decide +kernel
theorem d_SD_doClear_26 : decode b_SD_doClear 26 = .ok (.aload_n 0, 1) := by decide +kernel
theorem d_SD_doClear_27 : decode b_SD_doClear 27 = .ok (.getfield 50, 3) := by decide +kernel
theorem d_SD_doClear_30 : decode b_SD_doClear 30 = .ok (.invokevirtual 340, 3) := by decide +kernel
theorem d_SD_doClear_33 : decode b_SD_doClear 33 = .ok (.aload_n 0, 1) := by decide +kernel
theorem d_SD_doClear_34 : decode b_SD_doClear 34 = .ok (.getfield 30, 3) := by decide +kernel
theorem d_SD_doClear_37 : decode b_SD_doClear 37 = .ok (.ldc 226, 2) := by decide +kernel
theorem d_SD_doClear_39 : decode b_SD_doClear 39 = .ok (.invokevirtual 176, 3) := by decide +kernel
theorem d_SD_doClear_42 : decode b_SD_doClear 42 = .ok (.iconst 1, 1) := by decide +kernel
theorem d_SD_doClear_43 : decode b_SD_doClear 43 = .ok (.ireturn, 1) := by decide +kernel
abbrev b_SD_size : ByteArray := prog_1_method_5_code
def y_SD_size : MethodName := ⟨"SpellDesk", "size", "()I"⟩
set_option maxRecDepth 20000 in
theorem Y_SD_size : gh_Y y_SD_size b_SD_size 1 (some .int) 0 := ⟨gt_in (i := 1069) rfl rfl, gt_in (i := 1) (by decide +kernel) rfl, by decide +kernel, by decide +kernel, by decide +kernel⟩
theorem V_SD_size : Cond.instanceMethod y_SD_size ∈ gTbl ∧ Cond.selects y_SD_size.cls y_SD_size y_SD_size ∈ gTbl := ⟨(gt_in (i := 1067) (by decide +kernel) rfl), (gt_in (i := 1068) (by decide +kernel) rfl)⟩
theorem d_SD_size_0 : decode b_SD_size 0 = .ok (.aload_n 0, 1) := by decide +kernel
theorem d_SD_size_1 : decode b_SD_size 1 = .ok (.getfield 30, 3) := by decide +kernel
theorem d_SD_size_4 : decode b_SD_size 4 = .ok (.invokevirtual 100, 3) := by decide +kernel
theorem d_SD_size_7 : decode b_SD_size 7 = .ok (.ireturn, 1) := by decide +kernel
abbrev b_SD_lost : ByteArray := prog_1_method_7_code
def y_SD_lost : MethodName := ⟨"SpellDesk", "lost", "()I"⟩
set_option maxRecDepth 20000 in
theorem Y_SD_lost : gh_Y y_SD_lost b_SD_lost 1 (some .int) 0 := ⟨gt_in (i := 1078) rfl rfl, gt_in (i := 1) (by decide +kernel) rfl, by decide +kernel, by decide +kernel, by decide +kernel⟩
theorem V_SD_lost : Cond.instanceMethod y_SD_lost ∈ gTbl ∧ Cond.selects y_SD_lost.cls y_SD_lost y_SD_lost ∈ gTbl := ⟨(gt_in (i := 1076) (by decide +kernel) rfl), (gt_in (i := 1077) (by decide +kernel) rfl)⟩
theorem d_SD_lost_0 : decode b_SD_lost 0 = .ok (.aload_n 0, 1) := by decide +kernel
theorem d_SD_lost_1 : decode b_SD_lost 1 = .ok (.getfield 30, 3) := by decide +kernel
theorem d_SD_lost_4 : decode b_SD_lost 4 = .ok (.invokevirtual 107, 3) := by decide +kernel
theorem d_SD_lost_7 : decode b_SD_lost 7 = .ok (.ireturn, 1) := by decide +kernel
abbrev b_SD_wipe : ByteArray := prog_1_method_8_code
def y_SD_wipe : MethodName := ⟨"SpellDesk", "wipe", "()V"⟩
set_option maxRecDepth 20000 in
theorem Y_SD_wipe : gh_Y y_SD_wipe b_SD_wipe 1 none 0 := ⟨gt_in (i := 1086) rfl rfl, gt_in (i := 1) (by decide +kernel) rfl, by decide +kernel, by decide +kernel, by decide +kernel⟩
theorem V_SD_wipe : Cond.instanceMethod y_SD_wipe ∈ gTbl ∧ Cond.selects y_SD_wipe.cls y_SD_wipe y_SD_wipe ∈ gTbl := ⟨(gt_in (i := 1084) (by decide +kernel) rfl), (gt_in (i := 1085) (by decide +kernel) rfl)⟩
theorem d_SD_wipe_0 : decode b_SD_wipe 0 = .ok (.aload_n 0, 1) := by decide +kernel
theorem d_SD_wipe_1 : decode b_SD_wipe 1 = .ok (.getfield 30, 3) := by decide +kernel
theorem d_SD_wipe_4 : decode b_SD_wipe 4 = .ok (.invokevirtual 110, 3) := by decide +kernel
theorem d_SD_wipe_7 : decode b_SD_wipe 7 = .ok (.return_, 1) := by decide +kernel
abbrev b_SD_entries : ByteArray := prog_1_method_9_code
def y_SD_entries : MethodName := ⟨"SpellDesk", "entries", "()I"⟩
set_option maxRecDepth 20000 in
theorem Y_SD_entries : gh_Y y_SD_entries b_SD_entries 1 (some .int) 0 := ⟨gt_in (i := 1095) rfl rfl, gt_in (i := 1) (by decide +kernel) rfl, by decide +kernel, by decide +kernel, by decide +kernel⟩
theorem V_SD_entries : Cond.instanceMethod y_SD_entries ∈ gTbl ∧ Cond.selects y_SD_entries.cls y_SD_entries y_SD_entries ∈ gTbl := ⟨(gt_in (i := 1093) (by decide +kernel) rfl), (gt_in (i := 1094) (by decide +kernel) rfl)⟩
theorem d_SD_entries_0 : decode b_SD_entries 0 = .ok (.aload_n 0, 1) := by decide +kernel
theorem d_SD_entries_1 : decode b_SD_entries 1 = .ok (.getfield 37, 3) := by decide +kernel
theorem d_SD_entries_4 : decode b_SD_entries 4 = .ok (.invokevirtual 111, 3) := by decide +kernel
theorem d_SD_entries_7 : decode b_SD_entries 7 = .ok (.ireturn, 1) := by decide +kernel
abbrev b_SD_rules : ByteArray := prog_1_method_10_code
def y_SD_rules : MethodName := ⟨"SpellDesk", "rules", "(Z)I"⟩
set_option maxRecDepth 20000 in
theorem Y_SD_rules : gh_Y y_SD_rules b_SD_rules 2 (some .int) 1 := ⟨gt_in (i := 1099) rfl rfl, gt_in (i := 1) (by decide +kernel) rfl, by decide +kernel, by decide +kernel, by decide +kernel⟩
theorem V_SD_rules : Cond.instanceMethod y_SD_rules ∈ gTbl ∧ Cond.selects y_SD_rules.cls y_SD_rules y_SD_rules ∈ gTbl := ⟨(gt_in (i := 1097) (by decide +kernel) rfl), (gt_in (i := 1098) (by decide +kernel) rfl)⟩
theorem d_SD_rules_0 : decode b_SD_rules 0 = .ok (.iload_n 1, 1) := by decide +kernel
theorem d_SD_rules_1 : decode b_SD_rules 1 = .ok (.ifCond .eq 13, 3) := by decide +kernel
theorem d_SD_rules_4 : decode b_SD_rules 4 = .ok (.aload_n 0, 1) := by decide +kernel
theorem d_SD_rules_5 : decode b_SD_rules 5 = .ok (.getfield 46, 3) := by decide +kernel
theorem d_SD_rules_8 : decode b_SD_rules 8 = .ok (.invokevirtual 112, 3) := by decide +kernel
theorem d_SD_rules_11 : decode b_SD_rules 11 = .ok (.goto 10, 3) := by decide +kernel
theorem d_SD_rules_14 : decode b_SD_rules 14 = .ok (.aload_n 0, 1) := by decide +kernel
theorem d_SD_rules_15 : decode b_SD_rules 15 = .ok (.getfield 50, 3) := by decide +kernel
theorem d_SD_rules_18 : decode b_SD_rules 18 = .ok (.invokevirtual 112, 3) := by decide +kernel
theorem d_SD_rules_21 : decode b_SD_rules 21 = .ok (.ireturn, 1) := by decide +kernel
abbrev b_SD_type : ByteArray := prog_1_method_2_code
def y_SD_type : MethodName := ⟨"SpellDesk", "type", "(IIII)V"⟩
set_option maxRecDepth 20000 in
theorem Y_SD_type : gh_Y y_SD_type b_SD_type 6 none 4 := ⟨gt_in (i := 1107) rfl rfl, gt_in (i := 1) (by decide +kernel) rfl, by decide +kernel, by decide +kernel, by decide +kernel⟩
theorem V_SD_type : Cond.instanceMethod y_SD_type ∈ gTbl ∧ Cond.selects y_SD_type.cls y_SD_type y_SD_type ∈ gTbl := ⟨(gt_in (i := 1105) (by decide +kernel) rfl), (gt_in (i := 1106) (by decide +kernel) rfl)⟩
theorem d_SD_type_0 : decode b_SD_type 0 = .ok (.iload_n 1, 1) := by decide +kernel
theorem d_SD_type_1 : decode b_SD_type 1 = .ok (.invokestatic 71, 3) := by decide +kernel
theorem d_SD_type_4 : decode b_SD_type 4 = .ok (.iload_n 2, 1) := by decide +kernel
theorem d_SD_type_5 : decode b_SD_type 5 = .ok (.invokestatic 71, 3) := by decide +kernel
theorem d_SD_type_8 : decode b_SD_type 8 = .ok (.iadd, 1) := by decide +kernel
theorem d_SD_type_9 : decode b_SD_type 9 = .ok (.iload_n 3, 1) := by decide +kernel
theorem d_SD_type_10 : decode b_SD_type 10 = .ok (.invokestatic 71, 3) := by decide +kernel
theorem d_SD_type_13 : decode b_SD_type 13 = .ok (.iadd, 1) := by decide +kernel
theorem d_SD_type_14 : decode b_SD_type 14 = .ok (.iload 4, 2) := by decide +kernel
theorem d_SD_type_16 : decode b_SD_type 16 = .ok (.invokestatic 71, 3) := by decide +kernel
theorem d_SD_type_19 : decode b_SD_type 19 = .ok (.iadd, 1) := by decide +kernel
theorem d_SD_type_20 : decode b_SD_type 20 = .ok (.istore 5, 2) := by decide +kernel
theorem d_SD_type_22 : decode b_SD_type 22 = .ok (.aload_n 0, 1) := by decide +kernel
theorem d_SD_type_23 : decode b_SD_type 23 = .ok (.getfield 14, 3) := by decide +kernel
theorem d_SD_type_26 : decode b_SD_type 26 = .ok (.invokevirtual 75, 3) := by decide +kernel
theorem d_SD_type_29 : decode b_SD_type 29 = .ok (.iload 5, 2) := by decide +kernel
theorem d_SD_type_31 : decode b_SD_type 31 = .ok (.iadd, 1) := by decide +kernel
theorem d_SD_type_32 : decode b_SD_type 32 = .ok (.sipush 2048, 3) := by decide +kernel
theorem d_SD_type_35 : decode b_SD_type 35 = .ok (.if_icmp .le 13, 3) := by decide +kernel
theorem d_SD_type_38 : decode b_SD_type 38 = .ok (.new 79, 3) := by decide +kernel
theorem d_SD_type_41 : decode b_SD_type 41 = .ok (.dup, 1) := by decide +kernel
theorem d_SD_type_42 : decode b_SD_type 42 = .ok (.ldc 81, 2) := by decide +kernel
theorem d_SD_type_44 : decode b_SD_type 44 = .ok (.invokespecial 83, 3) := by decide +kernel
theorem d_SD_type_47 : decode b_SD_type 47 = .ok (.athrow, 1) := by decide +kernel
theorem d_SD_type_48 : decode b_SD_type 48 = .ok (.aload_n 0, 1) := by decide +kernel
theorem d_SD_type_49 : decode b_SD_type 49 = .ok (.iload_n 1, 1) := by decide +kernel
theorem d_SD_type_50 : decode b_SD_type 50 = .ok (.invokevirtual 86, 3) := by decide +kernel
theorem d_SD_type_53 : decode b_SD_type 53 = .ok (.aload_n 0, 1) := by decide +kernel
theorem d_SD_type_54 : decode b_SD_type 54 = .ok (.iload_n 2, 1) := by decide +kernel
theorem d_SD_type_55 : decode b_SD_type 55 = .ok (.invokevirtual 86, 3) := by decide +kernel
theorem d_SD_type_58 : decode b_SD_type 58 = .ok (.aload_n 0, 1) := by decide +kernel
theorem d_SD_type_59 : decode b_SD_type 59 = .ok (.iload_n 3, 1) := by decide +kernel
theorem d_SD_type_60 : decode b_SD_type 60 = .ok (.invokevirtual 86, 3) := by decide +kernel
theorem d_SD_type_63 : decode b_SD_type 63 = .ok (.aload_n 0, 1) := by decide +kernel
theorem d_SD_type_64 : decode b_SD_type 64 = .ok (.iload 4, 2) := by decide +kernel
theorem d_SD_type_66 : decode b_SD_type 66 = .ok (.invokevirtual 86, 3) := by decide +kernel
theorem d_SD_type_69 : decode b_SD_type 69 = .ok (.return_, 1) := by decide +kernel
abbrev b_SD_countCharacters : ByteArray := prog_1_method_11_code
def y_SD_countCharacters : MethodName := ⟨"SpellDesk", "countCharacters", "(I)I"⟩
set_option maxRecDepth 20000 in
theorem Y_SD_countCharacters : gh_Y y_SD_countCharacters b_SD_countCharacters 3 (some .int) 1 := ⟨gt_in (i := 1110) rfl rfl, gt_in (i := 1) (by decide +kernel) rfl, by decide +kernel, by decide +kernel, by decide +kernel⟩
theorem V_SD_countCharacters : Cond.static y_SD_countCharacters ∈ gTbl := (gt_in (i := 1109) (by decide +kernel) rfl)
theorem d_SD_countCharacters_0 : decode b_SD_countCharacters 0 = .ok (.iconst 0, 1) := by decide +kernel
theorem d_SD_countCharacters_1 : decode b_SD_countCharacters 1 = .ok (.istore_n 1, 1) := by decide +kernel
theorem d_SD_countCharacters_2 : decode b_SD_countCharacters 2 = .ok (.bipush 24, 2) := by decide +kernel
theorem d_SD_countCharacters_4 : decode b_SD_countCharacters 4 = .ok (.istore_n 2, 1) := by decide +kernel
theorem d_SD_countCharacters_5 : decode b_SD_countCharacters 5 = .ok (.iload_n 2, 1) := by decide +kernel
theorem d_SD_countCharacters_6 : decode b_SD_countCharacters 6 = .ok (.ifCond .lt 22, 3) := by decide +kernel
theorem d_SD_countCharacters_9 : decode b_SD_countCharacters 9 = .ok (.iload_n 0, 1) := by decide +kernel
theorem d_SD_countCharacters_10 : decode b_SD_countCharacters 10 = .ok (.iload_n 2, 1) := by decide +kernel
theorem d_SD_countCharacters_11 : decode b_SD_countCharacters 11 = .ok (.iushr, 1) := by decide +kernel
theorem d_SD_countCharacters_12 : decode b_SD_countCharacters 12 = .ok (.sipush 255, 3) := by decide +kernel
theorem d_SD_countCharacters_15 : decode b_SD_countCharacters 15 = .ok (.iand, 1) := by decide +kernel
theorem d_SD_countCharacters_16 : decode b_SD_countCharacters 16 = .ok (.ifCond .eq 6, 3) := by decide +kernel
theorem d_SD_countCharacters_19 : decode b_SD_countCharacters 19 = .ok (.iinc 1 1, 3) := by decide +kernel
theorem d_SD_countCharacters_22 : decode b_SD_countCharacters 22 = .ok (.iinc 2 (-8), 3) := by decide +kernel
theorem d_SD_countCharacters_25 : decode b_SD_countCharacters 25 = .ok (.goto (-20), 3) := by decide +kernel
theorem d_SD_countCharacters_28 : decode b_SD_countCharacters 28 = .ok (.iload_n 1, 1) := by decide +kernel
theorem d_SD_countCharacters_29 : decode b_SD_countCharacters 29 = .ok (.ireturn, 1) := by decide +kernel
abbrev b_SD_appendCharacters : ByteArray := prog_1_method_12_code
def y_SD_appendCharacters : MethodName := ⟨"SpellDesk", "appendCharacters", "(I)V"⟩
set_option maxRecDepth 20000 in
theorem Y_SD_appendCharacters : gh_Y y_SD_appendCharacters b_SD_appendCharacters 4 none 1 := ⟨gt_in (i := 1130) rfl rfl, gt_in (i := 1) (by decide +kernel) rfl, by decide +kernel, by decide +kernel, by decide +kernel⟩
theorem V_SD_appendCharacters : Cond.instanceMethod y_SD_appendCharacters ∈ gTbl ∧ Cond.selects y_SD_appendCharacters.cls y_SD_appendCharacters y_SD_appendCharacters ∈ gTbl := ⟨(gt_in (i := 1129) (by decide +kernel) rfl), (gt_sel (n := 8) (i := 25) (by decide +kernel))⟩
theorem d_SD_appendCharacters_0 : decode b_SD_appendCharacters 0 = .ok (.bipush 24, 2) := by decide +kernel
theorem d_SD_appendCharacters_2 : decode b_SD_appendCharacters 2 = .ok (.istore_n 2, 1) := by decide +kernel
theorem d_SD_appendCharacters_3 : decode b_SD_appendCharacters 3 = .ok (.iload_n 2, 1) := by decide +kernel
theorem d_SD_appendCharacters_4 : decode b_SD_appendCharacters 4 = .ok (.ifCond .lt 31, 3) := by decide +kernel
theorem d_SD_appendCharacters_7 : decode b_SD_appendCharacters 7 = .ok (.iload_n 1, 1) := by decide +kernel
theorem d_SD_appendCharacters_8 : decode b_SD_appendCharacters 8 = .ok (.iload_n 2, 1) := by decide +kernel
theorem d_SD_appendCharacters_9 : decode b_SD_appendCharacters 9 = .ok (.iushr, 1) := by decide +kernel
theorem d_SD_appendCharacters_10 : decode b_SD_appendCharacters 10 = .ok (.sipush 255, 3) := by decide +kernel
theorem d_SD_appendCharacters_13 : decode b_SD_appendCharacters 13 = .ok (.iand, 1) := by decide +kernel
theorem d_SD_appendCharacters_14 : decode b_SD_appendCharacters 14 = .ok (.istore_n 3, 1) := by decide +kernel
theorem d_SD_appendCharacters_15 : decode b_SD_appendCharacters 15 = .ok (.iload_n 3, 1) := by decide +kernel
theorem d_SD_appendCharacters_16 : decode b_SD_appendCharacters 16 = .ok (.ifCond .eq 13, 3) := by decide +kernel
theorem d_SD_appendCharacters_19 : decode b_SD_appendCharacters 19 = .ok (.aload_n 0, 1) := by decide +kernel
theorem d_SD_appendCharacters_20 : decode b_SD_appendCharacters 20 = .ok (.getfield 14, 3) := by decide +kernel
theorem d_SD_appendCharacters_23 : decode b_SD_appendCharacters 23 = .ok (.iload_n 3, 1) := by decide +kernel
theorem d_SD_appendCharacters_24 : decode b_SD_appendCharacters 24 = .ok (.i2c, 1) := by decide +kernel
theorem d_SD_appendCharacters_25 : decode b_SD_appendCharacters 25 = .ok (.invokevirtual 113, 3) := by decide +kernel
theorem d_SD_appendCharacters_28 : decode b_SD_appendCharacters 28 = .ok (.pop, 1) := by decide +kernel
theorem d_SD_appendCharacters_29 : decode b_SD_appendCharacters 29 = .ok (.iinc 2 (-8), 3) := by decide +kernel
theorem d_SD_appendCharacters_32 : decode b_SD_appendCharacters 32 = .ok (.goto (-29), 3) := by decide +kernel
theorem d_SD_appendCharacters_35 : decode b_SD_appendCharacters 35 = .ok (.return_, 1) := by decide +kernel
abbrev b_SD_output : ByteArray := prog_1_method_6_code
def y_SD_output : MethodName := ⟨"SpellDesk", "output", "(I)I"⟩
set_option maxRecDepth 20000 in
theorem Y_SD_output : gh_Y y_SD_output b_SD_output 2 (some .int) 1 := ⟨gt_in (i := 1139) rfl rfl, gt_in (i := 1) (by decide +kernel) rfl, by decide +kernel, by decide +kernel, by decide +kernel⟩
theorem V_SD_output : Cond.instanceMethod y_SD_output ∈ gTbl ∧ Cond.selects y_SD_output.cls y_SD_output y_SD_output ∈ gTbl := ⟨(gt_in (i := 1137) (by decide +kernel) rfl), (gt_in (i := 1138) (by decide +kernel) rfl)⟩
theorem d_SD_output_0 : decode b_SD_output 0 = .ok (.iload_n 1, 1) := by decide +kernel
theorem d_SD_output_1 : decode b_SD_output 1 = .ok (.ifCond .lt 14, 3) := by decide +kernel
theorem d_SD_output_4 : decode b_SD_output 4 = .ok (.iload_n 1, 1) := by decide +kernel
theorem d_SD_output_5 : decode b_SD_output 5 = .ok (.aload_n 0, 1) := by decide +kernel
theorem d_SD_output_6 : decode b_SD_output 6 = .ok (.getfield 30, 3) := by decide +kernel
theorem d_SD_output_9 : decode b_SD_output 9 = .ok (.invokevirtual 100, 3) := by decide +kernel
theorem d_SD_output_12 : decode b_SD_output 12 = .ok (.if_icmp .lt 13, 3) := by decide +kernel
theorem d_SD_output_15 : decode b_SD_output 15 = .ok (.new 101, 3) := by decide +kernel
theorem d_SD_output_18 : decode b_SD_output 18 = .ok (.dup, 1) := by decide +kernel
theorem d_SD_output_19 : decode b_SD_output 19 = .ok (.ldc 103, 2) := by decide +kernel
theorem d_SD_output_21 : decode b_SD_output 21 = .ok (.invokespecial 105, 3) := by decide +kernel
theorem d_SD_output_24 : decode b_SD_output 24 = .ok (.athrow, 1) := by decide +kernel
theorem d_SD_output_25 : decode b_SD_output 25 = .ok (.aload_n 0, 1) := by decide +kernel
theorem d_SD_output_26 : decode b_SD_output 26 = .ok (.getfield 30, 3) := by decide +kernel
theorem d_SD_output_29 : decode b_SD_output 29 = .ok (.iload_n 1, 1) := by decide +kernel
theorem d_SD_output_30 : decode b_SD_output 30 = .ok (.invokevirtual 106, 3) := by decide +kernel
theorem d_SD_output_33 : decode b_SD_output 33 = .ok (.ireturn, 1) := by decide +kernel
theorem kf_SD_14 : Cond.fieldLink "SpellDesk" 14 "SpellDesk" "text" "LSpellDesk$Letters;" ∈ gTbl := (gt_in (i := 239) (by decide +kernel) rfl)
theorem kf_SD_23 : Cond.fieldLink "SpellDesk" 23 "SpellDesk" "line" "LSpellDesk$Line;" ∈ gTbl := (gt_in (i := 240) (by decide +kernel) rfl)
theorem kf_SD_30 : Cond.fieldLink "SpellDesk" 30 "SpellDesk" "printer" "LSpellDesk$Printer;" ∈ gTbl := (gt_in (i := 241) (by decide +kernel) rfl)
theorem kf_SD_37 : Cond.fieldLink "SpellDesk" 37 "SpellDesk" "dictionary" "LSpellDesk$Dictionary;" ∈ gTbl := (gt_in (i := 242) (by decide +kernel) rfl)
theorem kf_SD_46 : Cond.fieldLink "SpellDesk" 46 "SpellDesk" "prefixes" "LSpellDesk$RuleList;" ∈ gTbl := (gt_in (i := 243) (by decide +kernel) rfl)
theorem kf_SD_50 : Cond.fieldLink "SpellDesk" 50 "SpellDesk" "suffixes" "LSpellDesk$RuleList;" ∈ gTbl := (gt_in (i := 244) (by decide +kernel) rfl)
theorem kf_SD_58 : Cond.fieldLink "SpellDesk" 58 "SpellDesk" "speller" "LSpellDesk$Speller;" ∈ gTbl := (gt_in (i := 245) (by decide +kernel) rfl)
theorem kf_SD_67 : Cond.fieldLink "SpellDesk" 67 "SpellDesk" "asked" "LSpellDesk$WordList;" ∈ gTbl := (gt_in (i := 246) (by decide +kernel) rfl)
theorem kf_SD_207 : Cond.fieldLink "SpellDesk" 207 "SpellDesk$Entry" "flags" "I" ∈ gTbl := (gt_in (i := 448) (by decide +kernel) rfl)
theorem kf_SD_304 : Cond.fieldLink "SpellDesk" 304 "SpellDesk$Entry" "word" "LSpellDesk$Letters;" ∈ gTbl := (gt_in (i := 445) (by decide +kernel) rfl)
theorem kc_SD_9 : Cond.classLink "SpellDesk" 9 "SpellDesk$Letters" ∈ gTbl := (gt_in (i := 40) (by decide +kernel) rfl)
theorem kc_SD_18 : Cond.classLink "SpellDesk" 18 "SpellDesk$Line" ∈ gTbl := (gt_in (i := 57) (by decide +kernel) rfl)
theorem kc_SD_27 : Cond.classLink "SpellDesk" 27 "SpellDesk$Printer" ∈ gTbl := (gt_in (i := 85) (by decide +kernel) rfl)
theorem kc_SD_34 : Cond.classLink "SpellDesk" 34 "SpellDesk$Dictionary" ∈ gTbl := (gt_in (i := 103) (by decide +kernel) rfl)
theorem kc_SD_41 : Cond.classLink "SpellDesk" 41 "SpellDesk$RuleList" ∈ gTbl := (gt_in (i := 139) (by decide +kernel) rfl)
theorem kc_SD_53 : Cond.classLink "SpellDesk" 53 "SpellDesk$Speller" ∈ gTbl := (gt_in (i := 183) (by decide +kernel) rfl)
theorem kc_SD_62 : Cond.classLink "SpellDesk" 62 "SpellDesk$WordList" ∈ gTbl := (gt_in (i := 237) (by decide +kernel) rfl)
theorem kc_SD_79 : Cond.classLink "SpellDesk" 79 "java/lang/IllegalStateException" ∈ gTbl := (gt_in (i := 1111) (by decide +kernel) rfl)
theorem kc_SD_101 : Cond.classLink "SpellDesk" 101 "java/lang/IndexOutOfBoundsException" ∈ gTbl := (gt_in (i := 1140) (by decide +kernel) rfl)
theorem kc_SD_208 : Cond.classLink "SpellDesk" 208 "SpellDesk$Entry" ∈ gTbl := (gt_in (i := 427) (by decide +kernel) rfl)
theorem kc_SD_264 : Cond.classLink "SpellDesk" 264 "SpellDesk$Rule" ∈ gTbl := (gt_in (i := 855) (by decide +kernel) rfl)
theorem km_SD_3 : Cond.methodLink "SpellDesk" 3 ⟨"java/lang/Object", "<init>", "()V"⟩ ∈ gTbl := (gt_in (i := 37) (by decide +kernel) rfl)
theorem km_SD_11 : Cond.methodLink "SpellDesk" 11 ⟨"SpellDesk$Letters", "<init>", "(I)V"⟩ ∈ gTbl := (gt_in (i := 42) (by decide +kernel) rfl)
theorem km_SD_20 : Cond.methodLink "SpellDesk" 20 ⟨"SpellDesk$Line", "<init>", "(LSpellDesk$Letters;)V"⟩ ∈ gTbl := (gt_in (i := 59) (by decide +kernel) rfl)
theorem km_SD_29 : Cond.methodLink "SpellDesk" 29 ⟨"SpellDesk$Printer", "<init>", "()V"⟩ ∈ gTbl := (gt_in (i := 87) (by decide +kernel) rfl)
theorem km_SD_36 : Cond.methodLink "SpellDesk" 36 ⟨"SpellDesk$Dictionary", "<init>", "()V"⟩ ∈ gTbl := (gt_in (i := 105) (by decide +kernel) rfl)
theorem km_SD_43 : Cond.methodLink "SpellDesk" 43 ⟨"SpellDesk$RuleList", "<init>", "(Z)V"⟩ ∈ gTbl := (gt_in (i := 141) (by decide +kernel) rfl)
theorem km_SD_55 : Cond.methodLink "SpellDesk" 55 ⟨"SpellDesk$Speller", "<init>", "(LSpellDesk$Dictionary;LSpellDesk$RuleList;LSpellDesk$RuleList;)V"⟩ ∈ gTbl := (gt_in (i := 185) (by decide +kernel) rfl)
theorem km_SD_64 : Cond.methodLink "SpellDesk" 64 ⟨"SpellDesk$WordList", "<init>", "(LSpellDesk$Letters;I)V"⟩ ∈ gTbl := (gt_in (i := 238) (by decide +kernel) rfl)
theorem km_SD_71 : Cond.methodLink "SpellDesk" 71 ⟨"SpellDesk", "countCharacters", "(I)I"⟩ ∈ gTbl := (gt_in (i := 1108) (by decide +kernel) rfl)
theorem km_SD_75 : Cond.methodLink "SpellDesk" 75 ⟨"SpellDesk$Letters", "count", "()I"⟩ ∈ gTbl := (gt_in (i := 268) (by decide +kernel) rfl)
theorem km_SD_83 : Cond.methodLink "SpellDesk" 83 ⟨"java/lang/IllegalStateException", "<init>", "(Ljava/lang/String;)V"⟩ ∈ gTbl := (gt_in (i := 1121) (by decide +kernel) rfl)
theorem km_SD_86 : Cond.methodLink "SpellDesk" 86 ⟨"SpellDesk", "appendCharacters", "(I)V"⟩ ∈ gTbl := (gt_in (i := 1127) (by decide +kernel) rfl)
theorem km_SD_89 : Cond.methodLink "SpellDesk" 89 ⟨"SpellDesk$Letters", "at", "(I)C"⟩ ∈ gTbl := (gt_in (i := 276) (by decide +kernel) rfl)
theorem km_SD_93 : Cond.methodLink "SpellDesk" 93 ⟨"SpellDesk", "doLine", "(II)V"⟩ ∈ gTbl := (gt_in (i := 280) (by decide +kernel) rfl)
theorem km_SD_97 : Cond.methodLink "SpellDesk" 97 ⟨"SpellDesk$Letters", "clear", "()V"⟩ ∈ gTbl := (gt_in (i := 1065) (by decide +kernel) rfl)
theorem km_SD_100 : Cond.methodLink "SpellDesk" 100 ⟨"SpellDesk$Printer", "count", "()I"⟩ ∈ gTbl := (gt_in (i := 1070) (by decide +kernel) rfl)
theorem km_SD_105 : Cond.methodLink "SpellDesk" 105 ⟨"java/lang/IndexOutOfBoundsException", "<init>", "(Ljava/lang/String;)V"⟩ ∈ gTbl := (gt_in (i := 1142) (by decide +kernel) rfl)
theorem km_SD_106 : Cond.methodLink "SpellDesk" 106 ⟨"SpellDesk$Printer", "at", "(I)C"⟩ ∈ gTbl := (gt_in (i := 1143) (by decide +kernel) rfl)
theorem km_SD_107 : Cond.methodLink "SpellDesk" 107 ⟨"SpellDesk$Printer", "lostCount", "()I"⟩ ∈ gTbl := (gt_in (i := 1079) (by decide +kernel) rfl)
theorem km_SD_110 : Cond.methodLink "SpellDesk" 110 ⟨"SpellDesk$Printer", "clear", "()V"⟩ ∈ gTbl := (gt_in (i := 1087) (by decide +kernel) rfl)
theorem km_SD_111 : Cond.methodLink "SpellDesk" 111 ⟨"SpellDesk$Dictionary", "count", "()I"⟩ ∈ gTbl := (gt_in (i := 422) (by decide +kernel) rfl)
theorem km_SD_112 : Cond.methodLink "SpellDesk" 112 ⟨"SpellDesk$RuleList", "count", "()I"⟩ ∈ gTbl := (gt_in (i := 857) (by decide +kernel) rfl)
theorem km_SD_113 : Cond.methodLink "SpellDesk" 113 ⟨"SpellDesk$Letters", "append", "(C)Z"⟩ ∈ gTbl := (gt_in (i := 1131) (by decide +kernel) rfl)
theorem km_SD_117 : Cond.methodLink "SpellDesk" 117 ⟨"SpellDesk$Line", "open", "(II)V"⟩ ∈ gTbl := (gt_in (i := 284) (by decide +kernel) rfl)
theorem km_SD_120 : Cond.methodLink "SpellDesk" 120 ⟨"SpellDesk$Line", "next", "()Z"⟩ ∈ gTbl := (gt_in (i := 288) (by decide +kernel) rfl)
theorem km_SD_126 : Cond.methodLink "SpellDesk" 126 ⟨"SpellDesk$Line", "is", "(Ljava/lang/String;)Z"⟩ ∈ gTbl := (gt_in (i := 294) (by decide +kernel) rfl)
theorem km_SD_130 : Cond.methodLink "SpellDesk" 130 ⟨"SpellDesk", "doAdd", "()Z"⟩ ∈ gTbl := (gt_in (i := 346) (by decide +kernel) rfl)
theorem km_SD_135 : Cond.methodLink "SpellDesk" 135 ⟨"SpellDesk", "doDrop", "()Z"⟩ ∈ gTbl := (gt_in (i := 792) (by decide +kernel) rfl)
theorem km_SD_140 : Cond.methodLink "SpellDesk" 140 ⟨"SpellDesk", "doRule", "(LSpellDesk$RuleList;)Z"⟩ ∈ gTbl := (gt_in (i := 828) (by decide +kernel) rfl)
theorem km_SD_148 : Cond.methodLink "SpellDesk" 148 ⟨"SpellDesk", "doCheck", "()Z"⟩ ∈ gTbl := (gt_in (i := 876) (by decide +kernel) rfl)
theorem km_SD_153 : Cond.methodLink "SpellDesk" 153 ⟨"SpellDesk", "doLook", "()Z"⟩ ∈ gTbl := (gt_in (i := 968) (by decide +kernel) rfl)
theorem km_SD_158 : Cond.methodLink "SpellDesk" 158 ⟨"SpellDesk", "doWhy", "()Z"⟩ ∈ gTbl := (gt_in (i := 980) (by decide +kernel) rfl)
theorem km_SD_163 : Cond.methodLink "SpellDesk" 163 ⟨"SpellDesk", "doForms", "()Z"⟩ ∈ gTbl := (gt_in (i := 1015) (by decide +kernel) rfl)
theorem km_SD_167 : Cond.methodLink "SpellDesk" 167 ⟨"SpellDesk", "doCount", "()Z"⟩ ∈ gTbl := (gt_in (i := 1034) (by decide +kernel) rfl)
theorem km_SD_171 : Cond.methodLink "SpellDesk" 171 ⟨"SpellDesk", "doClear", "()Z"⟩ ∈ gTbl := (gt_in (i := 1039) (by decide +kernel) rfl)
theorem km_SD_176 : Cond.methodLink "SpellDesk" 176 ⟨"SpellDesk$Printer", "printText", "(Ljava/lang/String;)V"⟩ ∈ gTbl := (gt_in (i := 408) (by decide +kernel) rfl)
theorem km_SD_179 : Cond.methodLink "SpellDesk" 179 ⟨"SpellDesk$Line", "place", "()I"⟩ ∈ gTbl := (gt_in (i := 1057) (by decide +kernel) rfl)
theorem km_SD_182 : Cond.methodLink "SpellDesk" 182 ⟨"SpellDesk$Printer", "printNumber", "(I)V"⟩ ∈ gTbl := (gt_in (i := 1007) (by decide +kernel) rfl)
theorem km_SD_185 : Cond.methodLink "SpellDesk" 185 ⟨"SpellDesk$Printer", "endLine", "()V"⟩ ∈ gTbl := (gt_in (i := 1061) (by decide +kernel) rfl)
theorem km_SD_188 : Cond.methodLink "SpellDesk" 188 ⟨"SpellDesk$Line", "start", "()I"⟩ ∈ gTbl := (gt_in (i := 350) (by decide +kernel) rfl)
theorem km_SD_191 : Cond.methodLink "SpellDesk" 191 ⟨"SpellDesk$Line", "leadingLetters", "()I"⟩ ∈ gTbl := (gt_in (i := 354) (by decide +kernel) rfl)
theorem km_SD_194 : Cond.methodLink "SpellDesk" 194 ⟨"SpellDesk$Line", "flagsBehind", "(I)I"⟩ ∈ gTbl := (gt_in (i := 361) (by decide +kernel) rfl)
theorem km_SD_197 : Cond.methodLink "SpellDesk" 197 ⟨"SpellDesk$Line", "ends", "()Z"⟩ ∈ gTbl := (gt_in (i := 368) (by decide +kernel) rfl)
theorem km_SD_200 : Cond.methodLink "SpellDesk" 200 ⟨"SpellDesk$Dictionary", "rankOf", "(LSpellDesk$Letters;II)I"⟩ ∈ gTbl := (gt_in (i := 373) (by decide +kernel) rfl)
theorem km_SD_204 : Cond.methodLink "SpellDesk" 204 ⟨"SpellDesk$Dictionary", "at", "(ILSpellDesk$Letters;II)LSpellDesk$Entry;"⟩ ∈ gTbl := (gt_in (i := 399) (by decide +kernel) rfl)
theorem km_SD_217 : Cond.methodLink "SpellDesk" 217 ⟨"SpellDesk$Letters", "copy", "(II)LSpellDesk$Letters;"⟩ ∈ gTbl := (gt_in (i := 429) (by decide +kernel) rfl)
theorem km_SD_221 : Cond.methodLink "SpellDesk" 221 ⟨"SpellDesk$Entry", "<init>", "(LSpellDesk$Letters;I)V"⟩ ∈ gTbl := (gt_in (i := 437) (by decide +kernel) rfl)
theorem km_SD_222 : Cond.methodLink "SpellDesk" 222 ⟨"SpellDesk$Dictionary", "insert", "(ILSpellDesk$Entry;)V"⟩ ∈ gTbl := (gt_in (i := 455) (by decide +kernel) rfl)
theorem km_SD_228 : Cond.methodLink "SpellDesk" 228 ⟨"SpellDesk$Line", "nextIsOnlyWord", "(I)Z"⟩ ∈ gTbl := (gt_in (i := 796) (by decide +kernel) rfl)
theorem km_SD_232 : Cond.methodLink "SpellDesk" 232 ⟨"SpellDesk$Line", "wordFrom", "()I"⟩ ∈ gTbl := (gt_in (i := 806) (by decide +kernel) rfl)
theorem km_SD_235 : Cond.methodLink "SpellDesk" 235 ⟨"SpellDesk$Line", "wordLength", "()I"⟩ ∈ gTbl := (gt_in (i := 810) (by decide +kernel) rfl)
theorem km_SD_240 : Cond.methodLink "SpellDesk" 240 ⟨"SpellDesk$Dictionary", "remove", "(I)V"⟩ ∈ gTbl := (gt_in (i := 815) (by decide +kernel) rfl)
theorem km_SD_243 : Cond.methodLink "SpellDesk" 243 ⟨"SpellDesk$RuleList", "atFront", "()Z"⟩ ∈ gTbl := (gt_in (i := 832) (by decide +kernel) rfl)
theorem km_SD_246 : Cond.methodLink "SpellDesk" 246 ⟨"SpellDesk", "readRule", "(Z)LSpellDesk$Rule;"⟩ ∈ gTbl := (gt_in (i := 836) (by decide +kernel) rfl)
theorem km_SD_250 : Cond.methodLink "SpellDesk" 250 ⟨"SpellDesk$RuleList", "append", "(LSpellDesk$Rule;)V"⟩ ∈ gTbl := (gt_in (i := 862) (by decide +kernel) rfl)
theorem km_SD_253 : Cond.methodLink "SpellDesk" 253 ⟨"SpellDesk$Line", "flag", "()I"⟩ ∈ gTbl := (gt_in (i := 840) (by decide +kernel) rfl)
theorem km_SD_256 : Cond.methodLink "SpellDesk" 256 ⟨"SpellDesk$Line", "nextIsPart", "(Z)Z"⟩ ∈ gTbl := (gt_in (i := 844) (by decide +kernel) rfl)
theorem km_SD_260 : Cond.methodLink "SpellDesk" 260 ⟨"SpellDesk$Line", "part", "()LSpellDesk$Letters;"⟩ ∈ gTbl := (gt_in (i := 850) (by decide +kernel) rfl)
theorem km_SD_266 : Cond.methodLink "SpellDesk" 266 ⟨"SpellDesk$Rule", "<init>", "(ZILSpellDesk$Letters;LSpellDesk$Letters;LSpellDesk$Letters;)V"⟩ ∈ gTbl := (gt_in (i := 856) (by decide +kernel) rfl)
theorem km_SD_269 : Cond.methodLink "SpellDesk" 269 ⟨"SpellDesk$WordList", "clear", "()V"⟩ ∈ gTbl := (gt_in (i := 880) (by decide +kernel) rfl)
theorem km_SD_270 : Cond.methodLink "SpellDesk" 270 ⟨"SpellDesk$Line", "nextIsWord", "(I)Z"⟩ ∈ gTbl := (gt_in (i := 884) (by decide +kernel) rfl)
theorem km_SD_273 : Cond.methodLink "SpellDesk" 273 ⟨"SpellDesk$WordList", "put", "(II)V"⟩ ∈ gTbl := (gt_in (i := 888) (by decide +kernel) rfl)
theorem km_SD_276 : Cond.methodLink "SpellDesk" 276 ⟨"SpellDesk$Line", "isWord", "(I)Z"⟩ ∈ gTbl := (gt_in (i := 894) (by decide +kernel) rfl)
theorem km_SD_279 : Cond.methodLink "SpellDesk" 279 ⟨"SpellDesk$WordList", "count", "()I"⟩ ∈ gTbl := (gt_in (i := 895) (by decide +kernel) rfl)
theorem km_SD_280 : Cond.methodLink "SpellDesk" 280 ⟨"SpellDesk$WordList", "from", "(I)I"⟩ ∈ gTbl := (gt_in (i := 899) (by decide +kernel) rfl)
theorem km_SD_283 : Cond.methodLink "SpellDesk" 283 ⟨"SpellDesk$WordList", "length", "(I)I"⟩ ∈ gTbl := (gt_in (i := 903) (by decide +kernel) rfl)
theorem km_SD_286 : Cond.methodLink "SpellDesk" 286 ⟨"SpellDesk$Speller", "findWays", "(LSpellDesk$Letters;III)I"⟩ ∈ gTbl := (gt_in (i := 907) (by decide +kernel) rfl)
theorem km_SD_290 : Cond.methodLink "SpellDesk" 290 ⟨"SpellDesk$Printer", "printItem", "(LSpellDesk$Letters;II)V"⟩ ∈ gTbl := (gt_in (i := 950) (by decide +kernel) rfl)
theorem km_SD_294 : Cond.methodLink "SpellDesk" 294 ⟨"SpellDesk$Printer", "endItems", "()V"⟩ ∈ gTbl := (gt_in (i := 963) (by decide +kernel) rfl)
theorem km_SD_297 : Cond.methodLink "SpellDesk" 297 ⟨"SpellDesk$Dictionary", "at", "(I)LSpellDesk$Entry;"⟩ ∈ gTbl := (gt_in (i := 972) (by decide +kernel) rfl)
theorem km_SD_300 : Cond.methodLink "SpellDesk" 300 ⟨"SpellDesk$Entry", "beginsWith", "(LSpellDesk$Letters;II)Z"⟩ ∈ gTbl := (gt_in (i := 973) (by decide +kernel) rfl)
theorem km_SD_307 : Cond.methodLink "SpellDesk" 307 ⟨"SpellDesk$Speller", "entryOfWay", "(I)LSpellDesk$Entry;"⟩ ∈ gTbl := (gt_in (i := 984) (by decide +kernel) rfl)
theorem km_SD_310 : Cond.methodLink "SpellDesk" 310 ⟨"SpellDesk$Speller", "prefixOfWay", "(I)I"⟩ ∈ gTbl := (gt_in (i := 993) (by decide +kernel) rfl)
theorem km_SD_313 : Cond.methodLink "SpellDesk" 313 ⟨"SpellDesk$Speller", "suffixOfWay", "(I)I"⟩ ∈ gTbl := (gt_in (i := 997) (by decide +kernel) rfl)
theorem km_SD_316 : Cond.methodLink "SpellDesk" 316 ⟨"SpellDesk", "printWay", "(LSpellDesk$Entry;II)V"⟩ ∈ gTbl := (gt_in (i := 1001) (by decide +kernel) rfl)
theorem km_SD_320 : Cond.methodLink "SpellDesk" 320 ⟨"SpellDesk$Printer", "startItem", "()V"⟩ ∈ gTbl := (gt_in (i := 1005) (by decide +kernel) rfl)
theorem km_SD_327 : Cond.methodLink "SpellDesk" 327 ⟨"SpellDesk$Printer", "printLetters", "(LSpellDesk$Letters;II)V"⟩ ∈ gTbl := (gt_in (i := 1012) (by decide +kernel) rfl)
theorem km_SD_332 : Cond.methodLink "SpellDesk" 332 ⟨"SpellDesk$Speller", "formsOf", "(LSpellDesk$Entry;)LSpellDesk$WordList;"⟩ ∈ gTbl := (gt_in (i := 1019) (by decide +kernel) rfl)
theorem km_SD_336 : Cond.methodLink "SpellDesk" 336 ⟨"SpellDesk$WordList", "row", "()LSpellDesk$Letters;"⟩ ∈ gTbl := (gt_in (i := 1029) (by decide +kernel) rfl)
theorem km_SD_339 : Cond.methodLink "SpellDesk" 339 ⟨"SpellDesk$Dictionary", "clear", "()V"⟩ ∈ gTbl := (gt_in (i := 1043) (by decide +kernel) rfl)
theorem km_SD_340 : Cond.methodLink "SpellDesk" 340 ⟨"SpellDesk$RuleList", "clear", "()V"⟩ ∈ gTbl := (gt_in (i := 1051) (by decide +kernel) rfl)
