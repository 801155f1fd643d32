abbrev b_Md_init : ByteArray := prog_12_method_1_code
def y_Md_init : MethodName := ⟨"SpellDeskModel", "<init>", "()V"⟩
set_option maxRecDepth 20000 in
theorem Y_Md_init : gh_Y y_Md_init b_Md_init 1 none 0 := ⟨gt_in (i := 1151) rfl rfl, gt_in (i := 14) (by decide +kernel) rfl, by decide +kernel, by decide +kernel, by decide +kernel⟩
theorem V_Md_init : Cond.instanceMethod y_Md_init ∈ gTbl := (gt_in (i := 1150) (by decide +kernel) rfl)
theorem d_Md_init_0 : decode b_Md_init 0 = .ok (.aload_n 0, 1) := by decide +kernel
theorem d_Md_init_1 : decode b_Md_init 1 = .ok (.invokespecial 1, 3) := by decide +kernel
theorem d_Md_init_4 : decode b_Md_init 4 = .ok (.aload_n 0, 1) := by decide +kernel
theorem d_Md_init_5 : decode b_Md_init 5 = .ok (.sipush 2048, 3) := by decide +kernel
theorem d_Md_init_8 : decode b_Md_init 8 = .ok (.newarray .int, 2) := by decide +kernel
theorem d_Md_init_10 : decode b_Md_init 10 = .ok (.putfield 7, 3) := by decide +kernel
theorem d_Md_init_13 : decode b_Md_init 13 = .ok (.aload_n 0, 1) := by decide +kernel
theorem d_Md_init_14 : decode b_Md_init 14 = .ok (.sipush 6000, 3) := by decide +kernel
theorem d_Md_init_17 : decode b_Md_init 17 = .ok (.newarray .int, 2) := by decide +kernel
theorem d_Md_init_19 : decode b_Md_init 19 = .ok (.putfield 13, 3) := by decide +kernel
theorem d_Md_init_22 : decode b_Md_init 22 = .ok (.aload_n 0, 1) := by decide +kernel
theorem d_Md_init_23 : decode b_Md_init 23 = .ok (.sipush 300, 3) := by decide +kernel
theorem d_Md_init_26 : decode b_Md_init 26 = .ok (.newarray .int, 2) := by decide +kernel
theorem d_Md_init_28 : decode b_Md_init 28 = .ok (.putfield 16, 3) := by decide +kernel
theorem d_Md_init_31 : decode b_Md_init 31 = .ok (.aload_n 0, 1) := by decide +kernel
theorem d_Md_init_32 : decode b_Md_init 32 = .ok (.sipush 300, 3) := by decide +kernel
theorem d_Md_init_35 : decode b_Md_init 35 = .ok (.newarray .int, 2) := by decide +kernel
theorem d_Md_init_37 : decode b_Md_init 37 = .ok (.putfield 19, 3) := by decide +kernel
theorem d_Md_init_40 : decode b_Md_init 40 = .ok (.aload_n 0, 1) := by decide +kernel
theorem d_Md_init_41 : decode b_Md_init 41 = .ok (.sipush 4800, 3) := by decide +kernel
theorem d_Md_init_44 : decode b_Md_init 44 = .ok (.newarray .int, 2) := by decide +kernel
theorem d_Md_init_46 : decode b_Md_init 46 = .ok (.putfield 22, 3) := by decide +kernel
theorem d_Md_init_49 : decode b_Md_init 49 = .ok (.aload_n 0, 1) := by decide +kernel
theorem d_Md_init_50 : decode b_Md_init 50 = .ok (.iconst 2, 1) := by decide +kernel
theorem d_Md_init_51 : decode b_Md_init 51 = .ok (.newarray .int, 2) := by decide +kernel
theorem d_Md_init_53 : decode b_Md_init 53 = .ok (.putfield 25, 3) := by decide +kernel
theorem d_Md_init_56 : decode b_Md_init 56 = .ok (.aload_n 0, 1) := by decide +kernel
theorem d_Md_init_57 : decode b_Md_init 57 = .ok (.bipush 16, 2) := by decide +kernel
theorem d_Md_init_59 : decode b_Md_init 59 = .ok (.newarray .int, 2) := by decide +kernel
theorem d_Md_init_61 : decode b_Md_init 61 = .ok (.putfield 28, 3) := by decide +kernel
theorem d_Md_init_64 : decode b_Md_init 64 = .ok (.aload_n 0, 1) := by decide +kernel
theorem d_Md_init_65 : decode b_Md_init 65 = .ok (.bipush 48, 2) := by decide +kernel
theorem d_Md_init_67 : decode b_Md_init 67 = .ok (.newarray .int, 2) := by decide +kernel
theorem d_Md_init_69 : decode b_Md_init 69 = .ok (.putfield 31, 3) := by decide +kernel
theorem d_Md_init_72 : decode b_Md_init 72 = .ok (.aload_n 0, 1) := by decide +kernel
theorem d_Md_init_73 : decode b_Md_init 73 = .ok (.sipush 288, 3) := by decide +kernel
theorem d_Md_init_76 : decode b_Md_init 76 = .ok (.newarray .int, 2) := by decide +kernel
theorem d_Md_init_78 : decode b_Md_init 78 = .ok (.putfield 34, 3) := by decide +kernel
theorem d_Md_init_81 : decode b_Md_init 81 = .ok (.aload_n 0, 1) := by decide +kernel
theorem d_Md_init_82 : decode b_Md_init 82 = .ok (.bipush 64, 2) := by decide +kernel
theorem d_Md_init_84 : decode b_Md_init 84 = .ok (.newarray .int, 2) := by decide +kernel
theorem d_Md_init_86 : decode b_Md_init 86 = .ok (.putfield 37, 3) := by decide +kernel
theorem d_Md_init_89 : decode b_Md_init 89 = .ok (.aload_n 0, 1) := by decide +kernel
theorem d_Md_init_90 : decode b_Md_init 90 = .ok (.sipush 1024, 3) := by decide +kernel
theorem d_Md_init_93 : decode b_Md_init 93 = .ok (.newarray .int, 2) := by decide +kernel
theorem d_Md_init_95 : decode b_Md_init 95 = .ok (.putfield 40, 3) := by decide +kernel
theorem d_Md_init_98 : decode b_Md_init 98 = .ok (.aload_n 0, 1) := by decide +kernel
theorem d_Md_init_99 : decode b_Md_init 99 = .ok (.sipush 1024, 3) := by decide +kernel
theorem d_Md_init_102 : decode b_Md_init 102 = .ok (.newarray .int, 2) := by decide +kernel
theorem d_Md_init_104 : decode b_Md_init 104 = .ok (.putfield 43, 3) := by decide +kernel
theorem d_Md_init_107 : decode b_Md_init 107 = .ok (.aload_n 0, 1) := by decide +kernel
theorem d_Md_init_108 : decode b_Md_init 108 = .ok (.sipush 4096, 3) := by decide +kernel
theorem d_Md_init_111 : decode b_Md_init 111 = .ok (.newarray .int, 2) := by decide +kernel
theorem d_Md_init_113 : decode b_Md_init 113 = .ok (.putfield 46, 3) := by decide +kernel
theorem d_Md_init_116 : decode b_Md_init 116 = .ok (.return_, 1) := by decide +kernel
abbrev b_Md_thrown : ByteArray := prog_12_method_2_code
def y_Md_thrown : MethodName := ⟨"SpellDeskModel", "thrown", "()I"⟩
set_option maxRecDepth 20000 in
theorem Y_Md_thrown : gh_Y y_Md_thrown b_Md_thrown 1 (some .int) 0 := ⟨gt_in (i := 1235) rfl rfl, gt_in (i := 14) (by decide +kernel) rfl, by decide +kernel, by decide +kernel, by decide +kernel⟩
theorem V_Md_thrown : Cond.instanceMethod y_Md_thrown ∈ gTbl ∧ Cond.selects y_Md_thrown.cls y_Md_thrown y_Md_thrown ∈ gTbl := ⟨(gt_in (i := 1233) (by decide +kernel) rfl), (gt_in (i := 1234) (by decide +kernel) rfl)⟩
theorem d_Md_thrown_0 : decode b_Md_thrown 0 = .ok (.aload_n 0, 1) := by decide +kernel
theorem d_Md_thrown_1 : decode b_Md_thrown 1 = .ok (.getfield 49, 3) := by decide +kernel
theorem d_Md_thrown_4 : decode b_Md_thrown 4 = .ok (.ireturn, 1) := by decide +kernel
abbrev b_Md_type : ByteArray := prog_12_method_3_code
def y_Md_type : MethodName := ⟨"SpellDeskModel", "type", "(IIII)V"⟩
set_option maxRecDepth 20000 in
theorem Y_Md_type : gh_Y y_Md_type b_Md_type 7 none 4 := ⟨gt_in (i := 1239) rfl rfl, gt_in (i := 14) (by decide +kernel) rfl, by decide +kernel, by decide +kernel, by decide +kernel⟩
theorem V_Md_type : Cond.instanceMethod y_Md_type ∈ gTbl ∧ Cond.selects y_Md_type.cls y_Md_type y_Md_type ∈ gTbl := ⟨(gt_in (i := 1237) (by decide +kernel) rfl), (gt_in (i := 1238) (by decide +kernel) rfl)⟩
theorem d_Md_type_0 : decode b_Md_type 0 = .ok (.iconst 0, 1) := by decide +kernel
theorem d_Md_type_1 : decode b_Md_type 1 = .ok (.istore 5, 2) := by decide +kernel
theorem d_Md_type_3 : decode b_Md_type 3 = .ok (.iconst 0, 1) := by decide +kernel
theorem d_Md_type_4 : decode b_Md_type 4 = .ok (.istore 6, 2) := by decide +kernel
theorem d_Md_type_6 : decode b_Md_type 6 = .ok (.iload 6, 2) := by decide +kernel
theorem d_Md_type_8 : decode b_Md_type 8 = .ok (.bipush 16, 2) := by decide +kernel
theorem d_Md_type_10 : decode b_Md_type 10 = .ok (.if_icmp .ge 33, 3) := by decide +kernel
theorem d_Md_type_13 : decode b_Md_type 13 = .ok (.iload_n 1, 1) := by decide +kernel
theorem d_Md_type_14 : decode b_Md_type 14 = .ok (.iload_n 2, 1) := by decide +kernel
theorem d_Md_type_15 : decode b_Md_type 15 = .ok (.iload_n 3, 1) := by decide +kernel
theorem d_Md_type_16 : decode b_Md_type 16 = .ok (.iload 4, 2) := by decide +kernel
theorem d_Md_type_18 : decode b_Md_type 18 = .ok (.iload 6, 2) := by decide +kernel
theorem d_Md_type_20 : decode b_Md_type 20 = .ok (.invokestatic 53, 3) := by decide +kernel
theorem d_Md_type_23 : decode b_Md_type 23 = .ok (.ifCond .ne 8, 3) := by decide +kernel
theorem d_Md_type_26 : decode b_Md_type 26 = .ok (.iload 5, 2) := by decide +kernel
theorem d_Md_type_28 : decode b_Md_type 28 = .ok (.goto 7, 3) := by decide +kernel
theorem d_Md_type_31 : decode b_Md_type 31 = .ok (.iload 5, 2) := by decide +kernel
theorem d_Md_type_33 : decode b_Md_type 33 = .ok (.iconst 1, 1) := by decide +kernel
theorem d_Md_type_34 : decode b_Md_type 34 = .ok (.iadd, 1) := by decide +kernel
theorem d_Md_type_35 : decode b_Md_type 35 = .ok (.istore 5, 2) := by decide +kernel
theorem d_Md_type_37 : decode b_Md_type 37 = .ok (.iinc 6 1, 3) := by decide +kernel
theorem d_Md_type_40 : decode b_Md_type 40 = .ok (.goto (-34), 3) := by decide +kernel
theorem d_Md_type_43 : decode b_Md_type 43 = .ok (.aload_n 0, 1) := by decide +kernel
theorem d_Md_type_44 : decode b_Md_type 44 = .ok (.aload_n 0, 1) := by decide +kernel
theorem d_Md_type_45 : decode b_Md_type 45 = .ok (.getfield 57, 3) := by decide +kernel
theorem d_Md_type_48 : decode b_Md_type 48 = .ok (.iload 5, 2) := by decide +kernel
theorem d_Md_type_50 : decode b_Md_type 50 = .ok (.iadd, 1) := by decide +kernel
theorem d_Md_type_51 : decode b_Md_type 51 = .ok (.sipush 2048, 3) := by decide +kernel
theorem d_Md_type_54 : decode b_Md_type 54 = .ok (.if_icmp .le 7, 3) := by decide +kernel
theorem d_Md_type_57 : decode b_Md_type 57 = .ok (.iconst 1, 1) := by decide +kernel
theorem d_Md_type_58 : decode b_Md_type 58 = .ok (.goto 4, 3) := by decide +kernel
theorem d_Md_type_61 : decode b_Md_type 61 = .ok (.iconst 0, 1) := by decide +kernel
theorem d_Md_type_62 : decode b_Md_type 62 = .ok (.putfield 49, 3) := by decide +kernel
theorem d_Md_type_65 : decode b_Md_type 65 = .ok (.iconst 0, 1) := by decide +kernel
theorem d_Md_type_66 : decode b_Md_type 66 = .ok (.istore 6, 2) := by decide +kernel
theorem d_Md_type_68 : decode b_Md_type 68 = .ok (.iload 6, 2) := by decide +kernel
theorem d_Md_type_70 : decode b_Md_type 70 = .ok (.bipush 16, 2) := by decide +kernel
theorem d_Md_type_72 : decode b_Md_type 72 = .ok (.if_icmp .ge 58, 3) := by decide +kernel
theorem d_Md_type_75 : decode b_Md_type 75 = .ok (.aload_n 0, 1) := by decide +kernel
theorem d_Md_type_76 : decode b_Md_type 76 = .ok (.getfield 49, 3) := by decide +kernel
theorem d_Md_type_79 : decode b_Md_type 79 = .ok (.ifCond .ne 51, 3) := by decide +kernel
theorem d_Md_type_82 : decode b_Md_type 82 = .ok (.iload_n 1, 1) := by decide +kernel
theorem d_Md_type_83 : decode b_Md_type 83 = .ok (.iload_n 2, 1) := by decide +kernel
theorem d_Md_type_84 : decode b_Md_type 84 = .ok (.iload_n 3, 1) := by decide +kernel
theorem d_Md_type_85 : decode b_Md_type 85 = .ok (.iload 4, 2) := by decide +kernel
theorem d_Md_type_87 : decode b_Md_type 87 = .ok (.iload 6, 2) := by decide +kernel
theorem d_Md_type_89 : decode b_Md_type 89 = .ok (.invokestatic 53, 3) := by decide +kernel
theorem d_Md_type_92 : decode b_Md_type 92 = .ok (.ifCond .eq 32, 3) := by decide +kernel
theorem d_Md_type_95 : decode b_Md_type 95 = .ok (.aload_n 0, 1) := by decide +kernel
theorem d_Md_type_96 : decode b_Md_type 96 = .ok (.getfield 7, 3) := by decide +kernel
theorem d_Md_type_99 : decode b_Md_type 99 = .ok (.aload_n 0, 1) := by decide +kernel
theorem d_Md_type_100 : decode b_Md_type 100 = .ok (.getfield 57, 3) := by decide +kernel
theorem d_Md_type_103 : decode b_Md_type 103 = .ok (.iload_n 1, 1) := by decide +kernel
theorem d_Md_type_104 : decode b_Md_type 104 = .ok (.iload_n 2, 1) := by decide +kernel
theorem d_Md_type_105 : decode b_Md_type 105 = .ok (.iload_n 3, 1) := by decide +kernel
theorem d_Md_type_106 : decode b_Md_type 106 = .ok (.iload 4, 2) := by decide +kernel
theorem d_Md_type_108 : decode b_Md_type 108 = .ok (.iload 6, 2) := by decide +kernel
theorem d_Md_type_110 : decode b_Md_type 110 = .ok (.invokestatic 53, 3) := by decide +kernel
theorem d_Md_type_113 : decode b_Md_type 113 = .ok (.iastore, 1) := by decide +kernel
theorem d_Md_type_114 : decode b_Md_type 114 = .ok (.aload_n 0, 1) := by decide +kernel
theorem d_Md_type_115 : decode b_Md_type 115 = .ok (.dup, 1) := by decide +kernel
theorem d_Md_type_116 : decode b_Md_type 116 = .ok (.getfield 57, 3) := by decide +kernel
theorem d_Md_type_119 : decode b_Md_type 119 = .ok (.iconst 1, 1) := by decide +kernel
theorem d_Md_type_120 : decode b_Md_type 120 = .ok (.iadd, 1) := by decide +kernel
theorem d_Md_type_121 : decode b_Md_type 121 = .ok (.putfield 57, 3) := by decide +kernel
theorem d_Md_type_124 : decode b_Md_type 124 = .ok (.iinc 6 1, 3) := by decide +kernel
theorem d_Md_type_127 : decode b_Md_type 127 = .ok (.goto (-59), 3) := by decide +kernel
theorem d_Md_type_130 : decode b_Md_type 130 = .ok (.return_, 1) := by decide +kernel
abbrev b_Md_character : ByteArray := prog_12_method_4_code
def y_Md_character : MethodName := ⟨"SpellDeskModel", "character", "(IIIII)I"⟩
set_option maxRecDepth 20000 in
theorem Y_Md_character : gh_Y y_Md_character b_Md_character 6 (some .int) 5 := ⟨gt_in (i := 1242) rfl rfl, gt_in (i := 14) (by decide +kernel) rfl, by decide +kernel, by decide +kernel, by decide +kernel⟩
theorem V_Md_character : Cond.static y_Md_character ∈ gTbl := (gt_in (i := 1241) (by decide +kernel) rfl)
theorem d_Md_character_0 : decode b_Md_character 0 = .ok (.iload 4, 2) := by decide +kernel
theorem d_Md_character_2 : decode b_Md_character 2 = .ok (.iconst 4, 1) := by decide +kernel
theorem d_Md_character_3 : decode b_Md_character 3 = .ok (.if_icmp .ge 7, 3) := by decide +kernel
theorem d_Md_character_6 : decode b_Md_character 6 = .ok (.iload_n 0, 1) := by decide +kernel
theorem d_Md_character_7 : decode b_Md_character 7 = .ok (.goto 26, 3) := by decide +kernel
theorem d_Md_character_10 : decode b_Md_character 10 = .ok (.iload 4, 2) := by decide +kernel
theorem d_Md_character_12 : decode b_Md_character 12 = .ok (.bipush 8, 2) := by decide +kernel
theorem d_Md_character_14 : decode b_Md_character 14 = .ok (.if_icmp .ge 7, 3) := by decide +kernel
theorem d_Md_character_17 : decode b_Md_character 17 = .ok (.iload_n 1, 1) := by decide +kernel
theorem d_Md_character_18 : decode b_Md_character 18 = .ok (.goto 15, 3) := by decide +kernel
theorem d_Md_character_21 : decode b_Md_character 21 = .ok (.iload 4, 2) := by decide +kernel
theorem d_Md_character_23 : decode b_Md_character 23 = .ok (.bipush 12, 2) := by decide +kernel
theorem d_Md_character_25 : decode b_Md_character 25 = .ok (.if_icmp .ge 7, 3) := by decide +kernel
theorem d_Md_character_28 : decode b_Md_character 28 = .ok (.iload_n 2, 1) := by decide +kernel
theorem d_Md_character_29 : decode b_Md_character 29 = .ok (.goto 4, 3) := by decide +kernel
theorem d_Md_character_32 : decode b_Md_character 32 = .ok (.iload_n 3, 1) := by decide +kernel
theorem d_Md_character_33 : decode b_Md_character 33 = .ok (.istore 5, 2) := by decide +kernel
theorem d_Md_character_35 : decode b_Md_character 35 = .ok (.iload 5, 2) := by decide +kernel
theorem d_Md_character_37 : decode b_Md_character 37 = .ok (.bipush 24, 2) := by decide +kernel
theorem d_Md_character_39 : decode b_Md_character 39 = .ok (.iload 4, 2) := by decide +kernel
theorem d_Md_character_41 : decode b_Md_character 41 = .ok (.iconst 4, 1) := by decide +kernel
theorem d_Md_character_42 : decode b_Md_character 42 = .ok (.irem, 1) := by decide +kernel
theorem d_Md_character_43 : decode b_Md_character 43 = .ok (.bipush 8, 2) := by decide +kernel
theorem d_Md_character_45 : decode b_Md_character 45 = .ok (.imul, 1) := by decide +kernel
theorem d_Md_character_46 : decode b_Md_character 46 = .ok (.isub, 1) := by decide +kernel
theorem d_Md_character_47 : decode b_Md_character 47 = .ok (.ishr, 1) := by decide +kernel
theorem d_Md_character_48 : decode b_Md_character 48 = .ok (.sipush 255, 3) := by decide +kernel
theorem d_Md_character_51 : decode b_Md_character 51 = .ok (.iand, 1) := by decide +kernel
theorem d_Md_character_52 : decode b_Md_character 52 = .ok (.ireturn, 1) := by decide +kernel
abbrev b_Md_typed : ByteArray := prog_12_method_5_code
def y_Md_typed : MethodName := ⟨"SpellDeskModel", "typed", "()I"⟩
set_option maxRecDepth 20000 in
theorem Y_Md_typed : gh_Y y_Md_typed b_Md_typed 1 (some .int) 0 := ⟨gt_in (i := 1246) rfl rfl, gt_in (i := 14) (by decide +kernel) rfl, by decide +kernel, by decide +kernel, by decide +kernel⟩
theorem V_Md_typed : Cond.instanceMethod y_Md_typed ∈ gTbl ∧ Cond.selects y_Md_typed.cls y_Md_typed y_Md_typed ∈ gTbl := ⟨(gt_in (i := 1244) (by decide +kernel) rfl), (gt_in (i := 1245) (by decide +kernel) rfl)⟩
theorem d_Md_typed_0 : decode b_Md_typed 0 = .ok (.aload_n 0, 1) := by decide +kernel
theorem d_Md_typed_1 : decode b_Md_typed 1 = .ok (.iconst 0, 1) := by decide +kernel
theorem d_Md_typed_2 : decode b_Md_typed 2 = .ok (.putfield 49, 3) := by decide +kernel
theorem d_Md_typed_5 : decode b_Md_typed 5 = .ok (.aload_n 0, 1) := by decide +kernel
theorem d_Md_typed_6 : decode b_Md_typed 6 = .ok (.getfield 57, 3) := by decide +kernel
theorem d_Md_typed_9 : decode b_Md_typed 9 = .ok (.ireturn, 1) := by decide +kernel
abbrev b_Md_run : ByteArray := prog_12_method_28_code
def y_Md_run : MethodName := ⟨"SpellDeskModel", "run", "()I"⟩
set_option maxRecDepth 20000 in
theorem Y_Md_run : gh_Y y_Md_run b_Md_run 2 (some .int) 0 := ⟨gt_in (i := 1250) rfl rfl, gt_in (i := 14) (by decide +kernel) rfl, by decide +kernel, by decide +kernel, by decide +kernel⟩
theorem V_Md_run : Cond.instanceMethod y_Md_run ∈ gTbl ∧ Cond.selects y_Md_run.cls y_Md_run y_Md_run ∈ gTbl := ⟨(gt_in (i := 1248) (by decide +kernel) rfl), (gt_in (i := 1249) (by decide +kernel) rfl)⟩
theorem d_Md_run_0 : decode b_Md_run 0 = .ok (.aload_n 0, 1) := by decide +kernel
theorem d_Md_run_1 : decode b_Md_run 1 = .ok (.iconst 0, 1) := by decide +kernel
theorem d_Md_run_2 : decode b_Md_run 2 = .ok (.putfield 49, 3) := by decide +kernel
theorem d_Md_run_5 : decode b_Md_run 5 = .ok (.iconst 0, 1) := by decide +kernel
theorem d_Md_run_6 : decode b_Md_run 6 = .ok (.istore_n 1, 1) := by decide +kernel
theorem d_Md_run_7 : decode b_Md_run 7 = .ok (.aload_n 0, 1) := by decide +kernel
theorem d_Md_run_8 : decode b_Md_run 8 = .ok (.iconst 0, 1) := by decide +kernel
theorem d_Md_run_9 : decode b_Md_run 9 = .ok (.putfield 86, 3) := by decide +kernel
theorem d_Md_run_12 : decode b_Md_run 12 = .ok (.aload_n 0, 1) := by decide +kernel
theorem d_Md_run_13 : decode b_Md_run 13 = .ok (.getfield 86, 3) := by decide +kernel
theorem d_Md_run_16 : decode b_Md_run 16 = .ok (.aload_n 0, 1) := by decide +kernel
theorem d_Md_run_17 : decode b_Md_run 17 = .ok (.getfield 57, 3) := by decide +kernel
theorem d_Md_run_20 : decode b_Md_run 20 = .ok (.if_icmp .ge 122, 3) := by decide +kernel
theorem d_Md_run_23 : decode b_Md_run 23 = .ok (.aload_n 0, 1) := by decide +kernel
theorem d_Md_run_24 : decode b_Md_run 24 = .ok (.aload_n 0, 1) := by decide +kernel
theorem d_Md_run_25 : decode b_Md_run 25 = .ok (.getfield 86, 3) := by decide +kernel
theorem d_Md_run_28 : decode b_Md_run 28 = .ok (.putfield 73, 3) := by decide +kernel
theorem d_Md_run_31 : decode b_Md_run 31 = .ok (.aload_n 0, 1) := by decide +kernel
theorem d_Md_run_32 : decode b_Md_run 32 = .ok (.getfield 73, 3) := by decide +kernel
theorem d_Md_run_35 : decode b_Md_run 35 = .ok (.aload_n 0, 1) := by decide +kernel
theorem d_Md_run_36 : decode b_Md_run 36 = .ok (.getfield 57, 3) := by decide +kernel
theorem d_Md_run_39 : decode b_Md_run 39 = .ok (.if_icmp .ge 30, 3) := by decide +kernel
theorem d_Md_run_42 : decode b_Md_run 42 = .ok (.aload_n 0, 1) := by decide +kernel
theorem d_Md_run_43 : decode b_Md_run 43 = .ok (.getfield 7, 3) := by decide +kernel
theorem d_Md_run_46 : decode b_Md_run 46 = .ok (.aload_n 0, 1) := by decide +kernel
theorem d_Md_run_47 : decode b_Md_run 47 = .ok (.getfield 73, 3) := by decide +kernel
theorem d_Md_run_50 : decode b_Md_run 50 = .ok (.iaload, 1) := by decide +kernel
theorem d_Md_run_51 : decode b_Md_run 51 = .ok (.bipush 10, 2) := by decide +kernel
theorem d_Md_run_53 : decode b_Md_run 53 = .ok (.if_icmp .eq 16, 3) := by decide +kernel
theorem d_Md_run_56 : decode b_Md_run 56 = .ok (.aload_n 0, 1) := by decide +kernel
theorem d_Md_run_57 : decode b_Md_run 57 = .ok (.dup, 1) := by decide +kernel
theorem d_Md_run_58 : decode b_Md_run 58 = .ok (.getfield 73, 3) := by decide +kernel
theorem d_Md_run_61 : decode b_Md_run 61 = .ok (.iconst 1, 1) := by decide +kernel
theorem d_Md_run_62 : decode b_Md_run 62 = .ok (.iadd, 1) := by decide +kernel
theorem d_Md_run_63 : decode b_Md_run 63 = .ok (.putfield 73, 3) := by decide +kernel
theorem d_Md_run_66 : decode b_Md_run 66 = .ok (.goto (-35), 3) := by decide +kernel
theorem d_Md_run_69 : decode b_Md_run 69 = .ok (.aload_n 0, 1) := by decide +kernel
theorem d_Md_run_70 : decode b_Md_run 70 = .ok (.aload_n 0, 1) := by decide +kernel
theorem d_Md_run_71 : decode b_Md_run 71 = .ok (.getfield 86, 3) := by decide +kernel
theorem d_Md_run_74 : decode b_Md_run 74 = .ok (.putfield 70, 3) := by decide +kernel
theorem d_Md_run_77 : decode b_Md_run 77 = .ok (.aload_n 0, 1) := by decide +kernel
theorem d_Md_run_78 : decode b_Md_run 78 = .ok (.invokevirtual 82, 3) := by decide +kernel
theorem d_Md_run_81 : decode b_Md_run 81 = .ok (.ifCond .eq 45, 3) := by decide +kernel
theorem d_Md_run_84 : decode b_Md_run 84 = .ok (.aload_n 0, 1) := by decide +kernel
theorem d_Md_run_85 : decode b_Md_run 85 = .ok (.iconst 0, 1) := by decide +kernel
theorem d_Md_run_86 : decode b_Md_run 86 = .ok (.putfield 89, 3) := by decide +kernel
theorem d_Md_run_89 : decode b_Md_run 89 = .ok (.aload_n 0, 1) := by decide +kernel
theorem d_Md_run_90 : decode b_Md_run 90 = .ok (.invokevirtual 131, 3) := by decide +kernel
theorem d_Md_run_93 : decode b_Md_run 93 = .ok (.aload_n 0, 1) := by decide +kernel
theorem d_Md_run_94 : decode b_Md_run 94 = .ok (.getfield 89, 3) := by decide +kernel
theorem d_Md_run_97 : decode b_Md_run 97 = .ok (.ifCond .le 23, 3) := by decide +kernel
theorem d_Md_run_100 : decode b_Md_run 100 = .ok (.aload_n 0, 1) := by decide +kernel
theorem d_Md_run_101 : decode b_Md_run 101 = .ok (.bipush 63, 2) := by decide +kernel
theorem d_Md_run_103 : decode b_Md_run 103 = .ok (.invokevirtual 66, 3) := by decide +kernel
theorem d_Md_run_106 : decode b_Md_run 106 = .ok (.aload_n 0, 1) := by decide +kernel
theorem d_Md_run_107 : decode b_Md_run 107 = .ok (.bipush 32, 2) := by decide +kernel
theorem d_Md_run_109 : decode b_Md_run 109 = .ok (.invokevirtual 66, 3) := by decide +kernel
theorem d_Md_run_112 : decode b_Md_run 112 = .ok (.aload_n 0, 1) := by decide +kernel
theorem d_Md_run_113 : decode b_Md_run 113 = .ok (.aload_n 0, 1) := by decide +kernel
theorem d_Md_run_114 : decode b_Md_run 114 = .ok (.getfield 89, 3) := by decide +kernel
theorem d_Md_run_117 : decode b_Md_run 117 = .ok (.invokevirtual 134, 3) := by decide +kernel
theorem d_Md_run_120 : decode b_Md_run 120 = .ok (.aload_n 0, 1) := by decide +kernel
theorem d_Md_run_121 : decode b_Md_run 121 = .ok (.bipush 10, 2) := by decide +kernel
theorem d_Md_run_123 : decode b_Md_run 123 = .ok (.invokevirtual 66, 3) := by decide +kernel
theorem d_Md_run_126 : decode b_Md_run 126 = .ok (.iinc 1 1, 3) := by decide +kernel
theorem d_Md_run_129 : decode b_Md_run 129 = .ok (.aload_n 0, 1) := by decide +kernel
theorem d_Md_run_130 : decode b_Md_run 130 = .ok (.aload_n 0, 1) := by decide +kernel
theorem d_Md_run_131 : decode b_Md_run 131 = .ok (.getfield 73, 3) := by decide +kernel
theorem d_Md_run_134 : decode b_Md_run 134 = .ok (.iconst 1, 1) := by decide +kernel
theorem d_Md_run_135 : decode b_Md_run 135 = .ok (.iadd, 1) := by decide +kernel
theorem d_Md_run_136 : decode b_Md_run 136 = .ok (.putfield 86, 3) := by decide +kernel
theorem d_Md_run_139 : decode b_Md_run 139 = .ok (.goto (-127), 3) := by decide +kernel
theorem d_Md_run_142 : decode b_Md_run 142 = .ok (.aload_n 0, 1) := by decide +kernel
theorem d_Md_run_143 : decode b_Md_run 143 = .ok (.iconst 0, 1) := by decide +kernel
theorem d_Md_run_144 : decode b_Md_run 144 = .ok (.putfield 57, 3) := by decide +kernel
theorem d_Md_run_147 : decode b_Md_run 147 = .ok (.iload_n 1, 1) := by decide +kernel
theorem d_Md_run_148 : decode b_Md_run 148 = .ok (.ireturn, 1) := by decide +kernel
abbrev b_Md_next : ByteArray := prog_12_method_11_code
def y_Md_next : MethodName := ⟨"SpellDeskModel", "next", "()Z"⟩
set_option maxRecDepth 20000 in
theorem Y_Md_next : gh_Y y_Md_next b_Md_next 1 (some .boolean) 0 := ⟨gt_in (i := 1254) rfl rfl, gt_in (i := 14) (by decide +kernel) rfl, by decide +kernel, by decide +kernel, by decide +kernel⟩
theorem V_Md_next : Cond.instanceMethod y_Md_next ∈ gTbl ∧ Cond.selects y_Md_next.cls y_Md_next y_Md_next ∈ gTbl := ⟨(gt_in (i := 1253) (by decide +kernel) rfl), (gt_sel (n := 26) (i := 26) (by decide +kernel))⟩
theorem d_Md_next_0 : decode b_Md_next 0 = .ok (.aload_n 0, 1) := by decide +kernel
theorem d_Md_next_1 : decode b_Md_next 1 = .ok (.getfield 70, 3) := by decide +kernel
theorem d_Md_next_4 : decode b_Md_next 4 = .ok (.aload_n 0, 1) := by decide +kernel
theorem d_Md_next_5 : decode b_Md_next 5 = .ok (.getfield 73, 3) := by decide +kernel
theorem d_Md_next_8 : decode b_Md_next 8 = .ok (.if_icmp .ge 30, 3) := by decide +kernel
theorem d_Md_next_11 : decode b_Md_next 11 = .ok (.aload_n 0, 1) := by decide +kernel
theorem d_Md_next_12 : decode b_Md_next 12 = .ok (.getfield 7, 3) := by decide +kernel
theorem d_Md_next_15 : decode b_Md_next 15 = .ok (.aload_n 0, 1) := by decide +kernel
theorem d_Md_next_16 : decode b_Md_next 16 = .ok (.getfield 70, 3) := by decide +kernel
theorem d_Md_next_19 : decode b_Md_next 19 = .ok (.iaload, 1) := by decide +kernel
theorem d_Md_next_20 : decode b_Md_next 20 = .ok (.bipush 32, 2) := by decide +kernel
theorem d_Md_next_22 : decode b_Md_next 22 = .ok (.if_icmp .ne 16, 3) := by decide +kernel
theorem d_Md_next_25 : decode b_Md_next 25 = .ok (.aload_n 0, 1) := by decide +kernel
theorem d_Md_next_26 : decode b_Md_next 26 = .ok (.dup, 1) := by decide +kernel
theorem d_Md_next_27 : decode b_Md_next 27 = .ok (.getfield 70, 3) := by decide +kernel
theorem d_Md_next_30 : decode b_Md_next 30 = .ok (.iconst 1, 1) := by decide +kernel
theorem d_Md_next_31 : decode b_Md_next 31 = .ok (.iadd, 1) := by decide +kernel
theorem d_Md_next_32 : decode b_Md_next 32 = .ok (.putfield 70, 3) := by decide +kernel
theorem d_Md_next_35 : decode b_Md_next 35 = .ok (.goto (-35), 3) := by decide +kernel
theorem d_Md_next_38 : decode b_Md_next 38 = .ok (.aload_n 0, 1) := by decide +kernel
theorem d_Md_next_39 : decode b_Md_next 39 = .ok (.aload_n 0, 1) := by decide +kernel
theorem d_Md_next_40 : decode b_Md_next 40 = .ok (.getfield 70, 3) := by decide +kernel
theorem d_Md_next_43 : decode b_Md_next 43 = .ok (.putfield 76, 3) := by decide +kernel
theorem d_Md_next_46 : decode b_Md_next 46 = .ok (.aload_n 0, 1) := by decide +kernel
theorem d_Md_next_47 : decode b_Md_next 47 = .ok (.getfield 70, 3) := by decide +kernel
theorem d_Md_next_50 : decode b_Md_next 50 = .ok (.aload_n 0, 1) := by decide +kernel
theorem d_Md_next_51 : decode b_Md_next 51 = .ok (.getfield 73, 3) := by decide +kernel
theorem d_Md_next_54 : decode b_Md_next 54 = .ok (.if_icmp .ge 30, 3) := by decide +kernel
theorem d_Md_next_57 : decode b_Md_next 57 = .ok (.aload_n 0, 1) := by decide +kernel
theorem d_Md_next_58 : decode b_Md_next 58 = .ok (.getfield 7, 3) := by decide +kernel
theorem d_Md_next_61 : decode b_Md_next 61 = .ok (.aload_n 0, 1) := by decide +kernel
theorem d_Md_next_62 : decode b_Md_next 62 = .ok (.getfield 70, 3) := by decide +kernel
theorem d_Md_next_65 : decode b_Md_next 65 = .ok (.iaload, 1) := by decide +kernel
theorem d_Md_next_66 : decode b_Md_next 66 = .ok (.bipush 32, 2) := by decide +kernel
theorem d_Md_next_68 : decode b_Md_next 68 = .ok (.if_icmp .eq 16, 3) := by decide +kernel
theorem d_Md_next_71 : decode b_Md_next 71 = .ok (.aload_n 0, 1) := by decide +kernel
theorem d_Md_next_72 : decode b_Md_next 72 = .ok (.dup, 1) := by decide +kernel
theorem d_Md_next_73 : decode b_Md_next 73 = .ok (.getfield 70, 3) := by decide +kernel
theorem d_Md_next_76 : decode b_Md_next 76 = .ok (.iconst 1, 1) := by decide +kernel
theorem d_Md_next_77 : decode b_Md_next 77 = .ok (.iadd, 1) := by decide +kernel
theorem d_Md_next_78 : decode b_Md_next 78 = .ok (.putfield 70, 3) := by decide +kernel
theorem d_Md_next_81 : decode b_Md_next 81 = .ok (.goto (-35), 3) := by decide +kernel
theorem d_Md_next_84 : decode b_Md_next 84 = .ok (.aload_n 0, 1) := by decide +kernel
theorem d_Md_next_85 : decode b_Md_next 85 = .ok (.aload_n 0, 1) := by decide +kernel
theorem d_Md_next_86 : decode b_Md_next 86 = .ok (.getfield 70, 3) := by decide +kernel
theorem d_Md_next_89 : decode b_Md_next 89 = .ok (.putfield 79, 3) := by decide +kernel
theorem d_Md_next_92 : decode b_Md_next 92 = .ok (.aload_n 0, 1) := by decide +kernel
theorem d_Md_next_93 : decode b_Md_next 93 = .ok (.getfield 79, 3) := by decide +kernel
theorem d_Md_next_96 : decode b_Md_next 96 = .ok (.aload_n 0, 1) := by decide +kernel
theorem d_Md_next_97 : decode b_Md_next 97 = .ok (.getfield 76, 3) := by decide +kernel
theorem d_Md_next_100 : decode b_Md_next 100 = .ok (.if_icmp .le 7, 3) := by decide +kernel
theorem d_Md_next_103 : decode b_Md_next 103 = .ok (.iconst 1, 1) := by decide +kernel
theorem d_Md_next_104 : decode b_Md_next 104 = .ok (.goto 4, 3) := by decide +kernel
theorem d_Md_next_107 : decode b_Md_next 107 = .ok (.iconst 0, 1) := by decide +kernel
theorem d_Md_next_108 : decode b_Md_next 108 = .ok (.ireturn, 1) := by decide +kernel
abbrev b_Md_line : ByteArray := prog_12_method_29_code
def y_Md_line : MethodName := ⟨"SpellDeskModel", "line", "()V"⟩
set_option maxRecDepth 20000 in
theorem Y_Md_line : gh_Y y_Md_line b_Md_line 2 none 0 := ⟨gt_in (i := 1258) rfl rfl, gt_in (i := 14) (by decide +kernel) rfl, by decide +kernel, by decide +kernel, by decide +kernel⟩
theorem V_Md_line : Cond.instanceMethod y_Md_line ∈ gTbl ∧ Cond.selects y_Md_line.cls y_Md_line y_Md_line ∈ gTbl := ⟨(gt_in (i := 1257) (by decide +kernel) rfl), (gt_sel (n := 26) (i := 27) (by decide +kernel))⟩
theorem d_Md_line_0 : decode b_Md_line 0 = .ok (.aload_n 0, 1) := by decide +kernel
theorem d_Md_line_1 : decode b_Md_line 1 = .ok (.ldc2_w 137, 3) := by decide +kernel
theorem d_Md_line_4 : decode b_Md_line 4 = .ok (.invokevirtual 139, 3) := by decide +kernel
theorem d_Md_line_7 : decode b_Md_line 7 = .ok (.ifCond .eq 10, 3) := by decide +kernel
theorem d_Md_line_10 : decode b_Md_line 10 = .ok (.aload_n 0, 1) := by decide +kernel
theorem d_Md_line_11 : decode b_Md_line 11 = .ok (.invokevirtual 143, 3) := by decide +kernel
theorem d_Md_line_14 : decode b_Md_line 14 = .ok (.goto 322, 3) := by decide +kernel
theorem d_Md_line_17 : decode b_Md_line 17 = .ok (.aload_n 0, 1) := by decide +kernel
theorem d_Md_line_18 : decode b_Md_line 18 = .ok (.ldc2_w 146, 3) := by decide +kernel
theorem d_Md_line_21 : decode b_Md_line 21 = .ok (.invokevirtual 139, 3) := by decide +kernel
theorem d_Md_line_24 : decode b_Md_line 24 = .ok (.ifCond .eq 32, 3) := by decide +kernel
theorem d_Md_line_27 : decode b_Md_line 27 = .ok (.aload_n 0, 1) := by decide +kernel
theorem d_Md_line_28 : decode b_Md_line 28 = .ok (.bipush 16, 2) := by decide +kernel
theorem d_Md_line_30 : decode b_Md_line 30 = .ok (.invokevirtual 148, 3) := by decide +kernel
theorem d_Md_line_33 : decode b_Md_line 33 = .ok (.ifCond .eq 303, 3) := by decide +kernel
theorem d_Md_line_36 : decode b_Md_line 36 = .ok (.aload_n 0, 1) := by decide +kernel
theorem d_Md_line_37 : decode b_Md_line 37 = .ok (.aload_n 0, 1) := by decide +kernel
theorem d_Md_line_38 : decode b_Md_line 38 = .ok (.getfield 76, 3) := by decide +kernel
theorem d_Md_line_41 : decode b_Md_line 41 = .ok (.aload_n 0, 1) := by decide +kernel
theorem d_Md_line_42 : decode b_Md_line 42 = .ok (.getfield 79, 3) := by decide +kernel
theorem d_Md_line_45 : decode b_Md_line 45 = .ok (.aload_n 0, 1) := by decide +kernel
theorem d_Md_line_46 : decode b_Md_line 46 = .ok (.getfield 76, 3) := by decide +kernel
theorem d_Md_line_49 : decode b_Md_line 49 = .ok (.isub, 1) := by decide +kernel
theorem d_Md_line_50 : decode b_Md_line 50 = .ok (.invokevirtual 151, 3) := by decide +kernel
theorem d_Md_line_53 : decode b_Md_line 53 = .ok (.goto 283, 3) := by decide +kernel
theorem d_Md_line_56 : decode b_Md_line 56 = .ok (.aload_n 0, 1) := by decide +kernel
theorem d_Md_line_57 : decode b_Md_line 57 = .ok (.ldc2_w 155, 3) := by decide +kernel
theorem d_Md_line_60 : decode b_Md_line 60 = .ok (.invokevirtual 139, 3) := by decide +kernel
theorem d_Md_line_63 : decode b_Md_line 63 = .ok (.ifCond .eq 11, 3) := by decide +kernel
theorem d_Md_line_66 : decode b_Md_line 66 = .ok (.aload_n 0, 1) := by decide +kernel
theorem d_Md_line_67 : decode b_Md_line 67 = .ok (.iconst 0, 1) := by decide +kernel
theorem d_Md_line_68 : decode b_Md_line 68 = .ok (.invokevirtual 157, 3) := by decide +kernel
theorem d_Md_line_71 : decode b_Md_line 71 = .ok (.goto 265, 3) := by decide +kernel
theorem d_Md_line_74 : decode b_Md_line 74 = .ok (.aload_n 0, 1) := by decide +kernel
theorem d_Md_line_75 : decode b_Md_line 75 = .ok (.ldc2_w 160, 3) := by decide +kernel
theorem d_Md_line_78 : decode b_Md_line 78 = .ok (.invokevirtual 139, 3) := by decide +kernel
theorem d_Md_line_81 : decode b_Md_line 81 = .ok (.ifCond .eq 11, 3) := by decide +kernel
theorem d_Md_line_84 : decode b_Md_line 84 = .ok (.aload_n 0, 1) := by decide +kernel
theorem d_Md_line_85 : decode b_Md_line 85 = .ok (.iconst 1, 1) := by decide +kernel
theorem d_Md_line_86 : decode b_Md_line 86 = .ok (.invokevirtual 157, 3) := by decide +kernel
theorem d_Md_line_89 : decode b_Md_line 89 = .ok (.goto 247, 3) := by decide +kernel
theorem d_Md_line_92 : decode b_Md_line 92 = .ok (.aload_n 0, 1) := by decide +kernel
theorem d_Md_line_93 : decode b_Md_line 93 = .ok (.ldc2_w 162, 3) := by decide +kernel
theorem d_Md_line_96 : decode b_Md_line 96 = .ok (.invokevirtual 139, 3) := by decide +kernel
theorem d_Md_line_99 : decode b_Md_line 99 = .ok (.ifCond .eq 10, 3) := by decide +kernel
theorem d_Md_line_102 : decode b_Md_line 102 = .ok (.aload_n 0, 1) := by decide +kernel
theorem d_Md_line_103 : decode b_Md_line 103 = .ok (.invokevirtual 164, 3) := by decide +kernel
theorem d_Md_line_106 : decode b_Md_line 106 = .ok (.goto 230, 3) := by decide +kernel
theorem d_Md_line_109 : decode b_Md_line 109 = .ok (.aload_n 0, 1) := by decide +kernel
theorem d_Md_line_110 : decode b_Md_line 110 = .ok (.ldc2_w 167, 3) := by decide +kernel
theorem d_Md_line_113 : decode b_Md_line 113 = .ok (.invokevirtual 139, 3) := by decide +kernel
theorem d_Md_line_116 : decode b_Md_line 116 = .ok (.ifCond .eq 32, 3) := by decide +kernel
theorem d_Md_line_119 : decode b_Md_line 119 = .ok (.aload_n 0, 1) := by decide +kernel
theorem d_Md_line_120 : decode b_Md_line 120 = .ok (.bipush 16, 2) := by decide +kernel
theorem d_Md_line_122 : decode b_Md_line 122 = .ok (.invokevirtual 148, 3) := by decide +kernel
theorem d_Md_line_125 : decode b_Md_line 125 = .ok (.ifCond .eq 211, 3) := by decide +kernel
theorem d_Md_line_128 : decode b_Md_line 128 = .ok (.aload_n 0, 1) := by decide +kernel
theorem d_Md_line_129 : decode b_Md_line 129 = .ok (.aload_n 0, 1) := by decide +kernel
theorem d_Md_line_130 : decode b_Md_line 130 = .ok (.getfield 76, 3) := by decide +kernel
theorem d_Md_line_133 : decode b_Md_line 133 = .ok (.aload_n 0, 1) := by decide +kernel
theorem d_Md_line_134 : decode b_Md_line 134 = .ok (.getfield 79, 3) := by decide +kernel
theorem d_Md_line_137 : decode b_Md_line 137 = .ok (.aload_n 0, 1) := by decide +kernel
theorem d_Md_line_138 : decode b_Md_line 138 = .ok (.getfield 76, 3) := by decide +kernel
theorem d_Md_line_141 : decode b_Md_line 141 = .ok (.isub, 1) := by decide +kernel
theorem d_Md_line_142 : decode b_Md_line 142 = .ok (.invokevirtual 169, 3) := by decide +kernel
theorem d_Md_line_145 : decode b_Md_line 145 = .ok (.goto 191, 3) := by decide +kernel
theorem d_Md_line_148 : decode b_Md_line 148 = .ok (.aload_n 0, 1) := by decide +kernel
theorem d_Md_line_149 : decode b_Md_line 149 = .ok (.ldc2_w 172, 3) := by decide +kernel
theorem d_Md_line_152 : decode b_Md_line 152 = .ok (.invokevirtual 139, 3) := by decide +kernel
theorem d_Md_line_155 : decode b_Md_line 155 = .ok (.ifCond .eq 32, 3) := by decide +kernel
theorem d_Md_line_158 : decode b_Md_line 158 = .ok (.aload_n 0, 1) := by decide +kernel
theorem d_Md_line_159 : decode b_Md_line 159 = .ok (.bipush 28, 2) := by decide +kernel
theorem d_Md_line_161 : decode b_Md_line 161 = .ok (.invokevirtual 148, 3) := by decide +kernel
theorem d_Md_line_164 : decode b_Md_line 164 = .ok (.ifCond .eq 172, 3) := by decide +kernel
theorem d_Md_line_167 : decode b_Md_line 167 = .ok (.aload_n 0, 1) := by decide +kernel
theorem d_Md_line_168 : decode b_Md_line 168 = .ok (.aload_n 0, 1) := by decide +kernel
theorem d_Md_line_169 : decode b_Md_line 169 = .ok (.getfield 76, 3) := by decide +kernel
theorem d_Md_line_172 : decode b_Md_line 172 = .ok (.aload_n 0, 1) := by decide +kernel
theorem d_Md_line_173 : decode b_Md_line 173 = .ok (.getfield 79, 3) := by decide +kernel
theorem d_Md_line_176 : decode b_Md_line 176 = .ok (.aload_n 0, 1) := by decide +kernel
theorem d_Md_line_177 : decode b_Md_line 177 = .ok (.getfield 76, 3) := by decide +kernel
theorem d_Md_line_180 : decode b_Md_line 180 = .ok (.isub, 1) := by decide +kernel
theorem d_Md_line_181 : decode b_Md_line 181 = .ok (.invokevirtual 174, 3) := by decide +kernel
theorem d_Md_line_184 : decode b_Md_line 184 = .ok (.goto 152, 3) := by decide +kernel
theorem d_Md_line_187 : decode b_Md_line 187 = .ok (.aload_n 0, 1) := by decide +kernel
theorem d_Md_line_188 : decode b_Md_line 188 = .ok (.ldc2_w 177, 3) := by decide +kernel
theorem d_Md_line_191 : decode b_Md_line 191 = .ok (.invokevirtual 139, 3) := by decide +kernel
theorem d_Md_line_194 : decode b_Md_line 194 = .ok (.ifCond .eq 32, 3) := by decide +kernel
theorem d_Md_line_197 : decode b_Md_line 197 = .ok (.aload_n 0, 1) := by decide +kernel
theorem d_Md_line_198 : decode b_Md_line 198 = .ok (.bipush 16, 2) := by decide +kernel
theorem d_Md_line_200 : decode b_Md_line 200 = .ok (.invokevirtual 148, 3) := by decide +kernel
theorem d_Md_line_203 : decode b_Md_line 203 = .ok (.ifCond .eq 133, 3) := by decide +kernel
theorem d_Md_line_206 : decode b_Md_line 206 = .ok (.aload_n 0, 1) := by decide +kernel
theorem d_Md_line_207 : decode b_Md_line 207 = .ok (.aload_n 0, 1) := by decide +kernel
theorem d_Md_line_208 : decode b_Md_line 208 = .ok (.getfield 76, 3) := by decide +kernel
theorem d_Md_line_211 : decode b_Md_line 211 = .ok (.aload_n 0, 1) := by decide +kernel
theorem d_Md_line_212 : decode b_Md_line 212 = .ok (.getfield 79, 3) := by decide +kernel
theorem d_Md_line_215 : decode b_Md_line 215 = .ok (.aload_n 0, 1) := by decide +kernel
theorem d_Md_line_216 : decode b_Md_line 216 = .ok (.getfield 76, 3) := by decide +kernel
theorem d_Md_line_219 : decode b_Md_line 219 = .ok (.isub, 1) := by decide +kernel
theorem d_Md_line_220 : decode b_Md_line 220 = .ok (.invokevirtual 179, 3) := by decide +kernel
theorem d_Md_line_223 : decode b_Md_line 223 = .ok (.goto 113, 3) := by decide +kernel
theorem d_Md_line_226 : decode b_Md_line 226 = .ok (.aload_n 0, 1) := by decide +kernel
theorem d_Md_line_227 : decode b_Md_line 227 = .ok (.ldc2_w 182, 3) := by decide +kernel
theorem d_Md_line_230 : decode b_Md_line 230 = .ok (.invokevirtual 139, 3) := by decide +kernel
theorem d_Md_line_233 : decode b_Md_line 233 = .ok (.ifCond .eq 54, 3) := by decide +kernel
theorem d_Md_line_236 : decode b_Md_line 236 = .ok (.aload_n 0, 1) := by decide +kernel
theorem d_Md_line_237 : decode b_Md_line 237 = .ok (.invokevirtual 184, 3) := by decide +kernel
theorem d_Md_line_240 : decode b_Md_line 240 = .ok (.ifCond .ne 4, 3) := by decide +kernel
theorem d_Md_line_243 : decode b_Md_line 243 = .ok (.return_, 1) := by decide +kernel
theorem d_Md_line_244 : decode b_Md_line 244 = .ok (.aload_n 0, 1) := by decide +kernel
theorem d_Md_line_245 : decode b_Md_line 245 = .ok (.aload_n 0, 1) := by decide +kernel
theorem d_Md_line_246 : decode b_Md_line 246 = .ok (.getfield 106, 3) := by decide +kernel
theorem d_Md_line_249 : decode b_Md_line 249 = .ok (.invokevirtual 134, 3) := by decide +kernel
theorem d_Md_line_252 : decode b_Md_line 252 = .ok (.aload_n 0, 1) := by decide +kernel
theorem d_Md_line_253 : decode b_Md_line 253 = .ok (.bipush 32, 2) := by decide +kernel
theorem d_Md_line_255 : decode b_Md_line 255 = .ok (.invokevirtual 66, 3) := by decide +kernel
theorem d_Md_line_258 : decode b_Md_line 258 = .ok (.aload_n 0, 1) := by decide +kernel
theorem d_Md_line_259 : decode b_Md_line 259 = .ok (.aload_n 0, 1) := by decide +kernel
theorem d_Md_line_260 : decode b_Md_line 260 = .ok (.getfield 25, 3) := by decide +kernel
theorem d_Md_line_263 : decode b_Md_line 263 = .ok (.iconst 0, 1) := by decide +kernel
theorem d_Md_line_264 : decode b_Md_line 264 = .ok (.iaload, 1) := by decide +kernel
theorem d_Md_line_265 : decode b_Md_line 265 = .ok (.invokevirtual 134, 3) := by decide +kernel
theorem d_Md_line_268 : decode b_Md_line 268 = .ok (.aload_n 0, 1) := by decide +kernel
theorem d_Md_line_269 : decode b_Md_line 269 = .ok (.bipush 32, 2) := by decide +kernel
theorem d_Md_line_271 : decode b_Md_line 271 = .ok (.invokevirtual 66, 3) := by decide +kernel
theorem d_Md_line_274 : decode b_Md_line 274 = .ok (.aload_n 0, 1) := by decide +kernel
theorem d_Md_line_275 : decode b_Md_line 275 = .ok (.aload_n 0, 1) := by decide +kernel
theorem d_Md_line_276 : decode b_Md_line 276 = .ok (.getfield 25, 3) := by decide +kernel
theorem d_Md_line_279 : decode b_Md_line 279 = .ok (.iconst 1, 1) := by decide +kernel
theorem d_Md_line_280 : decode b_Md_line 280 = .ok (.iaload, 1) := by decide +kernel
theorem d_Md_line_281 : decode b_Md_line 281 = .ok (.invokevirtual 134, 3) := by decide +kernel
theorem d_Md_line_284 : decode b_Md_line 284 = .ok (.goto 52, 3) := by decide +kernel
theorem d_Md_line_287 : decode b_Md_line 287 = .ok (.aload_n 0, 1) := by decide +kernel
theorem d_Md_line_288 : decode b_Md_line 288 = .ok (.ldc2_w 187, 3) := by decide +kernel
theorem d_Md_line_291 : decode b_Md_line 291 = .ok (.invokevirtual 139, 3) := by decide +kernel
theorem d_Md_line_294 : decode b_Md_line 294 = .ok (.ifCond .eq 37, 3) := by decide +kernel
theorem d_Md_line_297 : decode b_Md_line 297 = .ok (.aload_n 0, 1) := by decide +kernel
theorem d_Md_line_298 : decode b_Md_line 298 = .ok (.invokevirtual 184, 3) := by decide +kernel
theorem d_Md_line_301 : decode b_Md_line 301 = .ok (.ifCond .ne 4, 3) := by decide +kernel
theorem d_Md_line_304 : decode b_Md_line 304 = .ok (.return_, 1) := by decide +kernel
theorem d_Md_line_305 : decode b_Md_line 305 = .ok (.aload_n 0, 1) := by decide +kernel
theorem d_Md_line_306 : decode b_Md_line 306 = .ok (.iconst 0, 1) := by decide +kernel
theorem d_Md_line_307 : decode b_Md_line 307 = .ok (.putfield 106, 3) := by decide +kernel
theorem d_Md_line_310 : decode b_Md_line 310 = .ok (.aload_n 0, 1) := by decide +kernel
theorem d_Md_line_311 : decode b_Md_line 311 = .ok (.getfield 25, 3) := by decide +kernel
theorem d_Md_line_314 : decode b_Md_line 314 = .ok (.iconst 0, 1) := by decide +kernel
theorem d_Md_line_315 : decode b_Md_line 315 = .ok (.iconst 0, 1) := by decide +kernel
theorem d_Md_line_316 : decode b_Md_line 316 = .ok (.iastore, 1) := by decide +kernel
theorem d_Md_line_317 : decode b_Md_line 317 = .ok (.aload_n 0, 1) := by decide +kernel
theorem d_Md_line_318 : decode b_Md_line 318 = .ok (.getfield 25, 3) := by decide +kernel
theorem d_Md_line_321 : decode b_Md_line 321 = .ok (.iconst 1, 1) := by decide +kernel
theorem d_Md_line_322 : decode b_Md_line 322 = .ok (.iconst 0, 1) := by decide +kernel
theorem d_Md_line_323 : decode b_Md_line 323 = .ok (.iastore, 1) := by decide +kernel
theorem d_Md_line_324 : decode b_Md_line 324 = .ok (.aload_n 0, 1) := by decide +kernel
theorem d_Md_line_325 : decode b_Md_line 325 = .ok (.invokevirtual 189, 3) := by decide +kernel
theorem d_Md_line_328 : decode b_Md_line 328 = .ok (.goto 8, 3) := by decide +kernel
theorem d_Md_line_331 : decode b_Md_line 331 = .ok (.aload_n 0, 1) := by decide +kernel
theorem d_Md_line_332 : decode b_Md_line 332 = .ok (.invokevirtual 92, 3) := by decide +kernel
theorem d_Md_line_335 : decode b_Md_line 335 = .ok (.istore_n 1, 1) := by decide +kernel
theorem d_Md_line_336 : decode b_Md_line 336 = .ok (.return_, 1) := by decide +kernel
abbrev b_Md_is : ByteArray := prog_12_method_19_code
def y_Md_is : MethodName := ⟨"SpellDeskModel", "is", "(J)Z"⟩
set_option maxRecDepth 20000 in
theorem Y_Md_is : gh_Y y_Md_is b_Md_is 6 (some .boolean) 1 := ⟨gt_in (i := 1263) rfl rfl, gt_in (i := 14) (by decide +kernel) rfl, by decide +kernel, by decide +kernel, by decide +kernel⟩
theorem V_Md_is : Cond.instanceMethod y_Md_is ∈ gTbl ∧ Cond.selects y_Md_is.cls y_Md_is y_Md_is ∈ gTbl := ⟨(gt_in (i := 1262) (by decide +kernel) rfl), (gt_sel (n := 26) (i := 28) (by decide +kernel))⟩
theorem d_Md_is_0 : decode b_Md_is 0 = .ok (.lconst 0, 1) := by decide +kernel
theorem d_Md_is_1 : decode b_Md_is 1 = .ok (.lstore_n 3, 1) := by decide +kernel
theorem d_Md_is_2 : decode b_Md_is 2 = .ok (.aload_n 0, 1) := by decide +kernel
theorem d_Md_is_3 : decode b_Md_is 3 = .ok (.getfield 79, 3) := by decide +kernel
theorem d_Md_is_6 : decode b_Md_is 6 = .ok (.iconst 1, 1) := by decide +kernel
theorem d_Md_is_7 : decode b_Md_is 7 = .ok (.isub, 1) := by decide +kernel
theorem d_Md_is_8 : decode b_Md_is 8 = .ok (.istore 5, 2) := by decide +kernel
theorem d_Md_is_10 : decode b_Md_is 10 = .ok (.iload 5, 2) := by decide +kernel
theorem d_Md_is_12 : decode b_Md_is 12 = .ok (.aload_n 0, 1) := by decide +kernel
theorem d_Md_is_13 : decode b_Md_is 13 = .ok (.getfield 76, 3) := by decide +kernel
theorem d_Md_is_16 : decode b_Md_is 16 = .ok (.if_icmp .lt 23, 3) := by decide +kernel
theorem d_Md_is_19 : decode b_Md_is 19 = .ok (.lload_n 3, 1) := by decide +kernel
theorem d_Md_is_20 : decode b_Md_is 20 = .ok (.bipush 8, 2) := by decide +kernel
theorem d_Md_is_22 : decode b_Md_is 22 = .ok (.lshl, 1) := by decide +kernel
theorem d_Md_is_23 : decode b_Md_is 23 = .ok (.aload_n 0, 1) := by decide +kernel
theorem d_Md_is_24 : decode b_Md_is 24 = .ok (.getfield 7, 3) := by decide +kernel
theorem d_Md_is_27 : decode b_Md_is 27 = .ok (.iload 5, 2) := by decide +kernel
theorem d_Md_is_29 : decode b_Md_is 29 = .ok (.iaload, 1) := by decide +kernel
theorem d_Md_is_30 : decode b_Md_is 30 = .ok (.i2l, 1) := by decide +kernel
theorem d_Md_is_31 : decode b_Md_is 31 = .ok (.lor, 1) := by decide +kernel
theorem d_Md_is_32 : decode b_Md_is 32 = .ok (.lstore_n 3, 1) := by decide +kernel
theorem d_Md_is_33 : decode b_Md_is 33 = .ok (.iinc 5 (-1), 3) := by decide +kernel
theorem d_Md_is_36 : decode b_Md_is 36 = .ok (.goto (-26), 3) := by decide +kernel
theorem d_Md_is_39 : decode b_Md_is 39 = .ok (.aload_n 0, 1) := by decide +kernel
theorem d_Md_is_40 : decode b_Md_is 40 = .ok (.getfield 79, 3) := by decide +kernel
theorem d_Md_is_43 : decode b_Md_is 43 = .ok (.aload_n 0, 1) := by decide +kernel
theorem d_Md_is_44 : decode b_Md_is 44 = .ok (.getfield 76, 3) := by decide +kernel
theorem d_Md_is_47 : decode b_Md_is 47 = .ok (.isub, 1) := by decide +kernel
theorem d_Md_is_48 : decode b_Md_is 48 = .ok (.bipush 8, 2) := by decide +kernel
theorem d_Md_is_50 : decode b_Md_is 50 = .ok (.if_icmp .gt 13, 3) := by decide +kernel
theorem d_Md_is_53 : decode b_Md_is 53 = .ok (.lload_n 3, 1) := by decide +kernel
theorem d_Md_is_54 : decode b_Md_is 54 = .ok (.lload_n 1, 1) := by decide +kernel
theorem d_Md_is_55 : decode b_Md_is 55 = .ok (.lcmp, 1) := by decide +kernel
theorem d_Md_is_56 : decode b_Md_is 56 = .ok (.ifCond .ne 7, 3) := by decide +kernel
theorem d_Md_is_59 : decode b_Md_is 59 = .ok (.iconst 1, 1) := by decide +kernel
theorem d_Md_is_60 : decode b_Md_is 60 = .ok (.goto 4, 3) := by decide +kernel
theorem d_Md_is_63 : decode b_Md_is 63 = .ok (.iconst 0, 1) := by decide +kernel
theorem d_Md_is_64 : decode b_Md_is 64 = .ok (.ireturn, 1) := by decide +kernel
abbrev b_Md_add : ByteArray := prog_12_method_30_code
def y_Md_add : MethodName := ⟨"SpellDeskModel", "add", "()V"⟩
set_option maxRecDepth 20000 in
theorem Y_Md_add : gh_Y y_Md_add b_Md_add 7 none 0 := ⟨gt_in (i := 1267) rfl rfl, gt_in (i := 14) (by decide +kernel) rfl, by decide +kernel, by decide +kernel, by decide +kernel⟩
theorem V_Md_add : Cond.instanceMethod y_Md_add ∈ gTbl ∧ Cond.selects y_Md_add.cls y_Md_add y_Md_add ∈ gTbl := ⟨(gt_in (i := 1266) (by decide +kernel) rfl), (gt_sel (n := 26) (i := 29) (by decide +kernel))⟩
theorem d_Md_add_0 : decode b_Md_add 0 = .ok (.aload_n 0, 1) := by decide +kernel
theorem d_Md_add_1 : decode b_Md_add 1 = .ok (.invokevirtual 99, 3) := by decide +kernel
theorem d_Md_add_4 : decode b_Md_add 4 = .ok (.ifCond .ne 4, 3) := by decide +kernel
theorem d_Md_add_7 : decode b_Md_add 7 = .ok (.return_, 1) := by decide +kernel
theorem d_Md_add_8 : decode b_Md_add 8 = .ok (.aload_n 0, 1) := by decide +kernel
theorem d_Md_add_9 : decode b_Md_add 9 = .ok (.getfield 76, 3) := by decide +kernel
theorem d_Md_add_12 : decode b_Md_add 12 = .ok (.istore_n 1, 1) := by decide +kernel
theorem d_Md_add_13 : decode b_Md_add 13 = .ok (.aload_n 0, 1) := by decide +kernel
theorem d_Md_add_14 : decode b_Md_add 14 = .ok (.getfield 76, 3) := by decide +kernel
theorem d_Md_add_17 : decode b_Md_add 17 = .ok (.istore_n 2, 1) := by decide +kernel
theorem d_Md_add_18 : decode b_Md_add 18 = .ok (.iload_n 2, 1) := by decide +kernel
theorem d_Md_add_19 : decode b_Md_add 19 = .ok (.aload_n 0, 1) := by decide +kernel
theorem d_Md_add_20 : decode b_Md_add 20 = .ok (.getfield 79, 3) := by decide +kernel
theorem d_Md_add_23 : decode b_Md_add 23 = .ok (.if_icmp .ge 20, 3) := by decide +kernel
theorem d_Md_add_26 : decode b_Md_add 26 = .ok (.aload_n 0, 1) := by decide +kernel
theorem d_Md_add_27 : decode b_Md_add 27 = .ok (.getfield 7, 3) := by decide +kernel
theorem d_Md_add_30 : decode b_Md_add 30 = .ok (.iload_n 2, 1) := by decide +kernel
theorem d_Md_add_31 : decode b_Md_add 31 = .ok (.iaload, 1) := by decide +kernel
theorem d_Md_add_32 : decode b_Md_add 32 = .ok (.bipush 47, 2) := by decide +kernel
theorem d_Md_add_34 : decode b_Md_add 34 = .ok (.if_icmp .eq 9, 3) := by decide +kernel
theorem d_Md_add_37 : decode b_Md_add 37 = .ok (.iinc 2 1, 3) := by decide +kernel
theorem d_Md_add_40 : decode b_Md_add 40 = .ok (.goto (-22), 3) := by decide +kernel
theorem d_Md_add_43 : decode b_Md_add 43 = .ok (.aload_n 0, 1) := by decide +kernel
theorem d_Md_add_44 : decode b_Md_add 44 = .ok (.iload_n 1, 1) := by decide +kernel
theorem d_Md_add_45 : decode b_Md_add 45 = .ok (.iload_n 2, 1) := by decide +kernel
theorem d_Md_add_46 : decode b_Md_add 46 = .ok (.bipush 16, 2) := by decide +kernel
theorem d_Md_add_48 : decode b_Md_add 48 = .ok (.iconst 0, 1) := by decide +kernel
theorem d_Md_add_49 : decode b_Md_add 49 = .ok (.invokevirtual 102, 3) := by decide +kernel
theorem d_Md_add_52 : decode b_Md_add 52 = .ok (.istore_n 3, 1) := by decide +kernel
theorem d_Md_add_53 : decode b_Md_add 53 = .ok (.iconst 0, 1) := by decide +kernel
theorem d_Md_add_54 : decode b_Md_add 54 = .ok (.istore 4, 2) := by decide +kernel
theorem d_Md_add_56 : decode b_Md_add 56 = .ok (.iload_n 2, 1) := by decide +kernel
theorem d_Md_add_57 : decode b_Md_add 57 = .ok (.aload_n 0, 1) := by decide +kernel
theorem d_Md_add_58 : decode b_Md_add 58 = .ok (.getfield 79, 3) := by decide +kernel
theorem d_Md_add_61 : decode b_Md_add 61 = .ok (.if_icmp .ge 110, 3) := by decide +kernel
theorem d_Md_add_64 : decode b_Md_add 64 = .ok (.iload_n 3, 1) := by decide +kernel
theorem d_Md_add_65 : decode b_Md_add 65 = .ok (.ifCond .eq 17, 3) := by decide +kernel
theorem d_Md_add_68 : decode b_Md_add 68 = .ok (.aload_n 0, 1) := by decide +kernel
theorem d_Md_add_69 : decode b_Md_add 69 = .ok (.getfield 79, 3) := by decide +kernel
theorem d_Md_add_72 : decode b_Md_add 72 = .ok (.iload_n 2, 1) := by decide +kernel
theorem d_Md_add_73 : decode b_Md_add 73 = .ok (.isub, 1) := by decide +kernel
theorem d_Md_add_74 : decode b_Md_add 74 = .ok (.iconst 1, 1) := by decide +kernel
theorem d_Md_add_75 : decode b_Md_add 75 = .ok (.if_icmp .le 7, 3) := by decide +kernel
theorem d_Md_add_78 : decode b_Md_add 78 = .ok (.iconst 1, 1) := by decide +kernel
theorem d_Md_add_79 : decode b_Md_add 79 = .ok (.goto 4, 3) := by decide +kernel
theorem d_Md_add_82 : decode b_Md_add 82 = .ok (.iconst 0, 1) := by decide +kernel
theorem d_Md_add_83 : decode b_Md_add 83 = .ok (.istore_n 3, 1) := by decide +kernel
theorem d_Md_add_84 : decode b_Md_add 84 = .ok (.iload_n 2, 1) := by decide +kernel
theorem d_Md_add_85 : decode b_Md_add 85 = .ok (.iconst 1, 1) := by decide +kernel
theorem d_Md_add_86 : decode b_Md_add 86 = .ok (.iadd, 1) := by decide +kernel
theorem d_Md_add_87 : decode b_Md_add 87 = .ok (.istore 5, 2) := by decide +kernel
theorem d_Md_add_89 : decode b_Md_add 89 = .ok (.iload 5, 2) := by decide +kernel
theorem d_Md_add_91 : decode b_Md_add 91 = .ok (.aload_n 0, 1) := by decide +kernel
theorem d_Md_add_92 : decode b_Md_add 92 = .ok (.getfield 79, 3) := by decide +kernel
theorem d_Md_add_95 : decode b_Md_add 95 = .ok (.if_icmp .ge 76, 3) := by decide +kernel
theorem d_Md_add_98 : decode b_Md_add 98 = .ok (.iload_n 3, 1) := by decide +kernel
theorem d_Md_add_99 : decode b_Md_add 99 = .ok (.ifCond .eq 38, 3) := by decide +kernel
theorem d_Md_add_102 : decode b_Md_add 102 = .ok (.aload_n 0, 1) := by decide +kernel
theorem d_Md_add_103 : decode b_Md_add 103 = .ok (.getfield 7, 3) := by decide +kernel
theorem d_Md_add_106 : decode b_Md_add 106 = .ok (.iload 5, 2) := by decide +kernel
theorem d_Md_add_108 : decode b_Md_add 108 = .ok (.iaload, 1) := by decide +kernel
theorem d_Md_add_109 : decode b_Md_add 109 = .ok (.invokestatic 192, 3) := by decide +kernel
theorem d_Md_add_112 : decode b_Md_add 112 = .ok (.ifCond .eq 25, 3) := by decide +kernel
theorem d_Md_add_115 : decode b_Md_add 115 = .ok (.iload 4, 2) := by decide +kernel
theorem d_Md_add_117 : decode b_Md_add 117 = .ok (.aload_n 0, 1) := by decide +kernel
theorem d_Md_add_118 : decode b_Md_add 118 = .ok (.getfield 7, 3) := by decide +kernel
theorem d_Md_add_121 : decode b_Md_add 121 = .ok (.iload 5, 2) := by decide +kernel
theorem d_Md_add_123 : decode b_Md_add 123 = .ok (.iaload, 1) := by decide +kernel
theorem d_Md_add_124 : decode b_Md_add 124 = .ok (.bipush 65, 2) := by decide +kernel
theorem d_Md_add_126 : decode b_Md_add 126 = .ok (.isub, 1) := by decide +kernel
theorem d_Md_add_127 : decode b_Md_add 127 = .ok (.ishr, 1) := by decide +kernel
theorem d_Md_add_128 : decode b_Md_add 128 = .ok (.iconst 1, 1) := by decide +kernel
theorem d_Md_add_129 : decode b_Md_add 129 = .ok (.iand, 1) := by decide +kernel
theorem d_Md_add_130 : decode b_Md_add 130 = .ok (.ifCond .ne 7, 3) := by decide +kernel
theorem d_Md_add_133 : decode b_Md_add 133 = .ok (.iconst 1, 1) := by decide +kernel
theorem d_Md_add_134 : decode b_Md_add 134 = .ok (.goto 4, 3) := by decide +kernel
theorem d_Md_add_137 : decode b_Md_add 137 = .ok (.iconst 0, 1) := by decide +kernel
theorem d_Md_add_138 : decode b_Md_add 138 = .ok (.istore_n 3, 1) := by decide +kernel
theorem d_Md_add_139 : decode b_Md_add 139 = .ok (.iload_n 3, 1) := by decide +kernel
theorem d_Md_add_140 : decode b_Md_add 140 = .ok (.ifCond .eq 21, 3) := by decide +kernel
theorem d_Md_add_143 : decode b_Md_add 143 = .ok (.iload 4, 2) := by decide +kernel
theorem d_Md_add_145 : decode b_Md_add 145 = .ok (.iconst 1, 1) := by decide +kernel
theorem d_Md_add_146 : decode b_Md_add 146 = .ok (.aload_n 0, 1) := by decide +kernel
theorem d_Md_add_147 : decode b_Md_add 147 = .ok (.getfield 7, 3) := by decide +kernel
theorem d_Md_add_150 : decode b_Md_add 150 = .ok (.iload 5, 2) := by decide +kernel
theorem d_Md_add_152 : decode b_Md_add 152 = .ok (.iaload, 1) := by decide +kernel
theorem d_Md_add_153 : decode b_Md_add 153 = .ok (.bipush 65, 2) := by decide +kernel
theorem d_Md_add_155 : decode b_Md_add 155 = .ok (.isub, 1) := by decide +kernel
theorem d_Md_add_156 : decode b_Md_add 156 = .ok (.ishl, 1) := by decide +kernel
theorem d_Md_add_157 : decode b_Md_add 157 = .ok (.ior, 1) := by decide +kernel
theorem d_Md_add_158 : decode b_Md_add 158 = .ok (.goto 5, 3) := by decide +kernel
theorem d_Md_add_161 : decode b_Md_add 161 = .ok (.iload 4, 2) := by decide +kernel
theorem d_Md_add_163 : decode b_Md_add 163 = .ok (.istore 4, 2) := by decide +kernel
theorem d_Md_add_165 : decode b_Md_add 165 = .ok (.iinc 5 1, 3) := by decide +kernel
theorem d_Md_add_168 : decode b_Md_add 168 = .ok (.goto (-79), 3) := by decide +kernel
theorem d_Md_add_171 : decode b_Md_add 171 = .ok (.iload_n 3, 1) := by decide +kernel
theorem d_Md_add_172 : decode b_Md_add 172 = .ok (.ifCond .ne 10, 3) := by decide +kernel
theorem d_Md_add_175 : decode b_Md_add 175 = .ok (.aload_n 0, 1) := by decide +kernel
theorem d_Md_add_176 : decode b_Md_add 176 = .ok (.invokevirtual 92, 3) := by decide +kernel
theorem d_Md_add_179 : decode b_Md_add 179 = .ok (.istore 5, 2) := by decide +kernel
theorem d_Md_add_181 : decode b_Md_add 181 = .ok (.return_, 1) := by decide +kernel
theorem d_Md_add_182 : decode b_Md_add 182 = .ok (.aload_n 0, 1) := by decide +kernel
theorem d_Md_add_183 : decode b_Md_add 183 = .ok (.invokevirtual 184, 3) := by decide +kernel
theorem d_Md_add_186 : decode b_Md_add 186 = .ok (.ifCond .ne 4, 3) := by decide +kernel
theorem d_Md_add_189 : decode b_Md_add 189 = .ok (.return_, 1) := by decide +kernel
theorem d_Md_add_190 : decode b_Md_add 190 = .ok (.aload_n 0, 1) := by decide +kernel
theorem d_Md_add_191 : decode b_Md_add 191 = .ok (.aload_n 0, 1) := by decide +kernel
theorem d_Md_add_192 : decode b_Md_add 192 = .ok (.getfield 7, 3) := by decide +kernel
theorem d_Md_add_195 : decode b_Md_add 195 = .ok (.iload_n 1, 1) := by decide +kernel
theorem d_Md_add_196 : decode b_Md_add 196 = .ok (.iload_n 2, 1) := by decide +kernel
theorem d_Md_add_197 : decode b_Md_add 197 = .ok (.iload_n 1, 1) := by decide +kernel
theorem d_Md_add_198 : decode b_Md_add 198 = .ok (.isub, 1) := by decide +kernel
theorem d_Md_add_199 : decode b_Md_add 199 = .ok (.invokevirtual 195, 3) := by decide +kernel
theorem d_Md_add_202 : decode b_Md_add 202 = .ok (.istore 5, 2) := by decide +kernel
theorem d_Md_add_204 : decode b_Md_add 204 = .ok (.iload 5, 2) := by decide +kernel
theorem d_Md_add_206 : decode b_Md_add 206 = .ok (.iconst (-1), 1) := by decide +kernel
theorem d_Md_add_207 : decode b_Md_add 207 = .ok (.if_icmp .eq 45, 3) := by decide +kernel
theorem d_Md_add_210 : decode b_Md_add 210 = .ok (.aload_n 0, 1) := by decide +kernel
theorem d_Md_add_211 : decode b_Md_add 211 = .ok (.getfield 19, 3) := by decide +kernel
theorem d_Md_add_214 : decode b_Md_add 214 = .ok (.iload 5, 2) := by decide +kernel
theorem d_Md_add_216 : decode b_Md_add 216 = .ok (.iload 4, 2) := by decide +kernel
theorem d_Md_add_218 : decode b_Md_add 218 = .ok (.iastore, 1) := by decide +kernel
theorem d_Md_add_219 : decode b_Md_add 219 = .ok (.aload_n 0, 1) := by decide +kernel
theorem d_Md_add_220 : decode b_Md_add 220 = .ok (.bipush 97, 2) := by decide +kernel
theorem d_Md_add_222 : decode b_Md_add 222 = .ok (.invokevirtual 66, 3) := by decide +kernel
theorem d_Md_add_225 : decode b_Md_add 225 = .ok (.aload_n 0, 1) := by decide +kernel
theorem d_Md_add_226 : decode b_Md_add 226 = .ok (.bipush 103, 2) := by decide +kernel
theorem d_Md_add_228 : decode b_Md_add 228 = .ok (.invokevirtual 66, 3) := by decide +kernel
theorem d_Md_add_231 : decode b_Md_add 231 = .ok (.aload_n 0, 1) := by decide +kernel
theorem d_Md_add_232 : decode b_Md_add 232 = .ok (.bipush 97, 2) := by decide +kernel
theorem d_Md_add_234 : decode b_Md_add 234 = .ok (.invokevirtual 66, 3) := by decide +kernel
theorem d_Md_add_237 : decode b_Md_add 237 = .ok (.aload_n 0, 1) := by decide +kernel
theorem d_Md_add_238 : decode b_Md_add 238 = .ok (.bipush 105, 2) := by decide +kernel
theorem d_Md_add_240 : decode b_Md_add 240 = .ok (.invokevirtual 66, 3) := by decide +kernel
theorem d_Md_add_243 : decode b_Md_add 243 = .ok (.aload_n 0, 1) := by decide +kernel
theorem d_Md_add_244 : decode b_Md_add 244 = .ok (.bipush 110, 2) := by decide +kernel
theorem d_Md_add_246 : decode b_Md_add 246 = .ok (.invokevirtual 66, 3) := by decide +kernel
theorem d_Md_add_249 : decode b_Md_add 249 = .ok (.goto 98, 3) := by decide +kernel
theorem d_Md_add_252 : decode b_Md_add 252 = .ok (.aload_n 0, 1) := by decide +kernel
theorem d_Md_add_253 : decode b_Md_add 253 = .ok (.getfield 106, 3) := by decide +kernel
theorem d_Md_add_256 : decode b_Md_add 256 = .ok (.sipush 300, 3) := by decide +kernel
theorem d_Md_add_259 : decode b_Md_add 259 = .ok (.if_icmp .ne 10, 3) := by decide +kernel
theorem d_Md_add_262 : decode b_Md_add 262 = .ok (.aload_n 0, 1) := by decide +kernel
theorem d_Md_add_263 : decode b_Md_add 263 = .ok (.invokevirtual 199, 3) := by decide +kernel
theorem d_Md_add_266 : decode b_Md_add 266 = .ok (.goto 81, 3) := by decide +kernel
theorem d_Md_add_269 : decode b_Md_add 269 = .ok (.aload_n 0, 1) := by decide +kernel
theorem d_Md_add_270 : decode b_Md_add 270 = .ok (.getfield 16, 3) := by decide +kernel
theorem d_Md_add_273 : decode b_Md_add 273 = .ok (.aload_n 0, 1) := by decide +kernel
theorem d_Md_add_274 : decode b_Md_add 274 = .ok (.getfield 106, 3) := by decide +kernel
theorem d_Md_add_277 : decode b_Md_add 277 = .ok (.iload_n 2, 1) := by decide +kernel
theorem d_Md_add_278 : decode b_Md_add 278 = .ok (.iload_n 1, 1) := by decide +kernel
theorem d_Md_add_279 : decode b_Md_add 279 = .ok (.isub, 1) := by decide +kernel
theorem d_Md_add_280 : decode b_Md_add 280 = .ok (.iastore, 1) := by decide +kernel
theorem d_Md_add_281 : decode b_Md_add 281 = .ok (.aload_n 0, 1) := by decide +kernel
theorem d_Md_add_282 : decode b_Md_add 282 = .ok (.getfield 19, 3) := by decide +kernel
theorem d_Md_add_285 : decode b_Md_add 285 = .ok (.aload_n 0, 1) := by decide +kernel
theorem d_Md_add_286 : decode b_Md_add 286 = .ok (.getfield 106, 3) := by decide +kernel
theorem d_Md_add_289 : decode b_Md_add 289 = .ok (.iload 4, 2) := by decide +kernel
theorem d_Md_add_291 : decode b_Md_add 291 = .ok (.iastore, 1) := by decide +kernel
theorem d_Md_add_292 : decode b_Md_add 292 = .ok (.iconst 0, 1) := by decide +kernel
theorem d_Md_add_293 : decode b_Md_add 293 = .ok (.istore 6, 2) := by decide +kernel
theorem d_Md_add_295 : decode b_Md_add 295 = .ok (.iload 6, 2) := by decide +kernel
theorem d_Md_add_297 : decode b_Md_add 297 = .ok (.iload_n 2, 1) := by decide +kernel
theorem d_Md_add_298 : decode b_Md_add 298 = .ok (.iload_n 1, 1) := by decide +kernel
theorem d_Md_add_299 : decode b_Md_add 299 = .ok (.isub, 1) := by decide +kernel
theorem d_Md_add_300 : decode b_Md_add 300 = .ok (.if_icmp .ge 33, 3) := by decide +kernel
theorem d_Md_add_303 : decode b_Md_add 303 = .ok (.aload_n 0, 1) := by decide +kernel
theorem d_Md_add_304 : decode b_Md_add 304 = .ok (.getfield 22, 3) := by decide +kernel
theorem d_Md_add_307 : decode b_Md_add 307 = .ok (.bipush 16, 2) := by decide +kernel
theorem d_Md_add_309 : decode b_Md_add 309 = .ok (.aload_n 0, 1) := by decide +kernel
theorem d_Md_add_310 : decode b_Md_add 310 = .ok (.getfield 106, 3) := by decide +kernel
theorem d_Md_add_313 : decode b_Md_add 313 = .ok (.imul, 1) := by decide +kernel
theorem d_Md_add_314 : decode b_Md_add 314 = .ok (.iload 6, 2) := by decide +kernel
theorem d_Md_add_316 : decode b_Md_add 316 = .ok (.iadd, 1) := by decide +kernel
theorem d_Md_add_317 : decode b_Md_add 317 = .ok (.aload_n 0, 1) := by decide +kernel
theorem d_Md_add_318 : decode b_Md_add 318 = .ok (.getfield 7, 3) := by decide +kernel
theorem d_Md_add_321 : decode b_Md_add 321 = .ok (.iload_n 1, 1) := by decide +kernel
theorem d_Md_add_322 : decode b_Md_add 322 = .ok (.iload 6, 2) := by decide +kernel
theorem d_Md_add_324 : decode b_Md_add 324 = .ok (.iadd, 1) := by decide +kernel
theorem d_Md_add_325 : decode b_Md_add 325 = .ok (.iaload, 1) := by decide +kernel
theorem d_Md_add_326 : decode b_Md_add 326 = .ok (.iastore, 1) := by decide +kernel
theorem d_Md_add_327 : decode b_Md_add 327 = .ok (.iinc 6 1, 3) := by decide +kernel
theorem d_Md_add_330 : decode b_Md_add 330 = .ok (.goto (-35), 3) := by decide +kernel
theorem d_Md_add_333 : decode b_Md_add 333 = .ok (.aload_n 0, 1) := by decide +kernel
theorem d_Md_add_334 : decode b_Md_add 334 = .ok (.dup, 1) := by decide +kernel
theorem d_Md_add_335 : decode b_Md_add 335 = .ok (.getfield 106, 3) := by decide +kernel
theorem d_Md_add_338 : decode b_Md_add 338 = .ok (.iconst 1, 1) := by decide +kernel
theorem d_Md_add_339 : decode b_Md_add 339 = .ok (.iadd, 1) := by decide +kernel
theorem d_Md_add_340 : decode b_Md_add 340 = .ok (.putfield 106, 3) := by decide +kernel
theorem d_Md_add_343 : decode b_Md_add 343 = .ok (.aload_n 0, 1) := by decide +kernel
theorem d_Md_add_344 : decode b_Md_add 344 = .ok (.invokevirtual 189, 3) := by decide +kernel
theorem d_Md_add_347 : decode b_Md_add 347 = .ok (.return_, 1) := by decide +kernel
abbrev b_Md_must : ByteArray := prog_12_method_12_code
def y_Md_must : MethodName := ⟨"SpellDeskModel", "must", "()Z"⟩
set_option maxRecDepth 20000 in
theorem Y_Md_must : gh_Y y_Md_must b_Md_must 2 (some .boolean) 0 := ⟨gt_in (i := 1271) rfl rfl, gt_in (i := 14) (by decide +kernel) rfl, by decide +kernel, by decide +kernel, by decide +kernel⟩
theorem V_Md_must : Cond.instanceMethod y_Md_must ∈ gTbl ∧ Cond.selects y_Md_must.cls y_Md_must y_Md_must ∈ gTbl := ⟨(gt_in (i := 1270) (by decide +kernel) rfl), (gt_sel (n := 26) (i := 30) (by decide +kernel))⟩
theorem d_Md_must_0 : decode b_Md_must 0 = .ok (.aload_n 0, 1) := by decide +kernel
theorem d_Md_must_1 : decode b_Md_must 1 = .ok (.invokevirtual 82, 3) := by decide +kernel
theorem d_Md_must_4 : decode b_Md_must 4 = .ok (.istore_n 1, 1) := by decide +kernel
theorem d_Md_must_5 : decode b_Md_must 5 = .ok (.iload_n 1, 1) := by decide +kernel
theorem d_Md_must_6 : decode b_Md_must 6 = .ok (.ifCond .ne 18, 3) := by decide +kernel
theorem d_Md_must_9 : decode b_Md_must 9 = .ok (.aload_n 0, 1) := by decide +kernel
theorem d_Md_must_10 : decode b_Md_must 10 = .ok (.aload_n 0, 1) := by decide +kernel
theorem d_Md_must_11 : decode b_Md_must 11 = .ok (.getfield 73, 3) := by decide +kernel
theorem d_Md_must_14 : decode b_Md_must 14 = .ok (.aload_n 0, 1) := by decide +kernel
theorem d_Md_must_15 : decode b_Md_must 15 = .ok (.getfield 86, 3) := by decide +kernel
theorem d_Md_must_18 : decode b_Md_must 18 = .ok (.isub, 1) := by decide +kernel
theorem d_Md_must_19 : decode b_Md_must 19 = .ok (.iconst 1, 1) := by decide +kernel
theorem d_Md_must_20 : decode b_Md_must 20 = .ok (.iadd, 1) := by decide +kernel
theorem d_Md_must_21 : decode b_Md_must 21 = .ok (.putfield 89, 3) := by decide +kernel
theorem d_Md_must_24 : decode b_Md_must 24 = .ok (.iload_n 1, 1) := by decide +kernel
theorem d_Md_must_25 : decode b_Md_must 25 = .ok (.ireturn, 1) := by decide +kernel
abbrev b_Md_areLetters : ByteArray := prog_12_method_17_code
def y_Md_areLetters : MethodName := ⟨"SpellDeskModel", "areLetters", "(IIIZ)Z"⟩
set_option maxRecDepth 20000 in
theorem Y_Md_areLetters : gh_Y y_Md_areLetters b_Md_areLetters 7 (some .boolean) 4 := ⟨gt_in (i := 1275) rfl rfl, gt_in (i := 14) (by decide +kernel) rfl, by decide +kernel, by decide +kernel, by decide +kernel⟩
theorem V_Md_areLetters : Cond.instanceMethod y_Md_areLetters ∈ gTbl ∧ Cond.selects y_Md_areLetters.cls y_Md_areLetters y_Md_areLetters ∈ gTbl := ⟨(gt_in (i := 1274) (by decide +kernel) rfl), (gt_sel (n := 26) (i := 31) (by decide +kernel))⟩
theorem d_Md_areLetters_0 : decode b_Md_areLetters 0 = .ok (.iload_n 2, 1) := by decide +kernel
theorem d_Md_areLetters_1 : decode b_Md_areLetters 1 = .ok (.iload_n 1, 1) := by decide +kernel
theorem d_Md_areLetters_2 : decode b_Md_areLetters 2 = .ok (.if_icmp .le 14, 3) := by decide +kernel
theorem d_Md_areLetters_5 : decode b_Md_areLetters 5 = .ok (.iload_n 2, 1) := by decide +kernel
theorem d_Md_areLetters_6 : decode b_Md_areLetters 6 = .ok (.iload_n 1, 1) := by decide +kernel
theorem d_Md_areLetters_7 : decode b_Md_areLetters 7 = .ok (.isub, 1) := by decide +kernel
theorem d_Md_areLetters_8 : decode b_Md_areLetters 8 = .ok (.iload_n 3, 1) := by decide +kernel
theorem d_Md_areLetters_9 : decode b_Md_areLetters 9 = .ok (.if_icmp .gt 7, 3) := by decide +kernel
theorem d_Md_areLetters_12 : decode b_Md_areLetters 12 = .ok (.iconst 1, 1) := by decide +kernel
theorem d_Md_areLetters_13 : decode b_Md_areLetters 13 = .ok (.goto 4, 3) := by decide +kernel
theorem d_Md_areLetters_16 : decode b_Md_areLetters 16 = .ok (.iconst 0, 1) := by decide +kernel
theorem d_Md_areLetters_17 : decode b_Md_areLetters 17 = .ok (.istore 5, 2) := by decide +kernel
theorem d_Md_areLetters_19 : decode b_Md_areLetters 19 = .ok (.iload_n 1, 1) := by decide +kernel
theorem d_Md_areLetters_20 : decode b_Md_areLetters 20 = .ok (.istore 6, 2) := by decide +kernel
theorem d_Md_areLetters_22 : decode b_Md_areLetters 22 = .ok (.iload 6, 2) := by decide +kernel
theorem d_Md_areLetters_24 : decode b_Md_areLetters 24 = .ok (.iload_n 2, 1) := by decide +kernel
theorem d_Md_areLetters_25 : decode b_Md_areLetters 25 = .ok (.if_icmp .ge 51, 3) := by decide +kernel
theorem d_Md_areLetters_28 : decode b_Md_areLetters 28 = .ok (.iload 5, 2) := by decide +kernel
theorem d_Md_areLetters_30 : decode b_Md_areLetters 30 = .ok (.ifCond .eq 37, 3) := by decide +kernel
theorem d_Md_areLetters_33 : decode b_Md_areLetters 33 = .ok (.aload_n 0, 1) := by decide +kernel
theorem d_Md_areLetters_34 : decode b_Md_areLetters 34 = .ok (.getfield 7, 3) := by decide +kernel
theorem d_Md_areLetters_37 : decode b_Md_areLetters 37 = .ok (.iload 6, 2) := by decide +kernel
theorem d_Md_areLetters_39 : decode b_Md_areLetters 39 = .ok (.iaload, 1) := by decide +kernel
theorem d_Md_areLetters_40 : decode b_Md_areLetters 40 = .ok (.invokestatic 95, 3) := by decide +kernel
theorem d_Md_areLetters_43 : decode b_Md_areLetters 43 = .ok (.ifCond .ne 20, 3) := by decide +kernel
theorem d_Md_areLetters_46 : decode b_Md_areLetters 46 = .ok (.iload 4, 2) := by decide +kernel
theorem d_Md_areLetters_48 : decode b_Md_areLetters 48 = .ok (.ifCond .eq 19, 3) := by decide +kernel
theorem d_Md_areLetters_51 : decode b_Md_areLetters 51 = .ok (.aload_n 0, 1) := by decide +kernel
theorem d_Md_areLetters_52 : decode b_Md_areLetters 52 = .ok (.getfield 7, 3) := by decide +kernel
theorem d_Md_areLetters_55 : decode b_Md_areLetters 55 = .ok (.iload 6, 2) := by decide +kernel
theorem d_Md_areLetters_57 : decode b_Md_areLetters 57 = .ok (.iaload, 1) := by decide +kernel
theorem d_Md_areLetters_58 : decode b_Md_areLetters 58 = .ok (.bipush 46, 2) := by decide +kernel
theorem d_Md_areLetters_60 : decode b_Md_areLetters 60 = .ok (.if_icmp .ne 7, 3) := by decide +kernel
theorem d_Md_areLetters_63 : decode b_Md_areLetters 63 = .ok (.iconst 1, 1) := by decide +kernel
theorem d_Md_areLetters_64 : decode b_Md_areLetters 64 = .ok (.goto 4, 3) := by decide +kernel
theorem d_Md_areLetters_67 : decode b_Md_areLetters 67 = .ok (.iconst 0, 1) := by decide +kernel
theorem d_Md_areLetters_68 : decode b_Md_areLetters 68 = .ok (.istore 5, 2) := by decide +kernel
theorem d_Md_areLetters_70 : decode b_Md_areLetters 70 = .ok (.iinc 6 1, 3) := by decide +kernel
theorem d_Md_areLetters_73 : decode b_Md_areLetters 73 = .ok (.goto (-51), 3) := by decide +kernel
theorem d_Md_areLetters_76 : decode b_Md_areLetters 76 = .ok (.iload 5, 2) := by decide +kernel
theorem d_Md_areLetters_78 : decode b_Md_areLetters 78 = .ok (.ireturn, 1) := by decide +kernel
abbrev b_Md_isLetter : ByteArray := prog_12_method_15_code
def y_Md_isLetter : MethodName := ⟨"SpellDeskModel", "isLetter", "(I)Z"⟩
set_option maxRecDepth 20000 in
theorem Y_Md_isLetter : gh_Y y_Md_isLetter b_Md_isLetter 1 (some .boolean) 1 := ⟨gt_in (i := 1278) rfl rfl, gt_in (i := 14) (by decide +kernel) rfl, by decide +kernel, by decide +kernel, by decide +kernel⟩
theorem V_Md_isLetter : Cond.static y_Md_isLetter ∈ gTbl := (gt_in (i := 1277) (by decide +kernel) rfl)
theorem d_Md_isLetter_0 : decode b_Md_isLetter 0 = .ok (.iload_n 0, 1) := by decide +kernel
theorem d_Md_isLetter_1 : decode b_Md_isLetter 1 = .ok (.bipush 97, 2) := by decide +kernel
theorem d_Md_isLetter_3 : decode b_Md_isLetter 3 = .ok (.if_icmp .lt 13, 3) := by decide +kernel
theorem d_Md_isLetter_6 : decode b_Md_isLetter 6 = .ok (.iload_n 0, 1) := by decide +kernel
theorem d_Md_isLetter_7 : decode b_Md_isLetter 7 = .ok (.bipush 122, 2) := by decide +kernel
theorem d_Md_isLetter_9 : decode b_Md_isLetter 9 = .ok (.if_icmp .gt 7, 3) := by decide +kernel
theorem d_Md_isLetter_12 : decode b_Md_isLetter 12 = .ok (.iconst 1, 1) := by decide +kernel
theorem d_Md_isLetter_13 : decode b_Md_isLetter 13 = .ok (.goto 4, 3) := by decide +kernel
theorem d_Md_isLetter_16 : decode b_Md_isLetter 16 = .ok (.iconst 0, 1) := by decide +kernel
theorem d_Md_isLetter_17 : decode b_Md_isLetter 17 = .ok (.ireturn, 1) := by decide +kernel
abbrev b_Md_isCapital : ByteArray := prog_12_method_16_code
def y_Md_isCapital : MethodName := ⟨"SpellDeskModel", "isCapital", "(I)Z"⟩
set_option maxRecDepth 20000 in
theorem Y_Md_isCapital : gh_Y y_Md_isCapital b_Md_isCapital 1 (some .boolean) 1 := ⟨gt_in (i := 1281) rfl rfl, gt_in (i := 14) (by decide +kernel) rfl, by decide +kernel, by decide +kernel, by decide +kernel⟩
theorem V_Md_isCapital : Cond.static y_Md_isCapital ∈ gTbl := (gt_in (i := 1280) (by decide +kernel) rfl)
theorem d_Md_isCapital_0 : decode b_Md_isCapital 0 = .ok (.iload_n 0, 1) := by decide +kernel
theorem d_Md_isCapital_1 : decode b_Md_isCapital 1 = .ok (.bipush 65, 2) := by decide +kernel
theorem d_Md_isCapital_3 : decode b_Md_isCapital 3 = .ok (.if_icmp .lt 13, 3) := by decide +kernel
theorem d_Md_isCapital_6 : decode b_Md_isCapital 6 = .ok (.iload_n 0, 1) := by decide +kernel
theorem d_Md_isCapital_7 : decode b_Md_isCapital 7 = .ok (.bipush 90, 2) := by decide +kernel
theorem d_Md_isCapital_9 : decode b_Md_isCapital 9 = .ok (.if_icmp .gt 7, 3) := by decide +kernel
theorem d_Md_isCapital_12 : decode b_Md_isCapital 12 = .ok (.iconst 1, 1) := by decide +kernel
theorem d_Md_isCapital_13 : decode b_Md_isCapital 13 = .ok (.goto 4, 3) := by decide +kernel
theorem d_Md_isCapital_16 : decode b_Md_isCapital 16 = .ok (.iconst 0, 1) := by decide +kernel
theorem d_Md_isCapital_17 : decode b_Md_isCapital 17 = .ok (.ireturn, 1) := by decide +kernel
abbrev b_Md_refuse : ByteArray := prog_12_method_13_code
def y_Md_refuse : MethodName := ⟨"SpellDeskModel", "refuse", "()Z"⟩
set_option maxRecDepth 20000 in
theorem Y_Md_refuse : gh_Y y_Md_refuse b_Md_refuse 1 (some .boolean) 0 := ⟨gt_in (i := 1285) rfl rfl, gt_in (i := 14) (by decide +kernel) rfl, by decide +kernel, by decide +kernel, by decide +kernel⟩
theorem V_Md_refuse : Cond.instanceMethod y_Md_refuse ∈ gTbl ∧ Cond.selects y_Md_refuse.cls y_Md_refuse y_Md_refuse ∈ gTbl := ⟨(gt_in (i := 1284) (by decide +kernel) rfl), (gt_sel (n := 26) (i := 32) (by decide +kernel))⟩
theorem d_Md_refuse_0 : decode b_Md_refuse 0 = .ok (.aload_n 0, 1) := by decide +kernel
theorem d_Md_refuse_1 : decode b_Md_refuse 1 = .ok (.aload_n 0, 1) := by decide +kernel
theorem d_Md_refuse_2 : decode b_Md_refuse 2 = .ok (.getfield 76, 3) := by decide +kernel
theorem d_Md_refuse_5 : decode b_Md_refuse 5 = .ok (.aload_n 0, 1) := by decide +kernel
theorem d_Md_refuse_6 : decode b_Md_refuse 6 = .ok (.getfield 86, 3) := by decide +kernel
theorem d_Md_refuse_9 : decode b_Md_refuse 9 = .ok (.isub, 1) := by decide +kernel
theorem d_Md_refuse_10 : decode b_Md_refuse 10 = .ok (.iconst 1, 1) := by decide +kernel
theorem d_Md_refuse_11 : decode b_Md_refuse 11 = .ok (.iadd, 1) := by decide +kernel
theorem d_Md_refuse_12 : decode b_Md_refuse 12 = .ok (.putfield 89, 3) := by decide +kernel
theorem d_Md_refuse_15 : decode b_Md_refuse 15 = .ok (.iconst 0, 1) := by decide +kernel
theorem d_Md_refuse_16 : decode b_Md_refuse 16 = .ok (.ireturn, 1) := by decide +kernel
abbrev b_Md_mustEnd : ByteArray := prog_12_method_14_code
def y_Md_mustEnd : MethodName := ⟨"SpellDeskModel", "mustEnd", "()Z"⟩
set_option maxRecDepth 20000 in
theorem Y_Md_mustEnd : gh_Y y_Md_mustEnd b_Md_mustEnd 1 (some .boolean) 0 := ⟨gt_in (i := 1289) rfl rfl, gt_in (i := 14) (by decide +kernel) rfl, by decide +kernel, by decide +kernel, by decide +kernel⟩
theorem V_Md_mustEnd : Cond.instanceMethod y_Md_mustEnd ∈ gTbl ∧ Cond.selects y_Md_mustEnd.cls y_Md_mustEnd y_Md_mustEnd ∈ gTbl := ⟨(gt_in (i := 1288) (by decide +kernel) rfl), (gt_sel (n := 26) (i := 33) (by decide +kernel))⟩
theorem d_Md_mustEnd_0 : decode b_Md_mustEnd 0 = .ok (.aload_n 0, 1) := by decide +kernel
theorem d_Md_mustEnd_1 : decode b_Md_mustEnd 1 = .ok (.invokevirtual 82, 3) := by decide +kernel
theorem d_Md_mustEnd_4 : decode b_Md_mustEnd 4 = .ok (.ifCond .eq 10, 3) := by decide +kernel
theorem d_Md_mustEnd_7 : decode b_Md_mustEnd 7 = .ok (.aload_n 0, 1) := by decide +kernel
theorem d_Md_mustEnd_8 : decode b_Md_mustEnd 8 = .ok (.invokevirtual 92, 3) := by decide +kernel
theorem d_Md_mustEnd_11 : decode b_Md_mustEnd 11 = .ok (.ifCond .eq 7, 3) := by decide +kernel
theorem d_Md_mustEnd_14 : decode b_Md_mustEnd 14 = .ok (.iconst 1, 1) := by decide +kernel
theorem d_Md_mustEnd_15 : decode b_Md_mustEnd 15 = .ok (.goto 4, 3) := by decide +kernel
theorem d_Md_mustEnd_18 : decode b_Md_mustEnd 18 = .ok (.iconst 0, 1) := by decide +kernel
theorem d_Md_mustEnd_19 : decode b_Md_mustEnd 19 = .ok (.ireturn, 1) := by decide +kernel
abbrev b_Md_find : ByteArray := prog_12_method_21_code
def y_Md_find : MethodName := ⟨"SpellDeskModel", "find", "([III)I"⟩
set_option maxRecDepth 20000 in
theorem Y_Md_find : gh_Y y_Md_find b_Md_find 5 (some .int) 3 := ⟨gt_in (i := 1293) rfl rfl, gt_in (i := 14) (by decide +kernel) rfl, by decide +kernel, by decide +kernel, by decide +kernel⟩
theorem V_Md_find : Cond.instanceMethod y_Md_find ∈ gTbl ∧ Cond.selects y_Md_find.cls y_Md_find y_Md_find ∈ gTbl := ⟨(gt_in (i := 1292) (by decide +kernel) rfl), (gt_sel (n := 26) (i := 34) (by decide +kernel))⟩
theorem d_Md_find_0 : decode b_Md_find 0 = .ok (.iconst 0, 1) := by decide +kernel
theorem d_Md_find_1 : decode b_Md_find 1 = .ok (.istore 4, 2) := by decide +kernel
theorem d_Md_find_3 : decode b_Md_find 3 = .ok (.iload 4, 2) := by decide +kernel
theorem d_Md_find_5 : decode b_Md_find 5 = .ok (.aload_n 0, 1) := by decide +kernel
theorem d_Md_find_6 : decode b_Md_find 6 = .ok (.getfield 106, 3) := by decide +kernel
theorem d_Md_find_9 : decode b_Md_find 9 = .ok (.if_icmp .ge 37, 3) := by decide +kernel
theorem d_Md_find_12 : decode b_Md_find 12 = .ok (.aload_n 0, 1) := by decide +kernel
theorem d_Md_find_13 : decode b_Md_find 13 = .ok (.getfield 22, 3) := by decide +kernel
theorem d_Md_find_16 : decode b_Md_find 16 = .ok (.bipush 16, 2) := by decide +kernel
theorem d_Md_find_18 : decode b_Md_find 18 = .ok (.iload 4, 2) := by decide +kernel
theorem d_Md_find_20 : decode b_Md_find 20 = .ok (.imul, 1) := by decide +kernel
theorem d_Md_find_21 : decode b_Md_find 21 = .ok (.aload_n 0, 1) := by decide +kernel
theorem d_Md_find_22 : decode b_Md_find 22 = .ok (.getfield 16, 3) := by decide +kernel
theorem d_Md_find_25 : decode b_Md_find 25 = .ok (.iload 4, 2) := by decide +kernel
theorem d_Md_find_27 : decode b_Md_find 27 = .ok (.iaload, 1) := by decide +kernel
theorem d_Md_find_28 : decode b_Md_find 28 = .ok (.aload_n 1, 1) := by decide +kernel
theorem d_Md_find_29 : decode b_Md_find 29 = .ok (.iload_n 2, 1) := by decide +kernel
theorem d_Md_find_30 : decode b_Md_find 30 = .ok (.iload_n 3, 1) := by decide +kernel
theorem d_Md_find_31 : decode b_Md_find 31 = .ok (.invokestatic 109, 3) := by decide +kernel
theorem d_Md_find_34 : decode b_Md_find 34 = .ok (.ifCond .ne 6, 3) := by decide +kernel
theorem d_Md_find_37 : decode b_Md_find 37 = .ok (.iload 4, 2) := by decide +kernel
theorem d_Md_find_39 : decode b_Md_find 39 = .ok (.ireturn, 1) := by decide +kernel
theorem d_Md_find_40 : decode b_Md_find 40 = .ok (.iinc 4 1, 3) := by decide +kernel
theorem d_Md_find_43 : decode b_Md_find 43 = .ok (.goto (-40), 3) := by decide +kernel
theorem d_Md_find_46 : decode b_Md_find 46 = .ok (.iconst (-1), 1) := by decide +kernel
theorem d_Md_find_47 : decode b_Md_find 47 = .ok (.ireturn, 1) := by decide +kernel
abbrev b_Md_compare : ByteArray := prog_12_method_20_code
def y_Md_compare : MethodName := ⟨"SpellDeskModel", "compare", "([III[III)I"⟩
set_option maxRecDepth 20000 in
theorem Y_Md_compare : gh_Y y_Md_compare b_Md_compare 7 (some .int) 6 := ⟨gt_in (i := 1296) rfl rfl, gt_in (i := 14) (by decide +kernel) rfl, by decide +kernel, by decide +kernel, by decide +kernel⟩
theorem V_Md_compare : Cond.static y_Md_compare ∈ gTbl := (gt_in (i := 1295) (by decide +kernel) rfl)
theorem d_Md_compare_0 : decode b_Md_compare 0 = .ok (.iconst 0, 1) := by decide +kernel
theorem d_Md_compare_1 : decode b_Md_compare 1 = .ok (.istore 6, 2) := by decide +kernel
theorem d_Md_compare_3 : decode b_Md_compare 3 = .ok (.iload 6, 2) := by decide +kernel
theorem d_Md_compare_5 : decode b_Md_compare 5 = .ok (.iload_n 2, 1) := by decide +kernel
theorem d_Md_compare_6 : decode b_Md_compare 6 = .ok (.if_icmp .ge 47, 3) := by decide +kernel
theorem d_Md_compare_9 : decode b_Md_compare 9 = .ok (.iload 6, 2) := by decide +kernel
theorem d_Md_compare_11 : decode b_Md_compare 11 = .ok (.iload 5, 2) := by decide +kernel
theorem d_Md_compare_13 : decode b_Md_compare 13 = .ok (.if_icmp .ge 40, 3) := by decide +kernel
theorem d_Md_compare_16 : decode b_Md_compare 16 = .ok (.aload_n 0, 1) := by decide +kernel
theorem d_Md_compare_17 : decode b_Md_compare 17 = .ok (.iload_n 1, 1) := by decide +kernel
theorem d_Md_compare_18 : decode b_Md_compare 18 = .ok (.iload 6, 2) := by decide +kernel
theorem d_Md_compare_20 : decode b_Md_compare 20 = .ok (.iadd, 1) := by decide +kernel
theorem d_Md_compare_21 : decode b_Md_compare 21 = .ok (.iaload, 1) := by decide +kernel
theorem d_Md_compare_22 : decode b_Md_compare 22 = .ok (.aload_n 3, 1) := by decide +kernel
theorem d_Md_compare_23 : decode b_Md_compare 23 = .ok (.iload 4, 2) := by decide +kernel
theorem d_Md_compare_25 : decode b_Md_compare 25 = .ok (.iload 6, 2) := by decide +kernel
theorem d_Md_compare_27 : decode b_Md_compare 27 = .ok (.iadd, 1) := by decide +kernel
theorem d_Md_compare_28 : decode b_Md_compare 28 = .ok (.iaload, 1) := by decide +kernel
theorem d_Md_compare_29 : decode b_Md_compare 29 = .ok (.if_icmp .eq 18, 3) := by decide +kernel
theorem d_Md_compare_32 : decode b_Md_compare 32 = .ok (.aload_n 0, 1) := by decide +kernel
theorem d_Md_compare_33 : decode b_Md_compare 33 = .ok (.iload_n 1, 1) := by decide +kernel
theorem d_Md_compare_34 : decode b_Md_compare 34 = .ok (.iload 6, 2) := by decide +kernel
theorem d_Md_compare_36 : decode b_Md_compare 36 = .ok (.iadd, 1) := by decide +kernel
theorem d_Md_compare_37 : decode b_Md_compare 37 = .ok (.iaload, 1) := by decide +kernel
theorem d_Md_compare_38 : decode b_Md_compare 38 = .ok (.aload_n 3, 1) := by decide +kernel
theorem d_Md_compare_39 : decode b_Md_compare 39 = .ok (.iload 4, 2) := by decide +kernel
theorem d_Md_compare_41 : decode b_Md_compare 41 = .ok (.iload 6, 2) := by decide +kernel
theorem d_Md_compare_43 : decode b_Md_compare 43 = .ok (.iadd, 1) := by decide +kernel
theorem d_Md_compare_44 : decode b_Md_compare 44 = .ok (.iaload, 1) := by decide +kernel
theorem d_Md_compare_45 : decode b_Md_compare 45 = .ok (.isub, 1) := by decide +kernel
theorem d_Md_compare_46 : decode b_Md_compare 46 = .ok (.ireturn, 1) := by decide +kernel
theorem d_Md_compare_47 : decode b_Md_compare 47 = .ok (.iinc 6 1, 3) := by decide +kernel
theorem d_Md_compare_50 : decode b_Md_compare 50 = .ok (.goto (-47), 3) := by decide +kernel
theorem d_Md_compare_53 : decode b_Md_compare 53 = .ok (.iload_n 2, 1) := by decide +kernel
theorem d_Md_compare_54 : decode b_Md_compare 54 = .ok (.iload 5, 2) := by decide +kernel
theorem d_Md_compare_56 : decode b_Md_compare 56 = .ok (.isub, 1) := by decide +kernel
theorem d_Md_compare_57 : decode b_Md_compare 57 = .ok (.ireturn, 1) := by decide +kernel
abbrev b_Md_put : ByteArray := prog_12_method_6_code
def y_Md_put : MethodName := ⟨"SpellDeskModel", "put", "(I)V"⟩
set_option maxRecDepth 20000 in
theorem Y_Md_put : gh_Y y_Md_put b_Md_put 2 none 1 := ⟨gt_in (i := 1300) rfl rfl, gt_in (i := 14) (by decide +kernel) rfl, by decide +kernel, by decide +kernel, by decide +kernel⟩
theorem V_Md_put : Cond.instanceMethod y_Md_put ∈ gTbl ∧ Cond.selects y_Md_put.cls y_Md_put y_Md_put ∈ gTbl := ⟨(gt_in (i := 1299) (by decide +kernel) rfl), (gt_sel (n := 26) (i := 35) (by decide +kernel))⟩
theorem d_Md_put_0 : decode b_Md_put 0 = .ok (.aload_n 0, 1) := by decide +kernel
theorem d_Md_put_1 : decode b_Md_put 1 = .ok (.getfield 60, 3) := by decide +kernel
theorem d_Md_put_4 : decode b_Md_put 4 = .ok (.sipush 6000, 3) := by decide +kernel
theorem d_Md_put_7 : decode b_Md_put 7 = .ok (.if_icmp .ne 14, 3) := by decide +kernel
theorem d_Md_put_10 : decode b_Md_put 10 = .ok (.aload_n 0, 1) := by decide +kernel
theorem d_Md_put_11 : decode b_Md_put 11 = .ok (.dup, 1) := by decide +kernel
theorem d_Md_put_12 : decode b_Md_put 12 = .ok (.getfield 63, 3) := by decide +kernel
theorem d_Md_put_15 : decode b_Md_put 15 = .ok (.iconst 1, 1) := by decide +kernel
theorem d_Md_put_16 : decode b_Md_put 16 = .ok (.iadd, 1) := by decide +kernel
theorem d_Md_put_17 : decode b_Md_put 17 = .ok (.putfield 63, 3) := by decide +kernel
theorem d_Md_put_20 : decode b_Md_put 20 = .ok (.return_, 1) := by decide +kernel
theorem d_Md_put_21 : decode b_Md_put 21 = .ok (.aload_n 0, 1) := by decide +kernel
theorem d_Md_put_22 : decode b_Md_put 22 = .ok (.getfield 13, 3) := by decide +kernel
theorem d_Md_put_25 : decode b_Md_put 25 = .ok (.aload_n 0, 1) := by decide +kernel
theorem d_Md_put_26 : decode b_Md_put 26 = .ok (.getfield 60, 3) := by decide +kernel
theorem d_Md_put_29 : decode b_Md_put 29 = .ok (.iload_n 1, 1) := by decide +kernel
theorem d_Md_put_30 : decode b_Md_put 30 = .ok (.iastore, 1) := by decide +kernel
theorem d_Md_put_31 : decode b_Md_put 31 = .ok (.aload_n 0, 1) := by decide +kernel
theorem d_Md_put_32 : decode b_Md_put 32 = .ok (.dup, 1) := by decide +kernel
theorem d_Md_put_33 : decode b_Md_put 33 = .ok (.getfield 60, 3) := by decide +kernel
theorem d_Md_put_36 : decode b_Md_put 36 = .ok (.iconst 1, 1) := by decide +kernel
theorem d_Md_put_37 : decode b_Md_put 37 = .ok (.iadd, 1) := by decide +kernel
theorem d_Md_put_38 : decode b_Md_put 38 = .ok (.putfield 60, 3) := by decide +kernel
theorem d_Md_put_41 : decode b_Md_put 41 = .ok (.return_, 1) := by decide +kernel
abbrev b_Md_full : ByteArray := prog_12_method_10_code
def y_Md_full : MethodName := ⟨"SpellDeskModel", "full", "()V"⟩
set_option maxRecDepth 20000 in
theorem Y_Md_full : gh_Y y_Md_full b_Md_full 1 none 0 := ⟨gt_in (i := 1304) rfl rfl, gt_in (i := 14) (by decide +kernel) rfl, by decide +kernel, by decide +kernel, by decide +kernel⟩
theorem V_Md_full : Cond.instanceMethod y_Md_full ∈ gTbl ∧ Cond.selects y_Md_full.cls y_Md_full y_Md_full ∈ gTbl := ⟨(gt_in (i := 1303) (by decide +kernel) rfl), (gt_sel (n := 26) (i := 36) (by decide +kernel))⟩
theorem d_Md_full_0 : decode b_Md_full 0 = .ok (.aload_n 0, 1) := by decide +kernel
theorem d_Md_full_1 : decode b_Md_full 1 = .ok (.bipush 102, 2) := by decide +kernel
theorem d_Md_full_3 : decode b_Md_full 3 = .ok (.invokevirtual 66, 3) := by decide +kernel
theorem d_Md_full_6 : decode b_Md_full 6 = .ok (.aload_n 0, 1) := by decide +kernel
theorem d_Md_full_7 : decode b_Md_full 7 = .ok (.bipush 117, 2) := by decide +kernel
theorem d_Md_full_9 : decode b_Md_full 9 = .ok (.invokevirtual 66, 3) := by decide +kernel
theorem d_Md_full_12 : decode b_Md_full 12 = .ok (.aload_n 0, 1) := by decide +kernel
theorem d_Md_full_13 : decode b_Md_full 13 = .ok (.bipush 108, 2) := by decide +kernel
theorem d_Md_full_15 : decode b_Md_full 15 = .ok (.invokevirtual 66, 3) := by decide +kernel
theorem d_Md_full_18 : decode b_Md_full 18 = .ok (.aload_n 0, 1) := by decide +kernel
theorem d_Md_full_19 : decode b_Md_full 19 = .ok (.bipush 108, 2) := by decide +kernel
theorem d_Md_full_21 : decode b_Md_full 21 = .ok (.invokevirtual 66, 3) := by decide +kernel
theorem d_Md_full_24 : decode b_Md_full 24 = .ok (.return_, 1) := by decide +kernel
abbrev b_Md_ok : ByteArray := prog_12_method_8_code
def y_Md_ok : MethodName := ⟨"SpellDeskModel", "ok", "()V"⟩
set_option maxRecDepth 20000 in
theorem Y_Md_ok : gh_Y y_Md_ok b_Md_ok 1 none 0 := ⟨gt_in (i := 1308) rfl rfl, gt_in (i := 14) (by decide +kernel) rfl, by decide +kernel, by decide +kernel, by decide +kernel⟩
theorem V_Md_ok : Cond.instanceMethod y_Md_ok ∈ gTbl ∧ Cond.selects y_Md_ok.cls y_Md_ok y_Md_ok ∈ gTbl := ⟨(gt_in (i := 1307) (by decide +kernel) rfl), (gt_sel (n := 26) (i := 37) (by decide +kernel))⟩
theorem d_Md_ok_0 : decode b_Md_ok 0 = .ok (.aload_n 0, 1) := by decide +kernel
theorem d_Md_ok_1 : decode b_Md_ok 1 = .ok (.bipush 111, 2) := by decide +kernel
theorem d_Md_ok_3 : decode b_Md_ok 3 = .ok (.invokevirtual 66, 3) := by decide +kernel
theorem d_Md_ok_6 : decode b_Md_ok 6 = .ok (.aload_n 0, 1) := by decide +kernel
theorem d_Md_ok_7 : decode b_Md_ok 7 = .ok (.bipush 107, 2) := by decide +kernel
theorem d_Md_ok_9 : decode b_Md_ok 9 = .ok (.invokevirtual 66, 3) := by decide +kernel
theorem d_Md_ok_12 : decode b_Md_ok 12 = .ok (.return_, 1) := by decide +kernel
abbrev b_Md_word : ByteArray := prog_12_method_18_code
def y_Md_word : MethodName := ⟨"SpellDeskModel", "word", "(I)Z"⟩
set_option maxRecDepth 20000 in
theorem Y_Md_word : gh_Y y_Md_word b_Md_word 2 (some .boolean) 1 := ⟨gt_in (i := 1313) rfl rfl, gt_in (i := 14) (by decide +kernel) rfl, by decide +kernel, by decide +kernel, by decide +kernel⟩
theorem V_Md_word : Cond.instanceMethod y_Md_word ∈ gTbl ∧ Cond.selects y_Md_word.cls y_Md_word y_Md_word ∈ gTbl := ⟨(gt_in (i := 1312) (by decide +kernel) rfl), (gt_sel (n := 26) (i := 38) (by decide +kernel))⟩
theorem d_Md_word_0 : decode b_Md_word 0 = .ok (.aload_n 0, 1) := by decide +kernel
theorem d_Md_word_1 : decode b_Md_word 1 = .ok (.invokevirtual 99, 3) := by decide +kernel
theorem d_Md_word_4 : decode b_Md_word 4 = .ok (.ifCond .eq 31, 3) := by decide +kernel
theorem d_Md_word_7 : decode b_Md_word 7 = .ok (.aload_n 0, 1) := by decide +kernel
theorem d_Md_word_8 : decode b_Md_word 8 = .ok (.aload_n 0, 1) := by decide +kernel
theorem d_Md_word_9 : decode b_Md_word 9 = .ok (.getfield 76, 3) := by decide +kernel
theorem d_Md_word_12 : decode b_Md_word 12 = .ok (.aload_n 0, 1) := by decide +kernel
theorem d_Md_word_13 : decode b_Md_word 13 = .ok (.getfield 79, 3) := by decide +kernel
theorem d_Md_word_16 : decode b_Md_word 16 = .ok (.iload_n 1, 1) := by decide +kernel
theorem d_Md_word_17 : decode b_Md_word 17 = .ok (.iconst 0, 1) := by decide +kernel
theorem d_Md_word_18 : decode b_Md_word 18 = .ok (.invokevirtual 102, 3) := by decide +kernel
theorem d_Md_word_21 : decode b_Md_word 21 = .ok (.ifCond .ne 10, 3) := by decide +kernel
theorem d_Md_word_24 : decode b_Md_word 24 = .ok (.aload_n 0, 1) := by decide +kernel
theorem d_Md_word_25 : decode b_Md_word 25 = .ok (.invokevirtual 92, 3) := by decide +kernel
theorem d_Md_word_28 : decode b_Md_word 28 = .ok (.ifCond .eq 7, 3) := by decide +kernel
theorem d_Md_word_31 : decode b_Md_word 31 = .ok (.iconst 1, 1) := by decide +kernel
theorem d_Md_word_32 : decode b_Md_word 32 = .ok (.goto 4, 3) := by decide +kernel
theorem d_Md_word_35 : decode b_Md_word 35 = .ok (.iconst 0, 1) := by decide +kernel
theorem d_Md_word_36 : decode b_Md_word 36 = .ok (.ireturn, 1) := by decide +kernel
abbrev b_Md_drop : ByteArray := prog_12_method_31_code
def y_Md_drop : MethodName := ⟨"SpellDeskModel", "drop", "(II)V"⟩
set_option maxRecDepth 20000 in
theorem Y_Md_drop : gh_Y y_Md_drop b_Md_drop 5 none 2 := ⟨gt_in (i := 1317) rfl rfl, gt_in (i := 14) (by decide +kernel) rfl, by decide +kernel, by decide +kernel, by decide +kernel⟩
theorem V_Md_drop : Cond.instanceMethod y_Md_drop ∈ gTbl ∧ Cond.selects y_Md_drop.cls y_Md_drop y_Md_drop ∈ gTbl := ⟨(gt_in (i := 1316) (by decide +kernel) rfl), (gt_sel (n := 26) (i := 39) (by decide +kernel))⟩
theorem d_Md_drop_0 : decode b_Md_drop 0 = .ok (.aload_n 0, 1) := by decide +kernel
theorem d_Md_drop_1 : decode b_Md_drop 1 = .ok (.invokevirtual 184, 3) := by decide +kernel
theorem d_Md_drop_4 : decode b_Md_drop 4 = .ok (.ifCond .ne 4, 3) := by decide +kernel
theorem d_Md_drop_7 : decode b_Md_drop 7 = .ok (.return_, 1) := by decide +kernel
theorem d_Md_drop_8 : decode b_Md_drop 8 = .ok (.aload_n 0, 1) := by decide +kernel
theorem d_Md_drop_9 : decode b_Md_drop 9 = .ok (.aload_n 0, 1) := by decide +kernel
theorem d_Md_drop_10 : decode b_Md_drop 10 = .ok (.getfield 7, 3) := by decide +kernel
theorem d_Md_drop_13 : decode b_Md_drop 13 = .ok (.iload_n 1, 1) := by decide +kernel
theorem d_Md_drop_14 : decode b_Md_drop 14 = .ok (.iload_n 2, 1) := by decide +kernel
theorem d_Md_drop_15 : decode b_Md_drop 15 = .ok (.invokevirtual 195, 3) := by decide +kernel
theorem d_Md_drop_18 : decode b_Md_drop 18 = .ok (.istore_n 3, 1) := by decide +kernel
theorem d_Md_drop_19 : decode b_Md_drop 19 = .ok (.iload_n 3, 1) := by decide +kernel
theorem d_Md_drop_20 : decode b_Md_drop 20 = .ok (.iconst (-1), 1) := by decide +kernel
theorem d_Md_drop_21 : decode b_Md_drop 21 = .ok (.if_icmp .ne 8, 3) := by decide +kernel
theorem d_Md_drop_24 : decode b_Md_drop 24 = .ok (.aload_n 0, 1) := by decide +kernel
theorem d_Md_drop_25 : decode b_Md_drop 25 = .ok (.invokevirtual 202, 3) := by decide +kernel
theorem d_Md_drop_28 : decode b_Md_drop 28 = .ok (.return_, 1) := by decide +kernel
theorem d_Md_drop_29 : decode b_Md_drop 29 = .ok (.aload_n 0, 1) := by decide +kernel
theorem d_Md_drop_30 : decode b_Md_drop 30 = .ok (.dup, 1) := by decide +kernel
theorem d_Md_drop_31 : decode b_Md_drop 31 = .ok (.getfield 106, 3) := by decide +kernel
theorem d_Md_drop_34 : decode b_Md_drop 34 = .ok (.iconst 1, 1) := by decide +kernel
theorem d_Md_drop_35 : decode b_Md_drop 35 = .ok (.isub, 1) := by decide +kernel
theorem d_Md_drop_36 : decode b_Md_drop 36 = .ok (.putfield 106, 3) := by decide +kernel
theorem d_Md_drop_39 : decode b_Md_drop 39 = .ok (.aload_n 0, 1) := by decide +kernel
theorem d_Md_drop_40 : decode b_Md_drop 40 = .ok (.getfield 16, 3) := by decide +kernel
theorem d_Md_drop_43 : decode b_Md_drop 43 = .ok (.iload_n 3, 1) := by decide +kernel
theorem d_Md_drop_44 : decode b_Md_drop 44 = .ok (.aload_n 0, 1) := by decide +kernel
theorem d_Md_drop_45 : decode b_Md_drop 45 = .ok (.getfield 16, 3) := by decide +kernel
theorem d_Md_drop_48 : decode b_Md_drop 48 = .ok (.aload_n 0, 1) := by decide +kernel
theorem d_Md_drop_49 : decode b_Md_drop 49 = .ok (.getfield 106, 3) := by decide +kernel
theorem d_Md_drop_52 : decode b_Md_drop 52 = .ok (.iaload, 1) := by decide +kernel
theorem d_Md_drop_53 : decode b_Md_drop 53 = .ok (.iastore, 1) := by decide +kernel
theorem d_Md_drop_54 : decode b_Md_drop 54 = .ok (.aload_n 0, 1) := by decide +kernel
theorem d_Md_drop_55 : decode b_Md_drop 55 = .ok (.getfield 19, 3) := by decide +kernel
theorem d_Md_drop_58 : decode b_Md_drop 58 = .ok (.iload_n 3, 1) := by decide +kernel
theorem d_Md_drop_59 : decode b_Md_drop 59 = .ok (.aload_n 0, 1) := by decide +kernel
theorem d_Md_drop_60 : decode b_Md_drop 60 = .ok (.getfield 19, 3) := by decide +kernel
theorem d_Md_drop_63 : decode b_Md_drop 63 = .ok (.aload_n 0, 1) := by decide +kernel
theorem d_Md_drop_64 : decode b_Md_drop 64 = .ok (.getfield 106, 3) := by decide +kernel
theorem d_Md_drop_67 : decode b_Md_drop 67 = .ok (.iaload, 1) := by decide +kernel
theorem d_Md_drop_68 : decode b_Md_drop 68 = .ok (.iastore, 1) := by decide +kernel
theorem d_Md_drop_69 : decode b_Md_drop 69 = .ok (.iconst 0, 1) := by decide +kernel
theorem d_Md_drop_70 : decode b_Md_drop 70 = .ok (.istore 4, 2) := by decide +kernel
theorem d_Md_drop_72 : decode b_Md_drop 72 = .ok (.iload 4, 2) := by decide +kernel
theorem d_Md_drop_74 : decode b_Md_drop 74 = .ok (.bipush 16, 2) := by decide +kernel
theorem d_Md_drop_76 : decode b_Md_drop 76 = .ok (.if_icmp .ge 36, 3) := by decide +kernel
theorem d_Md_drop_79 : decode b_Md_drop 79 = .ok (.aload_n 0, 1) := by decide +kernel
theorem d_Md_drop_80 : decode b_Md_drop 80 = .ok (.getfield 22, 3) := by decide +kernel
theorem d_Md_drop_83 : decode b_Md_drop 83 = .ok (.bipush 16, 2) := by decide +kernel
theorem d_Md_drop_85 : decode b_Md_drop 85 = .ok (.iload_n 3, 1) := by decide +kernel
theorem d_Md_drop_86 : decode b_Md_drop 86 = .ok (.imul, 1) := by decide +kernel
theorem d_Md_drop_87 : decode b_Md_drop 87 = .ok (.iload 4, 2) := by decide +kernel
theorem d_Md_drop_89 : decode b_Md_drop 89 = .ok (.iadd, 1) := by decide +kernel
theorem d_Md_drop_90 : decode b_Md_drop 90 = .ok (.aload_n 0, 1) := by decide +kernel
theorem d_Md_drop_91 : decode b_Md_drop 91 = .ok (.getfield 22, 3) := by decide +kernel
theorem d_Md_drop_94 : decode b_Md_drop 94 = .ok (.bipush 16, 2) := by decide +kernel
theorem d_Md_drop_96 : decode b_Md_drop 96 = .ok (.aload_n 0, 1) := by decide +kernel
theorem d_Md_drop_97 : decode b_Md_drop 97 = .ok (.getfield 106, 3) := by decide +kernel
theorem d_Md_drop_100 : decode b_Md_drop 100 = .ok (.imul, 1) := by decide +kernel
theorem d_Md_drop_101 : decode b_Md_drop 101 = .ok (.iload 4, 2) := by decide +kernel
theorem d_Md_drop_103 : decode b_Md_drop 103 = .ok (.iadd, 1) := by decide +kernel
theorem d_Md_drop_104 : decode b_Md_drop 104 = .ok (.iaload, 1) := by decide +kernel
theorem d_Md_drop_105 : decode b_Md_drop 105 = .ok (.iastore, 1) := by decide +kernel
theorem d_Md_drop_106 : decode b_Md_drop 106 = .ok (.iinc 4 1, 3) := by decide +kernel
theorem d_Md_drop_109 : decode b_Md_drop 109 = .ok (.goto (-37), 3) := by decide +kernel
theorem d_Md_drop_112 : decode b_Md_drop 112 = .ok (.aload_n 0, 1) := by decide +kernel
theorem d_Md_drop_113 : decode b_Md_drop 113 = .ok (.invokevirtual 189, 3) := by decide +kernel
theorem d_Md_drop_116 : decode b_Md_drop 116 = .ok (.return_, 1) := by decide +kernel
abbrev b_Md_none : ByteArray := prog_12_method_9_code
def y_Md_none : MethodName := ⟨"SpellDeskModel", "none", "()V"⟩
set_option maxRecDepth 20000 in
theorem Y_Md_none : gh_Y y_Md_none b_Md_none 1 none 0 := ⟨gt_in (i := 1321) rfl rfl, gt_in (i := 14) (by decide +kernel) rfl, by decide +kernel, by decide +kernel, by decide +kernel⟩
theorem V_Md_none : Cond.instanceMethod y_Md_none ∈ gTbl ∧ Cond.selects y_Md_none.cls y_Md_none y_Md_none ∈ gTbl := ⟨(gt_in (i := 1320) (by decide +kernel) rfl), (gt_sel (n := 26) (i := 40) (by decide +kernel))⟩
theorem d_Md_none_0 : decode b_Md_none 0 = .ok (.aload_n 0, 1) := by decide +kernel
theorem d_Md_none_1 : decode b_Md_none 1 = .ok (.bipush 110, 2) := by decide +kernel
theorem d_Md_none_3 : decode b_Md_none 3 = .ok (.invokevirtual 66, 3) := by decide +kernel
theorem d_Md_none_6 : decode b_Md_none 6 = .ok (.aload_n 0, 1) := by decide +kernel
theorem d_Md_none_7 : decode b_Md_none 7 = .ok (.bipush 111, 2) := by decide +kernel
theorem d_Md_none_9 : decode b_Md_none 9 = .ok (.invokevirtual 66, 3) := by decide +kernel
theorem d_Md_none_12 : decode b_Md_none 12 = .ok (.aload_n 0, 1) := by decide +kernel
theorem d_Md_none_13 : decode b_Md_none 13 = .ok (.bipush 110, 2) := by decide +kernel
theorem d_Md_none_15 : decode b_Md_none 15 = .ok (.invokevirtual 66, 3) := by decide +kernel
theorem d_Md_none_18 : decode b_Md_none 18 = .ok (.aload_n 0, 1) := by decide +kernel
theorem d_Md_none_19 : decode b_Md_none 19 = .ok (.bipush 101, 2) := by decide +kernel
theorem d_Md_none_21 : decode b_Md_none 21 = .ok (.invokevirtual 66, 3) := by decide +kernel
theorem d_Md_none_24 : decode b_Md_none 24 = .ok (.return_, 1) := by decide +kernel
abbrev b_Md_rule : ByteArray := prog_12_method_32_code
def y_Md_rule : MethodName := ⟨"SpellDeskModel", "rule", "(I)V"⟩
set_option maxRecDepth 20000 in
theorem Y_Md_rule : gh_Y y_Md_rule b_Md_rule 8 none 1 := ⟨gt_in (i := 1326) rfl rfl, gt_in (i := 14) (by decide +kernel) rfl, by decide +kernel, by decide +kernel, by decide +kernel⟩
theorem V_Md_rule : Cond.instanceMethod y_Md_rule ∈ gTbl ∧ Cond.selects y_Md_rule.cls y_Md_rule y_Md_rule ∈ gTbl := ⟨(gt_in (i := 1325) (by decide +kernel) rfl), (gt_sel (n := 26) (i := 41) (by decide +kernel))⟩
theorem d_Md_rule_0 : decode b_Md_rule 0 = .ok (.aload_n 0, 1) := by decide +kernel
theorem d_Md_rule_1 : decode b_Md_rule 1 = .ok (.invokevirtual 99, 3) := by decide +kernel
theorem d_Md_rule_4 : decode b_Md_rule 4 = .ok (.ifCond .ne 4, 3) := by decide +kernel
theorem d_Md_rule_7 : decode b_Md_rule 7 = .ok (.return_, 1) := by decide +kernel
theorem d_Md_rule_8 : decode b_Md_rule 8 = .ok (.aload_n 0, 1) := by decide +kernel
theorem d_Md_rule_9 : decode b_Md_rule 9 = .ok (.getfield 79, 3) := by decide +kernel
theorem d_Md_rule_12 : decode b_Md_rule 12 = .ok (.aload_n 0, 1) := by decide +kernel
theorem d_Md_rule_13 : decode b_Md_rule 13 = .ok (.getfield 76, 3) := by decide +kernel
theorem d_Md_rule_16 : decode b_Md_rule 16 = .ok (.isub, 1) := by decide +kernel
theorem d_Md_rule_17 : decode b_Md_rule 17 = .ok (.iconst 1, 1) := by decide +kernel
theorem d_Md_rule_18 : decode b_Md_rule 18 = .ok (.if_icmp .ne 18, 3) := by decide +kernel
theorem d_Md_rule_21 : decode b_Md_rule 21 = .ok (.aload_n 0, 1) := by decide +kernel
theorem d_Md_rule_22 : decode b_Md_rule 22 = .ok (.getfield 7, 3) := by decide +kernel
theorem d_Md_rule_25 : decode b_Md_rule 25 = .ok (.aload_n 0, 1) := by decide +kernel
theorem d_Md_rule_26 : decode b_Md_rule 26 = .ok (.getfield 76, 3) := by decide +kernel
theorem d_Md_rule_29 : decode b_Md_rule 29 = .ok (.iaload, 1) := by decide +kernel
theorem d_Md_rule_30 : decode b_Md_rule 30 = .ok (.invokestatic 192, 3) := by decide +kernel
theorem d_Md_rule_33 : decode b_Md_rule 33 = .ok (.ifCond .ne 9, 3) := by decide +kernel
theorem d_Md_rule_36 : decode b_Md_rule 36 = .ok (.aload_n 0, 1) := by decide +kernel
theorem d_Md_rule_37 : decode b_Md_rule 37 = .ok (.invokevirtual 92, 3) := by decide +kernel
theorem d_Md_rule_40 : decode b_Md_rule 40 = .ok (.istore_n 2, 1) := by decide +kernel
theorem d_Md_rule_41 : decode b_Md_rule 41 = .ok (.return_, 1) := by decide +kernel
theorem d_Md_rule_42 : decode b_Md_rule 42 = .ok (.aload_n 0, 1) := by decide +kernel
theorem d_Md_rule_43 : decode b_Md_rule 43 = .ok (.getfield 7, 3) := by decide +kernel
theorem d_Md_rule_46 : decode b_Md_rule 46 = .ok (.aload_n 0, 1) := by decide +kernel
theorem d_Md_rule_47 : decode b_Md_rule 47 = .ok (.getfield 76, 3) := by decide +kernel
theorem d_Md_rule_50 : decode b_Md_rule 50 = .ok (.iaload, 1) := by decide +kernel
theorem d_Md_rule_51 : decode b_Md_rule 51 = .ok (.bipush 65, 2) := by decide +kernel
theorem d_Md_rule_53 : decode b_Md_rule 53 = .ok (.isub, 1) := by decide +kernel
theorem d_Md_rule_54 : decode b_Md_rule 54 = .ok (.istore_n 2, 1) := by decide +kernel
theorem d_Md_rule_55 : decode b_Md_rule 55 = .ok (.bipush 8, 2) := by decide +kernel
theorem d_Md_rule_57 : decode b_Md_rule 57 = .ok (.iload_n 1, 1) := by decide +kernel
theorem d_Md_rule_58 : decode b_Md_rule 58 = .ok (.imul, 1) := by decide +kernel
theorem d_Md_rule_59 : decode b_Md_rule 59 = .ok (.aload_n 0, 1) := by decide +kernel
theorem d_Md_rule_60 : decode b_Md_rule 60 = .ok (.getfield 25, 3) := by decide +kernel
theorem d_Md_rule_63 : decode b_Md_rule 63 = .ok (.iload_n 1, 1) := by decide +kernel
theorem d_Md_rule_64 : decode b_Md_rule 64 = .ok (.iaload, 1) := by decide +kernel
theorem d_Md_rule_65 : decode b_Md_rule 65 = .ok (.iadd, 1) := by decide +kernel
theorem d_Md_rule_66 : decode b_Md_rule 66 = .ok (.istore_n 3, 1) := by decide +kernel
theorem d_Md_rule_67 : decode b_Md_rule 67 = .ok (.aload_n 0, 1) := by decide +kernel
theorem d_Md_rule_68 : decode b_Md_rule 68 = .ok (.getfield 25, 3) := by decide +kernel
theorem d_Md_rule_71 : decode b_Md_rule 71 = .ok (.iload_n 1, 1) := by decide +kernel
theorem d_Md_rule_72 : decode b_Md_rule 72 = .ok (.iaload, 1) := by decide +kernel
theorem d_Md_rule_73 : decode b_Md_rule 73 = .ok (.bipush 8, 2) := by decide +kernel
theorem d_Md_rule_75 : decode b_Md_rule 75 = .ok (.if_icmp .ge 7, 3) := by decide +kernel
theorem d_Md_rule_78 : decode b_Md_rule 78 = .ok (.iconst 1, 1) := by decide +kernel
theorem d_Md_rule_79 : decode b_Md_rule 79 = .ok (.goto 4, 3) := by decide +kernel
theorem d_Md_rule_82 : decode b_Md_rule 82 = .ok (.iconst 0, 1) := by decide +kernel
theorem d_Md_rule_83 : decode b_Md_rule 83 = .ok (.istore 4, 2) := by decide +kernel
theorem d_Md_rule_85 : decode b_Md_rule 85 = .ok (.iconst 0, 1) := by decide +kernel
theorem d_Md_rule_86 : decode b_Md_rule 86 = .ok (.istore 5, 2) := by decide +kernel
theorem d_Md_rule_88 : decode b_Md_rule 88 = .ok (.iload 5, 2) := by decide +kernel
theorem d_Md_rule_90 : decode b_Md_rule 90 = .ok (.iconst 3, 1) := by decide +kernel
theorem d_Md_rule_91 : decode b_Md_rule 91 = .ok (.if_icmp .ge 181, 3) := by decide +kernel
theorem d_Md_rule_94 : decode b_Md_rule 94 = .ok (.aload_n 0, 1) := by decide +kernel
theorem d_Md_rule_95 : decode b_Md_rule 95 = .ok (.invokevirtual 99, 3) := by decide +kernel
theorem d_Md_rule_98 : decode b_Md_rule 98 = .ok (.ifCond .ne 4, 3) := by decide +kernel
theorem d_Md_rule_101 : decode b_Md_rule 101 = .ok (.return_, 1) := by decide +kernel
theorem d_Md_rule_102 : decode b_Md_rule 102 = .ok (.aload_n 0, 1) := by decide +kernel
theorem d_Md_rule_103 : decode b_Md_rule 103 = .ok (.getfield 79, 3) := by decide +kernel
theorem d_Md_rule_106 : decode b_Md_rule 106 = .ok (.aload_n 0, 1) := by decide +kernel
theorem d_Md_rule_107 : decode b_Md_rule 107 = .ok (.getfield 76, 3) := by decide +kernel
theorem d_Md_rule_110 : decode b_Md_rule 110 = .ok (.isub, 1) := by decide +kernel
theorem d_Md_rule_111 : decode b_Md_rule 111 = .ok (.iconst 1, 1) := by decide +kernel
theorem d_Md_rule_112 : decode b_Md_rule 112 = .ok (.if_icmp .ne 21, 3) := by decide +kernel
theorem d_Md_rule_115 : decode b_Md_rule 115 = .ok (.aload_n 0, 1) := by decide +kernel
theorem d_Md_rule_116 : decode b_Md_rule 116 = .ok (.getfield 7, 3) := by decide +kernel
theorem d_Md_rule_119 : decode b_Md_rule 119 = .ok (.aload_n 0, 1) := by decide +kernel
theorem d_Md_rule_120 : decode b_Md_rule 120 = .ok (.getfield 76, 3) := by decide +kernel
theorem d_Md_rule_123 : decode b_Md_rule 123 = .ok (.iaload, 1) := by decide +kernel
theorem d_Md_rule_124 : decode b_Md_rule 124 = .ok (.bipush 48, 2) := by decide +kernel
theorem d_Md_rule_126 : decode b_Md_rule 126 = .ok (.if_icmp .ne 7, 3) := by decide +kernel
theorem d_Md_rule_129 : decode b_Md_rule 129 = .ok (.iconst 1, 1) := by decide +kernel
theorem d_Md_rule_130 : decode b_Md_rule 130 = .ok (.goto 4, 3) := by decide +kernel
theorem d_Md_rule_133 : decode b_Md_rule 133 = .ok (.iconst 0, 1) := by decide +kernel
theorem d_Md_rule_134 : decode b_Md_rule 134 = .ok (.istore 6, 2) := by decide +kernel
theorem d_Md_rule_136 : decode b_Md_rule 136 = .ok (.iload 6, 2) := by decide +kernel
theorem d_Md_rule_138 : decode b_Md_rule 138 = .ok (.ifCond .ne 38, 3) := by decide +kernel
theorem d_Md_rule_141 : decode b_Md_rule 141 = .ok (.aload_n 0, 1) := by decide +kernel
theorem d_Md_rule_142 : decode b_Md_rule 142 = .ok (.aload_n 0, 1) := by decide +kernel
theorem d_Md_rule_143 : decode b_Md_rule 143 = .ok (.getfield 76, 3) := by decide +kernel
theorem d_Md_rule_146 : decode b_Md_rule 146 = .ok (.aload_n 0, 1) := by decide +kernel
theorem d_Md_rule_147 : decode b_Md_rule 147 = .ok (.getfield 79, 3) := by decide +kernel
theorem d_Md_rule_150 : decode b_Md_rule 150 = .ok (.bipush 6, 2) := by decide +kernel
theorem d_Md_rule_152 : decode b_Md_rule 152 = .ok (.iload 5, 2) := by decide +kernel
theorem d_Md_rule_154 : decode b_Md_rule 154 = .ok (.iconst 2, 1) := by decide +kernel
theorem d_Md_rule_155 : decode b_Md_rule 155 = .ok (.if_icmp .ne 7, 3) := by decide +kernel
theorem d_Md_rule_158 : decode b_Md_rule 158 = .ok (.iconst 1, 1) := by decide +kernel
theorem d_Md_rule_159 : decode b_Md_rule 159 = .ok (.goto 4, 3) := by decide +kernel
theorem d_Md_rule_162 : decode b_Md_rule 162 = .ok (.iconst 0, 1) := by decide +kernel
theorem d_Md_rule_163 : decode b_Md_rule 163 = .ok (.invokevirtual 102, 3) := by decide +kernel
theorem d_Md_rule_166 : decode b_Md_rule 166 = .ok (.ifCond .ne 10, 3) := by decide +kernel
theorem d_Md_rule_169 : decode b_Md_rule 169 = .ok (.aload_n 0, 1) := by decide +kernel
theorem d_Md_rule_170 : decode b_Md_rule 170 = .ok (.invokevirtual 92, 3) := by decide +kernel
theorem d_Md_rule_173 : decode b_Md_rule 173 = .ok (.istore 7, 2) := by decide +kernel
theorem d_Md_rule_175 : decode b_Md_rule 175 = .ok (.return_, 1) := by decide +kernel
theorem d_Md_rule_176 : decode b_Md_rule 176 = .ok (.iload 4, 2) := by decide +kernel
theorem d_Md_rule_178 : decode b_Md_rule 178 = .ok (.ifCond .eq 88, 3) := by decide +kernel
theorem d_Md_rule_181 : decode b_Md_rule 181 = .ok (.aload_n 0, 1) := by decide +kernel
theorem d_Md_rule_182 : decode b_Md_rule 182 = .ok (.getfield 31, 3) := by decide +kernel
theorem d_Md_rule_185 : decode b_Md_rule 185 = .ok (.iconst 3, 1) := by decide +kernel
theorem d_Md_rule_186 : decode b_Md_rule 186 = .ok (.iload_n 3, 1) := by decide +kernel
theorem d_Md_rule_187 : decode b_Md_rule 187 = .ok (.imul, 1) := by decide +kernel
theorem d_Md_rule_188 : decode b_Md_rule 188 = .ok (.iload 5, 2) := by decide +kernel
theorem d_Md_rule_190 : decode b_Md_rule 190 = .ok (.iadd, 1) := by decide +kernel
theorem d_Md_rule_191 : decode b_Md_rule 191 = .ok (.iload 6, 2) := by decide +kernel
theorem d_Md_rule_193 : decode b_Md_rule 193 = .ok (.ifCond .eq 7, 3) := by decide +kernel
theorem d_Md_rule_196 : decode b_Md_rule 196 = .ok (.iconst 0, 1) := by decide +kernel
theorem d_Md_rule_197 : decode b_Md_rule 197 = .ok (.goto 12, 3) := by decide +kernel
theorem d_Md_rule_200 : decode b_Md_rule 200 = .ok (.aload_n 0, 1) := by decide +kernel
theorem d_Md_rule_201 : decode b_Md_rule 201 = .ok (.getfield 79, 3) := by decide +kernel
theorem d_Md_rule_204 : decode b_Md_rule 204 = .ok (.aload_n 0, 1) := by decide +kernel
theorem d_Md_rule_205 : decode b_Md_rule 205 = .ok (.getfield 76, 3) := by decide +kernel
theorem d_Md_rule_208 : decode b_Md_rule 208 = .ok (.isub, 1) := by decide +kernel
theorem d_Md_rule_209 : decode b_Md_rule 209 = .ok (.iastore, 1) := by decide +kernel
theorem d_Md_rule_210 : decode b_Md_rule 210 = .ok (.aload_n 0, 1) := by decide +kernel
theorem d_Md_rule_211 : decode b_Md_rule 211 = .ok (.getfield 76, 3) := by decide +kernel
theorem d_Md_rule_214 : decode b_Md_rule 214 = .ok (.istore 7, 2) := by decide +kernel
theorem d_Md_rule_216 : decode b_Md_rule 216 = .ok (.iload 7, 2) := by decide +kernel
theorem d_Md_rule_218 : decode b_Md_rule 218 = .ok (.aload_n 0, 1) := by decide +kernel
theorem d_Md_rule_219 : decode b_Md_rule 219 = .ok (.getfield 79, 3) := by decide +kernel
theorem d_Md_rule_222 : decode b_Md_rule 222 = .ok (.if_icmp .ge 44, 3) := by decide +kernel
theorem d_Md_rule_225 : decode b_Md_rule 225 = .ok (.iload 6, 2) := by decide +kernel
theorem d_Md_rule_227 : decode b_Md_rule 227 = .ok (.ifCond .ne 39, 3) := by decide +kernel
theorem d_Md_rule_230 : decode b_Md_rule 230 = .ok (.aload_n 0, 1) := by decide +kernel
theorem d_Md_rule_231 : decode b_Md_rule 231 = .ok (.getfield 34, 3) := by decide +kernel
theorem d_Md_rule_234 : decode b_Md_rule 234 = .ok (.bipush 18, 2) := by decide +kernel
theorem d_Md_rule_236 : decode b_Md_rule 236 = .ok (.iload_n 3, 1) := by decide +kernel
theorem d_Md_rule_237 : decode b_Md_rule 237 = .ok (.imul, 1) := by decide +kernel
theorem d_Md_rule_238 : decode b_Md_rule 238 = .ok (.bipush 6, 2) := by decide +kernel
theorem d_Md_rule_240 : decode b_Md_rule 240 = .ok (.iload 5, 2) := by decide +kernel
theorem d_Md_rule_242 : decode b_Md_rule 242 = .ok (.imul, 1) := by decide +kernel
theorem d_Md_rule_243 : decode b_Md_rule 243 = .ok (.iadd, 1) := by decide +kernel
theorem d_Md_rule_244 : decode b_Md_rule 244 = .ok (.iload 7, 2) := by decide +kernel
theorem d_Md_rule_246 : decode b_Md_rule 246 = .ok (.iadd, 1) := by decide +kernel
theorem d_Md_rule_247 : decode b_Md_rule 247 = .ok (.aload_n 0, 1) := by decide +kernel
theorem d_Md_rule_248 : decode b_Md_rule 248 = .ok (.getfield 76, 3) := by decide +kernel
theorem d_Md_rule_251 : decode b_Md_rule 251 = .ok (.isub, 1) := by decide +kernel
theorem d_Md_rule_252 : decode b_Md_rule 252 = .ok (.aload_n 0, 1) := by decide +kernel
theorem d_Md_rule_253 : decode b_Md_rule 253 = .ok (.getfield 7, 3) := by decide +kernel
theorem d_Md_rule_256 : decode b_Md_rule 256 = .ok (.iload 7, 2) := by decide +kernel
theorem d_Md_rule_258 : decode b_Md_rule 258 = .ok (.iaload, 1) := by decide +kernel
theorem d_Md_rule_259 : decode b_Md_rule 259 = .ok (.iastore, 1) := by decide +kernel
theorem d_Md_rule_260 : decode b_Md_rule 260 = .ok (.iinc 7 1, 3) := by decide +kernel
theorem d_Md_rule_263 : decode b_Md_rule 263 = .ok (.goto (-47), 3) := by decide +kernel
theorem d_Md_rule_266 : decode b_Md_rule 266 = .ok (.iinc 5 1, 3) := by decide +kernel
theorem d_Md_rule_269 : decode b_Md_rule 269 = .ok (.goto (-181), 3) := by decide +kernel
theorem d_Md_rule_272 : decode b_Md_rule 272 = .ok (.aload_n 0, 1) := by decide +kernel
theorem d_Md_rule_273 : decode b_Md_rule 273 = .ok (.invokevirtual 184, 3) := by decide +kernel
theorem d_Md_rule_276 : decode b_Md_rule 276 = .ok (.ifCond .ne 4, 3) := by decide +kernel
theorem d_Md_rule_279 : decode b_Md_rule 279 = .ok (.return_, 1) := by decide +kernel
theorem d_Md_rule_280 : decode b_Md_rule 280 = .ok (.iload 4, 2) := by decide +kernel
theorem d_Md_rule_282 : decode b_Md_rule 282 = .ok (.ifCond .eq 27, 3) := by decide +kernel
theorem d_Md_rule_285 : decode b_Md_rule 285 = .ok (.aload_n 0, 1) := by decide +kernel
theorem d_Md_rule_286 : decode b_Md_rule 286 = .ok (.getfield 28, 3) := by decide +kernel
theorem d_Md_rule_289 : decode b_Md_rule 289 = .ok (.iload_n 3, 1) := by decide +kernel
theorem d_Md_rule_290 : decode b_Md_rule 290 = .ok (.iload_n 2, 1) := by decide +kernel
theorem d_Md_rule_291 : decode b_Md_rule 291 = .ok (.iastore, 1) := by decide +kernel
theorem d_Md_rule_292 : decode b_Md_rule 292 = .ok (.aload_n 0, 1) := by decide +kernel
theorem d_Md_rule_293 : decode b_Md_rule 293 = .ok (.getfield 25, 3) := by decide +kernel
theorem d_Md_rule_296 : decode b_Md_rule 296 = .ok (.iload_n 1, 1) := by decide +kernel
theorem d_Md_rule_297 : decode b_Md_rule 297 = .ok (.dup2, 1) := by decide +kernel
theorem d_Md_rule_298 : decode b_Md_rule 298 = .ok (.iaload, 1) := by decide +kernel
theorem d_Md_rule_299 : decode b_Md_rule 299 = .ok (.iconst 1, 1) := by decide +kernel
theorem d_Md_rule_300 : decode b_Md_rule 300 = .ok (.iadd, 1) := by decide +kernel
theorem d_Md_rule_301 : decode b_Md_rule 301 = .ok (.iastore, 1) := by decide +kernel
theorem d_Md_rule_302 : decode b_Md_rule 302 = .ok (.aload_n 0, 1) := by decide +kernel
theorem d_Md_rule_303 : decode b_Md_rule 303 = .ok (.invokevirtual 189, 3) := by decide +kernel
theorem d_Md_rule_306 : decode b_Md_rule 306 = .ok (.goto 7, 3) := by decide +kernel
theorem d_Md_rule_309 : decode b_Md_rule 309 = .ok (.aload_n 0, 1) := by decide +kernel
theorem d_Md_rule_310 : decode b_Md_rule 310 = .ok (.invokevirtual 199, 3) := by decide +kernel
theorem d_Md_rule_313 : decode b_Md_rule 313 = .ok (.return_, 1) := by decide +kernel
abbrev b_Md_check : ByteArray := prog_12_method_33_code
def y_Md_check : MethodName := ⟨"SpellDeskModel", "check", "()V"⟩
set_option maxRecDepth 20000 in
theorem Y_Md_check : gh_Y y_Md_check b_Md_check 4 none 0 := ⟨gt_in (i := 1332) rfl rfl, gt_in (i := 14) (by decide +kernel) rfl, by decide +kernel, by decide +kernel, by decide +kernel⟩
theorem V_Md_check : Cond.instanceMethod y_Md_check ∈ gTbl ∧ Cond.selects y_Md_check.cls y_Md_check y_Md_check ∈ gTbl := ⟨(gt_in (i := 1331) (by decide +kernel) rfl), (gt_sel (n := 26) (i := 42) (by decide +kernel))⟩
theorem d_Md_check_0 : decode b_Md_check 0 = .ok (.aload_n 0, 1) := by decide +kernel
theorem d_Md_check_1 : decode b_Md_check 1 = .ok (.iconst 0, 1) := by decide +kernel
theorem d_Md_check_2 : decode b_Md_check 2 = .ok (.putfield 205, 3) := by decide +kernel
theorem d_Md_check_5 : decode b_Md_check 5 = .ok (.aload_n 0, 1) := by decide +kernel
theorem d_Md_check_6 : decode b_Md_check 6 = .ok (.bipush 28, 2) := by decide +kernel
theorem d_Md_check_8 : decode b_Md_check 8 = .ok (.invokevirtual 148, 3) := by decide +kernel
theorem d_Md_check_11 : decode b_Md_check 11 = .ok (.istore_n 1, 1) := by decide +kernel
theorem d_Md_check_12 : decode b_Md_check 12 = .ok (.iload_n 1, 1) := by decide +kernel
theorem d_Md_check_13 : decode b_Md_check 13 = .ok (.ifCond .ne 4, 3) := by decide +kernel
theorem d_Md_check_16 : decode b_Md_check 16 = .ok (.return_, 1) := by decide +kernel
theorem d_Md_check_17 : decode b_Md_check 17 = .ok (.iload_n 1, 1) := by decide +kernel
theorem d_Md_check_18 : decode b_Md_check 18 = .ok (.ifCond .eq 77, 3) := by decide +kernel
theorem d_Md_check_21 : decode b_Md_check 21 = .ok (.aload_n 0, 1) := by decide +kernel
theorem d_Md_check_22 : decode b_Md_check 22 = .ok (.getfield 40, 3) := by decide +kernel
theorem d_Md_check_25 : decode b_Md_check 25 = .ok (.aload_n 0, 1) := by decide +kernel
theorem d_Md_check_26 : decode b_Md_check 26 = .ok (.getfield 205, 3) := by decide +kernel
theorem d_Md_check_29 : decode b_Md_check 29 = .ok (.aload_n 0, 1) := by decide +kernel
theorem d_Md_check_30 : decode b_Md_check 30 = .ok (.getfield 76, 3) := by decide +kernel
theorem d_Md_check_33 : decode b_Md_check 33 = .ok (.iastore, 1) := by decide +kernel
theorem d_Md_check_34 : decode b_Md_check 34 = .ok (.aload_n 0, 1) := by decide +kernel
theorem d_Md_check_35 : decode b_Md_check 35 = .ok (.getfield 43, 3) := by decide +kernel
theorem d_Md_check_38 : decode b_Md_check 38 = .ok (.aload_n 0, 1) := by decide +kernel
theorem d_Md_check_39 : decode b_Md_check 39 = .ok (.getfield 205, 3) := by decide +kernel
theorem d_Md_check_42 : decode b_Md_check 42 = .ok (.aload_n 0, 1) := by decide +kernel
theorem d_Md_check_43 : decode b_Md_check 43 = .ok (.getfield 79, 3) := by decide +kernel
theorem d_Md_check_46 : decode b_Md_check 46 = .ok (.aload_n 0, 1) := by decide +kernel
theorem d_Md_check_47 : decode b_Md_check 47 = .ok (.getfield 76, 3) := by decide +kernel
theorem d_Md_check_50 : decode b_Md_check 50 = .ok (.isub, 1) := by decide +kernel
theorem d_Md_check_51 : decode b_Md_check 51 = .ok (.iastore, 1) := by decide +kernel
theorem d_Md_check_52 : decode b_Md_check 52 = .ok (.aload_n 0, 1) := by decide +kernel
theorem d_Md_check_53 : decode b_Md_check 53 = .ok (.dup, 1) := by decide +kernel
theorem d_Md_check_54 : decode b_Md_check 54 = .ok (.getfield 205, 3) := by decide +kernel
theorem d_Md_check_57 : decode b_Md_check 57 = .ok (.iconst 1, 1) := by decide +kernel
theorem d_Md_check_58 : decode b_Md_check 58 = .ok (.iadd, 1) := by decide +kernel
theorem d_Md_check_59 : decode b_Md_check 59 = .ok (.putfield 205, 3) := by decide +kernel
theorem d_Md_check_62 : decode b_Md_check 62 = .ok (.aload_n 0, 1) := by decide +kernel
theorem d_Md_check_63 : decode b_Md_check 63 = .ok (.invokevirtual 82, 3) := by decide +kernel
theorem d_Md_check_66 : decode b_Md_check 66 = .ok (.istore_n 1, 1) := by decide +kernel
theorem d_Md_check_67 : decode b_Md_check 67 = .ok (.iload_n 1, 1) := by decide +kernel
theorem d_Md_check_68 : decode b_Md_check 68 = .ok (.ifCond .eq (-51), 3) := by decide +kernel
theorem d_Md_check_71 : decode b_Md_check 71 = .ok (.aload_n 0, 1) := by decide +kernel
theorem d_Md_check_72 : decode b_Md_check 72 = .ok (.aload_n 0, 1) := by decide +kernel
theorem d_Md_check_73 : decode b_Md_check 73 = .ok (.getfield 76, 3) := by decide +kernel
theorem d_Md_check_76 : decode b_Md_check 76 = .ok (.aload_n 0, 1) := by decide +kernel
theorem d_Md_check_77 : decode b_Md_check 77 = .ok (.getfield 79, 3) := by decide +kernel
theorem d_Md_check_80 : decode b_Md_check 80 = .ok (.bipush 28, 2) := by decide +kernel
theorem d_Md_check_82 : decode b_Md_check 82 = .ok (.iconst 0, 1) := by decide +kernel
theorem d_Md_check_83 : decode b_Md_check 83 = .ok (.invokevirtual 102, 3) := by decide +kernel
theorem d_Md_check_86 : decode b_Md_check 86 = .ok (.ifCond .ne (-69), 3) := by decide +kernel
theorem d_Md_check_89 : decode b_Md_check 89 = .ok (.aload_n 0, 1) := by decide +kernel
theorem d_Md_check_90 : decode b_Md_check 90 = .ok (.invokevirtual 92, 3) := by decide +kernel
theorem d_Md_check_93 : decode b_Md_check 93 = .ok (.istore_n 1, 1) := by decide +kernel
theorem d_Md_check_94 : decode b_Md_check 94 = .ok (.return_, 1) := by decide +kernel
theorem d_Md_check_95 : decode b_Md_check 95 = .ok (.iconst 0, 1) := by decide +kernel
theorem d_Md_check_96 : decode b_Md_check 96 = .ok (.istore_n 2, 1) := by decide +kernel
theorem d_Md_check_97 : decode b_Md_check 97 = .ok (.iconst 0, 1) := by decide +kernel
theorem d_Md_check_98 : decode b_Md_check 98 = .ok (.istore_n 3, 1) := by decide +kernel
theorem d_Md_check_99 : decode b_Md_check 99 = .ok (.iload_n 3, 1) := by decide +kernel
theorem d_Md_check_100 : decode b_Md_check 100 = .ok (.aload_n 0, 1) := by decide +kernel
theorem d_Md_check_101 : decode b_Md_check 101 = .ok (.getfield 205, 3) := by decide +kernel
theorem d_Md_check_104 : decode b_Md_check 104 = .ok (.if_icmp .ge 55, 3) := by decide +kernel
theorem d_Md_check_107 : decode b_Md_check 107 = .ok (.aload_n 0, 1) := by decide +kernel
theorem d_Md_check_108 : decode b_Md_check 108 = .ok (.aload_n 0, 1) := by decide +kernel
theorem d_Md_check_109 : decode b_Md_check 109 = .ok (.getfield 40, 3) := by decide +kernel
theorem d_Md_check_112 : decode b_Md_check 112 = .ok (.iload_n 3, 1) := by decide +kernel
theorem d_Md_check_113 : decode b_Md_check 113 = .ok (.iaload, 1) := by decide +kernel
theorem d_Md_check_114 : decode b_Md_check 114 = .ok (.aload_n 0, 1) := by decide +kernel
theorem d_Md_check_115 : decode b_Md_check 115 = .ok (.getfield 43, 3) := by decide +kernel
theorem d_Md_check_118 : decode b_Md_check 118 = .ok (.iload_n 3, 1) := by decide +kernel
theorem d_Md_check_119 : decode b_Md_check 119 = .ok (.iaload, 1) := by decide +kernel
theorem d_Md_check_120 : decode b_Md_check 120 = .ok (.invokevirtual 208, 3) := by decide +kernel
theorem d_Md_check_123 : decode b_Md_check 123 = .ok (.ifCond .ne 30, 3) := by decide +kernel
theorem d_Md_check_126 : decode b_Md_check 126 = .ok (.aload_n 0, 1) := by decide +kernel
theorem d_Md_check_127 : decode b_Md_check 127 = .ok (.getfield 40, 3) := by decide +kernel
theorem d_Md_check_130 : decode b_Md_check 130 = .ok (.iload_n 2, 1) := by decide +kernel
theorem d_Md_check_131 : decode b_Md_check 131 = .ok (.aload_n 0, 1) := by decide +kernel
theorem d_Md_check_132 : decode b_Md_check 132 = .ok (.getfield 40, 3) := by decide +kernel
theorem d_Md_check_135 : decode b_Md_check 135 = .ok (.iload_n 3, 1) := by decide +kernel
theorem d_Md_check_136 : decode b_Md_check 136 = .ok (.iaload, 1) := by decide +kernel
theorem d_Md_check_137 : decode b_Md_check 137 = .ok (.iastore, 1) := by decide +kernel
theorem d_Md_check_138 : decode b_Md_check 138 = .ok (.aload_n 0, 1) := by decide +kernel
theorem d_Md_check_139 : decode b_Md_check 139 = .ok (.getfield 43, 3) := by decide +kernel
theorem d_Md_check_142 : decode b_Md_check 142 = .ok (.iload_n 2, 1) := by decide +kernel
theorem d_Md_check_143 : decode b_Md_check 143 = .ok (.aload_n 0, 1) := by decide +kernel
theorem d_Md_check_144 : decode b_Md_check 144 = .ok (.getfield 43, 3) := by decide +kernel
theorem d_Md_check_147 : decode b_Md_check 147 = .ok (.iload_n 3, 1) := by decide +kernel
theorem d_Md_check_148 : decode b_Md_check 148 = .ok (.iaload, 1) := by decide +kernel
theorem d_Md_check_149 : decode b_Md_check 149 = .ok (.iastore, 1) := by decide +kernel
theorem d_Md_check_150 : decode b_Md_check 150 = .ok (.iinc 2 1, 3) := by decide +kernel
theorem d_Md_check_153 : decode b_Md_check 153 = .ok (.iinc 3 1, 3) := by decide +kernel
theorem d_Md_check_156 : decode b_Md_check 156 = .ok (.goto (-57), 3) := by decide +kernel
theorem d_Md_check_159 : decode b_Md_check 159 = .ok (.aload_n 0, 1) := by decide +kernel
theorem d_Md_check_160 : decode b_Md_check 160 = .ok (.iload_n 2, 1) := by decide +kernel
theorem d_Md_check_161 : decode b_Md_check 161 = .ok (.putfield 205, 3) := by decide +kernel
theorem d_Md_check_164 : decode b_Md_check 164 = .ok (.aload_n 0, 1) := by decide +kernel
theorem d_Md_check_165 : decode b_Md_check 165 = .ok (.aload_n 0, 1) := by decide +kernel
theorem d_Md_check_166 : decode b_Md_check 166 = .ok (.getfield 7, 3) := by decide +kernel
theorem d_Md_check_169 : decode b_Md_check 169 = .ok (.invokevirtual 211, 3) := by decide +kernel
theorem d_Md_check_172 : decode b_Md_check 172 = .ok (.return_, 1) := by decide +kernel
abbrev b_Md_isRight : ByteArray := prog_12_method_27_code
def y_Md_isRight : MethodName := ⟨"SpellDeskModel", "isRight", "(II)Z"⟩
set_option maxRecDepth 20000 in
theorem Y_Md_isRight : gh_Y y_Md_isRight b_Md_isRight 6 (some .boolean) 2 := ⟨gt_in (i := 1336) rfl rfl, gt_in (i := 14) (by decide +kernel) rfl, by decide +kernel, by decide +kernel, by decide +kernel⟩
theorem V_Md_isRight : Cond.instanceMethod y_Md_isRight ∈ gTbl ∧ Cond.selects y_Md_isRight.cls y_Md_isRight y_Md_isRight ∈ gTbl := ⟨(gt_in (i := 1335) (by decide +kernel) rfl), (gt_sel (n := 26) (i := 43) (by decide +kernel))⟩
theorem d_Md_isRight_0 : decode b_Md_isRight 0 = .ok (.iconst 0, 1) := by decide +kernel
theorem d_Md_isRight_1 : decode b_Md_isRight 1 = .ok (.istore_n 3, 1) := by decide +kernel
theorem d_Md_isRight_2 : decode b_Md_isRight 2 = .ok (.iload_n 3, 1) := by decide +kernel
theorem d_Md_isRight_3 : decode b_Md_isRight 3 = .ok (.aload_n 0, 1) := by decide +kernel
theorem d_Md_isRight_4 : decode b_Md_isRight 4 = .ok (.getfield 106, 3) := by decide +kernel
theorem d_Md_isRight_7 : decode b_Md_isRight 7 = .ok (.if_icmp .ge 90, 3) := by decide +kernel
theorem d_Md_isRight_10 : decode b_Md_isRight 10 = .ok (.iconst 0, 1) := by decide +kernel
theorem d_Md_isRight_11 : decode b_Md_isRight 11 = .ok (.istore 4, 2) := by decide +kernel
theorem d_Md_isRight_13 : decode b_Md_isRight 13 = .ok (.iload 4, 2) := by decide +kernel
theorem d_Md_isRight_15 : decode b_Md_isRight 15 = .ok (.aload_n 0, 1) := by decide +kernel
theorem d_Md_isRight_16 : decode b_Md_isRight 16 = .ok (.getfield 25, 3) := by decide +kernel
theorem d_Md_isRight_19 : decode b_Md_isRight 19 = .ok (.iconst 0, 1) := by decide +kernel
theorem d_Md_isRight_20 : decode b_Md_isRight 20 = .ok (.iaload, 1) := by decide +kernel
theorem d_Md_isRight_21 : decode b_Md_isRight 21 = .ok (.if_icmp .gt 70, 3) := by decide +kernel
theorem d_Md_isRight_24 : decode b_Md_isRight 24 = .ok (.iconst 0, 1) := by decide +kernel
theorem d_Md_isRight_25 : decode b_Md_isRight 25 = .ok (.istore 5, 2) := by decide +kernel
theorem d_Md_isRight_27 : decode b_Md_isRight 27 = .ok (.iload 5, 2) := by decide +kernel
theorem d_Md_isRight_29 : decode b_Md_isRight 29 = .ok (.aload_n 0, 1) := by decide +kernel
theorem d_Md_isRight_30 : decode b_Md_isRight 30 = .ok (.getfield 25, 3) := by decide +kernel
theorem d_Md_isRight_33 : decode b_Md_isRight 33 = .ok (.iconst 1, 1) := by decide +kernel
theorem d_Md_isRight_34 : decode b_Md_isRight 34 = .ok (.iaload, 1) := by decide +kernel
theorem d_Md_isRight_35 : decode b_Md_isRight 35 = .ok (.if_icmp .gt 50, 3) := by decide +kernel
theorem d_Md_isRight_38 : decode b_Md_isRight 38 = .ok (.aload_n 0, 1) := by decide +kernel
theorem d_Md_isRight_39 : decode b_Md_isRight 39 = .ok (.iload_n 3, 1) := by decide +kernel
theorem d_Md_isRight_40 : decode b_Md_isRight 40 = .ok (.iload 4, 2) := by decide +kernel
theorem d_Md_isRight_42 : decode b_Md_isRight 42 = .ok (.invokestatic 120, 3) := by decide +kernel
theorem d_Md_isRight_45 : decode b_Md_isRight 45 = .ok (.iload 5, 2) := by decide +kernel
theorem d_Md_isRight_47 : decode b_Md_isRight 47 = .ok (.invokestatic 124, 3) := by decide +kernel
theorem d_Md_isRight_50 : decode b_Md_isRight 50 = .ok (.invokevirtual 127, 3) := by decide +kernel
theorem d_Md_isRight_53 : decode b_Md_isRight 53 = .ok (.ifCond .eq 26, 3) := by decide +kernel
theorem d_Md_isRight_56 : decode b_Md_isRight 56 = .ok (.aload_n 0, 1) := by decide +kernel
theorem d_Md_isRight_57 : decode b_Md_isRight 57 = .ok (.getfield 37, 3) := by decide +kernel
theorem d_Md_isRight_60 : decode b_Md_isRight 60 = .ok (.iconst 0, 1) := by decide +kernel
theorem d_Md_isRight_61 : decode b_Md_isRight 61 = .ok (.aload_n 0, 1) := by decide +kernel
theorem d_Md_isRight_62 : decode b_Md_isRight 62 = .ok (.getfield 117, 3) := by decide +kernel
theorem d_Md_isRight_65 : decode b_Md_isRight 65 = .ok (.aload_n 0, 1) := by decide +kernel
theorem d_Md_isRight_66 : decode b_Md_isRight 66 = .ok (.getfield 7, 3) := by decide +kernel
theorem d_Md_isRight_69 : decode b_Md_isRight 69 = .ok (.iload_n 1, 1) := by decide +kernel
theorem d_Md_isRight_70 : decode b_Md_isRight 70 = .ok (.iload_n 2, 1) := by decide +kernel
theorem d_Md_isRight_71 : decode b_Md_isRight 71 = .ok (.invokestatic 109, 3) := by decide +kernel
theorem d_Md_isRight_74 : decode b_Md_isRight 74 = .ok (.ifCond .ne 5, 3) := by decide +kernel
theorem d_Md_isRight_77 : decode b_Md_isRight 77 = .ok (.iconst 1, 1) := by decide +kernel
theorem d_Md_isRight_78 : decode b_Md_isRight 78 = .ok (.ireturn, 1) := by decide +kernel
theorem d_Md_isRight_79 : decode b_Md_isRight 79 = .ok (.iinc 5 1, 3) := by decide +kernel
theorem d_Md_isRight_82 : decode b_Md_isRight 82 = .ok (.goto (-55), 3) := by decide +kernel
theorem d_Md_isRight_85 : decode b_Md_isRight 85 = .ok (.iinc 4 1, 3) := by decide +kernel
theorem d_Md_isRight_88 : decode b_Md_isRight 88 = .ok (.goto (-75), 3) := by decide +kernel
theorem d_Md_isRight_91 : decode b_Md_isRight 91 = .ok (.iinc 3 1, 3) := by decide +kernel
theorem d_Md_isRight_94 : decode b_Md_isRight 94 = .ok (.goto (-92), 3) := by decide +kernel
theorem d_Md_isRight_97 : decode b_Md_isRight 97 = .ok (.iconst 0, 1) := by decide +kernel
theorem d_Md_isRight_98 : decode b_Md_isRight 98 = .ok (.ireturn, 1) := by decide +kernel
abbrev b_Md_prefix : ByteArray := prog_12_method_25_code
def y_Md_prefix : MethodName := ⟨"SpellDeskModel", "prefix", "(I)I"⟩
set_option maxRecDepth 20000 in
theorem Y_Md_prefix : gh_Y y_Md_prefix b_Md_prefix 1 (some .int) 1 := ⟨gt_in (i := 1339) rfl rfl, gt_in (i := 14) (by decide +kernel) rfl, by decide +kernel, by decide +kernel, by decide +kernel⟩
theorem V_Md_prefix : Cond.static y_Md_prefix ∈ gTbl := (gt_in (i := 1338) (by decide +kernel) rfl)
theorem d_Md_prefix_0 : decode b_Md_prefix 0 = .ok (.iload_n 0, 1) := by decide +kernel
theorem d_Md_prefix_1 : decode b_Md_prefix 1 = .ok (.ifCond .ne 7, 3) := by decide +kernel
theorem d_Md_prefix_4 : decode b_Md_prefix 4 = .ok (.iconst (-1), 1) := by decide +kernel
theorem d_Md_prefix_5 : decode b_Md_prefix 5 = .ok (.goto 6, 3) := by decide +kernel
theorem d_Md_prefix_8 : decode b_Md_prefix 8 = .ok (.iload_n 0, 1) := by decide +kernel
theorem d_Md_prefix_9 : decode b_Md_prefix 9 = .ok (.iconst 1, 1) := by decide +kernel
theorem d_Md_prefix_10 : decode b_Md_prefix 10 = .ok (.isub, 1) := by decide +kernel
theorem d_Md_prefix_11 : decode b_Md_prefix 11 = .ok (.ireturn, 1) := by decide +kernel
abbrev b_Md_suffix : ByteArray := prog_12_method_26_code
def y_Md_suffix : MethodName := ⟨"SpellDeskModel", "suffix", "(I)I"⟩
set_option maxRecDepth 20000 in
theorem Y_Md_suffix : gh_Y y_Md_suffix b_Md_suffix 1 (some .int) 1 := ⟨gt_in (i := 1342) rfl rfl, gt_in (i := 14) (by decide +kernel) rfl, by decide +kernel, by decide +kernel, by decide +kernel⟩
theorem V_Md_suffix : Cond.static y_Md_suffix ∈ gTbl := (gt_in (i := 1341) (by decide +kernel) rfl)
theorem d_Md_suffix_0 : decode b_Md_suffix 0 = .ok (.iload_n 0, 1) := by decide +kernel
theorem d_Md_suffix_1 : decode b_Md_suffix 1 = .ok (.ifCond .ne 7, 3) := by decide +kernel
theorem d_Md_suffix_4 : decode b_Md_suffix 4 = .ok (.iconst (-1), 1) := by decide +kernel
theorem d_Md_suffix_5 : decode b_Md_suffix 5 = .ok (.goto 7, 3) := by decide +kernel
theorem d_Md_suffix_8 : decode b_Md_suffix 8 = .ok (.bipush 7, 2) := by decide +kernel
theorem d_Md_suffix_10 : decode b_Md_suffix 10 = .ok (.iload_n 0, 1) := by decide +kernel
theorem d_Md_suffix_11 : decode b_Md_suffix 11 = .ok (.iadd, 1) := by decide +kernel
theorem d_Md_suffix_12 : decode b_Md_suffix 12 = .ok (.ireturn, 1) := by decide +kernel
abbrev b_Md_make : ByteArray := prog_12_method_24_code
def y_Md_make : MethodName := ⟨"SpellDeskModel", "make", "(III)Z"⟩
set_option maxRecDepth 20000 in
theorem Y_Md_make : gh_Y y_Md_make b_Md_make 7 (some .boolean) 3 := ⟨gt_in (i := 1346) rfl rfl, gt_in (i := 14) (by decide +kernel) rfl, by decide +kernel, by decide +kernel, by decide +kernel⟩
theorem V_Md_make : Cond.instanceMethod y_Md_make ∈ gTbl ∧ Cond.selects y_Md_make.cls y_Md_make y_Md_make ∈ gTbl := ⟨(gt_in (i := 1345) (by decide +kernel) rfl), (gt_sel (n := 26) (i := 44) (by decide +kernel))⟩
theorem d_Md_make_0 : decode b_Md_make 0 = .ok (.iload_n 2, 1) := by decide +kernel
theorem d_Md_make_1 : decode b_Md_make 1 = .ok (.iconst (-1), 1) := by decide +kernel
theorem d_Md_make_2 : decode b_Md_make 2 = .ok (.if_icmp .ne 7, 3) := by decide +kernel
theorem d_Md_make_5 : decode b_Md_make 5 = .ok (.iconst 0, 1) := by decide +kernel
theorem d_Md_make_6 : decode b_Md_make 6 = .ok (.goto 11, 3) := by decide +kernel
theorem d_Md_make_9 : decode b_Md_make 9 = .ok (.aload_n 0, 1) := by decide +kernel
theorem d_Md_make_10 : decode b_Md_make 10 = .ok (.getfield 31, 3) := by decide +kernel
theorem d_Md_make_13 : decode b_Md_make 13 = .ok (.iconst 3, 1) := by decide +kernel
theorem d_Md_make_14 : decode b_Md_make 14 = .ok (.iload_n 2, 1) := by decide +kernel
theorem d_Md_make_15 : decode b_Md_make 15 = .ok (.imul, 1) := by decide +kernel
theorem d_Md_make_16 : decode b_Md_make 16 = .ok (.iaload, 1) := by decide +kernel
theorem d_Md_make_17 : decode b_Md_make 17 = .ok (.istore 4, 2) := by decide +kernel
theorem d_Md_make_19 : decode b_Md_make 19 = .ok (.iload_n 3, 1) := by decide +kernel
theorem d_Md_make_20 : decode b_Md_make 20 = .ok (.iconst (-1), 1) := by decide +kernel
theorem d_Md_make_21 : decode b_Md_make 21 = .ok (.if_icmp .ne 7, 3) := by decide +kernel
theorem d_Md_make_24 : decode b_Md_make 24 = .ok (.iconst 0, 1) := by decide +kernel
theorem d_Md_make_25 : decode b_Md_make 25 = .ok (.goto 11, 3) := by decide +kernel
theorem d_Md_make_28 : decode b_Md_make 28 = .ok (.aload_n 0, 1) := by decide +kernel
theorem d_Md_make_29 : decode b_Md_make 29 = .ok (.getfield 31, 3) := by decide +kernel
theorem d_Md_make_32 : decode b_Md_make 32 = .ok (.iconst 3, 1) := by decide +kernel
theorem d_Md_make_33 : decode b_Md_make 33 = .ok (.iload_n 3, 1) := by decide +kernel
theorem d_Md_make_34 : decode b_Md_make 34 = .ok (.imul, 1) := by decide +kernel
theorem d_Md_make_35 : decode b_Md_make 35 = .ok (.iaload, 1) := by decide +kernel
theorem d_Md_make_36 : decode b_Md_make 36 = .ok (.istore 5, 2) := by decide +kernel
theorem d_Md_make_38 : decode b_Md_make 38 = .ok (.aload_n 0, 1) := by decide +kernel
theorem d_Md_make_39 : decode b_Md_make 39 = .ok (.iload_n 2, 1) := by decide +kernel
theorem d_Md_make_40 : decode b_Md_make 40 = .ok (.iload_n 1, 1) := by decide +kernel
theorem d_Md_make_41 : decode b_Md_make 41 = .ok (.invokevirtual 113, 3) := by decide +kernel
theorem d_Md_make_44 : decode b_Md_make 44 = .ok (.ifCond .eq 26, 3) := by decide +kernel
theorem d_Md_make_47 : decode b_Md_make 47 = .ok (.aload_n 0, 1) := by decide +kernel
theorem d_Md_make_48 : decode b_Md_make 48 = .ok (.iload_n 3, 1) := by decide +kernel
theorem d_Md_make_49 : decode b_Md_make 49 = .ok (.iload_n 1, 1) := by decide +kernel
theorem d_Md_make_50 : decode b_Md_make 50 = .ok (.invokevirtual 113, 3) := by decide +kernel
theorem d_Md_make_53 : decode b_Md_make 53 = .ok (.ifCond .eq 17, 3) := by decide +kernel
theorem d_Md_make_56 : decode b_Md_make 56 = .ok (.aload_n 0, 1) := by decide +kernel
theorem d_Md_make_57 : decode b_Md_make 57 = .ok (.getfield 16, 3) := by decide +kernel
theorem d_Md_make_60 : decode b_Md_make 60 = .ok (.iload_n 1, 1) := by decide +kernel
theorem d_Md_make_61 : decode b_Md_make 61 = .ok (.iaload, 1) := by decide +kernel
theorem d_Md_make_62 : decode b_Md_make 62 = .ok (.iload 4, 2) := by decide +kernel
theorem d_Md_make_64 : decode b_Md_make 64 = .ok (.iload 5, 2) := by decide +kernel
theorem d_Md_make_66 : decode b_Md_make 66 = .ok (.iadd, 1) := by decide +kernel
theorem d_Md_make_67 : decode b_Md_make 67 = .ok (.if_icmp .gt 5, 3) := by decide +kernel
theorem d_Md_make_70 : decode b_Md_make 70 = .ok (.iconst 0, 1) := by decide +kernel
theorem d_Md_make_71 : decode b_Md_make 71 = .ok (.ireturn, 1) := by decide +kernel
theorem d_Md_make_72 : decode b_Md_make 72 = .ok (.aload_n 0, 1) := by decide +kernel
theorem d_Md_make_73 : decode b_Md_make 73 = .ok (.iconst 0, 1) := by decide +kernel
theorem d_Md_make_74 : decode b_Md_make 74 = .ok (.putfield 117, 3) := by decide +kernel
theorem d_Md_make_77 : decode b_Md_make 77 = .ok (.iconst 0, 1) := by decide +kernel
theorem d_Md_make_78 : decode b_Md_make 78 = .ok (.istore 6, 2) := by decide +kernel
theorem d_Md_make_80 : decode b_Md_make 80 = .ok (.iload_n 2, 1) := by decide +kernel
theorem d_Md_make_81 : decode b_Md_make 81 = .ok (.iconst (-1), 1) := by decide +kernel
theorem d_Md_make_82 : decode b_Md_make 82 = .ok (.if_icmp .eq 58, 3) := by decide +kernel
theorem d_Md_make_85 : decode b_Md_make 85 = .ok (.iload 6, 2) := by decide +kernel
theorem d_Md_make_87 : decode b_Md_make 87 = .ok (.aload_n 0, 1) := by decide +kernel
theorem d_Md_make_88 : decode b_Md_make 88 = .ok (.getfield 31, 3) := by decide +kernel
theorem d_Md_make_91 : decode b_Md_make 91 = .ok (.iconst 3, 1) := by decide +kernel
theorem d_Md_make_92 : decode b_Md_make 92 = .ok (.iload_n 2, 1) := by decide +kernel
theorem d_Md_make_93 : decode b_Md_make 93 = .ok (.imul, 1) := by decide +kernel
theorem d_Md_make_94 : decode b_Md_make 94 = .ok (.iconst 1, 1) := by decide +kernel
theorem d_Md_make_95 : decode b_Md_make 95 = .ok (.iadd, 1) := by decide +kernel
theorem d_Md_make_96 : decode b_Md_make 96 = .ok (.iaload, 1) := by decide +kernel
theorem d_Md_make_97 : decode b_Md_make 97 = .ok (.if_icmp .ge 43, 3) := by decide +kernel
theorem d_Md_make_100 : decode b_Md_make 100 = .ok (.aload_n 0, 1) := by decide +kernel
theorem d_Md_make_101 : decode b_Md_make 101 = .ok (.getfield 37, 3) := by decide +kernel
theorem d_Md_make_104 : decode b_Md_make 104 = .ok (.aload_n 0, 1) := by decide +kernel
theorem d_Md_make_105 : decode b_Md_make 105 = .ok (.getfield 117, 3) := by decide +kernel
theorem d_Md_make_108 : decode b_Md_make 108 = .ok (.aload_n 0, 1) := by decide +kernel
theorem d_Md_make_109 : decode b_Md_make 109 = .ok (.getfield 34, 3) := by decide +kernel
theorem d_Md_make_112 : decode b_Md_make 112 = .ok (.bipush 18, 2) := by decide +kernel
theorem d_Md_make_114 : decode b_Md_make 114 = .ok (.iload_n 2, 1) := by decide +kernel
theorem d_Md_make_115 : decode b_Md_make 115 = .ok (.imul, 1) := by decide +kernel
theorem d_Md_make_116 : decode b_Md_make 116 = .ok (.bipush 6, 2) := by decide +kernel
theorem d_Md_make_118 : decode b_Md_make 118 = .ok (.iadd, 1) := by decide +kernel
theorem d_Md_make_119 : decode b_Md_make 119 = .ok (.iload 6, 2) := by decide +kernel
theorem d_Md_make_121 : decode b_Md_make 121 = .ok (.iadd, 1) := by decide +kernel
theorem d_Md_make_122 : decode b_Md_make 122 = .ok (.iaload, 1) := by decide +kernel
theorem d_Md_make_123 : decode b_Md_make 123 = .ok (.iastore, 1) := by decide +kernel
theorem d_Md_make_124 : decode b_Md_make 124 = .ok (.aload_n 0, 1) := by decide +kernel
theorem d_Md_make_125 : decode b_Md_make 125 = .ok (.dup, 1) := by decide +kernel
theorem d_Md_make_126 : decode b_Md_make 126 = .ok (.getfield 117, 3) := by decide +kernel
theorem d_Md_make_129 : decode b_Md_make 129 = .ok (.iconst 1, 1) := by decide +kernel
theorem d_Md_make_130 : decode b_Md_make 130 = .ok (.iadd, 1) := by decide +kernel
theorem d_Md_make_131 : decode b_Md_make 131 = .ok (.putfield 117, 3) := by decide +kernel
theorem d_Md_make_134 : decode b_Md_make 134 = .ok (.iinc 6 1, 3) := by decide +kernel
theorem d_Md_make_137 : decode b_Md_make 137 = .ok (.goto (-57), 3) := by decide +kernel
theorem d_Md_make_140 : decode b_Md_make 140 = .ok (.iload 4, 2) := by decide +kernel
theorem d_Md_make_142 : decode b_Md_make 142 = .ok (.istore 6, 2) := by decide +kernel
theorem d_Md_make_144 : decode b_Md_make 144 = .ok (.iload 6, 2) := by decide +kernel
theorem d_Md_make_146 : decode b_Md_make 146 = .ok (.aload_n 0, 1) := by decide +kernel
theorem d_Md_make_147 : decode b_Md_make 147 = .ok (.getfield 16, 3) := by decide +kernel
theorem d_Md_make_150 : decode b_Md_make 150 = .ok (.iload_n 1, 1) := by decide +kernel
theorem d_Md_make_151 : decode b_Md_make 151 = .ok (.iaload, 1) := by decide +kernel
theorem d_Md_make_152 : decode b_Md_make 152 = .ok (.iload 5, 2) := by decide +kernel
theorem d_Md_make_154 : decode b_Md_make 154 = .ok (.isub, 1) := by decide +kernel
theorem d_Md_make_155 : decode b_Md_make 155 = .ok (.if_icmp .ge 40, 3) := by decide +kernel
theorem d_Md_make_158 : decode b_Md_make 158 = .ok (.aload_n 0, 1) := by decide +kernel
theorem d_Md_make_159 : decode b_Md_make 159 = .ok (.getfield 37, 3) := by decide +kernel
theorem d_Md_make_162 : decode b_Md_make 162 = .ok (.aload_n 0, 1) := by decide +kernel
theorem d_Md_make_163 : decode b_Md_make 163 = .ok (.getfield 117, 3) := by decide +kernel
theorem d_Md_make_166 : decode b_Md_make 166 = .ok (.aload_n 0, 1) := by decide +kernel
theorem d_Md_make_167 : decode b_Md_make 167 = .ok (.getfield 22, 3) := by decide +kernel
theorem d_Md_make_170 : decode b_Md_make 170 = .ok (.bipush 16, 2) := by decide +kernel
theorem d_Md_make_172 : decode b_Md_make 172 = .ok (.iload_n 1, 1) := by decide +kernel
theorem d_Md_make_173 : decode b_Md_make 173 = .ok (.imul, 1) := by decide +kernel
theorem d_Md_make_174 : decode b_Md_make 174 = .ok (.iload 6, 2) := by decide +kernel
theorem d_Md_make_176 : decode b_Md_make 176 = .ok (.iadd, 1) := by decide +kernel
theorem d_Md_make_177 : decode b_Md_make 177 = .ok (.iaload, 1) := by decide +kernel
theorem d_Md_make_178 : decode b_Md_make 178 = .ok (.iastore, 1) := by decide +kernel
theorem d_Md_make_179 : decode b_Md_make 179 = .ok (.aload_n 0, 1) := by decide +kernel
theorem d_Md_make_180 : decode b_Md_make 180 = .ok (.dup, 1) := by decide +kernel
theorem d_Md_make_181 : decode b_Md_make 181 = .ok (.getfield 117, 3) := by decide +kernel
theorem d_Md_make_184 : decode b_Md_make 184 = .ok (.iconst 1, 1) := by decide +kernel
theorem d_Md_make_185 : decode b_Md_make 185 = .ok (.iadd, 1) := by decide +kernel
theorem d_Md_make_186 : decode b_Md_make 186 = .ok (.putfield 117, 3) := by decide +kernel
theorem d_Md_make_189 : decode b_Md_make 189 = .ok (.iinc 6 1, 3) := by decide +kernel
theorem d_Md_make_192 : decode b_Md_make 192 = .ok (.goto (-48), 3) := by decide +kernel
theorem d_Md_make_195 : decode b_Md_make 195 = .ok (.iconst 0, 1) := by decide +kernel
theorem d_Md_make_196 : decode b_Md_make 196 = .ok (.istore 6, 2) := by decide +kernel
theorem d_Md_make_198 : decode b_Md_make 198 = .ok (.iload_n 3, 1) := by decide +kernel
theorem d_Md_make_199 : decode b_Md_make 199 = .ok (.iconst (-1), 1) := by decide +kernel
theorem d_Md_make_200 : decode b_Md_make 200 = .ok (.if_icmp .eq 58, 3) := by decide +kernel
theorem d_Md_make_203 : decode b_Md_make 203 = .ok (.iload 6, 2) := by decide +kernel
theorem d_Md_make_205 : decode b_Md_make 205 = .ok (.aload_n 0, 1) := by decide +kernel
theorem d_Md_make_206 : decode b_Md_make 206 = .ok (.getfield 31, 3) := by decide +kernel
theorem d_Md_make_209 : decode b_Md_make 209 = .ok (.iconst 3, 1) := by decide +kernel
theorem d_Md_make_210 : decode b_Md_make 210 = .ok (.iload_n 3, 1) := by decide +kernel
theorem d_Md_make_211 : decode b_Md_make 211 = .ok (.imul, 1) := by decide +kernel
theorem d_Md_make_212 : decode b_Md_make 212 = .ok (.iconst 1, 1) := by decide +kernel
theorem d_Md_make_213 : decode b_Md_make 213 = .ok (.iadd, 1) := by decide +kernel
theorem d_Md_make_214 : decode b_Md_make 214 = .ok (.iaload, 1) := by decide +kernel
theorem d_Md_make_215 : decode b_Md_make 215 = .ok (.if_icmp .ge 43, 3) := by decide +kernel
theorem d_Md_make_218 : decode b_Md_make 218 = .ok (.aload_n 0, 1) := by decide +kernel
theorem d_Md_make_219 : decode b_Md_make 219 = .ok (.getfield 37, 3) := by decide +kernel
theorem d_Md_make_222 : decode b_Md_make 222 = .ok (.aload_n 0, 1) := by decide +kernel
theorem d_Md_make_223 : decode b_Md_make 223 = .ok (.getfield 117, 3) := by decide +kernel
theorem d_Md_make_226 : decode b_Md_make 226 = .ok (.aload_n 0, 1) := by decide +kernel
theorem d_Md_make_227 : decode b_Md_make 227 = .ok (.getfield 34, 3) := by decide +kernel
theorem d_Md_make_230 : decode b_Md_make 230 = .ok (.bipush 18, 2) := by decide +kernel
theorem d_Md_make_232 : decode b_Md_make 232 = .ok (.iload_n 3, 1) := by decide +kernel
theorem d_Md_make_233 : decode b_Md_make 233 = .ok (.imul, 1) := by decide +kernel
theorem d_Md_make_234 : decode b_Md_make 234 = .ok (.bipush 6, 2) := by decide +kernel
theorem d_Md_make_236 : decode b_Md_make 236 = .ok (.iadd, 1) := by decide +kernel
theorem d_Md_make_237 : decode b_Md_make 237 = .ok (.iload 6, 2) := by decide +kernel
theorem d_Md_make_239 : decode b_Md_make 239 = .ok (.iadd, 1) := by decide +kernel
theorem d_Md_make_240 : decode b_Md_make 240 = .ok (.iaload, 1) := by decide +kernel
theorem d_Md_make_241 : decode b_Md_make 241 = .ok (.iastore, 1) := by decide +kernel
theorem d_Md_make_242 : decode b_Md_make 242 = .ok (.aload_n 0, 1) := by decide +kernel
theorem d_Md_make_243 : decode b_Md_make 243 = .ok (.dup, 1) := by decide +kernel
theorem d_Md_make_244 : decode b_Md_make 244 = .ok (.getfield 117, 3) := by decide +kernel
theorem d_Md_make_247 : decode b_Md_make 247 = .ok (.iconst 1, 1) := by decide +kernel
theorem d_Md_make_248 : decode b_Md_make 248 = .ok (.iadd, 1) := by decide +kernel
theorem d_Md_make_249 : decode b_Md_make 249 = .ok (.putfield 117, 3) := by decide +kernel
theorem d_Md_make_252 : decode b_Md_make 252 = .ok (.iinc 6 1, 3) := by decide +kernel
theorem d_Md_make_255 : decode b_Md_make 255 = .ok (.goto (-57), 3) := by decide +kernel
theorem d_Md_make_258 : decode b_Md_make 258 = .ok (.iconst 1, 1) := by decide +kernel
theorem d_Md_make_259 : decode b_Md_make 259 = .ok (.ireturn, 1) := by decide +kernel
abbrev b_Md_goes : ByteArray := prog_12_method_23_code
def y_Md_goes : MethodName := ⟨"SpellDeskModel", "goes", "(II)Z"⟩
set_option maxRecDepth 20000 in
theorem Y_Md_goes : gh_Y y_Md_goes b_Md_goes 10 (some .boolean) 2 := ⟨gt_in (i := 1350) rfl rfl, gt_in (i := 14) (by decide +kernel) rfl, by decide +kernel, by decide +kernel, by decide +kernel⟩
theorem V_Md_goes : Cond.instanceMethod y_Md_goes ∈ gTbl ∧ Cond.selects y_Md_goes.cls y_Md_goes y_Md_goes ∈ gTbl := ⟨(gt_in (i := 1349) (by decide +kernel) rfl), (gt_sel (n := 26) (i := 45) (by decide +kernel))⟩
theorem d_Md_goes_0 : decode b_Md_goes 0 = .ok (.iload_n 1, 1) := by decide +kernel
theorem d_Md_goes_1 : decode b_Md_goes 1 = .ok (.iconst (-1), 1) := by decide +kernel
theorem d_Md_goes_2 : decode b_Md_goes 2 = .ok (.if_icmp .ne 5, 3) := by decide +kernel
theorem d_Md_goes_5 : decode b_Md_goes 5 = .ok (.iconst 1, 1) := by decide +kernel
theorem d_Md_goes_6 : decode b_Md_goes 6 = .ok (.ireturn, 1) := by decide +kernel
theorem d_Md_goes_7 : decode b_Md_goes 7 = .ok (.iload_n 1, 1) := by decide +kernel
theorem d_Md_goes_8 : decode b_Md_goes 8 = .ok (.bipush 8, 2) := by decide +kernel
theorem d_Md_goes_10 : decode b_Md_goes 10 = .ok (.if_icmp .ge 7, 3) := by decide +kernel
theorem d_Md_goes_13 : decode b_Md_goes 13 = .ok (.iconst 1, 1) := by decide +kernel
theorem d_Md_goes_14 : decode b_Md_goes 14 = .ok (.goto 4, 3) := by decide +kernel
theorem d_Md_goes_17 : decode b_Md_goes 17 = .ok (.iconst 0, 1) := by decide +kernel
theorem d_Md_goes_18 : decode b_Md_goes 18 = .ok (.istore_n 3, 1) := by decide +kernel
theorem d_Md_goes_19 : decode b_Md_goes 19 = .ok (.aload_n 0, 1) := by decide +kernel
theorem d_Md_goes_20 : decode b_Md_goes 20 = .ok (.getfield 19, 3) := by decide +kernel
theorem d_Md_goes_23 : decode b_Md_goes 23 = .ok (.iload_n 2, 1) := by decide +kernel
theorem d_Md_goes_24 : decode b_Md_goes 24 = .ok (.iaload, 1) := by decide +kernel
theorem d_Md_goes_25 : decode b_Md_goes 25 = .ok (.aload_n 0, 1) := by decide +kernel
theorem d_Md_goes_26 : decode b_Md_goes 26 = .ok (.getfield 28, 3) := by decide +kernel
theorem d_Md_goes_29 : decode b_Md_goes 29 = .ok (.iload_n 1, 1) := by decide +kernel
theorem d_Md_goes_30 : decode b_Md_goes 30 = .ok (.iaload, 1) := by decide +kernel
theorem d_Md_goes_31 : decode b_Md_goes 31 = .ok (.ishr, 1) := by decide +kernel
theorem d_Md_goes_32 : decode b_Md_goes 32 = .ok (.iconst 1, 1) := by decide +kernel
theorem d_Md_goes_33 : decode b_Md_goes 33 = .ok (.iand, 1) := by decide +kernel
theorem d_Md_goes_34 : decode b_Md_goes 34 = .ok (.iconst 1, 1) := by decide +kernel
theorem d_Md_goes_35 : decode b_Md_goes 35 = .ok (.if_icmp .ne 7, 3) := by decide +kernel
theorem d_Md_goes_38 : decode b_Md_goes 38 = .ok (.iconst 1, 1) := by decide +kernel
theorem d_Md_goes_39 : decode b_Md_goes 39 = .ok (.goto 4, 3) := by decide +kernel
theorem d_Md_goes_42 : decode b_Md_goes 42 = .ok (.iconst 0, 1) := by decide +kernel
theorem d_Md_goes_43 : decode b_Md_goes 43 = .ok (.istore 4, 2) := by decide +kernel
theorem d_Md_goes_45 : decode b_Md_goes 45 = .ok (.iconst 0, 1) := by decide +kernel
theorem d_Md_goes_46 : decode b_Md_goes 46 = .ok (.istore 5, 2) := by decide +kernel
theorem d_Md_goes_48 : decode b_Md_goes 48 = .ok (.iload 5, 2) := by decide +kernel
theorem d_Md_goes_50 : decode b_Md_goes 50 = .ok (.iconst 3, 1) := by decide +kernel
theorem d_Md_goes_51 : decode b_Md_goes 51 = .ok (.if_icmp .ge 146, 3) := by decide +kernel
theorem d_Md_goes_54 : decode b_Md_goes 54 = .ok (.aload_n 0, 1) := by decide +kernel
theorem d_Md_goes_55 : decode b_Md_goes 55 = .ok (.getfield 31, 3) := by decide +kernel
theorem d_Md_goes_58 : decode b_Md_goes 58 = .ok (.iconst 3, 1) := by decide +kernel
theorem d_Md_goes_59 : decode b_Md_goes 59 = .ok (.iload_n 1, 1) := by decide +kernel
theorem d_Md_goes_60 : decode b_Md_goes 60 = .ok (.imul, 1) := by decide +kernel
theorem d_Md_goes_61 : decode b_Md_goes 61 = .ok (.iload 5, 2) := by decide +kernel
theorem d_Md_goes_63 : decode b_Md_goes 63 = .ok (.iadd, 1) := by decide +kernel
theorem d_Md_goes_64 : decode b_Md_goes 64 = .ok (.iaload, 1) := by decide +kernel
theorem d_Md_goes_65 : decode b_Md_goes 65 = .ok (.istore 6, 2) := by decide +kernel
theorem d_Md_goes_67 : decode b_Md_goes 67 = .ok (.iload 4, 2) := by decide +kernel
theorem d_Md_goes_69 : decode b_Md_goes 69 = .ok (.ifCond .eq 18, 3) := by decide +kernel
theorem d_Md_goes_72 : decode b_Md_goes 72 = .ok (.aload_n 0, 1) := by decide +kernel
theorem d_Md_goes_73 : decode b_Md_goes 73 = .ok (.getfield 16, 3) := by decide +kernel
theorem d_Md_goes_76 : decode b_Md_goes 76 = .ok (.iload_n 2, 1) := by decide +kernel
theorem d_Md_goes_77 : decode b_Md_goes 77 = .ok (.iaload, 1) := by decide +kernel
theorem d_Md_goes_78 : decode b_Md_goes 78 = .ok (.iload 6, 2) := by decide +kernel
theorem d_Md_goes_80 : decode b_Md_goes 80 = .ok (.if_icmp .lt 7, 3) := by decide +kernel
theorem d_Md_goes_83 : decode b_Md_goes 83 = .ok (.iconst 1, 1) := by decide +kernel
theorem d_Md_goes_84 : decode b_Md_goes 84 = .ok (.goto 4, 3) := by decide +kernel
theorem d_Md_goes_87 : decode b_Md_goes 87 = .ok (.iconst 0, 1) := by decide +kernel
theorem d_Md_goes_88 : decode b_Md_goes 88 = .ok (.istore 4, 2) := by decide +kernel
theorem d_Md_goes_90 : decode b_Md_goes 90 = .ok (.iconst 0, 1) := by decide +kernel
theorem d_Md_goes_91 : decode b_Md_goes 91 = .ok (.istore 7, 2) := by decide +kernel
theorem d_Md_goes_93 : decode b_Md_goes 93 = .ok (.iload 7, 2) := by decide +kernel
theorem d_Md_goes_95 : decode b_Md_goes 95 = .ok (.iload 6, 2) := by decide +kernel
theorem d_Md_goes_97 : decode b_Md_goes 97 = .ok (.if_icmp .ge 94, 3) := by decide +kernel
theorem d_Md_goes_100 : decode b_Md_goes 100 = .ok (.iload 4, 2) := by decide +kernel
theorem d_Md_goes_102 : decode b_Md_goes 102 = .ok (.ifCond .eq 89, 3) := by decide +kernel
theorem d_Md_goes_105 : decode b_Md_goes 105 = .ok (.aload_n 0, 1) := by decide +kernel
theorem d_Md_goes_106 : decode b_Md_goes 106 = .ok (.getfield 34, 3) := by decide +kernel
theorem d_Md_goes_109 : decode b_Md_goes 109 = .ok (.bipush 18, 2) := by decide +kernel
theorem d_Md_goes_111 : decode b_Md_goes 111 = .ok (.iload_n 1, 1) := by decide +kernel
theorem d_Md_goes_112 : decode b_Md_goes 112 = .ok (.imul, 1) := by decide +kernel
theorem d_Md_goes_113 : decode b_Md_goes 113 = .ok (.bipush 6, 2) := by decide +kernel
theorem d_Md_goes_115 : decode b_Md_goes 115 = .ok (.iload 5, 2) := by decide +kernel
theorem d_Md_goes_117 : decode b_Md_goes 117 = .ok (.imul, 1) := by decide +kernel
theorem d_Md_goes_118 : decode b_Md_goes 118 = .ok (.iadd, 1) := by decide +kernel
theorem d_Md_goes_119 : decode b_Md_goes 119 = .ok (.iload 7, 2) := by decide +kernel
theorem d_Md_goes_121 : decode b_Md_goes 121 = .ok (.iadd, 1) := by decide +kernel
theorem d_Md_goes_122 : decode b_Md_goes 122 = .ok (.iaload, 1) := by decide +kernel
theorem d_Md_goes_123 : decode b_Md_goes 123 = .ok (.istore 8, 2) := by decide +kernel
theorem d_Md_goes_125 : decode b_Md_goes 125 = .ok (.aload_n 0, 1) := by decide +kernel
theorem d_Md_goes_126 : decode b_Md_goes 126 = .ok (.getfield 22, 3) := by decide +kernel
theorem d_Md_goes_129 : decode b_Md_goes 129 = .ok (.bipush 16, 2) := by decide +kernel
theorem d_Md_goes_131 : decode b_Md_goes 131 = .ok (.iload_n 2, 1) := by decide +kernel
theorem d_Md_goes_132 : decode b_Md_goes 132 = .ok (.imul, 1) := by decide +kernel
theorem d_Md_goes_133 : decode b_Md_goes 133 = .ok (.iload_n 3, 1) := by decide +kernel
theorem d_Md_goes_134 : decode b_Md_goes 134 = .ok (.ifCond .eq 8, 3) := by decide +kernel
theorem d_Md_goes_137 : decode b_Md_goes 137 = .ok (.iload 7, 2) := by decide +kernel
theorem d_Md_goes_139 : decode b_Md_goes 139 = .ok (.goto 15, 3) := by decide +kernel
theorem d_Md_goes_142 : decode b_Md_goes 142 = .ok (.aload_n 0, 1) := by decide +kernel
theorem d_Md_goes_143 : decode b_Md_goes 143 = .ok (.getfield 16, 3) := by decide +kernel
theorem d_Md_goes_146 : decode b_Md_goes 146 = .ok (.iload_n 2, 1) := by decide +kernel
theorem d_Md_goes_147 : decode b_Md_goes 147 = .ok (.iaload, 1) := by decide +kernel
theorem d_Md_goes_148 : decode b_Md_goes 148 = .ok (.iload 6, 2) := by decide +kernel
theorem d_Md_goes_150 : decode b_Md_goes 150 = .ok (.isub, 1) := by decide +kernel
theorem d_Md_goes_151 : decode b_Md_goes 151 = .ok (.iload 7, 2) := by decide +kernel
theorem d_Md_goes_153 : decode b_Md_goes 153 = .ok (.iadd, 1) := by decide +kernel
theorem d_Md_goes_154 : decode b_Md_goes 154 = .ok (.iadd, 1) := by decide +kernel
theorem d_Md_goes_155 : decode b_Md_goes 155 = .ok (.iaload, 1) := by decide +kernel
theorem d_Md_goes_156 : decode b_Md_goes 156 = .ok (.istore 9, 2) := by decide +kernel
theorem d_Md_goes_158 : decode b_Md_goes 158 = .ok (.iload 8, 2) := by decide +kernel
theorem d_Md_goes_160 : decode b_Md_goes 160 = .ok (.iload 9, 2) := by decide +kernel
theorem d_Md_goes_162 : decode b_Md_goes 162 = .ok (.if_icmp .eq 16, 3) := by decide +kernel
theorem d_Md_goes_165 : decode b_Md_goes 165 = .ok (.iload 5, 2) := by decide +kernel
theorem d_Md_goes_167 : decode b_Md_goes 167 = .ok (.iconst 2, 1) := by decide +kernel
theorem d_Md_goes_168 : decode b_Md_goes 168 = .ok (.if_icmp .ne 14, 3) := by decide +kernel
theorem d_Md_goes_171 : decode b_Md_goes 171 = .ok (.iload 8, 2) := by decide +kernel
theorem d_Md_goes_173 : decode b_Md_goes 173 = .ok (.bipush 46, 2) := by decide +kernel
theorem d_Md_goes_175 : decode b_Md_goes 175 = .ok (.if_icmp .ne 7, 3) := by decide +kernel
theorem d_Md_goes_178 : decode b_Md_goes 178 = .ok (.iconst 1, 1) := by decide +kernel
theorem d_Md_goes_179 : decode b_Md_goes 179 = .ok (.goto 4, 3) := by decide +kernel
theorem d_Md_goes_182 : decode b_Md_goes 182 = .ok (.iconst 0, 1) := by decide +kernel
theorem d_Md_goes_183 : decode b_Md_goes 183 = .ok (.istore 4, 2) := by decide +kernel
theorem d_Md_goes_185 : decode b_Md_goes 185 = .ok (.iinc 7 1, 3) := by decide +kernel
theorem d_Md_goes_188 : decode b_Md_goes 188 = .ok (.goto (-95), 3) := by decide +kernel
theorem d_Md_goes_191 : decode b_Md_goes 191 = .ok (.iinc 5 2, 3) := by decide +kernel
theorem d_Md_goes_194 : decode b_Md_goes 194 = .ok (.goto (-146), 3) := by decide +kernel
theorem d_Md_goes_197 : decode b_Md_goes 197 = .ok (.iload 4, 2) := by decide +kernel
theorem d_Md_goes_199 : decode b_Md_goes 199 = .ok (.ireturn, 1) := by decide +kernel
abbrev b_Md_putWords : ByteArray := prog_12_method_34_code
def y_Md_putWords : MethodName := ⟨"SpellDeskModel", "putWords", "([I)V"⟩
set_option maxRecDepth 20000 in
theorem Y_Md_putWords : gh_Y y_Md_putWords b_Md_putWords 6 none 1 := ⟨gt_in (i := 1354) rfl rfl, gt_in (i := 14) (by decide +kernel) rfl, by decide +kernel, by decide +kernel, by decide +kernel⟩
theorem V_Md_putWords : Cond.instanceMethod y_Md_putWords ∈ gTbl ∧ Cond.selects y_Md_putWords.cls y_Md_putWords y_Md_putWords ∈ gTbl := ⟨(gt_in (i := 1353) (by decide +kernel) rfl), (gt_sel (n := 26) (i := 46) (by decide +kernel))⟩
theorem d_Md_putWords_0 : decode b_Md_putWords 0 = .ok (.iconst (-1), 1) := by decide +kernel
theorem d_Md_putWords_1 : decode b_Md_putWords 1 = .ok (.istore_n 2, 1) := by decide +kernel
theorem d_Md_putWords_2 : decode b_Md_putWords 2 = .ok (.iconst 0, 1) := by decide +kernel
theorem d_Md_putWords_3 : decode b_Md_putWords 3 = .ok (.istore_n 3, 1) := by decide +kernel
theorem d_Md_putWords_4 : decode b_Md_putWords 4 = .ok (.iload_n 3, 1) := by decide +kernel
theorem d_Md_putWords_5 : decode b_Md_putWords 5 = .ok (.iconst (-1), 1) := by decide +kernel
theorem d_Md_putWords_6 : decode b_Md_putWords 6 = .ok (.if_icmp .eq 190, 3) := by decide +kernel
theorem d_Md_putWords_9 : decode b_Md_putWords 9 = .ok (.iconst (-1), 1) := by decide +kernel
theorem d_Md_putWords_10 : decode b_Md_putWords 10 = .ok (.istore_n 3, 1) := by decide +kernel
theorem d_Md_putWords_11 : decode b_Md_putWords 11 = .ok (.iconst 0, 1) := by decide +kernel
theorem d_Md_putWords_12 : decode b_Md_putWords 12 = .ok (.istore 4, 2) := by decide +kernel
theorem d_Md_putWords_14 : decode b_Md_putWords 14 = .ok (.iload 4, 2) := by decide +kernel
theorem d_Md_putWords_16 : decode b_Md_putWords 16 = .ok (.aload_n 0, 1) := by decide +kernel
theorem d_Md_putWords_17 : decode b_Md_putWords 17 = .ok (.getfield 205, 3) := by decide +kernel
theorem d_Md_putWords_20 : decode b_Md_putWords 20 = .ok (.if_icmp .ge 106, 3) := by decide +kernel
theorem d_Md_putWords_23 : decode b_Md_putWords 23 = .ok (.iload_n 2, 1) := by decide +kernel
theorem d_Md_putWords_24 : decode b_Md_putWords 24 = .ok (.iconst (-1), 1) := by decide +kernel
theorem d_Md_putWords_25 : decode b_Md_putWords 25 = .ok (.if_icmp .eq 37, 3) := by decide +kernel
theorem d_Md_putWords_28 : decode b_Md_putWords 28 = .ok (.aload_n 1, 1) := by decide +kernel
theorem d_Md_putWords_29 : decode b_Md_putWords 29 = .ok (.aload_n 0, 1) := by decide +kernel
theorem d_Md_putWords_30 : decode b_Md_putWords 30 = .ok (.getfield 40, 3) := by decide +kernel
theorem d_Md_putWords_33 : decode b_Md_putWords 33 = .ok (.iload 4, 2) := by decide +kernel
theorem d_Md_putWords_35 : decode b_Md_putWords 35 = .ok (.iaload, 1) := by decide +kernel
theorem d_Md_putWords_36 : decode b_Md_putWords 36 = .ok (.aload_n 0, 1) := by decide +kernel
theorem d_Md_putWords_37 : decode b_Md_putWords 37 = .ok (.getfield 43, 3) := by decide +kernel
theorem d_Md_putWords_40 : decode b_Md_putWords 40 = .ok (.iload 4, 2) := by decide +kernel
theorem d_Md_putWords_42 : decode b_Md_putWords 42 = .ok (.iaload, 1) := by decide +kernel
theorem d_Md_putWords_43 : decode b_Md_putWords 43 = .ok (.aload_n 1, 1) := by decide +kernel
theorem d_Md_putWords_44 : decode b_Md_putWords 44 = .ok (.aload_n 0, 1) := by decide +kernel
theorem d_Md_putWords_45 : decode b_Md_putWords 45 = .ok (.getfield 40, 3) := by decide +kernel
theorem d_Md_putWords_48 : decode b_Md_putWords 48 = .ok (.iload_n 2, 1) := by decide +kernel
theorem d_Md_putWords_49 : decode b_Md_putWords 49 = .ok (.iaload, 1) := by decide +kernel
theorem d_Md_putWords_50 : decode b_Md_putWords 50 = .ok (.aload_n 0, 1) := by decide +kernel
theorem d_Md_putWords_51 : decode b_Md_putWords 51 = .ok (.getfield 43, 3) := by decide +kernel
theorem d_Md_putWords_54 : decode b_Md_putWords 54 = .ok (.iload_n 2, 1) := by decide +kernel
theorem d_Md_putWords_55 : decode b_Md_putWords 55 = .ok (.iaload, 1) := by decide +kernel
theorem d_Md_putWords_56 : decode b_Md_putWords 56 = .ok (.invokestatic 109, 3) := by decide +kernel
theorem d_Md_putWords_59 : decode b_Md_putWords 59 = .ok (.ifCond .le 7, 3) := by decide +kernel
theorem d_Md_putWords_62 : decode b_Md_putWords 62 = .ok (.iconst 1, 1) := by decide +kernel
theorem d_Md_putWords_63 : decode b_Md_putWords 63 = .ok (.goto 4, 3) := by decide +kernel
theorem d_Md_putWords_66 : decode b_Md_putWords 66 = .ok (.iconst 0, 1) := by decide +kernel
theorem d_Md_putWords_67 : decode b_Md_putWords 67 = .ok (.istore 5, 2) := by decide +kernel
theorem d_Md_putWords_69 : decode b_Md_putWords 69 = .ok (.iload 5, 2) := by decide +kernel
theorem d_Md_putWords_71 : decode b_Md_putWords 71 = .ok (.ifCond .eq 47, 3) := by decide +kernel
theorem d_Md_putWords_74 : decode b_Md_putWords 74 = .ok (.iload_n 3, 1) := by decide +kernel
theorem d_Md_putWords_75 : decode b_Md_putWords 75 = .ok (.iconst (-1), 1) := by decide +kernel
theorem d_Md_putWords_76 : decode b_Md_putWords 76 = .ok (.if_icmp .eq 37, 3) := by decide +kernel
theorem d_Md_putWords_79 : decode b_Md_putWords 79 = .ok (.aload_n 1, 1) := by decide +kernel
theorem d_Md_putWords_80 : decode b_Md_putWords 80 = .ok (.aload_n 0, 1) := by decide +kernel
theorem d_Md_putWords_81 : decode b_Md_putWords 81 = .ok (.getfield 40, 3) := by decide +kernel
theorem d_Md_putWords_84 : decode b_Md_putWords 84 = .ok (.iload 4, 2) := by decide +kernel
theorem d_Md_putWords_86 : decode b_Md_putWords 86 = .ok (.iaload, 1) := by decide +kernel
theorem d_Md_putWords_87 : decode b_Md_putWords 87 = .ok (.aload_n 0, 1) := by decide +kernel
theorem d_Md_putWords_88 : decode b_Md_putWords 88 = .ok (.getfield 43, 3) := by decide +kernel
theorem d_Md_putWords_91 : decode b_Md_putWords 91 = .ok (.iload 4, 2) := by decide +kernel
theorem d_Md_putWords_93 : decode b_Md_putWords 93 = .ok (.iaload, 1) := by decide +kernel
theorem d_Md_putWords_94 : decode b_Md_putWords 94 = .ok (.aload_n 1, 1) := by decide +kernel
theorem d_Md_putWords_95 : decode b_Md_putWords 95 = .ok (.aload_n 0, 1) := by decide +kernel
theorem d_Md_putWords_96 : decode b_Md_putWords 96 = .ok (.getfield 40, 3) := by decide +kernel
theorem d_Md_putWords_99 : decode b_Md_putWords 99 = .ok (.iload_n 3, 1) := by decide +kernel
theorem d_Md_putWords_100 : decode b_Md_putWords 100 = .ok (.iaload, 1) := by decide +kernel
theorem d_Md_putWords_101 : decode b_Md_putWords 101 = .ok (.aload_n 0, 1) := by decide +kernel
theorem d_Md_putWords_102 : decode b_Md_putWords 102 = .ok (.getfield 43, 3) := by decide +kernel
theorem d_Md_putWords_105 : decode b_Md_putWords 105 = .ok (.iload_n 3, 1) := by decide +kernel
theorem d_Md_putWords_106 : decode b_Md_putWords 106 = .ok (.iaload, 1) := by decide +kernel
theorem d_Md_putWords_107 : decode b_Md_putWords 107 = .ok (.invokestatic 109, 3) := by decide +kernel
theorem d_Md_putWords_110 : decode b_Md_putWords 110 = .ok (.ifCond .ge 8, 3) := by decide +kernel
theorem d_Md_putWords_113 : decode b_Md_putWords 113 = .ok (.iload 4, 2) := by decide +kernel
theorem d_Md_putWords_115 : decode b_Md_putWords 115 = .ok (.goto 4, 3) := by decide +kernel
theorem d_Md_putWords_118 : decode b_Md_putWords 118 = .ok (.iload_n 3, 1) := by decide +kernel
theorem d_Md_putWords_119 : decode b_Md_putWords 119 = .ok (.istore_n 3, 1) := by decide +kernel
theorem d_Md_putWords_120 : decode b_Md_putWords 120 = .ok (.iinc 4 1, 3) := by decide +kernel
theorem d_Md_putWords_123 : decode b_Md_putWords 123 = .ok (.goto (-109), 3) := by decide +kernel
theorem d_Md_putWords_126 : decode b_Md_putWords 126 = .ok (.iload_n 3, 1) := by decide +kernel
theorem d_Md_putWords_127 : decode b_Md_putWords 127 = .ok (.iconst (-1), 1) := by decide +kernel
theorem d_Md_putWords_128 : decode b_Md_putWords 128 = .ok (.if_icmp .eq 14, 3) := by decide +kernel
theorem d_Md_putWords_131 : decode b_Md_putWords 131 = .ok (.iload_n 2, 1) := by decide +kernel
theorem d_Md_putWords_132 : decode b_Md_putWords 132 = .ok (.iconst (-1), 1) := by decide +kernel
theorem d_Md_putWords_133 : decode b_Md_putWords 133 = .ok (.if_icmp .eq 9, 3) := by decide +kernel
theorem d_Md_putWords_136 : decode b_Md_putWords 136 = .ok (.aload_n 0, 1) := by decide +kernel
theorem d_Md_putWords_137 : decode b_Md_putWords 137 = .ok (.bipush 32, 2) := by decide +kernel
theorem d_Md_putWords_139 : decode b_Md_putWords 139 = .ok (.invokevirtual 66, 3) := by decide +kernel
theorem d_Md_putWords_142 : decode b_Md_putWords 142 = .ok (.iconst 0, 1) := by decide +kernel
theorem d_Md_putWords_143 : decode b_Md_putWords 143 = .ok (.istore 4, 2) := by decide +kernel
theorem d_Md_putWords_145 : decode b_Md_putWords 145 = .ok (.iload_n 3, 1) := by decide +kernel
theorem d_Md_putWords_146 : decode b_Md_putWords 146 = .ok (.iconst (-1), 1) := by decide +kernel
theorem d_Md_putWords_147 : decode b_Md_putWords 147 = .ok (.if_icmp .eq 35, 3) := by decide +kernel
theorem d_Md_putWords_150 : decode b_Md_putWords 150 = .ok (.iload 4, 2) := by decide +kernel
theorem d_Md_putWords_152 : decode b_Md_putWords 152 = .ok (.aload_n 0, 1) := by decide +kernel
theorem d_Md_putWords_153 : decode b_Md_putWords 153 = .ok (.getfield 43, 3) := by decide +kernel
theorem d_Md_putWords_156 : decode b_Md_putWords 156 = .ok (.iload_n 3, 1) := by decide +kernel
theorem d_Md_putWords_157 : decode b_Md_putWords 157 = .ok (.iaload, 1) := by decide +kernel
theorem d_Md_putWords_158 : decode b_Md_putWords 158 = .ok (.if_icmp .ge 24, 3) := by decide +kernel
theorem d_Md_putWords_161 : decode b_Md_putWords 161 = .ok (.aload_n 0, 1) := by decide +kernel
theorem d_Md_putWords_162 : decode b_Md_putWords 162 = .ok (.aload_n 1, 1) := by decide +kernel
theorem d_Md_putWords_163 : decode b_Md_putWords 163 = .ok (.aload_n 0, 1) := by decide +kernel
theorem d_Md_putWords_164 : decode b_Md_putWords 164 = .ok (.getfield 40, 3) := by decide +kernel
theorem d_Md_putWords_167 : decode b_Md_putWords 167 = .ok (.iload_n 3, 1) := by decide +kernel
theorem d_Md_putWords_168 : decode b_Md_putWords 168 = .ok (.iaload, 1) := by decide +kernel
theorem d_Md_putWords_169 : decode b_Md_putWords 169 = .ok (.iload 4, 2) := by decide +kernel
theorem d_Md_putWords_171 : decode b_Md_putWords 171 = .ok (.iadd, 1) := by decide +kernel
theorem d_Md_putWords_172 : decode b_Md_putWords 172 = .ok (.iaload, 1) := by decide +kernel
theorem d_Md_putWords_173 : decode b_Md_putWords 173 = .ok (.invokevirtual 66, 3) := by decide +kernel
theorem d_Md_putWords_176 : decode b_Md_putWords 176 = .ok (.iinc 4 1, 3) := by decide +kernel
theorem d_Md_putWords_179 : decode b_Md_putWords 179 = .ok (.goto (-34), 3) := by decide +kernel
theorem d_Md_putWords_182 : decode b_Md_putWords 182 = .ok (.iload_n 3, 1) := by decide +kernel
theorem d_Md_putWords_183 : decode b_Md_putWords 183 = .ok (.iconst (-1), 1) := by decide +kernel
theorem d_Md_putWords_184 : decode b_Md_putWords 184 = .ok (.if_icmp .ne 7, 3) := by decide +kernel
theorem d_Md_putWords_187 : decode b_Md_putWords 187 = .ok (.iload_n 2, 1) := by decide +kernel
theorem d_Md_putWords_188 : decode b_Md_putWords 188 = .ok (.goto 4, 3) := by decide +kernel
theorem d_Md_putWords_191 : decode b_Md_putWords 191 = .ok (.iload_n 3, 1) := by decide +kernel
theorem d_Md_putWords_192 : decode b_Md_putWords 192 = .ok (.istore_n 2, 1) := by decide +kernel
theorem d_Md_putWords_193 : decode b_Md_putWords 193 = .ok (.goto (-189), 3) := by decide +kernel
theorem d_Md_putWords_196 : decode b_Md_putWords 196 = .ok (.iload_n 2, 1) := by decide +kernel
theorem d_Md_putWords_197 : decode b_Md_putWords 197 = .ok (.iconst (-1), 1) := by decide +kernel
theorem d_Md_putWords_198 : decode b_Md_putWords 198 = .ok (.if_icmp .ne 9, 3) := by decide +kernel
theorem d_Md_putWords_201 : decode b_Md_putWords 201 = .ok (.aload_n 0, 1) := by decide +kernel
theorem d_Md_putWords_202 : decode b_Md_putWords 202 = .ok (.bipush 45, 2) := by decide +kernel
theorem d_Md_putWords_204 : decode b_Md_putWords 204 = .ok (.invokevirtual 66, 3) := by decide +kernel
theorem d_Md_putWords_207 : decode b_Md_putWords 207 = .ok (.return_, 1) := by decide +kernel
abbrev b_Md_look : ByteArray := prog_12_method_36_code
def y_Md_look : MethodName := ⟨"SpellDeskModel", "look", "(II)V"⟩
set_option maxRecDepth 20000 in
theorem Y_Md_look : gh_Y y_Md_look b_Md_look 5 none 2 := ⟨gt_in (i := 1359) rfl rfl, gt_in (i := 14) (by decide +kernel) rfl, by decide +kernel, by decide +kernel, by decide +kernel⟩
theorem V_Md_look : Cond.instanceMethod y_Md_look ∈ gTbl ∧ Cond.selects y_Md_look.cls y_Md_look y_Md_look ∈ gTbl := ⟨(gt_in (i := 1358) (by decide +kernel) rfl), (gt_sel (n := 26) (i := 47) (by decide +kernel))⟩
theorem d_Md_look_0 : decode b_Md_look 0 = .ok (.aload_n 0, 1) := by decide +kernel
theorem d_Md_look_1 : decode b_Md_look 1 = .ok (.invokevirtual 184, 3) := by decide +kernel
theorem d_Md_look_4 : decode b_Md_look 4 = .ok (.ifCond .ne 4, 3) := by decide +kernel
theorem d_Md_look_7 : decode b_Md_look 7 = .ok (.return_, 1) := by decide +kernel
theorem d_Md_look_8 : decode b_Md_look 8 = .ok (.iconst 0, 1) := by decide +kernel
theorem d_Md_look_9 : decode b_Md_look 9 = .ok (.istore_n 3, 1) := by decide +kernel
theorem d_Md_look_10 : decode b_Md_look 10 = .ok (.aload_n 0, 1) := by decide +kernel
theorem d_Md_look_11 : decode b_Md_look 11 = .ok (.iconst (-1), 1) := by decide +kernel
theorem d_Md_look_12 : decode b_Md_look 12 = .ok (.invokevirtual 215, 3) := by decide +kernel
theorem d_Md_look_15 : decode b_Md_look 15 = .ok (.istore 4, 2) := by decide +kernel
theorem d_Md_look_17 : decode b_Md_look 17 = .ok (.iload 4, 2) := by decide +kernel
theorem d_Md_look_19 : decode b_Md_look 19 = .ok (.iconst (-1), 1) := by decide +kernel
theorem d_Md_look_20 : decode b_Md_look 20 = .ok (.if_icmp .eq 65, 3) := by decide +kernel
theorem d_Md_look_23 : decode b_Md_look 23 = .ok (.aload_n 0, 1) := by decide +kernel
theorem d_Md_look_24 : decode b_Md_look 24 = .ok (.getfield 16, 3) := by decide +kernel
theorem d_Md_look_27 : decode b_Md_look 27 = .ok (.iload 4, 2) := by decide +kernel
theorem d_Md_look_29 : decode b_Md_look 29 = .ok (.iaload, 1) := by decide +kernel
theorem d_Md_look_30 : decode b_Md_look 30 = .ok (.iload_n 2, 1) := by decide +kernel
theorem d_Md_look_31 : decode b_Md_look 31 = .ok (.if_icmp .lt 43, 3) := by decide +kernel
theorem d_Md_look_34 : decode b_Md_look 34 = .ok (.aload_n 0, 1) := by decide +kernel
theorem d_Md_look_35 : decode b_Md_look 35 = .ok (.getfield 22, 3) := by decide +kernel
theorem d_Md_look_38 : decode b_Md_look 38 = .ok (.bipush 16, 2) := by decide +kernel
theorem d_Md_look_40 : decode b_Md_look 40 = .ok (.iload 4, 2) := by decide +kernel
theorem d_Md_look_42 : decode b_Md_look 42 = .ok (.imul, 1) := by decide +kernel
theorem d_Md_look_43 : decode b_Md_look 43 = .ok (.iload_n 2, 1) := by decide +kernel
theorem d_Md_look_44 : decode b_Md_look 44 = .ok (.aload_n 0, 1) := by decide +kernel
theorem d_Md_look_45 : decode b_Md_look 45 = .ok (.getfield 7, 3) := by decide +kernel
theorem d_Md_look_48 : decode b_Md_look 48 = .ok (.iload_n 1, 1) := by decide +kernel
theorem d_Md_look_49 : decode b_Md_look 49 = .ok (.iload_n 2, 1) := by decide +kernel
theorem d_Md_look_50 : decode b_Md_look 50 = .ok (.invokestatic 109, 3) := by decide +kernel
theorem d_Md_look_53 : decode b_Md_look 53 = .ok (.ifCond .ne 21, 3) := by decide +kernel
theorem d_Md_look_56 : decode b_Md_look 56 = .ok (.iload_n 3, 1) := by decide +kernel
theorem d_Md_look_57 : decode b_Md_look 57 = .ok (.ifCond .eq 9, 3) := by decide +kernel
theorem d_Md_look_60 : decode b_Md_look 60 = .ok (.aload_n 0, 1) := by decide +kernel
theorem d_Md_look_61 : decode b_Md_look 61 = .ok (.bipush 32, 2) := by decide +kernel
theorem d_Md_look_63 : decode b_Md_look 63 = .ok (.invokevirtual 66, 3) := by decide +kernel
theorem d_Md_look_66 : decode b_Md_look 66 = .ok (.aload_n 0, 1) := by decide +kernel
theorem d_Md_look_67 : decode b_Md_look 67 = .ok (.iload 4, 2) := by decide +kernel
theorem d_Md_look_69 : decode b_Md_look 69 = .ok (.invokevirtual 218, 3) := by decide +kernel
theorem d_Md_look_72 : decode b_Md_look 72 = .ok (.iconst 1, 1) := by decide +kernel
theorem d_Md_look_73 : decode b_Md_look 73 = .ok (.istore_n 3, 1) := by decide +kernel
theorem d_Md_look_74 : decode b_Md_look 74 = .ok (.aload_n 0, 1) := by decide +kernel
theorem d_Md_look_75 : decode b_Md_look 75 = .ok (.iload 4, 2) := by decide +kernel
theorem d_Md_look_77 : decode b_Md_look 77 = .ok (.invokevirtual 215, 3) := by decide +kernel
theorem d_Md_look_80 : decode b_Md_look 80 = .ok (.istore 4, 2) := by decide +kernel
theorem d_Md_look_82 : decode b_Md_look 82 = .ok (.goto (-65), 3) := by decide +kernel
theorem d_Md_look_85 : decode b_Md_look 85 = .ok (.iload_n 3, 1) := by decide +kernel
theorem d_Md_look_86 : decode b_Md_look 86 = .ok (.ifCond .ne 9, 3) := by decide +kernel
theorem d_Md_look_89 : decode b_Md_look 89 = .ok (.aload_n 0, 1) := by decide +kernel
theorem d_Md_look_90 : decode b_Md_look 90 = .ok (.bipush 45, 2) := by decide +kernel
theorem d_Md_look_92 : decode b_Md_look 92 = .ok (.invokevirtual 66, 3) := by decide +kernel
theorem d_Md_look_95 : decode b_Md_look 95 = .ok (.return_, 1) := by decide +kernel
abbrev b_Md_behind : ByteArray := prog_12_method_22_code
def y_Md_behind : MethodName := ⟨"SpellDeskModel", "behind", "(I)I"⟩
set_option maxRecDepth 20000 in
theorem Y_Md_behind : gh_Y y_Md_behind b_Md_behind 5 (some .int) 1 := ⟨gt_in (i := 1363) rfl rfl, gt_in (i := 14) (by decide +kernel) rfl, by decide +kernel, by decide +kernel, by decide +kernel⟩
theorem V_Md_behind : Cond.instanceMethod y_Md_behind ∈ gTbl ∧ Cond.selects y_Md_behind.cls y_Md_behind y_Md_behind ∈ gTbl := ⟨(gt_in (i := 1362) (by decide +kernel) rfl), (gt_sel (n := 26) (i := 48) (by decide +kernel))⟩
theorem d_Md_behind_0 : decode b_Md_behind 0 = .ok (.iconst (-1), 1) := by decide +kernel
theorem d_Md_behind_1 : decode b_Md_behind 1 = .ok (.istore_n 2, 1) := by decide +kernel
theorem d_Md_behind_2 : decode b_Md_behind 2 = .ok (.iconst 0, 1) := by decide +kernel
theorem d_Md_behind_3 : decode b_Md_behind 3 = .ok (.istore_n 3, 1) := by decide +kernel
theorem d_Md_behind_4 : decode b_Md_behind 4 = .ok (.iload_n 3, 1) := by decide +kernel
theorem d_Md_behind_5 : decode b_Md_behind 5 = .ok (.aload_n 0, 1) := by decide +kernel
theorem d_Md_behind_6 : decode b_Md_behind 6 = .ok (.getfield 106, 3) := by decide +kernel
theorem d_Md_behind_9 : decode b_Md_behind 9 = .ok (.if_icmp .ge 105, 3) := by decide +kernel
theorem d_Md_behind_12 : decode b_Md_behind 12 = .ok (.iload_n 1, 1) := by decide +kernel
theorem d_Md_behind_13 : decode b_Md_behind 13 = .ok (.iconst (-1), 1) := by decide +kernel
theorem d_Md_behind_14 : decode b_Md_behind 14 = .ok (.if_icmp .eq 37, 3) := by decide +kernel
theorem d_Md_behind_17 : decode b_Md_behind 17 = .ok (.aload_n 0, 1) := by decide +kernel
theorem d_Md_behind_18 : decode b_Md_behind 18 = .ok (.getfield 22, 3) := by decide +kernel
theorem d_Md_behind_21 : decode b_Md_behind 21 = .ok (.bipush 16, 2) := by decide +kernel
theorem d_Md_behind_23 : decode b_Md_behind 23 = .ok (.iload_n 3, 1) := by decide +kernel
theorem d_Md_behind_24 : decode b_Md_behind 24 = .ok (.imul, 1) := by decide +kernel
theorem d_Md_behind_25 : decode b_Md_behind 25 = .ok (.aload_n 0, 1) := by decide +kernel
theorem d_Md_behind_26 : decode b_Md_behind 26 = .ok (.getfield 16, 3) := by decide +kernel
theorem d_Md_behind_29 : decode b_Md_behind 29 = .ok (.iload_n 3, 1) := by decide +kernel
theorem d_Md_behind_30 : decode b_Md_behind 30 = .ok (.iaload, 1) := by decide +kernel
theorem d_Md_behind_31 : decode b_Md_behind 31 = .ok (.aload_n 0, 1) := by decide +kernel
theorem d_Md_behind_32 : decode b_Md_behind 32 = .ok (.getfield 22, 3) := by decide +kernel
theorem d_Md_behind_35 : decode b_Md_behind 35 = .ok (.bipush 16, 2) := by decide +kernel
theorem d_Md_behind_37 : decode b_Md_behind 37 = .ok (.iload_n 1, 1) := by decide +kernel
theorem d_Md_behind_38 : decode b_Md_behind 38 = .ok (.imul, 1) := by decide +kernel
theorem d_Md_behind_39 : decode b_Md_behind 39 = .ok (.aload_n 0, 1) := by decide +kernel
theorem d_Md_behind_40 : decode b_Md_behind 40 = .ok (.getfield 16, 3) := by decide +kernel
theorem d_Md_behind_43 : decode b_Md_behind 43 = .ok (.iload_n 1, 1) := by decide +kernel
theorem d_Md_behind_44 : decode b_Md_behind 44 = .ok (.iaload, 1) := by decide +kernel
theorem d_Md_behind_45 : decode b_Md_behind 45 = .ok (.invokestatic 109, 3) := by decide +kernel
theorem d_Md_behind_48 : decode b_Md_behind 48 = .ok (.ifCond .le 7, 3) := by decide +kernel
theorem d_Md_behind_51 : decode b_Md_behind 51 = .ok (.iconst 1, 1) := by decide +kernel
theorem d_Md_behind_52 : decode b_Md_behind 52 = .ok (.goto 4, 3) := by decide +kernel
theorem d_Md_behind_55 : decode b_Md_behind 55 = .ok (.iconst 0, 1) := by decide +kernel
theorem d_Md_behind_56 : decode b_Md_behind 56 = .ok (.istore 4, 2) := by decide +kernel
theorem d_Md_behind_58 : decode b_Md_behind 58 = .ok (.iload 4, 2) := by decide +kernel
theorem d_Md_behind_60 : decode b_Md_behind 60 = .ok (.ifCond .eq 46, 3) := by decide +kernel
theorem d_Md_behind_63 : decode b_Md_behind 63 = .ok (.iload_n 2, 1) := by decide +kernel
theorem d_Md_behind_64 : decode b_Md_behind 64 = .ok (.iconst (-1), 1) := by decide +kernel
theorem d_Md_behind_65 : decode b_Md_behind 65 = .ok (.if_icmp .eq 37, 3) := by decide +kernel
theorem d_Md_behind_68 : decode b_Md_behind 68 = .ok (.aload_n 0, 1) := by decide +kernel
theorem d_Md_behind_69 : decode b_Md_behind 69 = .ok (.getfield 22, 3) := by decide +kernel
theorem d_Md_behind_72 : decode b_Md_behind 72 = .ok (.bipush 16, 2) := by decide +kernel
theorem d_Md_behind_74 : decode b_Md_behind 74 = .ok (.iload_n 3, 1) := by decide +kernel
theorem d_Md_behind_75 : decode b_Md_behind 75 = .ok (.imul, 1) := by decide +kernel
theorem d_Md_behind_76 : decode b_Md_behind 76 = .ok (.aload_n 0, 1) := by decide +kernel
theorem d_Md_behind_77 : decode b_Md_behind 77 = .ok (.getfield 16, 3) := by decide +kernel
theorem d_Md_behind_80 : decode b_Md_behind 80 = .ok (.iload_n 3, 1) := by decide +kernel
theorem d_Md_behind_81 : decode b_Md_behind 81 = .ok (.iaload, 1) := by decide +kernel
theorem d_Md_behind_82 : decode b_Md_behind 82 = .ok (.aload_n 0, 1) := by decide +kernel
theorem d_Md_behind_83 : decode b_Md_behind 83 = .ok (.getfield 22, 3) := by decide +kernel
theorem d_Md_behind_86 : decode b_Md_behind 86 = .ok (.bipush 16, 2) := by decide +kernel
theorem d_Md_behind_88 : decode b_Md_behind 88 = .ok (.iload_n 2, 1) := by decide +kernel
theorem d_Md_behind_89 : decode b_Md_behind 89 = .ok (.imul, 1) := by decide +kernel
theorem d_Md_behind_90 : decode b_Md_behind 90 = .ok (.aload_n 0, 1) := by decide +kernel
theorem d_Md_behind_91 : decode b_Md_behind 91 = .ok (.getfield 16, 3) := by decide +kernel
theorem d_Md_behind_94 : decode b_Md_behind 94 = .ok (.iload_n 2, 1) := by decide +kernel
theorem d_Md_behind_95 : decode b_Md_behind 95 = .ok (.iaload, 1) := by decide +kernel
theorem d_Md_behind_96 : decode b_Md_behind 96 = .ok (.invokestatic 109, 3) := by decide +kernel
theorem d_Md_behind_99 : decode b_Md_behind 99 = .ok (.ifCond .ge 7, 3) := by decide +kernel
theorem d_Md_behind_102 : decode b_Md_behind 102 = .ok (.iload_n 3, 1) := by decide +kernel
theorem d_Md_behind_103 : decode b_Md_behind 103 = .ok (.goto 4, 3) := by decide +kernel
theorem d_Md_behind_106 : decode b_Md_behind 106 = .ok (.iload_n 2, 1) := by decide +kernel
theorem d_Md_behind_107 : decode b_Md_behind 107 = .ok (.istore_n 2, 1) := by decide +kernel
theorem d_Md_behind_108 : decode b_Md_behind 108 = .ok (.iinc 3 1, 3) := by decide +kernel
theorem d_Md_behind_111 : decode b_Md_behind 111 = .ok (.goto (-107), 3) := by decide +kernel
theorem d_Md_behind_114 : decode b_Md_behind 114 = .ok (.iload_n 2, 1) := by decide +kernel
theorem d_Md_behind_115 : decode b_Md_behind 115 = .ok (.ireturn, 1) := by decide +kernel
abbrev b_Md_putEntry : ByteArray := prog_12_method_35_code
def y_Md_putEntry : MethodName := ⟨"SpellDeskModel", "putEntry", "(I)V"⟩
set_option maxRecDepth 20000 in
theorem Y_Md_putEntry : gh_Y y_Md_putEntry b_Md_putEntry 3 none 1 := ⟨gt_in (i := 1367) rfl rfl, gt_in (i := 14) (by decide +kernel) rfl, by decide +kernel, by decide +kernel, by decide +kernel⟩
theorem V_Md_putEntry : Cond.instanceMethod y_Md_putEntry ∈ gTbl ∧ Cond.selects y_Md_putEntry.cls y_Md_putEntry y_Md_putEntry ∈ gTbl := ⟨(gt_in (i := 1366) (by decide +kernel) rfl), (gt_sel (n := 26) (i := 49) (by decide +kernel))⟩
theorem d_Md_putEntry_0 : decode b_Md_putEntry 0 = .ok (.iconst 0, 1) := by decide +kernel
theorem d_Md_putEntry_1 : decode b_Md_putEntry 1 = .ok (.istore_n 2, 1) := by decide +kernel
theorem d_Md_putEntry_2 : decode b_Md_putEntry 2 = .ok (.iload_n 2, 1) := by decide +kernel
theorem d_Md_putEntry_3 : decode b_Md_putEntry 3 = .ok (.aload_n 0, 1) := by decide +kernel
theorem d_Md_putEntry_4 : decode b_Md_putEntry 4 = .ok (.getfield 16, 3) := by decide +kernel
theorem d_Md_putEntry_7 : decode b_Md_putEntry 7 = .ok (.iload_n 1, 1) := by decide +kernel
theorem d_Md_putEntry_8 : decode b_Md_putEntry 8 = .ok (.iaload, 1) := by decide +kernel
theorem d_Md_putEntry_9 : decode b_Md_putEntry 9 = .ok (.if_icmp .ge 24, 3) := by decide +kernel
theorem d_Md_putEntry_12 : decode b_Md_putEntry 12 = .ok (.aload_n 0, 1) := by decide +kernel
theorem d_Md_putEntry_13 : decode b_Md_putEntry 13 = .ok (.aload_n 0, 1) := by decide +kernel
theorem d_Md_putEntry_14 : decode b_Md_putEntry 14 = .ok (.getfield 22, 3) := by decide +kernel
theorem d_Md_putEntry_17 : decode b_Md_putEntry 17 = .ok (.bipush 16, 2) := by decide +kernel
theorem d_Md_putEntry_19 : decode b_Md_putEntry 19 = .ok (.iload_n 1, 1) := by decide +kernel
theorem d_Md_putEntry_20 : decode b_Md_putEntry 20 = .ok (.imul, 1) := by decide +kernel
theorem d_Md_putEntry_21 : decode b_Md_putEntry 21 = .ok (.iload_n 2, 1) := by decide +kernel
theorem d_Md_putEntry_22 : decode b_Md_putEntry 22 = .ok (.iadd, 1) := by decide +kernel
theorem d_Md_putEntry_23 : decode b_Md_putEntry 23 = .ok (.iaload, 1) := by decide +kernel
theorem d_Md_putEntry_24 : decode b_Md_putEntry 24 = .ok (.invokevirtual 66, 3) := by decide +kernel
theorem d_Md_putEntry_27 : decode b_Md_putEntry 27 = .ok (.iinc 2 1, 3) := by decide +kernel
theorem d_Md_putEntry_30 : decode b_Md_putEntry 30 = .ok (.goto (-28), 3) := by decide +kernel
theorem d_Md_putEntry_33 : decode b_Md_putEntry 33 = .ok (.return_, 1) := by decide +kernel
abbrev b_Md_why : ByteArray := prog_12_method_37_code
def y_Md_why : MethodName := ⟨"SpellDeskModel", "why", "(II)V"⟩
set_option maxRecDepth 20000 in
theorem Y_Md_why : gh_Y y_Md_why b_Md_why 7 none 2 := ⟨gt_in (i := 1372) rfl rfl, gt_in (i := 14) (by decide +kernel) rfl, by decide +kernel, by decide +kernel, by decide +kernel⟩
theorem V_Md_why : Cond.instanceMethod y_Md_why ∈ gTbl ∧ Cond.selects y_Md_why.cls y_Md_why y_Md_why ∈ gTbl := ⟨(gt_in (i := 1371) (by decide +kernel) rfl), (gt_sel (n := 26) (i := 50) (by decide +kernel))⟩
theorem d_Md_why_0 : decode b_Md_why 0 = .ok (.aload_n 0, 1) := by decide +kernel
theorem d_Md_why_1 : decode b_Md_why 1 = .ok (.invokevirtual 184, 3) := by decide +kernel
theorem d_Md_why_4 : decode b_Md_why 4 = .ok (.ifCond .ne 4, 3) := by decide +kernel
theorem d_Md_why_7 : decode b_Md_why 7 = .ok (.return_, 1) := by decide +kernel
theorem d_Md_why_8 : decode b_Md_why 8 = .ok (.iconst 0, 1) := by decide +kernel
theorem d_Md_why_9 : decode b_Md_why 9 = .ok (.istore_n 3, 1) := by decide +kernel
theorem d_Md_why_10 : decode b_Md_why 10 = .ok (.aload_n 0, 1) := by decide +kernel
theorem d_Md_why_11 : decode b_Md_why 11 = .ok (.iconst (-1), 1) := by decide +kernel
theorem d_Md_why_12 : decode b_Md_why 12 = .ok (.invokevirtual 215, 3) := by decide +kernel
theorem d_Md_why_15 : decode b_Md_why 15 = .ok (.istore 4, 2) := by decide +kernel
theorem d_Md_why_17 : decode b_Md_why 17 = .ok (.iload 4, 2) := by decide +kernel
theorem d_Md_why_19 : decode b_Md_why 19 = .ok (.iconst (-1), 1) := by decide +kernel
theorem d_Md_why_20 : decode b_Md_why 20 = .ok (.if_icmp .eq 158, 3) := by decide +kernel
theorem d_Md_why_23 : decode b_Md_why 23 = .ok (.iconst 0, 1) := by decide +kernel
theorem d_Md_why_24 : decode b_Md_why 24 = .ok (.istore 5, 2) := by decide +kernel
theorem d_Md_why_26 : decode b_Md_why 26 = .ok (.iload 5, 2) := by decide +kernel
theorem d_Md_why_28 : decode b_Md_why 28 = .ok (.aload_n 0, 1) := by decide +kernel
theorem d_Md_why_29 : decode b_Md_why 29 = .ok (.getfield 25, 3) := by decide +kernel
theorem d_Md_why_32 : decode b_Md_why 32 = .ok (.iconst 0, 1) := by decide +kernel
theorem d_Md_why_33 : decode b_Md_why 33 = .ok (.iaload, 1) := by decide +kernel
theorem d_Md_why_34 : decode b_Md_why 34 = .ok (.if_icmp .gt 133, 3) := by decide +kernel
theorem d_Md_why_37 : decode b_Md_why 37 = .ok (.iconst 0, 1) := by decide +kernel
theorem d_Md_why_38 : decode b_Md_why 38 = .ok (.istore 6, 2) := by decide +kernel
theorem d_Md_why_40 : decode b_Md_why 40 = .ok (.iload 6, 2) := by decide +kernel
theorem d_Md_why_42 : decode b_Md_why 42 = .ok (.aload_n 0, 1) := by decide +kernel
theorem d_Md_why_43 : decode b_Md_why 43 = .ok (.getfield 25, 3) := by decide +kernel
theorem d_Md_why_46 : decode b_Md_why 46 = .ok (.iconst 1, 1) := by decide +kernel
theorem d_Md_why_47 : decode b_Md_why 47 = .ok (.iaload, 1) := by decide +kernel
theorem d_Md_why_48 : decode b_Md_why 48 = .ok (.if_icmp .gt 113, 3) := by decide +kernel
theorem d_Md_why_51 : decode b_Md_why 51 = .ok (.aload_n 0, 1) := by decide +kernel
theorem d_Md_why_52 : decode b_Md_why 52 = .ok (.iload 4, 2) := by decide +kernel
theorem d_Md_why_54 : decode b_Md_why 54 = .ok (.iload 5, 2) := by decide +kernel
theorem d_Md_why_56 : decode b_Md_why 56 = .ok (.invokestatic 120, 3) := by decide +kernel
theorem d_Md_why_59 : decode b_Md_why 59 = .ok (.iload 6, 2) := by decide +kernel
theorem d_Md_why_61 : decode b_Md_why 61 = .ok (.invokestatic 124, 3) := by decide +kernel
theorem d_Md_why_64 : decode b_Md_why 64 = .ok (.invokevirtual 127, 3) := by decide +kernel
theorem d_Md_why_67 : decode b_Md_why 67 = .ok (.ifCond .eq 88, 3) := by decide +kernel
theorem d_Md_why_70 : decode b_Md_why 70 = .ok (.aload_n 0, 1) := by decide +kernel
theorem d_Md_why_71 : decode b_Md_why 71 = .ok (.getfield 37, 3) := by decide +kernel
theorem d_Md_why_74 : decode b_Md_why 74 = .ok (.iconst 0, 1) := by decide +kernel
theorem d_Md_why_75 : decode b_Md_why 75 = .ok (.aload_n 0, 1) := by decide +kernel
theorem d_Md_why_76 : decode b_Md_why 76 = .ok (.getfield 117, 3) := by decide +kernel
theorem d_Md_why_79 : decode b_Md_why 79 = .ok (.aload_n 0, 1) := by decide +kernel
theorem d_Md_why_80 : decode b_Md_why 80 = .ok (.getfield 7, 3) := by decide +kernel
theorem d_Md_why_83 : decode b_Md_why 83 = .ok (.iload_n 1, 1) := by decide +kernel
theorem d_Md_why_84 : decode b_Md_why 84 = .ok (.iload_n 2, 1) := by decide +kernel
theorem d_Md_why_85 : decode b_Md_why 85 = .ok (.invokestatic 109, 3) := by decide +kernel
theorem d_Md_why_88 : decode b_Md_why 88 = .ok (.ifCond .ne 67, 3) := by decide +kernel
theorem d_Md_why_91 : decode b_Md_why 91 = .ok (.iload_n 3, 1) := by decide +kernel
theorem d_Md_why_92 : decode b_Md_why 92 = .ok (.ifCond .eq 9, 3) := by decide +kernel
theorem d_Md_why_95 : decode b_Md_why 95 = .ok (.aload_n 0, 1) := by decide +kernel
theorem d_Md_why_96 : decode b_Md_why 96 = .ok (.bipush 32, 2) := by decide +kernel
theorem d_Md_why_98 : decode b_Md_why 98 = .ok (.invokevirtual 66, 3) := by decide +kernel
theorem d_Md_why_101 : decode b_Md_why 101 = .ok (.iconst 1, 1) := by decide +kernel
theorem d_Md_why_102 : decode b_Md_why 102 = .ok (.istore_n 3, 1) := by decide +kernel
theorem d_Md_why_103 : decode b_Md_why 103 = .ok (.iload 5, 2) := by decide +kernel
theorem d_Md_why_105 : decode b_Md_why 105 = .ok (.ifCond .le 21, 3) := by decide +kernel
theorem d_Md_why_108 : decode b_Md_why 108 = .ok (.aload_n 0, 1) := by decide +kernel
theorem d_Md_why_109 : decode b_Md_why 109 = .ok (.bipush 112, 2) := by decide +kernel
theorem d_Md_why_111 : decode b_Md_why 111 = .ok (.invokevirtual 66, 3) := by decide +kernel
theorem d_Md_why_114 : decode b_Md_why 114 = .ok (.aload_n 0, 1) := by decide +kernel
theorem d_Md_why_115 : decode b_Md_why 115 = .ok (.iload 5, 2) := by decide +kernel
theorem d_Md_why_117 : decode b_Md_why 117 = .ok (.invokevirtual 134, 3) := by decide +kernel
theorem d_Md_why_120 : decode b_Md_why 120 = .ok (.aload_n 0, 1) := by decide +kernel
theorem d_Md_why_121 : decode b_Md_why 121 = .ok (.bipush 43, 2) := by decide +kernel
theorem d_Md_why_123 : decode b_Md_why 123 = .ok (.invokevirtual 66, 3) := by decide +kernel
theorem d_Md_why_126 : decode b_Md_why 126 = .ok (.aload_n 0, 1) := by decide +kernel
theorem d_Md_why_127 : decode b_Md_why 127 = .ok (.iload 4, 2) := by decide +kernel
theorem d_Md_why_129 : decode b_Md_why 129 = .ok (.invokevirtual 218, 3) := by decide +kernel
theorem d_Md_why_132 : decode b_Md_why 132 = .ok (.iload 6, 2) := by decide +kernel
theorem d_Md_why_134 : decode b_Md_why 134 = .ok (.ifCond .le 21, 3) := by decide +kernel
theorem d_Md_why_137 : decode b_Md_why 137 = .ok (.aload_n 0, 1) := by decide +kernel
theorem d_Md_why_138 : decode b_Md_why 138 = .ok (.bipush 43, 2) := by decide +kernel
theorem d_Md_why_140 : decode b_Md_why 140 = .ok (.invokevirtual 66, 3) := by decide +kernel
theorem d_Md_why_143 : decode b_Md_why 143 = .ok (.aload_n 0, 1) := by decide +kernel
theorem d_Md_why_144 : decode b_Md_why 144 = .ok (.bipush 115, 2) := by decide +kernel
theorem d_Md_why_146 : decode b_Md_why 146 = .ok (.invokevirtual 66, 3) := by decide +kernel
theorem d_Md_why_149 : decode b_Md_why 149 = .ok (.aload_n 0, 1) := by decide +kernel
theorem d_Md_why_150 : decode b_Md_why 150 = .ok (.iload 6, 2) := by decide +kernel
theorem d_Md_why_152 : decode b_Md_why 152 = .ok (.invokevirtual 134, 3) := by decide +kernel
theorem d_Md_why_155 : decode b_Md_why 155 = .ok (.iinc 6 1, 3) := by decide +kernel
theorem d_Md_why_158 : decode b_Md_why 158 = .ok (.goto (-118), 3) := by decide +kernel
theorem d_Md_why_161 : decode b_Md_why 161 = .ok (.iinc 5 1, 3) := by decide +kernel
theorem d_Md_why_164 : decode b_Md_why 164 = .ok (.goto (-138), 3) := by decide +kernel
theorem d_Md_why_167 : decode b_Md_why 167 = .ok (.aload_n 0, 1) := by decide +kernel
theorem d_Md_why_168 : decode b_Md_why 168 = .ok (.iload 4, 2) := by decide +kernel
theorem d_Md_why_170 : decode b_Md_why 170 = .ok (.invokevirtual 215, 3) := by decide +kernel
theorem d_Md_why_173 : decode b_Md_why 173 = .ok (.istore 4, 2) := by decide +kernel
theorem d_Md_why_175 : decode b_Md_why 175 = .ok (.goto (-158), 3) := by decide +kernel
theorem d_Md_why_178 : decode b_Md_why 178 = .ok (.iload_n 3, 1) := by decide +kernel
theorem d_Md_why_179 : decode b_Md_why 179 = .ok (.ifCond .ne 9, 3) := by decide +kernel
theorem d_Md_why_182 : decode b_Md_why 182 = .ok (.aload_n 0, 1) := by decide +kernel
theorem d_Md_why_183 : decode b_Md_why 183 = .ok (.bipush 45, 2) := by decide +kernel
theorem d_Md_why_185 : decode b_Md_why 185 = .ok (.invokevirtual 66, 3) := by decide +kernel
theorem d_Md_why_188 : decode b_Md_why 188 = .ok (.return_, 1) := by decide +kernel
abbrev b_Md_putNumber : ByteArray := prog_12_method_7_code
def y_Md_putNumber : MethodName := ⟨"SpellDeskModel", "putNumber", "(I)V"⟩
set_option maxRecDepth 20000 in
theorem Y_Md_putNumber : gh_Y y_Md_putNumber b_Md_putNumber 3 none 1 := ⟨gt_in (i := 1376) rfl rfl, gt_in (i := 14) (by decide +kernel) rfl, by decide +kernel, by decide +kernel, by decide +kernel⟩
theorem V_Md_putNumber : Cond.instanceMethod y_Md_putNumber ∈ gTbl ∧ Cond.selects y_Md_putNumber.cls y_Md_putNumber y_Md_putNumber ∈ gTbl := ⟨(gt_in (i := 1375) (by decide +kernel) rfl), (gt_sel (n := 26) (i := 51) (by decide +kernel))⟩
theorem d_Md_putNumber_0 : decode b_Md_putNumber 0 = .ok (.iconst 1, 1) := by decide +kernel
theorem d_Md_putNumber_1 : decode b_Md_putNumber 1 = .ok (.istore_n 2, 1) := by decide +kernel
theorem d_Md_putNumber_2 : decode b_Md_putNumber 2 = .ok (.iload_n 1, 1) := by decide +kernel
theorem d_Md_putNumber_3 : decode b_Md_putNumber 3 = .ok (.iload_n 2, 1) := by decide +kernel
theorem d_Md_putNumber_4 : decode b_Md_putNumber 4 = .ok (.idiv, 1) := by decide +kernel
theorem d_Md_putNumber_5 : decode b_Md_putNumber 5 = .ok (.bipush 9, 2) := by decide +kernel
theorem d_Md_putNumber_7 : decode b_Md_putNumber 7 = .ok (.if_icmp .le 11, 3) := by decide +kernel
theorem d_Md_putNumber_10 : decode b_Md_putNumber 10 = .ok (.bipush 10, 2) := by decide +kernel
theorem d_Md_putNumber_12 : decode b_Md_putNumber 12 = .ok (.iload_n 2, 1) := by decide +kernel
theorem d_Md_putNumber_13 : decode b_Md_putNumber 13 = .ok (.imul, 1) := by decide +kernel
theorem d_Md_putNumber_14 : decode b_Md_putNumber 14 = .ok (.istore_n 2, 1) := by decide +kernel
theorem d_Md_putNumber_15 : decode b_Md_putNumber 15 = .ok (.goto (-13), 3) := by decide +kernel
theorem d_Md_putNumber_18 : decode b_Md_putNumber 18 = .ok (.iload_n 2, 1) := by decide +kernel
theorem d_Md_putNumber_19 : decode b_Md_putNumber 19 = .ok (.ifCond .le 24, 3) := by decide +kernel
theorem d_Md_putNumber_22 : decode b_Md_putNumber 22 = .ok (.aload_n 0, 1) := by decide +kernel
theorem d_Md_putNumber_23 : decode b_Md_putNumber 23 = .ok (.bipush 48, 2) := by decide +kernel
theorem d_Md_putNumber_25 : decode b_Md_putNumber 25 = .ok (.iload_n 1, 1) := by decide +kernel
theorem d_Md_putNumber_26 : decode b_Md_putNumber 26 = .ok (.iload_n 2, 1) := by decide +kernel
theorem d_Md_putNumber_27 : decode b_Md_putNumber 27 = .ok (.idiv, 1) := by decide +kernel
theorem d_Md_putNumber_28 : decode b_Md_putNumber 28 = .ok (.bipush 10, 2) := by decide +kernel
theorem d_Md_putNumber_30 : decode b_Md_putNumber 30 = .ok (.irem, 1) := by decide +kernel
theorem d_Md_putNumber_31 : decode b_Md_putNumber 31 = .ok (.iadd, 1) := by decide +kernel
theorem d_Md_putNumber_32 : decode b_Md_putNumber 32 = .ok (.invokevirtual 66, 3) := by decide +kernel
theorem d_Md_putNumber_35 : decode b_Md_putNumber 35 = .ok (.iload_n 2, 1) := by decide +kernel
theorem d_Md_putNumber_36 : decode b_Md_putNumber 36 = .ok (.bipush 10, 2) := by decide +kernel
theorem d_Md_putNumber_38 : decode b_Md_putNumber 38 = .ok (.idiv, 1) := by decide +kernel
theorem d_Md_putNumber_39 : decode b_Md_putNumber 39 = .ok (.istore_n 2, 1) := by decide +kernel
theorem d_Md_putNumber_40 : decode b_Md_putNumber 40 = .ok (.goto (-22), 3) := by decide +kernel
theorem d_Md_putNumber_43 : decode b_Md_putNumber 43 = .ok (.return_, 1) := by decide +kernel
abbrev b_Md_formsOf : ByteArray := prog_12_method_38_code
def y_Md_formsOf : MethodName := ⟨"SpellDeskModel", "formsOf", "(II)V"⟩
set_option maxRecDepth 20000 in
theorem Y_Md_formsOf : gh_Y y_Md_formsOf b_Md_formsOf 8 none 2 := ⟨gt_in (i := 1381) rfl rfl, gt_in (i := 14) (by decide +kernel) rfl, by decide +kernel, by decide +kernel, by decide +kernel⟩
theorem V_Md_formsOf : Cond.instanceMethod y_Md_formsOf ∈ gTbl ∧ Cond.selects y_Md_formsOf.cls y_Md_formsOf y_Md_formsOf ∈ gTbl := ⟨(gt_in (i := 1380) (by decide +kernel) rfl), (gt_sel (n := 26) (i := 52) (by decide +kernel))⟩
theorem d_Md_formsOf_0 : decode b_Md_formsOf 0 = .ok (.aload_n 0, 1) := by decide +kernel
theorem d_Md_formsOf_1 : decode b_Md_formsOf 1 = .ok (.invokevirtual 184, 3) := by decide +kernel
theorem d_Md_formsOf_4 : decode b_Md_formsOf 4 = .ok (.ifCond .ne 4, 3) := by decide +kernel
theorem d_Md_formsOf_7 : decode b_Md_formsOf 7 = .ok (.return_, 1) := by decide +kernel
theorem d_Md_formsOf_8 : decode b_Md_formsOf 8 = .ok (.aload_n 0, 1) := by decide +kernel
theorem d_Md_formsOf_9 : decode b_Md_formsOf 9 = .ok (.aload_n 0, 1) := by decide +kernel
theorem d_Md_formsOf_10 : decode b_Md_formsOf 10 = .ok (.getfield 7, 3) := by decide +kernel
theorem d_Md_formsOf_13 : decode b_Md_formsOf 13 = .ok (.iload_n 1, 1) := by decide +kernel
theorem d_Md_formsOf_14 : decode b_Md_formsOf 14 = .ok (.iload_n 2, 1) := by decide +kernel
theorem d_Md_formsOf_15 : decode b_Md_formsOf 15 = .ok (.invokevirtual 195, 3) := by decide +kernel
theorem d_Md_formsOf_18 : decode b_Md_formsOf 18 = .ok (.istore_n 3, 1) := by decide +kernel
theorem d_Md_formsOf_19 : decode b_Md_formsOf 19 = .ok (.aload_n 0, 1) := by decide +kernel
theorem d_Md_formsOf_20 : decode b_Md_formsOf 20 = .ok (.iconst 0, 1) := by decide +kernel
theorem d_Md_formsOf_21 : decode b_Md_formsOf 21 = .ok (.putfield 205, 3) := by decide +kernel
theorem d_Md_formsOf_24 : decode b_Md_formsOf 24 = .ok (.iconst 0, 1) := by decide +kernel
theorem d_Md_formsOf_25 : decode b_Md_formsOf 25 = .ok (.istore 4, 2) := by decide +kernel
theorem d_Md_formsOf_27 : decode b_Md_formsOf 27 = .ok (.iconst 0, 1) := by decide +kernel
theorem d_Md_formsOf_28 : decode b_Md_formsOf 28 = .ok (.istore 5, 2) := by decide +kernel
theorem d_Md_formsOf_30 : decode b_Md_formsOf 30 = .ok (.iload 5, 2) := by decide +kernel
theorem d_Md_formsOf_32 : decode b_Md_formsOf 32 = .ok (.aload_n 0, 1) := by decide +kernel
theorem d_Md_formsOf_33 : decode b_Md_formsOf 33 = .ok (.getfield 25, 3) := by decide +kernel
theorem d_Md_formsOf_36 : decode b_Md_formsOf 36 = .ok (.iconst 0, 1) := by decide +kernel
theorem d_Md_formsOf_37 : decode b_Md_formsOf 37 = .ok (.iaload, 1) := by decide +kernel
theorem d_Md_formsOf_38 : decode b_Md_formsOf 38 = .ok (.if_icmp .gt 121, 3) := by decide +kernel
theorem d_Md_formsOf_41 : decode b_Md_formsOf 41 = .ok (.iload_n 3, 1) := by decide +kernel
theorem d_Md_formsOf_42 : decode b_Md_formsOf 42 = .ok (.iconst (-1), 1) := by decide +kernel
theorem d_Md_formsOf_43 : decode b_Md_formsOf 43 = .ok (.if_icmp .eq 116, 3) := by decide +kernel
theorem d_Md_formsOf_46 : decode b_Md_formsOf 46 = .ok (.iconst 0, 1) := by decide +kernel
theorem d_Md_formsOf_47 : decode b_Md_formsOf 47 = .ok (.istore 6, 2) := by decide +kernel
theorem d_Md_formsOf_49 : decode b_Md_formsOf 49 = .ok (.iload 6, 2) := by decide +kernel
theorem d_Md_formsOf_51 : decode b_Md_formsOf 51 = .ok (.aload_n 0, 1) := by decide +kernel
theorem d_Md_formsOf_52 : decode b_Md_formsOf 52 = .ok (.getfield 25, 3) := by decide +kernel
theorem d_Md_formsOf_55 : decode b_Md_formsOf 55 = .ok (.iconst 1, 1) := by decide +kernel
theorem d_Md_formsOf_56 : decode b_Md_formsOf 56 = .ok (.iaload, 1) := by decide +kernel
theorem d_Md_formsOf_57 : decode b_Md_formsOf 57 = .ok (.if_icmp .gt 96, 3) := by decide +kernel
theorem d_Md_formsOf_60 : decode b_Md_formsOf 60 = .ok (.aload_n 0, 1) := by decide +kernel
theorem d_Md_formsOf_61 : decode b_Md_formsOf 61 = .ok (.iload_n 3, 1) := by decide +kernel
theorem d_Md_formsOf_62 : decode b_Md_formsOf 62 = .ok (.iload 5, 2) := by decide +kernel
theorem d_Md_formsOf_64 : decode b_Md_formsOf 64 = .ok (.invokestatic 120, 3) := by decide +kernel
theorem d_Md_formsOf_67 : decode b_Md_formsOf 67 = .ok (.iload 6, 2) := by decide +kernel
theorem d_Md_formsOf_69 : decode b_Md_formsOf 69 = .ok (.invokestatic 124, 3) := by decide +kernel
theorem d_Md_formsOf_72 : decode b_Md_formsOf 72 = .ok (.invokevirtual 127, 3) := by decide +kernel
theorem d_Md_formsOf_75 : decode b_Md_formsOf 75 = .ok (.ifCond .eq 72, 3) := by decide +kernel
theorem d_Md_formsOf_78 : decode b_Md_formsOf 78 = .ok (.aload_n 0, 1) := by decide +kernel
theorem d_Md_formsOf_79 : decode b_Md_formsOf 79 = .ok (.getfield 40, 3) := by decide +kernel
theorem d_Md_formsOf_82 : decode b_Md_formsOf 82 = .ok (.aload_n 0, 1) := by decide +kernel
theorem d_Md_formsOf_83 : decode b_Md_formsOf 83 = .ok (.getfield 205, 3) := by decide +kernel
theorem d_Md_formsOf_86 : decode b_Md_formsOf 86 = .ok (.iload 4, 2) := by decide +kernel
theorem d_Md_formsOf_88 : decode b_Md_formsOf 88 = .ok (.iastore, 1) := by decide +kernel
theorem d_Md_formsOf_89 : decode b_Md_formsOf 89 = .ok (.aload_n 0, 1) := by decide +kernel
theorem d_Md_formsOf_90 : decode b_Md_formsOf 90 = .ok (.getfield 43, 3) := by decide +kernel
theorem d_Md_formsOf_93 : decode b_Md_formsOf 93 = .ok (.aload_n 0, 1) := by decide +kernel
theorem d_Md_formsOf_94 : decode b_Md_formsOf 94 = .ok (.getfield 205, 3) := by decide +kernel
theorem d_Md_formsOf_97 : decode b_Md_formsOf 97 = .ok (.aload_n 0, 1) := by decide +kernel
theorem d_Md_formsOf_98 : decode b_Md_formsOf 98 = .ok (.getfield 117, 3) := by decide +kernel
theorem d_Md_formsOf_101 : decode b_Md_formsOf 101 = .ok (.iastore, 1) := by decide +kernel
theorem d_Md_formsOf_102 : decode b_Md_formsOf 102 = .ok (.aload_n 0, 1) := by decide +kernel
theorem d_Md_formsOf_103 : decode b_Md_formsOf 103 = .ok (.dup, 1) := by decide +kernel
theorem d_Md_formsOf_104 : decode b_Md_formsOf 104 = .ok (.getfield 205, 3) := by decide +kernel
theorem d_Md_formsOf_107 : decode b_Md_formsOf 107 = .ok (.iconst 1, 1) := by decide +kernel
theorem d_Md_formsOf_108 : decode b_Md_formsOf 108 = .ok (.iadd, 1) := by decide +kernel
theorem d_Md_formsOf_109 : decode b_Md_formsOf 109 = .ok (.putfield 205, 3) := by decide +kernel
theorem d_Md_formsOf_112 : decode b_Md_formsOf 112 = .ok (.iconst 0, 1) := by decide +kernel
theorem d_Md_formsOf_113 : decode b_Md_formsOf 113 = .ok (.istore 7, 2) := by decide +kernel
theorem d_Md_formsOf_115 : decode b_Md_formsOf 115 = .ok (.iload 7, 2) := by decide +kernel
theorem d_Md_formsOf_117 : decode b_Md_formsOf 117 = .ok (.aload_n 0, 1) := by decide +kernel
theorem d_Md_formsOf_118 : decode b_Md_formsOf 118 = .ok (.getfield 117, 3) := by decide +kernel
theorem d_Md_formsOf_121 : decode b_Md_formsOf 121 = .ok (.if_icmp .ge 26, 3) := by decide +kernel
theorem d_Md_formsOf_124 : decode b_Md_formsOf 124 = .ok (.aload_n 0, 1) := by decide +kernel
theorem d_Md_formsOf_125 : decode b_Md_formsOf 125 = .ok (.getfield 46, 3) := by decide +kernel
theorem d_Md_formsOf_128 : decode b_Md_formsOf 128 = .ok (.iload 4, 2) := by decide +kernel
theorem d_Md_formsOf_130 : decode b_Md_formsOf 130 = .ok (.aload_n 0, 1) := by decide +kernel
theorem d_Md_formsOf_131 : decode b_Md_formsOf 131 = .ok (.getfield 37, 3) := by decide +kernel
theorem d_Md_formsOf_134 : decode b_Md_formsOf 134 = .ok (.iload 7, 2) := by decide +kernel
theorem d_Md_formsOf_136 : decode b_Md_formsOf 136 = .ok (.iaload, 1) := by decide +kernel
theorem d_Md_formsOf_137 : decode b_Md_formsOf 137 = .ok (.iastore, 1) := by decide +kernel
theorem d_Md_formsOf_138 : decode b_Md_formsOf 138 = .ok (.iinc 4 1, 3) := by decide +kernel
theorem d_Md_formsOf_141 : decode b_Md_formsOf 141 = .ok (.iinc 7 1, 3) := by decide +kernel
theorem d_Md_formsOf_144 : decode b_Md_formsOf 144 = .ok (.goto (-29), 3) := by decide +kernel
theorem d_Md_formsOf_147 : decode b_Md_formsOf 147 = .ok (.iinc 6 1, 3) := by decide +kernel
theorem d_Md_formsOf_150 : decode b_Md_formsOf 150 = .ok (.goto (-101), 3) := by decide +kernel
theorem d_Md_formsOf_153 : decode b_Md_formsOf 153 = .ok (.iinc 5 1, 3) := by decide +kernel
theorem d_Md_formsOf_156 : decode b_Md_formsOf 156 = .ok (.goto (-126), 3) := by decide +kernel
theorem d_Md_formsOf_159 : decode b_Md_formsOf 159 = .ok (.aload_n 0, 1) := by decide +kernel
theorem d_Md_formsOf_160 : decode b_Md_formsOf 160 = .ok (.aload_n 0, 1) := by decide +kernel
theorem d_Md_formsOf_161 : decode b_Md_formsOf 161 = .ok (.getfield 46, 3) := by decide +kernel
theorem d_Md_formsOf_164 : decode b_Md_formsOf 164 = .ok (.invokevirtual 211, 3) := by decide +kernel
theorem d_Md_formsOf_167 : decode b_Md_formsOf 167 = .ok (.return_, 1) := by decide +kernel
abbrev b_Md_size : ByteArray := prog_12_method_39_code
def y_Md_size : MethodName := ⟨"SpellDeskModel", "size", "()I"⟩
set_option maxRecDepth 20000 in
theorem Y_Md_size : gh_Y y_Md_size b_Md_size 1 (some .int) 0 := ⟨gt_in (i := 1387) rfl rfl, gt_in (i := 14) (by decide +kernel) rfl, by decide +kernel, by decide +kernel, by decide +kernel⟩
theorem V_Md_size : Cond.instanceMethod y_Md_size ∈ gTbl ∧ Cond.selects y_Md_size.cls y_Md_size y_Md_size ∈ gTbl := ⟨(gt_in (i := 1385) (by decide +kernel) rfl), (gt_in (i := 1386) (by decide +kernel) rfl)⟩
theorem d_Md_size_0 : decode b_Md_size 0 = .ok (.aload_n 0, 1) := by decide +kernel
theorem d_Md_size_1 : decode b_Md_size 1 = .ok (.iconst 0, 1) := by decide +kernel
theorem d_Md_size_2 : decode b_Md_size 2 = .ok (.putfield 49, 3) := by decide +kernel
theorem d_Md_size_5 : decode b_Md_size 5 = .ok (.aload_n 0, 1) := by decide +kernel
theorem d_Md_size_6 : decode b_Md_size 6 = .ok (.getfield 60, 3) := by decide +kernel
theorem d_Md_size_9 : decode b_Md_size 9 = .ok (.ireturn, 1) := by decide +kernel
abbrev b_Md_output : ByteArray := prog_12_method_40_code
def y_Md_output : MethodName := ⟨"SpellDeskModel", "output", "(I)I"⟩
set_option maxRecDepth 20000 in
theorem Y_Md_output : gh_Y y_Md_output b_Md_output 2 (some .int) 1 := ⟨gt_in (i := 1391) rfl rfl, gt_in (i := 14) (by decide +kernel) rfl, by decide +kernel, by decide +kernel, by decide +kernel⟩
theorem V_Md_output : Cond.instanceMethod y_Md_output ∈ gTbl ∧ Cond.selects y_Md_output.cls y_Md_output y_Md_output ∈ gTbl := ⟨(gt_in (i := 1389) (by decide +kernel) rfl), (gt_in (i := 1390) (by decide +kernel) rfl)⟩
theorem d_Md_output_0 : decode b_Md_output 0 = .ok (.aload_n 0, 1) := by decide +kernel
theorem d_Md_output_1 : decode b_Md_output 1 = .ok (.iload_n 1, 1) := by decide +kernel
theorem d_Md_output_2 : decode b_Md_output 2 = .ok (.ifCond .lt 11, 3) := by decide +kernel
theorem d_Md_output_5 : decode b_Md_output 5 = .ok (.iload_n 1, 1) := by decide +kernel
theorem d_Md_output_6 : decode b_Md_output 6 = .ok (.aload_n 0, 1) := by decide +kernel
theorem d_Md_output_7 : decode b_Md_output 7 = .ok (.getfield 60, 3) := by decide +kernel
theorem d_Md_output_10 : decode b_Md_output 10 = .ok (.if_icmp .lt 7, 3) := by decide +kernel
theorem d_Md_output_13 : decode b_Md_output 13 = .ok (.iconst 1, 1) := by decide +kernel
theorem d_Md_output_14 : decode b_Md_output 14 = .ok (.goto 4, 3) := by decide +kernel
theorem d_Md_output_17 : decode b_Md_output 17 = .ok (.iconst 0, 1) := by decide +kernel
theorem d_Md_output_18 : decode b_Md_output 18 = .ok (.putfield 49, 3) := by decide +kernel
theorem d_Md_output_21 : decode b_Md_output 21 = .ok (.aload_n 0, 1) := by decide +kernel
theorem d_Md_output_22 : decode b_Md_output 22 = .ok (.getfield 49, 3) := by decide +kernel
theorem d_Md_output_25 : decode b_Md_output 25 = .ok (.ifCond .le 7, 3) := by decide +kernel
theorem d_Md_output_28 : decode b_Md_output 28 = .ok (.iconst 0, 1) := by decide +kernel
theorem d_Md_output_29 : decode b_Md_output 29 = .ok (.goto 9, 3) := by decide +kernel
theorem d_Md_output_32 : decode b_Md_output 32 = .ok (.aload_n 0, 1) := by decide +kernel
theorem d_Md_output_33 : decode b_Md_output 33 = .ok (.getfield 13, 3) := by decide +kernel
theorem d_Md_output_36 : decode b_Md_output 36 = .ok (.iload_n 1, 1) := by decide +kernel
theorem d_Md_output_37 : decode b_Md_output 37 = .ok (.iaload, 1) := by decide +kernel
theorem d_Md_output_38 : decode b_Md_output 38 = .ok (.ireturn, 1) := by decide +kernel
abbrev b_Md_lost : ByteArray := prog_12_method_41_code
def y_Md_lost : MethodName := ⟨"SpellDeskModel", "lost", "()I"⟩
set_option maxRecDepth 20000 in
theorem Y_Md_lost : gh_Y y_Md_lost b_Md_lost 1 (some .int) 0 := ⟨gt_in (i := 1395) rfl rfl, gt_in (i := 14) (by decide +kernel) rfl, by decide +kernel, by decide +kernel, by decide +kernel⟩
theorem V_Md_lost : Cond.instanceMethod y_Md_lost ∈ gTbl ∧ Cond.selects y_Md_lost.cls y_Md_lost y_Md_lost ∈ gTbl := ⟨(gt_in (i := 1393) (by decide +kernel) rfl), (gt_in (i := 1394) (by decide +kernel) rfl)⟩
theorem d_Md_lost_0 : decode b_Md_lost 0 = .ok (.aload_n 0, 1) := by decide +kernel
theorem d_Md_lost_1 : decode b_Md_lost 1 = .ok (.iconst 0, 1) := by decide +kernel
theorem d_Md_lost_2 : decode b_Md_lost 2 = .ok (.putfield 49, 3) := by decide +kernel
theorem d_Md_lost_5 : decode b_Md_lost 5 = .ok (.aload_n 0, 1) := by decide +kernel
theorem d_Md_lost_6 : decode b_Md_lost 6 = .ok (.getfield 63, 3) := by decide +kernel
theorem d_Md_lost_9 : decode b_Md_lost 9 = .ok (.ireturn, 1) := by decide +kernel
abbrev b_Md_wipe : ByteArray := prog_12_method_42_code
def y_Md_wipe : MethodName := ⟨"SpellDeskModel", "wipe", "()V"⟩
set_option maxRecDepth 20000 in
theorem Y_Md_wipe : gh_Y y_Md_wipe b_Md_wipe 1 none 0 := ⟨gt_in (i := 1399) rfl rfl, gt_in (i := 14) (by decide +kernel) rfl, by decide +kernel, by decide +kernel, by decide +kernel⟩
theorem V_Md_wipe : Cond.instanceMethod y_Md_wipe ∈ gTbl ∧ Cond.selects y_Md_wipe.cls y_Md_wipe y_Md_wipe ∈ gTbl := ⟨(gt_in (i := 1397) (by decide +kernel) rfl), (gt_in (i := 1398) (by decide +kernel) rfl)⟩
theorem d_Md_wipe_0 : decode b_Md_wipe 0 = .ok (.aload_n 0, 1) := by decide +kernel
theorem d_Md_wipe_1 : decode b_Md_wipe 1 = .ok (.iconst 0, 1) := by decide +kernel
theorem d_Md_wipe_2 : decode b_Md_wipe 2 = .ok (.putfield 49, 3) := by decide +kernel
theorem d_Md_wipe_5 : decode b_Md_wipe 5 = .ok (.aload_n 0, 1) := by decide +kernel
theorem d_Md_wipe_6 : decode b_Md_wipe 6 = .ok (.iconst 0, 1) := by decide +kernel
theorem d_Md_wipe_7 : decode b_Md_wipe 7 = .ok (.putfield 60, 3) := by decide +kernel
theorem d_Md_wipe_10 : decode b_Md_wipe 10 = .ok (.aload_n 0, 1) := by decide +kernel
theorem d_Md_wipe_11 : decode b_Md_wipe 11 = .ok (.iconst 0, 1) := by decide +kernel
theorem d_Md_wipe_12 : decode b_Md_wipe 12 = .ok (.putfield 63, 3) := by decide +kernel
theorem d_Md_wipe_15 : decode b_Md_wipe 15 = .ok (.return_, 1) := by decide +kernel
abbrev b_Md_entries : ByteArray := prog_12_method_43_code
def y_Md_entries : MethodName := ⟨"SpellDeskModel", "entries", "()I"⟩
set_option maxRecDepth 20000 in
theorem Y_Md_entries : gh_Y y_Md_entries b_Md_entries 1 (some .int) 0 := ⟨gt_in (i := 1403) rfl rfl, gt_in (i := 14) (by decide +kernel) rfl, by decide +kernel, by decide +kernel, by decide +kernel⟩
theorem V_Md_entries : Cond.instanceMethod y_Md_entries ∈ gTbl ∧ Cond.selects y_Md_entries.cls y_Md_entries y_Md_entries ∈ gTbl := ⟨(gt_in (i := 1401) (by decide +kernel) rfl), (gt_in (i := 1402) (by decide +kernel) rfl)⟩
theorem d_Md_entries_0 : decode b_Md_entries 0 = .ok (.aload_n 0, 1) := by decide +kernel
theorem d_Md_entries_1 : decode b_Md_entries 1 = .ok (.iconst 0, 1) := by decide +kernel
theorem d_Md_entries_2 : decode b_Md_entries 2 = .ok (.putfield 49, 3) := by decide +kernel
theorem d_Md_entries_5 : decode b_Md_entries 5 = .ok (.aload_n 0, 1) := by decide +kernel
theorem d_Md_entries_6 : decode b_Md_entries 6 = .ok (.getfield 106, 3) := by decide +kernel
theorem d_Md_entries_9 : decode b_Md_entries 9 = .ok (.ireturn, 1) := by decide +kernel
abbrev b_Md_rules : ByteArray := prog_12_method_44_code
def y_Md_rules : MethodName := ⟨"SpellDeskModel", "rules", "(Z)I"⟩
set_option maxRecDepth 20000 in
theorem Y_Md_rules : gh_Y y_Md_rules b_Md_rules 2 (some .int) 1 := ⟨gt_in (i := 1407) rfl rfl, gt_in (i := 14) (by decide +kernel) rfl, by decide +kernel, by decide +kernel, by decide +kernel⟩
theorem V_Md_rules : Cond.instanceMethod y_Md_rules ∈ gTbl ∧ Cond.selects y_Md_rules.cls y_Md_rules y_Md_rules ∈ gTbl := ⟨(gt_in (i := 1405) (by decide +kernel) rfl), (gt_in (i := 1406) (by decide +kernel) rfl)⟩
theorem d_Md_rules_0 : decode b_Md_rules 0 = .ok (.aload_n 0, 1) := by decide +kernel
theorem d_Md_rules_1 : decode b_Md_rules 1 = .ok (.iconst 0, 1) := by decide +kernel
theorem d_Md_rules_2 : decode b_Md_rules 2 = .ok (.putfield 49, 3) := by decide +kernel
theorem d_Md_rules_5 : decode b_Md_rules 5 = .ok (.iload_n 1, 1) := by decide +kernel
theorem d_Md_rules_6 : decode b_Md_rules 6 = .ok (.ifCond .eq 12, 3) := by decide +kernel
theorem d_Md_rules_9 : decode b_Md_rules 9 = .ok (.aload_n 0, 1) := by decide +kernel
theorem d_Md_rules_10 : decode b_Md_rules 10 = .ok (.getfield 25, 3) := by decide +kernel
theorem d_Md_rules_13 : decode b_Md_rules 13 = .ok (.iconst 0, 1) := by decide +kernel
theorem d_Md_rules_14 : decode b_Md_rules 14 = .ok (.iaload, 1) := by decide +kernel
theorem d_Md_rules_15 : decode b_Md_rules 15 = .ok (.goto 9, 3) := by decide +kernel
theorem d_Md_rules_18 : decode b_Md_rules 18 = .ok (.aload_n 0, 1) := by decide +kernel
theorem d_Md_rules_19 : decode b_Md_rules 19 = .ok (.getfield 25, 3) := by decide +kernel
theorem d_Md_rules_22 : decode b_Md_rules 22 = .ok (.iconst 1, 1) := by decide +kernel
theorem d_Md_rules_23 : decode b_Md_rules 23 = .ok (.iaload, 1) := by decide +kernel
theorem d_Md_rules_24 : decode b_Md_rules 24 = .ok (.ireturn, 1) := by decide +kernel
theorem kf_Md_7 : Cond.fieldLink "SpellDeskModel" 7 "SpellDeskModel" "text" "[I" ∈ gTbl := (gt_in (i := 1155) (by decide +kernel) rfl)
theorem kf_Md_13 : Cond.fieldLink "SpellDeskModel" 13 "SpellDeskModel" "output" "[I" ∈ gTbl := (gt_in (i := 1157) (by decide +kernel) rfl)
theorem kf_Md_16 : Cond.fieldLink "SpellDeskModel" 16 "SpellDeskModel" "length" "[I" ∈ gTbl := (gt_in (i := 1160) (by decide +kernel) rfl)
theorem kf_Md_19 : Cond.fieldLink "SpellDeskModel" 19 "SpellDeskModel" "flags" "[I" ∈ gTbl := (gt_in (i := 1161) (by decide +kernel) rfl)
theorem kf_Md_22 : Cond.fieldLink "SpellDeskModel" 22 "SpellDeskModel" "letters" "[I" ∈ gTbl := (gt_in (i := 1162) (by decide +kernel) rfl)
theorem kf_Md_25 : Cond.fieldLink "SpellDeskModel" 25 "SpellDeskModel" "count" "[I" ∈ gTbl := (gt_in (i := 1163) (by decide +kernel) rfl)
theorem kf_Md_28 : Cond.fieldLink "SpellDeskModel" 28 "SpellDeskModel" "flag" "[I" ∈ gTbl := (gt_in (i := 1164) (by decide +kernel) rfl)
theorem kf_Md_31 : Cond.fieldLink "SpellDeskModel" 31 "SpellDeskModel" "partLength" "[I" ∈ gTbl := (gt_in (i := 1165) (by decide +kernel) rfl)
theorem kf_Md_34 : Cond.fieldLink "SpellDeskModel" 34 "SpellDeskModel" "part" "[I" ∈ gTbl := (gt_in (i := 1166) (by decide +kernel) rfl)
theorem kf_Md_37 : Cond.fieldLink "SpellDeskModel" 37 "SpellDeskModel" "form" "[I" ∈ gTbl := (gt_in (i := 1174) (by decide +kernel) rfl)
theorem kf_Md_40 : Cond.fieldLink "SpellDeskModel" 40 "SpellDeskModel" "wordFrom" "[I" ∈ gTbl := (gt_in (i := 1176) (by decide +kernel) rfl)
theorem kf_Md_43 : Cond.fieldLink "SpellDeskModel" 43 "SpellDeskModel" "wordLength" "[I" ∈ gTbl := (gt_in (i := 1177) (by decide +kernel) rfl)
theorem kf_Md_46 : Cond.fieldLink "SpellDeskModel" 46 "SpellDeskModel" "forms" "[I" ∈ gTbl := (gt_in (i := 1178) (by decide +kernel) rfl)
theorem kf_Md_49 : Cond.fieldLink "SpellDeskModel" 49 "SpellDeskModel" "code" "I" ∈ gTbl := (gt_in (i := 1153) (by decide +kernel) rfl)
theorem kf_Md_57 : Cond.fieldLink "SpellDeskModel" 57 "SpellDeskModel" "typed" "I" ∈ gTbl := (gt_in (i := 1154) (by decide +kernel) rfl)
theorem kf_Md_60 : Cond.fieldLink "SpellDeskModel" 60 "SpellDeskModel" "size" "I" ∈ gTbl := (gt_in (i := 1156) (by decide +kernel) rfl)
theorem kf_Md_63 : Cond.fieldLink "SpellDeskModel" 63 "SpellDeskModel" "lost" "I" ∈ gTbl := (gt_in (i := 1158) (by decide +kernel) rfl)
theorem kf_Md_70 : Cond.fieldLink "SpellDeskModel" 70 "SpellDeskModel" "at" "I" ∈ gTbl := (gt_in (i := 1169) (by decide +kernel) rfl)
theorem kf_Md_73 : Cond.fieldLink "SpellDeskModel" 73 "SpellDeskModel" "to" "I" ∈ gTbl := (gt_in (i := 1168) (by decide +kernel) rfl)
theorem kf_Md_76 : Cond.fieldLink "SpellDeskModel" 76 "SpellDeskModel" "first" "I" ∈ gTbl := (gt_in (i := 1170) (by decide +kernel) rfl)
theorem kf_Md_79 : Cond.fieldLink "SpellDeskModel" 79 "SpellDeskModel" "end" "I" ∈ gTbl := (gt_in (i := 1171) (by decide +kernel) rfl)
theorem kf_Md_86 : Cond.fieldLink "SpellDeskModel" 86 "SpellDeskModel" "from" "I" ∈ gTbl := (gt_in (i := 1167) (by decide +kernel) rfl)
theorem kf_Md_89 : Cond.fieldLink "SpellDeskModel" 89 "SpellDeskModel" "wrong" "I" ∈ gTbl := (gt_in (i := 1172) (by decide +kernel) rfl)
theorem kf_Md_106 : Cond.fieldLink "SpellDeskModel" 106 "SpellDeskModel" "entries" "I" ∈ gTbl := (gt_in (i := 1159) (by decide +kernel) rfl)
theorem kf_Md_117 : Cond.fieldLink "SpellDeskModel" 117 "SpellDeskModel" "made" "I" ∈ gTbl := (gt_in (i := 1173) (by decide +kernel) rfl)
theorem kf_Md_205 : Cond.fieldLink "SpellDeskModel" 205 "SpellDeskModel" "words" "I" ∈ gTbl := (gt_in (i := 1175) (by decide +kernel) rfl)
theorem km_Md_1 : Cond.methodLink "SpellDeskModel" 1 ⟨"java/lang/Object", "<init>", "()V"⟩ ∈ gTbl := (gt_in (i := 1152) (by decide +kernel) rfl)
theorem km_Md_53 : Cond.methodLink "SpellDeskModel" 53 ⟨"SpellDeskModel", "character", "(IIIII)I"⟩ ∈ gTbl := (gt_in (i := 1240) (by decide +kernel) rfl)
theorem km_Md_66 : Cond.methodLink "SpellDeskModel" 66 ⟨"SpellDeskModel", "put", "(I)V"⟩ ∈ gTbl := (gt_in (i := 1297) (by decide +kernel) rfl)
theorem km_Md_82 : Cond.methodLink "SpellDeskModel" 82 ⟨"SpellDeskModel", "next", "()Z"⟩ ∈ gTbl := (gt_in (i := 1251) (by decide +kernel) rfl)
theorem km_Md_92 : Cond.methodLink "SpellDeskModel" 92 ⟨"SpellDeskModel", "refuse", "()Z"⟩ ∈ gTbl := (gt_in (i := 1282) (by decide +kernel) rfl)
theorem km_Md_95 : Cond.methodLink "SpellDeskModel" 95 ⟨"SpellDeskModel", "isLetter", "(I)Z"⟩ ∈ gTbl := (gt_in (i := 1276) (by decide +kernel) rfl)
theorem km_Md_99 : Cond.methodLink "SpellDeskModel" 99 ⟨"SpellDeskModel", "must", "()Z"⟩ ∈ gTbl := (gt_in (i := 1268) (by decide +kernel) rfl)
theorem km_Md_102 : Cond.methodLink "SpellDeskModel" 102 ⟨"SpellDeskModel", "areLetters", "(IIIZ)Z"⟩ ∈ gTbl := (gt_in (i := 1272) (by decide +kernel) rfl)
theorem km_Md_109 : Cond.methodLink "SpellDeskModel" 109 ⟨"SpellDeskModel", "compare", "([III[III)I"⟩ ∈ gTbl := (gt_in (i := 1294) (by decide +kernel) rfl)
theorem km_Md_113 : Cond.methodLink "SpellDeskModel" 113 ⟨"SpellDeskModel", "goes", "(II)Z"⟩ ∈ gTbl := (gt_in (i := 1347) (by decide +kernel) rfl)
theorem km_Md_120 : Cond.methodLink "SpellDeskModel" 120 ⟨"SpellDeskModel", "prefix", "(I)I"⟩ ∈ gTbl := (gt_in (i := 1337) (by decide +kernel) rfl)
theorem km_Md_124 : Cond.methodLink "SpellDeskModel" 124 ⟨"SpellDeskModel", "suffix", "(I)I"⟩ ∈ gTbl := (gt_in (i := 1340) (by decide +kernel) rfl)
theorem km_Md_127 : Cond.methodLink "SpellDeskModel" 127 ⟨"SpellDeskModel", "make", "(III)Z"⟩ ∈ gTbl := (gt_in (i := 1343) (by decide +kernel) rfl)
theorem km_Md_131 : Cond.methodLink "SpellDeskModel" 131 ⟨"SpellDeskModel", "line", "()V"⟩ ∈ gTbl := (gt_in (i := 1255) (by decide +kernel) rfl)
theorem km_Md_134 : Cond.methodLink "SpellDeskModel" 134 ⟨"SpellDeskModel", "putNumber", "(I)V"⟩ ∈ gTbl := (gt_in (i := 1373) (by decide +kernel) rfl)
theorem km_Md_139 : Cond.methodLink "SpellDeskModel" 139 ⟨"SpellDeskModel", "is", "(J)Z"⟩ ∈ gTbl := (gt_in (i := 1260) (by decide +kernel) rfl)
theorem km_Md_143 : Cond.methodLink "SpellDeskModel" 143 ⟨"SpellDeskModel", "add", "()V"⟩ ∈ gTbl := (gt_in (i := 1264) (by decide +kernel) rfl)
theorem km_Md_148 : Cond.methodLink "SpellDeskModel" 148 ⟨"SpellDeskModel", "word", "(I)Z"⟩ ∈ gTbl := (gt_in (i := 1310) (by decide +kernel) rfl)
theorem km_Md_151 : Cond.methodLink "SpellDeskModel" 151 ⟨"SpellDeskModel", "drop", "(II)V"⟩ ∈ gTbl := (gt_in (i := 1314) (by decide +kernel) rfl)
theorem km_Md_157 : Cond.methodLink "SpellDeskModel" 157 ⟨"SpellDeskModel", "rule", "(I)V"⟩ ∈ gTbl := (gt_in (i := 1323) (by decide +kernel) rfl)
theorem km_Md_164 : Cond.methodLink "SpellDeskModel" 164 ⟨"SpellDeskModel", "check", "()V"⟩ ∈ gTbl := (gt_in (i := 1329) (by decide +kernel) rfl)
theorem km_Md_169 : Cond.methodLink "SpellDeskModel" 169 ⟨"SpellDeskModel", "look", "(II)V"⟩ ∈ gTbl := (gt_in (i := 1356) (by decide +kernel) rfl)
theorem km_Md_174 : Cond.methodLink "SpellDeskModel" 174 ⟨"SpellDeskModel", "why", "(II)V"⟩ ∈ gTbl := (gt_in (i := 1369) (by decide +kernel) rfl)
theorem km_Md_179 : Cond.methodLink "SpellDeskModel" 179 ⟨"SpellDeskModel", "formsOf", "(II)V"⟩ ∈ gTbl := (gt_in (i := 1378) (by decide +kernel) rfl)
theorem km_Md_184 : Cond.methodLink "SpellDeskModel" 184 ⟨"SpellDeskModel", "mustEnd", "()Z"⟩ ∈ gTbl := (gt_in (i := 1286) (by decide +kernel) rfl)
theorem km_Md_189 : Cond.methodLink "SpellDeskModel" 189 ⟨"SpellDeskModel", "ok", "()V"⟩ ∈ gTbl := (gt_in (i := 1305) (by decide +kernel) rfl)
theorem km_Md_192 : Cond.methodLink "SpellDeskModel" 192 ⟨"SpellDeskModel", "isCapital", "(I)Z"⟩ ∈ gTbl := (gt_in (i := 1279) (by decide +kernel) rfl)
theorem km_Md_195 : Cond.methodLink "SpellDeskModel" 195 ⟨"SpellDeskModel", "find", "([III)I"⟩ ∈ gTbl := (gt_in (i := 1290) (by decide +kernel) rfl)
theorem km_Md_199 : Cond.methodLink "SpellDeskModel" 199 ⟨"SpellDeskModel", "full", "()V"⟩ ∈ gTbl := (gt_in (i := 1301) (by decide +kernel) rfl)
theorem km_Md_202 : Cond.methodLink "SpellDeskModel" 202 ⟨"SpellDeskModel", "none", "()V"⟩ ∈ gTbl := (gt_in (i := 1318) (by decide +kernel) rfl)
theorem km_Md_208 : Cond.methodLink "SpellDeskModel" 208 ⟨"SpellDeskModel", "isRight", "(II)Z"⟩ ∈ gTbl := (gt_in (i := 1333) (by decide +kernel) rfl)
theorem km_Md_211 : Cond.methodLink "SpellDeskModel" 211 ⟨"SpellDeskModel", "putWords", "([I)V"⟩ ∈ gTbl := (gt_in (i := 1351) (by decide +kernel) rfl)
theorem km_Md_215 : Cond.methodLink "SpellDeskModel" 215 ⟨"SpellDeskModel", "behind", "(I)I"⟩ ∈ gTbl := (gt_in (i := 1360) (by decide +kernel) rfl)
theorem km_Md_218 : Cond.methodLink "SpellDeskModel" 218 ⟨"SpellDeskModel", "putEntry", "(I)V"⟩ ∈ gTbl := (gt_in (i := 1364) (by decide +kernel) rfl)
