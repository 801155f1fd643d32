abbrev b_Sp_init : ByteArray := prog_9_method_1_code
def y_Sp_init : MethodName := ⟨"SpellDesk$Speller", "<init>", "(LSpellDesk$Dictionary;LSpellDesk$RuleList;LSpellDesk$RuleList;)V"⟩
set_option maxRecDepth 20000 in
theorem Y_Sp_init : gh_Y y_Sp_init b_Sp_init 4 none 3 := ⟨gt_in (i := 187) rfl rfl, gt_in (i := 12) (by decide +kernel) rfl, by decide +kernel, by decide +kernel, by decide +kernel⟩
theorem V_Sp_init : Cond.instanceMethod y_Sp_init ∈ gTbl := (gt_in (i := 186) (by decide +kernel) rfl)
theorem d_Sp_init_0 : decode b_Sp_init 0 = .ok (.aload_n 0, 1) := by decide +kernel
theorem d_Sp_init_1 : decode b_Sp_init 1 = .ok (.invokespecial 3, 3) := by decide +kernel
theorem d_Sp_init_4 : decode b_Sp_init 4 = .ok (.aload_n 0, 1) := by decide +kernel
theorem d_Sp_init_5 : decode b_Sp_init 5 = .ok (.aload_n 1, 1) := by decide +kernel
theorem d_Sp_init_6 : decode b_Sp_init 6 = .ok (.putfield 9, 3) := by decide +kernel
theorem d_Sp_init_9 : decode b_Sp_init 9 = .ok (.aload_n 0, 1) := by decide +kernel
theorem d_Sp_init_10 : decode b_Sp_init 10 = .ok (.aload_n 2, 1) := by decide +kernel
theorem d_Sp_init_11 : decode b_Sp_init 11 = .ok (.putfield 15, 3) := by decide +kernel
theorem d_Sp_init_14 : decode b_Sp_init 14 = .ok (.aload_n 0, 1) := by decide +kernel
theorem d_Sp_init_15 : decode b_Sp_init 15 = .ok (.aload_n 3, 1) := by decide +kernel
theorem d_Sp_init_16 : decode b_Sp_init 16 = .ok (.putfield 19, 3) := by decide +kernel
theorem d_Sp_init_19 : decode b_Sp_init 19 = .ok (.aload_n 0, 1) := by decide +kernel
theorem d_Sp_init_20 : decode b_Sp_init 20 = .ok (.new 22, 3) := by decide +kernel
theorem d_Sp_init_23 : decode b_Sp_init 23 = .ok (.dup, 1) := by decide +kernel
theorem d_Sp_init_24 : decode b_Sp_init 24 = .ok (.bipush 16, 2) := by decide +kernel
theorem d_Sp_init_26 : decode b_Sp_init 26 = .ok (.invokespecial 24, 3) := by decide +kernel
theorem d_Sp_init_29 : decode b_Sp_init 29 = .ok (.putfield 27, 3) := by decide +kernel
theorem d_Sp_init_32 : decode b_Sp_init 32 = .ok (.aload_n 0, 1) := by decide +kernel
theorem d_Sp_init_33 : decode b_Sp_init 33 = .ok (.bipush 81, 2) := by decide +kernel
theorem d_Sp_init_35 : decode b_Sp_init 35 = .ok (.newarray .int, 2) := by decide +kernel
theorem d_Sp_init_37 : decode b_Sp_init 37 = .ok (.putfield 31, 3) := by decide +kernel
theorem d_Sp_init_40 : decode b_Sp_init 40 = .ok (.aload_n 0, 1) := by decide +kernel
theorem d_Sp_init_41 : decode b_Sp_init 41 = .ok (.new 22, 3) := by decide +kernel
theorem d_Sp_init_44 : decode b_Sp_init 44 = .ok (.dup, 1) := by decide +kernel
theorem d_Sp_init_45 : decode b_Sp_init 45 = .ok (.sipush 2268, 3) := by decide +kernel
theorem d_Sp_init_48 : decode b_Sp_init 48 = .ok (.invokespecial 24, 3) := by decide +kernel
theorem d_Sp_init_51 : decode b_Sp_init 51 = .ok (.putfield 35, 3) := by decide +kernel
theorem d_Sp_init_54 : decode b_Sp_init 54 = .ok (.aload_n 0, 1) := by decide +kernel
theorem d_Sp_init_55 : decode b_Sp_init 55 = .ok (.new 38, 3) := by decide +kernel
theorem d_Sp_init_58 : decode b_Sp_init 58 = .ok (.dup, 1) := by decide +kernel
theorem d_Sp_init_59 : decode b_Sp_init 59 = .ok (.aload_n 0, 1) := by decide +kernel
theorem d_Sp_init_60 : decode b_Sp_init 60 = .ok (.getfield 35, 3) := by decide +kernel
theorem d_Sp_init_63 : decode b_Sp_init 63 = .ok (.bipush 81, 2) := by decide +kernel
theorem d_Sp_init_65 : decode b_Sp_init 65 = .ok (.invokespecial 40, 3) := by decide +kernel
theorem d_Sp_init_68 : decode b_Sp_init 68 = .ok (.putfield 43, 3) := by decide +kernel
theorem d_Sp_init_71 : decode b_Sp_init 71 = .ok (.return_, 1) := by decide +kernel
abbrev b_Sp_findWays : ByteArray := prog_9_method_2_code
def y_Sp_findWays : MethodName := ⟨"SpellDesk$Speller", "findWays", "(LSpellDesk$Letters;III)I"⟩
set_option maxRecDepth 20000 in
theorem Y_Sp_findWays : gh_Y y_Sp_findWays b_Sp_findWays 11 (some .int) 4 := ⟨gt_in (i := 910) rfl rfl, gt_in (i := 12) (by decide +kernel) rfl, by decide +kernel, by decide +kernel, by decide +kernel⟩
theorem V_Sp_findWays : Cond.instanceMethod y_Sp_findWays ∈ gTbl ∧ Cond.selects y_Sp_findWays.cls y_Sp_findWays y_Sp_findWays ∈ gTbl := ⟨(gt_in (i := 908) (by decide +kernel) rfl), (gt_in (i := 909) (by decide +kernel) rfl)⟩
theorem d_Sp_findWays_0 : decode b_Sp_findWays 0 = .ok (.aload_n 0, 1) := by decide +kernel
theorem d_Sp_findWays_1 : decode b_Sp_findWays 1 = .ok (.iconst 0, 1) := by decide +kernel
theorem d_Sp_findWays_2 : decode b_Sp_findWays 2 = .ok (.putfield 47, 3) := by decide +kernel
theorem d_Sp_findWays_5 : decode b_Sp_findWays 5 = .ok (.iconst 0, 1) := by decide +kernel
theorem d_Sp_findWays_6 : decode b_Sp_findWays 6 = .ok (.istore 5, 2) := by decide +kernel
theorem d_Sp_findWays_8 : decode b_Sp_findWays 8 = .ok (.iload 5, 2) := by decide +kernel
theorem d_Sp_findWays_10 : decode b_Sp_findWays 10 = .ok (.aload_n 0, 1) := by decide +kernel
theorem d_Sp_findWays_11 : decode b_Sp_findWays 11 = .ok (.getfield 15, 3) := by decide +kernel
theorem d_Sp_findWays_14 : decode b_Sp_findWays 14 = .ok (.invokevirtual 51, 3) := by decide +kernel
theorem d_Sp_findWays_17 : decode b_Sp_findWays 17 = .ok (.if_icmp .gt 199, 3) := by decide +kernel
theorem d_Sp_findWays_20 : decode b_Sp_findWays 20 = .ok (.aload_n 0, 1) := by decide +kernel
theorem d_Sp_findWays_21 : decode b_Sp_findWays 21 = .ok (.getfield 47, 3) := by decide +kernel
theorem d_Sp_findWays_24 : decode b_Sp_findWays 24 = .ok (.iload 4, 2) := by decide +kernel
theorem d_Sp_findWays_26 : decode b_Sp_findWays 26 = .ok (.if_icmp .ge 190, 3) := by decide +kernel
theorem d_Sp_findWays_29 : decode b_Sp_findWays 29 = .ok (.aload_n 0, 1) := by decide +kernel
theorem d_Sp_findWays_30 : decode b_Sp_findWays 30 = .ok (.getfield 15, 3) := by decide +kernel
theorem d_Sp_findWays_33 : decode b_Sp_findWays 33 = .ok (.iload 5, 2) := by decide +kernel
theorem d_Sp_findWays_35 : decode b_Sp_findWays 35 = .ok (.invokevirtual 57, 3) := by decide +kernel
theorem d_Sp_findWays_38 : decode b_Sp_findWays 38 = .ok (.astore 6, 2) := by decide +kernel
theorem d_Sp_findWays_40 : decode b_Sp_findWays 40 = .ok (.aload 6, 2) := by decide +kernel
theorem d_Sp_findWays_42 : decode b_Sp_findWays 42 = .ok (.aload_n 1, 1) := by decide +kernel
theorem d_Sp_findWays_43 : decode b_Sp_findWays 43 = .ok (.iload_n 2, 1) := by decide +kernel
theorem d_Sp_findWays_44 : decode b_Sp_findWays 44 = .ok (.iload_n 3, 1) := by decide +kernel
theorem d_Sp_findWays_45 : decode b_Sp_findWays 45 = .ok (.invokevirtual 61, 3) := by decide +kernel
theorem d_Sp_findWays_48 : decode b_Sp_findWays 48 = .ok (.ifCond .ne 6, 3) := by decide +kernel
theorem d_Sp_findWays_51 : decode b_Sp_findWays 51 = .ok (.goto 159, 3) := by decide +kernel
theorem d_Sp_findWays_54 : decode b_Sp_findWays 54 = .ok (.iconst 0, 1) := by decide +kernel
theorem d_Sp_findWays_55 : decode b_Sp_findWays 55 = .ok (.istore 7, 2) := by decide +kernel
theorem d_Sp_findWays_57 : decode b_Sp_findWays 57 = .ok (.iload 7, 2) := by decide +kernel
theorem d_Sp_findWays_59 : decode b_Sp_findWays 59 = .ok (.aload_n 0, 1) := by decide +kernel
theorem d_Sp_findWays_60 : decode b_Sp_findWays 60 = .ok (.getfield 19, 3) := by decide +kernel
theorem d_Sp_findWays_63 : decode b_Sp_findWays 63 = .ok (.invokevirtual 51, 3) := by decide +kernel
theorem d_Sp_findWays_66 : decode b_Sp_findWays 66 = .ok (.if_icmp .gt 144, 3) := by decide +kernel
theorem d_Sp_findWays_69 : decode b_Sp_findWays 69 = .ok (.aload_n 0, 1) := by decide +kernel
theorem d_Sp_findWays_70 : decode b_Sp_findWays 70 = .ok (.getfield 47, 3) := by decide +kernel
theorem d_Sp_findWays_73 : decode b_Sp_findWays 73 = .ok (.iload 4, 2) := by decide +kernel
theorem d_Sp_findWays_75 : decode b_Sp_findWays 75 = .ok (.if_icmp .ge 135, 3) := by decide +kernel
theorem d_Sp_findWays_78 : decode b_Sp_findWays 78 = .ok (.aload_n 0, 1) := by decide +kernel
theorem d_Sp_findWays_79 : decode b_Sp_findWays 79 = .ok (.getfield 19, 3) := by decide +kernel
theorem d_Sp_findWays_82 : decode b_Sp_findWays 82 = .ok (.iload 7, 2) := by decide +kernel
theorem d_Sp_findWays_84 : decode b_Sp_findWays 84 = .ok (.invokevirtual 57, 3) := by decide +kernel
theorem d_Sp_findWays_87 : decode b_Sp_findWays 87 = .ok (.astore 8, 2) := by decide +kernel
theorem d_Sp_findWays_89 : decode b_Sp_findWays 89 = .ok (.aload 8, 2) := by decide +kernel
theorem d_Sp_findWays_91 : decode b_Sp_findWays 91 = .ok (.aload_n 1, 1) := by decide +kernel
theorem d_Sp_findWays_92 : decode b_Sp_findWays 92 = .ok (.iload_n 2, 1) := by decide +kernel
theorem d_Sp_findWays_93 : decode b_Sp_findWays 93 = .ok (.iload_n 3, 1) := by decide +kernel
theorem d_Sp_findWays_94 : decode b_Sp_findWays 94 = .ok (.invokevirtual 61, 3) := by decide +kernel
theorem d_Sp_findWays_97 : decode b_Sp_findWays 97 = .ok (.ifCond .eq 107, 3) := by decide +kernel
theorem d_Sp_findWays_100 : decode b_Sp_findWays 100 = .ok (.aload_n 0, 1) := by decide +kernel
theorem d_Sp_findWays_101 : decode b_Sp_findWays 101 = .ok (.aload 6, 2) := by decide +kernel
theorem d_Sp_findWays_103 : decode b_Sp_findWays 103 = .ok (.aload 8, 2) := by decide +kernel
theorem d_Sp_findWays_105 : decode b_Sp_findWays 105 = .ok (.aload_n 1, 1) := by decide +kernel
theorem d_Sp_findWays_106 : decode b_Sp_findWays 106 = .ok (.iload_n 2, 1) := by decide +kernel
theorem d_Sp_findWays_107 : decode b_Sp_findWays 107 = .ok (.iload_n 3, 1) := by decide +kernel
theorem d_Sp_findWays_108 : decode b_Sp_findWays 108 = .ok (.invokevirtual 67, 3) := by decide +kernel
theorem d_Sp_findWays_111 : decode b_Sp_findWays 111 = .ok (.ifCond .ne 6, 3) := by decide +kernel
theorem d_Sp_findWays_114 : decode b_Sp_findWays 114 = .ok (.goto 90, 3) := by decide +kernel
theorem d_Sp_findWays_117 : decode b_Sp_findWays 117 = .ok (.aload_n 0, 1) := by decide +kernel
theorem d_Sp_findWays_118 : decode b_Sp_findWays 118 = .ok (.getfield 9, 3) := by decide +kernel
theorem d_Sp_findWays_121 : decode b_Sp_findWays 121 = .ok (.aload_n 0, 1) := by decide +kernel
theorem d_Sp_findWays_122 : decode b_Sp_findWays 122 = .ok (.getfield 27, 3) := by decide +kernel
theorem d_Sp_findWays_125 : decode b_Sp_findWays 125 = .ok (.iconst 0, 1) := by decide +kernel
theorem d_Sp_findWays_126 : decode b_Sp_findWays 126 = .ok (.aload_n 0, 1) := by decide +kernel
theorem d_Sp_findWays_127 : decode b_Sp_findWays 127 = .ok (.getfield 27, 3) := by decide +kernel
theorem d_Sp_findWays_130 : decode b_Sp_findWays 130 = .ok (.invokevirtual 71, 3) := by decide +kernel
theorem d_Sp_findWays_133 : decode b_Sp_findWays 133 = .ok (.invokevirtual 72, 3) := by decide +kernel
theorem d_Sp_findWays_136 : decode b_Sp_findWays 136 = .ok (.istore 9, 2) := by decide +kernel
theorem d_Sp_findWays_138 : decode b_Sp_findWays 138 = .ok (.aload_n 0, 1) := by decide +kernel
theorem d_Sp_findWays_139 : decode b_Sp_findWays 139 = .ok (.getfield 9, 3) := by decide +kernel
theorem d_Sp_findWays_142 : decode b_Sp_findWays 142 = .ok (.iload 9, 2) := by decide +kernel
theorem d_Sp_findWays_144 : decode b_Sp_findWays 144 = .ok (.aload_n 0, 1) := by decide +kernel
theorem d_Sp_findWays_145 : decode b_Sp_findWays 145 = .ok (.getfield 27, 3) := by decide +kernel
theorem d_Sp_findWays_148 : decode b_Sp_findWays 148 = .ok (.iconst 0, 1) := by decide +kernel
theorem d_Sp_findWays_149 : decode b_Sp_findWays 149 = .ok (.aload_n 0, 1) := by decide +kernel
theorem d_Sp_findWays_150 : decode b_Sp_findWays 150 = .ok (.getfield 27, 3) := by decide +kernel
theorem d_Sp_findWays_153 : decode b_Sp_findWays 153 = .ok (.invokevirtual 71, 3) := by decide +kernel
theorem d_Sp_findWays_156 : decode b_Sp_findWays 156 = .ok (.invokevirtual 78, 3) := by decide +kernel
theorem d_Sp_findWays_159 : decode b_Sp_findWays 159 = .ok (.astore 10, 2) := by decide +kernel
theorem d_Sp_findWays_161 : decode b_Sp_findWays 161 = .ok (.aload 10, 2) := by decide +kernel
theorem d_Sp_findWays_163 : decode b_Sp_findWays 163 = .ok (.ifnull 41, 3) := by decide +kernel
theorem d_Sp_findWays_166 : decode b_Sp_findWays 166 = .ok (.aload 6, 2) := by decide +kernel
theorem d_Sp_findWays_168 : decode b_Sp_findWays 168 = .ok (.aload 10, 2) := by decide +kernel
theorem d_Sp_findWays_170 : decode b_Sp_findWays 170 = .ok (.invokevirtual 81, 3) := by decide +kernel
theorem d_Sp_findWays_173 : decode b_Sp_findWays 173 = .ok (.ifCond .eq 31, 3) := by decide +kernel
theorem d_Sp_findWays_176 : decode b_Sp_findWays 176 = .ok (.aload 8, 2) := by decide +kernel
theorem d_Sp_findWays_178 : decode b_Sp_findWays 178 = .ok (.aload 10, 2) := by decide +kernel
theorem d_Sp_findWays_180 : decode b_Sp_findWays 180 = .ok (.invokevirtual 81, 3) := by decide +kernel
theorem d_Sp_findWays_183 : decode b_Sp_findWays 183 = .ok (.ifCond .eq 21, 3) := by decide +kernel
theorem d_Sp_findWays_186 : decode b_Sp_findWays 186 = .ok (.aload_n 0, 1) := by decide +kernel
theorem d_Sp_findWays_187 : decode b_Sp_findWays 187 = .ok (.iload 9, 2) := by decide +kernel
theorem d_Sp_findWays_189 : decode b_Sp_findWays 189 = .ok (.bipush 9, 2) := by decide +kernel
theorem d_Sp_findWays_191 : decode b_Sp_findWays 191 = .ok (.imul, 1) := by decide +kernel
theorem d_Sp_findWays_192 : decode b_Sp_findWays 192 = .ok (.iload 5, 2) := by decide +kernel
theorem d_Sp_findWays_194 : decode b_Sp_findWays 194 = .ok (.iadd, 1) := by decide +kernel
theorem d_Sp_findWays_195 : decode b_Sp_findWays 195 = .ok (.bipush 9, 2) := by decide +kernel
theorem d_Sp_findWays_197 : decode b_Sp_findWays 197 = .ok (.imul, 1) := by decide +kernel
theorem d_Sp_findWays_198 : decode b_Sp_findWays 198 = .ok (.iload 7, 2) := by decide +kernel
theorem d_Sp_findWays_200 : decode b_Sp_findWays 200 = .ok (.iadd, 1) := by decide +kernel
theorem d_Sp_findWays_201 : decode b_Sp_findWays 201 = .ok (.invokevirtual 85, 3) := by decide +kernel
theorem d_Sp_findWays_204 : decode b_Sp_findWays 204 = .ok (.iinc 7 1, 3) := by decide +kernel
theorem d_Sp_findWays_207 : decode b_Sp_findWays 207 = .ok (.goto (-150), 3) := by decide +kernel
theorem d_Sp_findWays_210 : decode b_Sp_findWays 210 = .ok (.iinc 5 1, 3) := by decide +kernel
theorem d_Sp_findWays_213 : decode b_Sp_findWays 213 = .ok (.goto (-205), 3) := by decide +kernel
theorem d_Sp_findWays_216 : decode b_Sp_findWays 216 = .ok (.aload_n 0, 1) := by decide +kernel
theorem d_Sp_findWays_217 : decode b_Sp_findWays 217 = .ok (.getfield 47, 3) := by decide +kernel
theorem d_Sp_findWays_220 : decode b_Sp_findWays 220 = .ok (.ireturn, 1) := by decide +kernel
abbrev b_Sp_undo : ByteArray := prog_9_method_8_code
def y_Sp_undo : MethodName := ⟨"SpellDesk$Speller", "undo", "(LSpellDesk$Rule;LSpellDesk$Rule;LSpellDesk$Letters;II)Z"⟩
set_option maxRecDepth 20000 in
theorem Y_Sp_undo : gh_Y y_Sp_undo b_Sp_undo 7 (some .boolean) 5 := ⟨gt_in (i := 930) rfl rfl, gt_in (i := 12) (by decide +kernel) rfl, by decide +kernel, by decide +kernel, by decide +kernel⟩
theorem V_Sp_undo : Cond.instanceMethod y_Sp_undo ∈ gTbl ∧ Cond.selects y_Sp_undo.cls y_Sp_undo y_Sp_undo ∈ gTbl := ⟨(gt_in (i := 929) (by decide +kernel) rfl), (gt_sel (n := 8) (i := 15) (by decide +kernel))⟩
theorem d_Sp_undo_0 : decode b_Sp_undo 0 = .ok (.iload 5, 2) := by decide +kernel
theorem d_Sp_undo_2 : decode b_Sp_undo 2 = .ok (.aload_n 1, 1) := by decide +kernel
theorem d_Sp_undo_3 : decode b_Sp_undo 3 = .ok (.getfield 111, 3) := by decide +kernel
theorem d_Sp_undo_6 : decode b_Sp_undo 6 = .ok (.invokevirtual 71, 3) := by decide +kernel
theorem d_Sp_undo_9 : decode b_Sp_undo 9 = .ok (.isub, 1) := by decide +kernel
theorem d_Sp_undo_10 : decode b_Sp_undo 10 = .ok (.aload_n 2, 1) := by decide +kernel
theorem d_Sp_undo_11 : decode b_Sp_undo 11 = .ok (.getfield 111, 3) := by decide +kernel
theorem d_Sp_undo_14 : decode b_Sp_undo 14 = .ok (.invokevirtual 71, 3) := by decide +kernel
theorem d_Sp_undo_17 : decode b_Sp_undo 17 = .ok (.isub, 1) := by decide +kernel
theorem d_Sp_undo_18 : decode b_Sp_undo 18 = .ok (.istore 6, 2) := by decide +kernel
theorem d_Sp_undo_20 : decode b_Sp_undo 20 = .ok (.iload 6, 2) := by decide +kernel
theorem d_Sp_undo_22 : decode b_Sp_undo 22 = .ok (.iconst 1, 1) := by decide +kernel
theorem d_Sp_undo_23 : decode b_Sp_undo 23 = .ok (.if_icmp .lt 26, 3) := by decide +kernel
theorem d_Sp_undo_26 : decode b_Sp_undo 26 = .ok (.aload_n 1, 1) := by decide +kernel
theorem d_Sp_undo_27 : decode b_Sp_undo 27 = .ok (.getfield 108, 3) := by decide +kernel
theorem d_Sp_undo_30 : decode b_Sp_undo 30 = .ok (.invokevirtual 71, 3) := by decide +kernel
theorem d_Sp_undo_33 : decode b_Sp_undo 33 = .ok (.iload 6, 2) := by decide +kernel
theorem d_Sp_undo_35 : decode b_Sp_undo 35 = .ok (.iadd, 1) := by decide +kernel
theorem d_Sp_undo_36 : decode b_Sp_undo 36 = .ok (.aload_n 2, 1) := by decide +kernel
theorem d_Sp_undo_37 : decode b_Sp_undo 37 = .ok (.getfield 108, 3) := by decide +kernel
theorem d_Sp_undo_40 : decode b_Sp_undo 40 = .ok (.invokevirtual 71, 3) := by decide +kernel
theorem d_Sp_undo_43 : decode b_Sp_undo 43 = .ok (.iadd, 1) := by decide +kernel
theorem d_Sp_undo_44 : decode b_Sp_undo 44 = .ok (.bipush 16, 2) := by decide +kernel
theorem d_Sp_undo_46 : decode b_Sp_undo 46 = .ok (.if_icmp .le 5, 3) := by decide +kernel
theorem d_Sp_undo_49 : decode b_Sp_undo 49 = .ok (.iconst 0, 1) := by decide +kernel
theorem d_Sp_undo_50 : decode b_Sp_undo 50 = .ok (.ireturn, 1) := by decide +kernel
theorem d_Sp_undo_51 : decode b_Sp_undo 51 = .ok (.aload_n 0, 1) := by decide +kernel
theorem d_Sp_undo_52 : decode b_Sp_undo 52 = .ok (.getfield 27, 3) := by decide +kernel
theorem d_Sp_undo_55 : decode b_Sp_undo 55 = .ok (.invokevirtual 95, 3) := by decide +kernel
theorem d_Sp_undo_58 : decode b_Sp_undo 58 = .ok (.aload_n 0, 1) := by decide +kernel
theorem d_Sp_undo_59 : decode b_Sp_undo 59 = .ok (.getfield 27, 3) := by decide +kernel
theorem d_Sp_undo_62 : decode b_Sp_undo 62 = .ok (.aload_n 1, 1) := by decide +kernel
theorem d_Sp_undo_63 : decode b_Sp_undo 63 = .ok (.getfield 108, 3) := by decide +kernel
theorem d_Sp_undo_66 : decode b_Sp_undo 66 = .ok (.iconst 0, 1) := by decide +kernel
theorem d_Sp_undo_67 : decode b_Sp_undo 67 = .ok (.aload_n 1, 1) := by decide +kernel
theorem d_Sp_undo_68 : decode b_Sp_undo 68 = .ok (.getfield 108, 3) := by decide +kernel
theorem d_Sp_undo_71 : decode b_Sp_undo 71 = .ok (.invokevirtual 71, 3) := by decide +kernel
theorem d_Sp_undo_74 : decode b_Sp_undo 74 = .ok (.invokevirtual 114, 3) := by decide +kernel
theorem d_Sp_undo_77 : decode b_Sp_undo 77 = .ok (.aload_n 0, 1) := by decide +kernel
theorem d_Sp_undo_78 : decode b_Sp_undo 78 = .ok (.getfield 27, 3) := by decide +kernel
theorem d_Sp_undo_81 : decode b_Sp_undo 81 = .ok (.aload_n 3, 1) := by decide +kernel
theorem d_Sp_undo_82 : decode b_Sp_undo 82 = .ok (.iload 4, 2) := by decide +kernel
theorem d_Sp_undo_84 : decode b_Sp_undo 84 = .ok (.aload_n 1, 1) := by decide +kernel
theorem d_Sp_undo_85 : decode b_Sp_undo 85 = .ok (.getfield 111, 3) := by decide +kernel
theorem d_Sp_undo_88 : decode b_Sp_undo 88 = .ok (.invokevirtual 71, 3) := by decide +kernel
theorem d_Sp_undo_91 : decode b_Sp_undo 91 = .ok (.iadd, 1) := by decide +kernel
theorem d_Sp_undo_92 : decode b_Sp_undo 92 = .ok (.iload 6, 2) := by decide +kernel
theorem d_Sp_undo_94 : decode b_Sp_undo 94 = .ok (.invokevirtual 114, 3) := by decide +kernel
theorem d_Sp_undo_97 : decode b_Sp_undo 97 = .ok (.aload_n 0, 1) := by decide +kernel
theorem d_Sp_undo_98 : decode b_Sp_undo 98 = .ok (.getfield 27, 3) := by decide +kernel
theorem d_Sp_undo_101 : decode b_Sp_undo 101 = .ok (.aload_n 2, 1) := by decide +kernel
theorem d_Sp_undo_102 : decode b_Sp_undo 102 = .ok (.getfield 108, 3) := by decide +kernel
theorem d_Sp_undo_105 : decode b_Sp_undo 105 = .ok (.iconst 0, 1) := by decide +kernel
theorem d_Sp_undo_106 : decode b_Sp_undo 106 = .ok (.aload_n 2, 1) := by decide +kernel
theorem d_Sp_undo_107 : decode b_Sp_undo 107 = .ok (.getfield 108, 3) := by decide +kernel
theorem d_Sp_undo_110 : decode b_Sp_undo 110 = .ok (.invokevirtual 71, 3) := by decide +kernel
theorem d_Sp_undo_113 : decode b_Sp_undo 113 = .ok (.invokevirtual 114, 3) := by decide +kernel
theorem d_Sp_undo_116 : decode b_Sp_undo 116 = .ok (.iconst 1, 1) := by decide +kernel
theorem d_Sp_undo_117 : decode b_Sp_undo 117 = .ok (.ireturn, 1) := by decide +kernel
abbrev b_Sp_putWay : ByteArray := prog_9_method_9_code
def y_Sp_putWay : MethodName := ⟨"SpellDesk$Speller", "putWay", "(I)V"⟩
set_option maxRecDepth 20000 in
theorem Y_Sp_putWay : gh_Y y_Sp_putWay b_Sp_putWay 3 none 1 := ⟨gt_in (i := 949) rfl rfl, gt_in (i := 12) (by decide +kernel) rfl, by decide +kernel, by decide +kernel, by decide +kernel⟩
theorem V_Sp_putWay : Cond.instanceMethod y_Sp_putWay ∈ gTbl ∧ Cond.selects y_Sp_putWay.cls y_Sp_putWay y_Sp_putWay ∈ gTbl := ⟨(gt_in (i := 948) (by decide +kernel) rfl), (gt_sel (n := 8) (i := 16) (by decide +kernel))⟩
theorem d_Sp_putWay_0 : decode b_Sp_putWay 0 = .ok (.aload_n 0, 1) := by decide +kernel
theorem d_Sp_putWay_1 : decode b_Sp_putWay 1 = .ok (.getfield 47, 3) := by decide +kernel
theorem d_Sp_putWay_4 : decode b_Sp_putWay 4 = .ok (.aload_n 0, 1) := by decide +kernel
theorem d_Sp_putWay_5 : decode b_Sp_putWay 5 = .ok (.getfield 31, 3) := by decide +kernel
theorem d_Sp_putWay_8 : decode b_Sp_putWay 8 = .ok (.arraylength, 1) := by decide +kernel
theorem d_Sp_putWay_9 : decode b_Sp_putWay 9 = .ok (.if_icmp .lt 4, 3) := by decide +kernel
theorem d_Sp_putWay_12 : decode b_Sp_putWay 12 = .ok (.return_, 1) := by decide +kernel
theorem d_Sp_putWay_13 : decode b_Sp_putWay 13 = .ok (.aload_n 0, 1) := by decide +kernel
theorem d_Sp_putWay_14 : decode b_Sp_putWay 14 = .ok (.getfield 47, 3) := by decide +kernel
theorem d_Sp_putWay_17 : decode b_Sp_putWay 17 = .ok (.istore_n 2, 1) := by decide +kernel
theorem d_Sp_putWay_18 : decode b_Sp_putWay 18 = .ok (.iload_n 2, 1) := by decide +kernel
theorem d_Sp_putWay_19 : decode b_Sp_putWay 19 = .ok (.ifCond .le 35, 3) := by decide +kernel
theorem d_Sp_putWay_22 : decode b_Sp_putWay 22 = .ok (.aload_n 0, 1) := by decide +kernel
theorem d_Sp_putWay_23 : decode b_Sp_putWay 23 = .ok (.getfield 31, 3) := by decide +kernel
theorem d_Sp_putWay_26 : decode b_Sp_putWay 26 = .ok (.iload_n 2, 1) := by decide +kernel
theorem d_Sp_putWay_27 : decode b_Sp_putWay 27 = .ok (.iconst 1, 1) := by decide +kernel
theorem d_Sp_putWay_28 : decode b_Sp_putWay 28 = .ok (.isub, 1) := by decide +kernel
theorem d_Sp_putWay_29 : decode b_Sp_putWay 29 = .ok (.iaload, 1) := by decide +kernel
theorem d_Sp_putWay_30 : decode b_Sp_putWay 30 = .ok (.iload_n 1, 1) := by decide +kernel
theorem d_Sp_putWay_31 : decode b_Sp_putWay 31 = .ok (.if_icmp .le 23, 3) := by decide +kernel
theorem d_Sp_putWay_34 : decode b_Sp_putWay 34 = .ok (.aload_n 0, 1) := by decide +kernel
theorem d_Sp_putWay_35 : decode b_Sp_putWay 35 = .ok (.getfield 31, 3) := by decide +kernel
theorem d_Sp_putWay_38 : decode b_Sp_putWay 38 = .ok (.iload_n 2, 1) := by decide +kernel
theorem d_Sp_putWay_39 : decode b_Sp_putWay 39 = .ok (.aload_n 0, 1) := by decide +kernel
theorem d_Sp_putWay_40 : decode b_Sp_putWay 40 = .ok (.getfield 31, 3) := by decide +kernel
theorem d_Sp_putWay_43 : decode b_Sp_putWay 43 = .ok (.iload_n 2, 1) := by decide +kernel
theorem d_Sp_putWay_44 : decode b_Sp_putWay 44 = .ok (.iconst 1, 1) := by decide +kernel
theorem d_Sp_putWay_45 : decode b_Sp_putWay 45 = .ok (.isub, 1) := by decide +kernel
theorem d_Sp_putWay_46 : decode b_Sp_putWay 46 = .ok (.iaload, 1) := by decide +kernel
theorem d_Sp_putWay_47 : decode b_Sp_putWay 47 = .ok (.iastore, 1) := by decide +kernel
theorem d_Sp_putWay_48 : decode b_Sp_putWay 48 = .ok (.iinc 2 (-1), 3) := by decide +kernel
theorem d_Sp_putWay_51 : decode b_Sp_putWay 51 = .ok (.goto (-33), 3) := by decide +kernel
theorem d_Sp_putWay_54 : decode b_Sp_putWay 54 = .ok (.aload_n 0, 1) := by decide +kernel
theorem d_Sp_putWay_55 : decode b_Sp_putWay 55 = .ok (.getfield 31, 3) := by decide +kernel
theorem d_Sp_putWay_58 : decode b_Sp_putWay 58 = .ok (.iload_n 2, 1) := by decide +kernel
theorem d_Sp_putWay_59 : decode b_Sp_putWay 59 = .ok (.iload_n 1, 1) := by decide +kernel
theorem d_Sp_putWay_60 : decode b_Sp_putWay 60 = .ok (.iastore, 1) := by decide +kernel
theorem d_Sp_putWay_61 : decode b_Sp_putWay 61 = .ok (.aload_n 0, 1) := by decide +kernel
theorem d_Sp_putWay_62 : decode b_Sp_putWay 62 = .ok (.dup, 1) := by decide +kernel
theorem d_Sp_putWay_63 : decode b_Sp_putWay 63 = .ok (.getfield 47, 3) := by decide +kernel
theorem d_Sp_putWay_66 : decode b_Sp_putWay 66 = .ok (.iconst 1, 1) := by decide +kernel
theorem d_Sp_putWay_67 : decode b_Sp_putWay 67 = .ok (.iadd, 1) := by decide +kernel
theorem d_Sp_putWay_68 : decode b_Sp_putWay 68 = .ok (.putfield 47, 3) := by decide +kernel
theorem d_Sp_putWay_71 : decode b_Sp_putWay 71 = .ok (.return_, 1) := by decide +kernel
abbrev b_Sp_entryOfWay : ByteArray := prog_9_method_3_code
def y_Sp_entryOfWay : MethodName := ⟨"SpellDesk$Speller", "entryOfWay", "(I)LSpellDesk$Entry;"⟩
set_option maxRecDepth 20000 in
theorem Y_Sp_entryOfWay : gh_Y y_Sp_entryOfWay b_Sp_entryOfWay 2 (some (.object "SpellDesk$Entry")) 1 := ⟨gt_in (i := 987) rfl rfl, gt_in (i := 12) (by decide +kernel) rfl, by decide +kernel, by decide +kernel, by decide +kernel⟩
theorem V_Sp_entryOfWay : Cond.instanceMethod y_Sp_entryOfWay ∈ gTbl ∧ Cond.selects y_Sp_entryOfWay.cls y_Sp_entryOfWay y_Sp_entryOfWay ∈ gTbl := ⟨(gt_in (i := 985) (by decide +kernel) rfl), (gt_in (i := 986) (by decide +kernel) rfl)⟩
theorem d_Sp_entryOfWay_0 : decode b_Sp_entryOfWay 0 = .ok (.aload_n 0, 1) := by decide +kernel
theorem d_Sp_entryOfWay_1 : decode b_Sp_entryOfWay 1 = .ok (.getfield 9, 3) := by decide +kernel
theorem d_Sp_entryOfWay_4 : decode b_Sp_entryOfWay 4 = .ok (.aload_n 0, 1) := by decide +kernel
theorem d_Sp_entryOfWay_5 : decode b_Sp_entryOfWay 5 = .ok (.iload_n 1, 1) := by decide +kernel
theorem d_Sp_entryOfWay_6 : decode b_Sp_entryOfWay 6 = .ok (.invokevirtual 88, 3) := by decide +kernel
theorem d_Sp_entryOfWay_9 : decode b_Sp_entryOfWay 9 = .ok (.bipush 81, 2) := by decide +kernel
theorem d_Sp_entryOfWay_11 : decode b_Sp_entryOfWay 11 = .ok (.idiv, 1) := by decide +kernel
theorem d_Sp_entryOfWay_12 : decode b_Sp_entryOfWay 12 = .ok (.invokevirtual 92, 3) := by decide +kernel
theorem d_Sp_entryOfWay_15 : decode b_Sp_entryOfWay 15 = .ok (.areturn, 1) := by decide +kernel
abbrev b_Sp_way : ByteArray := prog_9_method_10_code
def y_Sp_way : MethodName := ⟨"SpellDesk$Speller", "way", "(I)I"⟩
set_option maxRecDepth 20000 in
theorem Y_Sp_way : gh_Y y_Sp_way b_Sp_way 2 (some .int) 1 := ⟨gt_in (i := 991) rfl rfl, gt_in (i := 12) (by decide +kernel) rfl, by decide +kernel, by decide +kernel, by decide +kernel⟩
theorem V_Sp_way : Cond.instanceMethod y_Sp_way ∈ gTbl ∧ Cond.selects y_Sp_way.cls y_Sp_way y_Sp_way ∈ gTbl := ⟨(gt_in (i := 990) (by decide +kernel) rfl), (gt_sel (n := 8) (i := 19) (by decide +kernel))⟩
theorem d_Sp_way_0 : decode b_Sp_way 0 = .ok (.iload_n 1, 1) := by decide +kernel
theorem d_Sp_way_1 : decode b_Sp_way 1 = .ok (.ifCond .lt 20, 3) := by decide +kernel
theorem d_Sp_way_4 : decode b_Sp_way 4 = .ok (.iload_n 1, 1) := by decide +kernel
theorem d_Sp_way_5 : decode b_Sp_way 5 = .ok (.aload_n 0, 1) := by decide +kernel
theorem d_Sp_way_6 : decode b_Sp_way 6 = .ok (.getfield 47, 3) := by decide +kernel
theorem d_Sp_way_9 : decode b_Sp_way 9 = .ok (.if_icmp .ge 12, 3) := by decide +kernel
theorem d_Sp_way_12 : decode b_Sp_way 12 = .ok (.aload_n 0, 1) := by decide +kernel
theorem d_Sp_way_13 : decode b_Sp_way 13 = .ok (.getfield 31, 3) := by decide +kernel
theorem d_Sp_way_16 : decode b_Sp_way 16 = .ok (.iload_n 1, 1) := by decide +kernel
theorem d_Sp_way_17 : decode b_Sp_way 17 = .ok (.iaload, 1) := by decide +kernel
theorem d_Sp_way_18 : decode b_Sp_way 18 = .ok (.goto 4, 3) := by decide +kernel
theorem d_Sp_way_21 : decode b_Sp_way 21 = .ok (.iconst 0, 1) := by decide +kernel
theorem d_Sp_way_22 : decode b_Sp_way 22 = .ok (.ireturn, 1) := by decide +kernel
abbrev b_Sp_prefixOfWay : ByteArray := prog_9_method_4_code
def y_Sp_prefixOfWay : MethodName := ⟨"SpellDesk$Speller", "prefixOfWay", "(I)I"⟩
set_option maxRecDepth 20000 in
theorem Y_Sp_prefixOfWay : gh_Y y_Sp_prefixOfWay b_Sp_prefixOfWay 2 (some .int) 1 := ⟨gt_in (i := 996) rfl rfl, gt_in (i := 12) (by decide +kernel) rfl, by decide +kernel, by decide +kernel, by decide +kernel⟩
theorem V_Sp_prefixOfWay : Cond.instanceMethod y_Sp_prefixOfWay ∈ gTbl ∧ Cond.selects y_Sp_prefixOfWay.cls y_Sp_prefixOfWay y_Sp_prefixOfWay ∈ gTbl := ⟨(gt_in (i := 994) (by decide +kernel) rfl), (gt_in (i := 995) (by decide +kernel) rfl)⟩
theorem d_Sp_prefixOfWay_0 : decode b_Sp_prefixOfWay 0 = .ok (.aload_n 0, 1) := by decide +kernel
theorem d_Sp_prefixOfWay_1 : decode b_Sp_prefixOfWay 1 = .ok (.iload_n 1, 1) := by decide +kernel
theorem d_Sp_prefixOfWay_2 : decode b_Sp_prefixOfWay 2 = .ok (.invokevirtual 88, 3) := by decide +kernel
theorem d_Sp_prefixOfWay_5 : decode b_Sp_prefixOfWay 5 = .ok (.bipush 9, 2) := by decide +kernel
theorem d_Sp_prefixOfWay_7 : decode b_Sp_prefixOfWay 7 = .ok (.idiv, 1) := by decide +kernel
theorem d_Sp_prefixOfWay_8 : decode b_Sp_prefixOfWay 8 = .ok (.bipush 9, 2) := by decide +kernel
theorem d_Sp_prefixOfWay_10 : decode b_Sp_prefixOfWay 10 = .ok (.irem, 1) := by decide +kernel
theorem d_Sp_prefixOfWay_11 : decode b_Sp_prefixOfWay 11 = .ok (.ireturn, 1) := by decide +kernel
abbrev b_Sp_suffixOfWay : ByteArray := prog_9_method_5_code
def y_Sp_suffixOfWay : MethodName := ⟨"SpellDesk$Speller", "suffixOfWay", "(I)I"⟩
set_option maxRecDepth 20000 in
theorem Y_Sp_suffixOfWay : gh_Y y_Sp_suffixOfWay b_Sp_suffixOfWay 2 (some .int) 1 := ⟨gt_in (i := 1000) rfl rfl, gt_in (i := 12) (by decide +kernel) rfl, by decide +kernel, by decide +kernel, by decide +kernel⟩
theorem V_Sp_suffixOfWay : Cond.instanceMethod y_Sp_suffixOfWay ∈ gTbl ∧ Cond.selects y_Sp_suffixOfWay.cls y_Sp_suffixOfWay y_Sp_suffixOfWay ∈ gTbl := ⟨(gt_in (i := 998) (by decide +kernel) rfl), (gt_in (i := 999) (by decide +kernel) rfl)⟩
theorem d_Sp_suffixOfWay_0 : decode b_Sp_suffixOfWay 0 = .ok (.aload_n 0, 1) := by decide +kernel
theorem d_Sp_suffixOfWay_1 : decode b_Sp_suffixOfWay 1 = .ok (.iload_n 1, 1) := by decide +kernel
theorem d_Sp_suffixOfWay_2 : decode b_Sp_suffixOfWay 2 = .ok (.invokevirtual 88, 3) := by decide +kernel
theorem d_Sp_suffixOfWay_5 : decode b_Sp_suffixOfWay 5 = .ok (.bipush 9, 2) := by decide +kernel
theorem d_Sp_suffixOfWay_7 : decode b_Sp_suffixOfWay 7 = .ok (.irem, 1) := by decide +kernel
theorem d_Sp_suffixOfWay_8 : decode b_Sp_suffixOfWay 8 = .ok (.ireturn, 1) := by decide +kernel
abbrev b_Sp_formsOf : ByteArray := prog_9_method_6_code
def y_Sp_formsOf : MethodName := ⟨"SpellDesk$Speller", "formsOf", "(LSpellDesk$Entry;)LSpellDesk$WordList;"⟩
set_option maxRecDepth 20000 in
theorem Y_Sp_formsOf : gh_Y y_Sp_formsOf b_Sp_formsOf 6 (some (.object "SpellDesk$WordList")) 1 := ⟨gt_in (i := 1022) rfl rfl, gt_in (i := 12) (by decide +kernel) rfl, by decide +kernel, by decide +kernel, by decide +kernel⟩
theorem V_Sp_formsOf : Cond.instanceMethod y_Sp_formsOf ∈ gTbl ∧ Cond.selects y_Sp_formsOf.cls y_Sp_formsOf y_Sp_formsOf ∈ gTbl := ⟨(gt_in (i := 1020) (by decide +kernel) rfl), (gt_in (i := 1021) (by decide +kernel) rfl)⟩
theorem d_Sp_formsOf_0 : decode b_Sp_formsOf 0 = .ok (.aload_n 0, 1) := by decide +kernel
theorem d_Sp_formsOf_1 : decode b_Sp_formsOf 1 = .ok (.getfield 35, 3) := by decide +kernel
theorem d_Sp_formsOf_4 : decode b_Sp_formsOf 4 = .ok (.invokevirtual 95, 3) := by decide +kernel
theorem d_Sp_formsOf_7 : decode b_Sp_formsOf 7 = .ok (.aload_n 0, 1) := by decide +kernel
theorem d_Sp_formsOf_8 : decode b_Sp_formsOf 8 = .ok (.getfield 43, 3) := by decide +kernel
theorem d_Sp_formsOf_11 : decode b_Sp_formsOf 11 = .ok (.invokevirtual 98, 3) := by decide +kernel
theorem d_Sp_formsOf_14 : decode b_Sp_formsOf 14 = .ok (.iconst 0, 1) := by decide +kernel
theorem d_Sp_formsOf_15 : decode b_Sp_formsOf 15 = .ok (.istore_n 2, 1) := by decide +kernel
theorem d_Sp_formsOf_16 : decode b_Sp_formsOf 16 = .ok (.iload_n 2, 1) := by decide +kernel
theorem d_Sp_formsOf_17 : decode b_Sp_formsOf 17 = .ok (.aload_n 0, 1) := by decide +kernel
theorem d_Sp_formsOf_18 : decode b_Sp_formsOf 18 = .ok (.getfield 15, 3) := by decide +kernel
theorem d_Sp_formsOf_21 : decode b_Sp_formsOf 21 = .ok (.invokevirtual 51, 3) := by decide +kernel
theorem d_Sp_formsOf_24 : decode b_Sp_formsOf 24 = .ok (.if_icmp .gt 78, 3) := by decide +kernel
theorem d_Sp_formsOf_27 : decode b_Sp_formsOf 27 = .ok (.aload_n 0, 1) := by decide +kernel
theorem d_Sp_formsOf_28 : decode b_Sp_formsOf 28 = .ok (.getfield 15, 3) := by decide +kernel
theorem d_Sp_formsOf_31 : decode b_Sp_formsOf 31 = .ok (.iload_n 2, 1) := by decide +kernel
theorem d_Sp_formsOf_32 : decode b_Sp_formsOf 32 = .ok (.invokevirtual 57, 3) := by decide +kernel
theorem d_Sp_formsOf_35 : decode b_Sp_formsOf 35 = .ok (.astore_n 3, 1) := by decide +kernel
theorem d_Sp_formsOf_36 : decode b_Sp_formsOf 36 = .ok (.aload_n 3, 1) := by decide +kernel
theorem d_Sp_formsOf_37 : decode b_Sp_formsOf 37 = .ok (.aload_n 1, 1) := by decide +kernel
theorem d_Sp_formsOf_38 : decode b_Sp_formsOf 38 = .ok (.invokevirtual 81, 3) := by decide +kernel
theorem d_Sp_formsOf_41 : decode b_Sp_formsOf 41 = .ok (.ifCond .ne 6, 3) := by decide +kernel
theorem d_Sp_formsOf_44 : decode b_Sp_formsOf 44 = .ok (.goto 52, 3) := by decide +kernel
theorem d_Sp_formsOf_47 : decode b_Sp_formsOf 47 = .ok (.iconst 0, 1) := by decide +kernel
theorem d_Sp_formsOf_48 : decode b_Sp_formsOf 48 = .ok (.istore 4, 2) := by decide +kernel
theorem d_Sp_formsOf_50 : decode b_Sp_formsOf 50 = .ok (.iload 4, 2) := by decide +kernel
theorem d_Sp_formsOf_52 : decode b_Sp_formsOf 52 = .ok (.aload_n 0, 1) := by decide +kernel
theorem d_Sp_formsOf_53 : decode b_Sp_formsOf 53 = .ok (.getfield 19, 3) := by decide +kernel
theorem d_Sp_formsOf_56 : decode b_Sp_formsOf 56 = .ok (.invokevirtual 51, 3) := by decide +kernel
theorem d_Sp_formsOf_59 : decode b_Sp_formsOf 59 = .ok (.if_icmp .gt 37, 3) := by decide +kernel
theorem d_Sp_formsOf_62 : decode b_Sp_formsOf 62 = .ok (.aload_n 0, 1) := by decide +kernel
theorem d_Sp_formsOf_63 : decode b_Sp_formsOf 63 = .ok (.getfield 19, 3) := by decide +kernel
theorem d_Sp_formsOf_66 : decode b_Sp_formsOf 66 = .ok (.iload 4, 2) := by decide +kernel
theorem d_Sp_formsOf_68 : decode b_Sp_formsOf 68 = .ok (.invokevirtual 57, 3) := by decide +kernel
theorem d_Sp_formsOf_71 : decode b_Sp_formsOf 71 = .ok (.astore 5, 2) := by decide +kernel
theorem d_Sp_formsOf_73 : decode b_Sp_formsOf 73 = .ok (.aload 5, 2) := by decide +kernel
theorem d_Sp_formsOf_75 : decode b_Sp_formsOf 75 = .ok (.aload_n 1, 1) := by decide +kernel
theorem d_Sp_formsOf_76 : decode b_Sp_formsOf 76 = .ok (.invokevirtual 81, 3) := by decide +kernel
theorem d_Sp_formsOf_79 : decode b_Sp_formsOf 79 = .ok (.ifCond .eq 11, 3) := by decide +kernel
theorem d_Sp_formsOf_82 : decode b_Sp_formsOf 82 = .ok (.aload_n 0, 1) := by decide +kernel
theorem d_Sp_formsOf_83 : decode b_Sp_formsOf 83 = .ok (.aload_n 1, 1) := by decide +kernel
theorem d_Sp_formsOf_84 : decode b_Sp_formsOf 84 = .ok (.aload_n 3, 1) := by decide +kernel
theorem d_Sp_formsOf_85 : decode b_Sp_formsOf 85 = .ok (.aload 5, 2) := by decide +kernel
theorem d_Sp_formsOf_87 : decode b_Sp_formsOf 87 = .ok (.invokevirtual 99, 3) := by decide +kernel
theorem d_Sp_formsOf_90 : decode b_Sp_formsOf 90 = .ok (.iinc 4 1, 3) := by decide +kernel
theorem d_Sp_formsOf_93 : decode b_Sp_formsOf 93 = .ok (.goto (-43), 3) := by decide +kernel
theorem d_Sp_formsOf_96 : decode b_Sp_formsOf 96 = .ok (.iinc 2 1, 3) := by decide +kernel
theorem d_Sp_formsOf_99 : decode b_Sp_formsOf 99 = .ok (.goto (-83), 3) := by decide +kernel
theorem d_Sp_formsOf_102 : decode b_Sp_formsOf 102 = .ok (.aload_n 0, 1) := by decide +kernel
theorem d_Sp_formsOf_103 : decode b_Sp_formsOf 103 = .ok (.getfield 43, 3) := by decide +kernel
theorem d_Sp_formsOf_106 : decode b_Sp_formsOf 106 = .ok (.areturn, 1) := by decide +kernel
abbrev b_Sp_putForm : ByteArray := prog_9_method_7_code
def y_Sp_putForm : MethodName := ⟨"SpellDesk$Speller", "putForm", "(LSpellDesk$Entry;LSpellDesk$Rule;LSpellDesk$Rule;)V"⟩
set_option maxRecDepth 20000 in
theorem Y_Sp_putForm : gh_Y y_Sp_putForm b_Sp_putForm 6 none 3 := ⟨gt_in (i := 1027) rfl rfl, gt_in (i := 12) (by decide +kernel) rfl, by decide +kernel, by decide +kernel, by decide +kernel⟩
theorem V_Sp_putForm : Cond.instanceMethod y_Sp_putForm ∈ gTbl ∧ Cond.selects y_Sp_putForm.cls y_Sp_putForm y_Sp_putForm ∈ gTbl := ⟨(gt_in (i := 1026) (by decide +kernel) rfl), (gt_sel (n := 8) (i := 22) (by decide +kernel))⟩
theorem d_Sp_putForm_0 : decode b_Sp_putForm 0 = .ok (.aload_n 1, 1) := by decide +kernel
theorem d_Sp_putForm_1 : decode b_Sp_putForm 1 = .ok (.getfield 103, 3) := by decide +kernel
theorem d_Sp_putForm_4 : decode b_Sp_putForm 4 = .ok (.invokevirtual 71, 3) := by decide +kernel
theorem d_Sp_putForm_7 : decode b_Sp_putForm 7 = .ok (.aload_n 2, 1) := by decide +kernel
theorem d_Sp_putForm_8 : decode b_Sp_putForm 8 = .ok (.getfield 108, 3) := by decide +kernel
theorem d_Sp_putForm_11 : decode b_Sp_putForm 11 = .ok (.invokevirtual 71, 3) := by decide +kernel
theorem d_Sp_putForm_14 : decode b_Sp_putForm 14 = .ok (.isub, 1) := by decide +kernel
theorem d_Sp_putForm_15 : decode b_Sp_putForm 15 = .ok (.aload_n 3, 1) := by decide +kernel
theorem d_Sp_putForm_16 : decode b_Sp_putForm 16 = .ok (.getfield 108, 3) := by decide +kernel
theorem d_Sp_putForm_19 : decode b_Sp_putForm 19 = .ok (.invokevirtual 71, 3) := by decide +kernel
theorem d_Sp_putForm_22 : decode b_Sp_putForm 22 = .ok (.isub, 1) := by decide +kernel
theorem d_Sp_putForm_23 : decode b_Sp_putForm 23 = .ok (.istore 4, 2) := by decide +kernel
theorem d_Sp_putForm_25 : decode b_Sp_putForm 25 = .ok (.iload 4, 2) := by decide +kernel
theorem d_Sp_putForm_27 : decode b_Sp_putForm 27 = .ok (.iconst 1, 1) := by decide +kernel
theorem d_Sp_putForm_28 : decode b_Sp_putForm 28 = .ok (.if_icmp .ge 4, 3) := by decide +kernel
theorem d_Sp_putForm_31 : decode b_Sp_putForm 31 = .ok (.return_, 1) := by decide +kernel
theorem d_Sp_putForm_32 : decode b_Sp_putForm 32 = .ok (.aload_n 0, 1) := by decide +kernel
theorem d_Sp_putForm_33 : decode b_Sp_putForm 33 = .ok (.getfield 35, 3) := by decide +kernel
theorem d_Sp_putForm_36 : decode b_Sp_putForm 36 = .ok (.invokevirtual 71, 3) := by decide +kernel
theorem d_Sp_putForm_39 : decode b_Sp_putForm 39 = .ok (.istore 5, 2) := by decide +kernel
theorem d_Sp_putForm_41 : decode b_Sp_putForm 41 = .ok (.aload_n 0, 1) := by decide +kernel
theorem d_Sp_putForm_42 : decode b_Sp_putForm 42 = .ok (.getfield 35, 3) := by decide +kernel
theorem d_Sp_putForm_45 : decode b_Sp_putForm 45 = .ok (.aload_n 2, 1) := by decide +kernel
theorem d_Sp_putForm_46 : decode b_Sp_putForm 46 = .ok (.getfield 111, 3) := by decide +kernel
theorem d_Sp_putForm_49 : decode b_Sp_putForm 49 = .ok (.iconst 0, 1) := by decide +kernel
theorem d_Sp_putForm_50 : decode b_Sp_putForm 50 = .ok (.aload_n 2, 1) := by decide +kernel
theorem d_Sp_putForm_51 : decode b_Sp_putForm 51 = .ok (.getfield 111, 3) := by decide +kernel
theorem d_Sp_putForm_54 : decode b_Sp_putForm 54 = .ok (.invokevirtual 71, 3) := by decide +kernel
theorem d_Sp_putForm_57 : decode b_Sp_putForm 57 = .ok (.invokevirtual 114, 3) := by decide +kernel
theorem d_Sp_putForm_60 : decode b_Sp_putForm 60 = .ok (.aload_n 0, 1) := by decide +kernel
theorem d_Sp_putForm_61 : decode b_Sp_putForm 61 = .ok (.getfield 35, 3) := by decide +kernel
theorem d_Sp_putForm_64 : decode b_Sp_putForm 64 = .ok (.aload_n 1, 1) := by decide +kernel
theorem d_Sp_putForm_65 : decode b_Sp_putForm 65 = .ok (.getfield 103, 3) := by decide +kernel
theorem d_Sp_putForm_68 : decode b_Sp_putForm 68 = .ok (.aload_n 2, 1) := by decide +kernel
theorem d_Sp_putForm_69 : decode b_Sp_putForm 69 = .ok (.getfield 108, 3) := by decide +kernel
theorem d_Sp_putForm_72 : decode b_Sp_putForm 72 = .ok (.invokevirtual 71, 3) := by decide +kernel
theorem d_Sp_putForm_75 : decode b_Sp_putForm 75 = .ok (.iload 4, 2) := by decide +kernel
theorem d_Sp_putForm_77 : decode b_Sp_putForm 77 = .ok (.invokevirtual 114, 3) := by decide +kernel
theorem d_Sp_putForm_80 : decode b_Sp_putForm 80 = .ok (.aload_n 0, 1) := by decide +kernel
theorem d_Sp_putForm_81 : decode b_Sp_putForm 81 = .ok (.getfield 35, 3) := by decide +kernel
theorem d_Sp_putForm_84 : decode b_Sp_putForm 84 = .ok (.aload_n 3, 1) := by decide +kernel
theorem d_Sp_putForm_85 : decode b_Sp_putForm 85 = .ok (.getfield 111, 3) := by decide +kernel
theorem d_Sp_putForm_88 : decode b_Sp_putForm 88 = .ok (.iconst 0, 1) := by decide +kernel
theorem d_Sp_putForm_89 : decode b_Sp_putForm 89 = .ok (.aload_n 3, 1) := by decide +kernel
theorem d_Sp_putForm_90 : decode b_Sp_putForm 90 = .ok (.getfield 111, 3) := by decide +kernel
theorem d_Sp_putForm_93 : decode b_Sp_putForm 93 = .ok (.invokevirtual 71, 3) := by decide +kernel
theorem d_Sp_putForm_96 : decode b_Sp_putForm 96 = .ok (.invokevirtual 114, 3) := by decide +kernel
theorem d_Sp_putForm_99 : decode b_Sp_putForm 99 = .ok (.aload_n 0, 1) := by decide +kernel
theorem d_Sp_putForm_100 : decode b_Sp_putForm 100 = .ok (.getfield 43, 3) := by decide +kernel
theorem d_Sp_putForm_103 : decode b_Sp_putForm 103 = .ok (.iload 5, 2) := by decide +kernel
theorem d_Sp_putForm_105 : decode b_Sp_putForm 105 = .ok (.aload_n 0, 1) := by decide +kernel
theorem d_Sp_putForm_106 : decode b_Sp_putForm 106 = .ok (.getfield 35, 3) := by decide +kernel
theorem d_Sp_putForm_109 : decode b_Sp_putForm 109 = .ok (.invokevirtual 71, 3) := by decide +kernel
theorem d_Sp_putForm_112 : decode b_Sp_putForm 112 = .ok (.iload 5, 2) := by decide +kernel
theorem d_Sp_putForm_114 : decode b_Sp_putForm 114 = .ok (.isub, 1) := by decide +kernel
theorem d_Sp_putForm_115 : decode b_Sp_putForm 115 = .ok (.invokevirtual 118, 3) := by decide +kernel
theorem d_Sp_putForm_118 : decode b_Sp_putForm 118 = .ok (.return_, 1) := by decide +kernel
theorem kf_Sp_9 : Cond.fieldLink "SpellDesk$Speller" 9 "SpellDesk$Speller" "dictionary" "LSpellDesk$Dictionary;" ∈ gTbl := (gt_in (i := 212) (by decide +kernel) rfl)
theorem kf_Sp_15 : Cond.fieldLink "SpellDesk$Speller" 15 "SpellDesk$Speller" "prefixes" "LSpellDesk$RuleList;" ∈ gTbl := (gt_in (i := 213) (by decide +kernel) rfl)
theorem kf_Sp_19 : Cond.fieldLink "SpellDesk$Speller" 19 "SpellDesk$Speller" "suffixes" "LSpellDesk$RuleList;" ∈ gTbl := (gt_in (i := 214) (by decide +kernel) rfl)
theorem kf_Sp_27 : Cond.fieldLink "SpellDesk$Speller" 27 "SpellDesk$Speller" "base" "LSpellDesk$Letters;" ∈ gTbl := (gt_in (i := 215) (by decide +kernel) rfl)
theorem kf_Sp_31 : Cond.fieldLink "SpellDesk$Speller" 31 "SpellDesk$Speller" "ways" "[I" ∈ gTbl := (gt_in (i := 216) (by decide +kernel) rfl)
theorem kf_Sp_35 : Cond.fieldLink "SpellDesk$Speller" 35 "SpellDesk$Speller" "formLetters" "LSpellDesk$Letters;" ∈ gTbl := (gt_in (i := 217) (by decide +kernel) rfl)
theorem kf_Sp_43 : Cond.fieldLink "SpellDesk$Speller" 43 "SpellDesk$Speller" "forms" "LSpellDesk$WordList;" ∈ gTbl := (gt_in (i := 218) (by decide +kernel) rfl)
theorem kf_Sp_47 : Cond.fieldLink "SpellDesk$Speller" 47 "SpellDesk$Speller" "wayCount" "I" ∈ gTbl := (gt_in (i := 219) (by decide +kernel) rfl)
theorem kf_Sp_103 : Cond.fieldLink "SpellDesk$Speller" 103 "SpellDesk$Entry" "word" "LSpellDesk$Letters;" ∈ gTbl := (gt_in (i := 444) (by decide +kernel) rfl)
theorem kf_Sp_108 : Cond.fieldLink "SpellDesk$Speller" 108 "SpellDesk$Rule" "strip" "LSpellDesk$Letters;" ∈ gTbl := (gt_in (i := 158) (by decide +kernel) rfl)
theorem kf_Sp_111 : Cond.fieldLink "SpellDesk$Speller" 111 "SpellDesk$Rule" "add" "LSpellDesk$Letters;" ∈ gTbl := (gt_in (i := 160) (by decide +kernel) rfl)
theorem kc_Sp_22 : Cond.classLink "SpellDesk$Speller" 22 "SpellDesk$Letters" ∈ gTbl := (gt_in (i := 189) (by decide +kernel) rfl)
theorem kc_Sp_38 : Cond.classLink "SpellDesk$Speller" 38 "SpellDesk$WordList" ∈ gTbl := (gt_in (i := 191) (by decide +kernel) rfl)
theorem km_Sp_3 : Cond.methodLink "SpellDesk$Speller" 3 ⟨"java/lang/Object", "<init>", "()V"⟩ ∈ gTbl := (gt_in (i := 188) (by decide +kernel) rfl)
theorem km_Sp_24 : Cond.methodLink "SpellDesk$Speller" 24 ⟨"SpellDesk$Letters", "<init>", "(I)V"⟩ ∈ gTbl := (gt_in (i := 190) (by decide +kernel) rfl)
theorem km_Sp_40 : Cond.methodLink "SpellDesk$Speller" 40 ⟨"SpellDesk$WordList", "<init>", "(LSpellDesk$Letters;I)V"⟩ ∈ gTbl := (gt_in (i := 193) (by decide +kernel) rfl)
theorem km_Sp_51 : Cond.methodLink "SpellDesk$Speller" 51 ⟨"SpellDesk$RuleList", "count", "()I"⟩ ∈ gTbl := (gt_in (i := 911) (by decide +kernel) rfl)
theorem km_Sp_57 : Cond.methodLink "SpellDesk$Speller" 57 ⟨"SpellDesk$RuleList", "at", "(I)LSpellDesk$Rule;"⟩ ∈ gTbl := (gt_in (i := 912) (by decide +kernel) rfl)
theorem km_Sp_61 : Cond.methodLink "SpellDesk$Speller" 61 ⟨"SpellDesk$Rule", "addStands", "(LSpellDesk$Letters;II)Z"⟩ ∈ gTbl := (gt_in (i := 917) (by decide +kernel) rfl)
theorem km_Sp_67 : Cond.methodLink "SpellDesk$Speller" 67 ⟨"SpellDesk$Speller", "undo", "(LSpellDesk$Rule;LSpellDesk$Rule;LSpellDesk$Letters;II)Z"⟩ ∈ gTbl := (gt_in (i := 927) (by decide +kernel) rfl)
theorem km_Sp_71 : Cond.methodLink "SpellDesk$Speller" 71 ⟨"SpellDesk$Letters", "count", "()I"⟩ ∈ gTbl := (gt_in (i := 931) (by decide +kernel) rfl)
theorem km_Sp_72 : Cond.methodLink "SpellDesk$Speller" 72 ⟨"SpellDesk$Dictionary", "rankOf", "(LSpellDesk$Letters;II)I"⟩ ∈ gTbl := (gt_in (i := 940) (by decide +kernel) rfl)
theorem km_Sp_78 : Cond.methodLink "SpellDesk$Speller" 78 ⟨"SpellDesk$Dictionary", "at", "(ILSpellDesk$Letters;II)LSpellDesk$Entry;"⟩ ∈ gTbl := (gt_in (i := 941) (by decide +kernel) rfl)
theorem km_Sp_81 : Cond.methodLink "SpellDesk$Speller" 81 ⟨"SpellDesk$Rule", "goesWith", "(LSpellDesk$Entry;)Z"⟩ ∈ gTbl := (gt_in (i := 942) (by decide +kernel) rfl)
theorem km_Sp_85 : Cond.methodLink "SpellDesk$Speller" 85 ⟨"SpellDesk$Speller", "putWay", "(I)V"⟩ ∈ gTbl := (gt_in (i := 946) (by decide +kernel) rfl)
theorem km_Sp_88 : Cond.methodLink "SpellDesk$Speller" 88 ⟨"SpellDesk$Speller", "way", "(I)I"⟩ ∈ gTbl := (gt_in (i := 988) (by decide +kernel) rfl)
theorem km_Sp_92 : Cond.methodLink "SpellDesk$Speller" 92 ⟨"SpellDesk$Dictionary", "at", "(I)LSpellDesk$Entry;"⟩ ∈ gTbl := (gt_in (i := 992) (by decide +kernel) rfl)
theorem km_Sp_95 : Cond.methodLink "SpellDesk$Speller" 95 ⟨"SpellDesk$Letters", "clear", "()V"⟩ ∈ gTbl := (gt_in (i := 932) (by decide +kernel) rfl)
theorem km_Sp_98 : Cond.methodLink "SpellDesk$Speller" 98 ⟨"SpellDesk$WordList", "clear", "()V"⟩ ∈ gTbl := (gt_in (i := 1023) (by decide +kernel) rfl)
theorem km_Sp_99 : Cond.methodLink "SpellDesk$Speller" 99 ⟨"SpellDesk$Speller", "putForm", "(LSpellDesk$Entry;LSpellDesk$Rule;LSpellDesk$Rule;)V"⟩ ∈ gTbl := (gt_in (i := 1024) (by decide +kernel) rfl)
theorem km_Sp_114 : Cond.methodLink "SpellDesk$Speller" 114 ⟨"SpellDesk$Letters", "appendAll", "(LSpellDesk$Letters;II)V"⟩ ∈ gTbl := (gt_in (i := 936) (by decide +kernel) rfl)
theorem km_Sp_118 : Cond.methodLink "SpellDesk$Speller" 118 ⟨"SpellDesk$WordList", "put", "(II)V"⟩ ∈ gTbl := (gt_in (i := 1028) (by decide +kernel) rfl)
