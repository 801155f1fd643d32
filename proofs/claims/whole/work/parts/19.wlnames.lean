abbrev b_Wl_init : ByteArray := prog_10_method_1_code
def y_Wl_init : MethodName := ⟨"SpellDesk$WordList", "<init>", "(LSpellDesk$Letters;I)V"⟩
set_option maxRecDepth 20000 in
theorem Y_Wl_init : gh_Y y_Wl_init b_Wl_init 3 none 2 := ⟨gt_in (i := 195) rfl rfl, gt_in (i := 13) (by decide +kernel) rfl, by decide +kernel, by decide +kernel, by decide +kernel⟩
theorem V_Wl_init : Cond.instanceMethod y_Wl_init ∈ gTbl := (gt_in (i := 194) (by decide +kernel) rfl)
theorem d_Wl_init_0 : decode b_Wl_init 0 = .ok (.aload_n 0, 1) := by decide +kernel
theorem d_Wl_init_1 : decode b_Wl_init 1 = .ok (.invokespecial 3, 3) := by decide +kernel
theorem d_Wl_init_4 : decode b_Wl_init 4 = .ok (.aload_n 0, 1) := by decide +kernel
theorem d_Wl_init_5 : decode b_Wl_init 5 = .ok (.aload_n 1, 1) := by decide +kernel
theorem d_Wl_init_6 : decode b_Wl_init 6 = .ok (.putfield 9, 3) := by decide +kernel
theorem d_Wl_init_9 : decode b_Wl_init 9 = .ok (.aload_n 0, 1) := by decide +kernel
theorem d_Wl_init_10 : decode b_Wl_init 10 = .ok (.iload_n 2, 1) := by decide +kernel
theorem d_Wl_init_11 : decode b_Wl_init 11 = .ok (.iconst 0, 1) := by decide +kernel
theorem d_Wl_init_12 : decode b_Wl_init 12 = .ok (.invokestatic 15, 3) := by decide +kernel
theorem d_Wl_init_15 : decode b_Wl_init 15 = .ok (.newarray .int, 2) := by decide +kernel
theorem d_Wl_init_17 : decode b_Wl_init 17 = .ok (.putfield 21, 3) := by decide +kernel
theorem d_Wl_init_20 : decode b_Wl_init 20 = .ok (.aload_n 0, 1) := by decide +kernel
theorem d_Wl_init_21 : decode b_Wl_init 21 = .ok (.iload_n 2, 1) := by decide +kernel
theorem d_Wl_init_22 : decode b_Wl_init 22 = .ok (.iconst 0, 1) := by decide +kernel
theorem d_Wl_init_23 : decode b_Wl_init 23 = .ok (.invokestatic 15, 3) := by decide +kernel
theorem d_Wl_init_26 : decode b_Wl_init 26 = .ok (.newarray .int, 2) := by decide +kernel
theorem d_Wl_init_28 : decode b_Wl_init 28 = .ok (.putfield 25, 3) := by decide +kernel
theorem d_Wl_init_31 : decode b_Wl_init 31 = .ok (.return_, 1) := by decide +kernel
abbrev b_Wl_clear : ByteArray := prog_10_method_6_code
def y_Wl_clear : MethodName := ⟨"SpellDesk$WordList", "clear", "()V"⟩
set_option maxRecDepth 20000 in
theorem Y_Wl_clear : gh_Y y_Wl_clear b_Wl_clear 1 none 0 := ⟨gt_in (i := 883) rfl rfl, gt_in (i := 13) (by decide +kernel) rfl, by decide +kernel, by decide +kernel, by decide +kernel⟩
theorem V_Wl_clear : Cond.instanceMethod y_Wl_clear ∈ gTbl ∧ Cond.selects y_Wl_clear.cls y_Wl_clear y_Wl_clear ∈ gTbl := ⟨(gt_in (i := 881) (by decide +kernel) rfl), (gt_in (i := 882) (by decide +kernel) rfl)⟩
theorem d_Wl_clear_0 : decode b_Wl_clear 0 = .ok (.aload_n 0, 1) := by decide +kernel
theorem d_Wl_clear_1 : decode b_Wl_clear 1 = .ok (.iconst 0, 1) := by decide +kernel
theorem d_Wl_clear_2 : decode b_Wl_clear 2 = .ok (.putfield 28, 3) := by decide +kernel
theorem d_Wl_clear_5 : decode b_Wl_clear 5 = .ok (.return_, 1) := by decide +kernel
abbrev b_Wl_put : ByteArray := prog_10_method_7_code
def y_Wl_put : MethodName := ⟨"SpellDesk$WordList", "put", "(II)V"⟩
set_option maxRecDepth 20000 in
theorem Y_Wl_put : gh_Y y_Wl_put b_Wl_put 8 none 2 := ⟨gt_in (i := 891) rfl rfl, gt_in (i := 13) (by decide +kernel) rfl, by decide +kernel, by decide +kernel, by decide +kernel⟩
theorem V_Wl_put : Cond.instanceMethod y_Wl_put ∈ gTbl ∧ Cond.selects y_Wl_put.cls y_Wl_put y_Wl_put ∈ gTbl := ⟨(gt_in (i := 889) (by decide +kernel) rfl), (gt_in (i := 890) (by decide +kernel) rfl)⟩
theorem d_Wl_put_0 : decode b_Wl_put 0 = .ok (.iconst 0, 1) := by decide +kernel
theorem d_Wl_put_1 : decode b_Wl_put 1 = .ok (.istore_n 3, 1) := by decide +kernel
theorem d_Wl_put_2 : decode b_Wl_put 2 = .ok (.aload_n 0, 1) := by decide +kernel
theorem d_Wl_put_3 : decode b_Wl_put 3 = .ok (.getfield 28, 3) := by decide +kernel
theorem d_Wl_put_6 : decode b_Wl_put 6 = .ok (.istore 4, 2) := by decide +kernel
theorem d_Wl_put_8 : decode b_Wl_put 8 = .ok (.iconst 0, 1) := by decide +kernel
theorem d_Wl_put_9 : decode b_Wl_put 9 = .ok (.istore 5, 2) := by decide +kernel
theorem d_Wl_put_11 : decode b_Wl_put 11 = .ok (.iload 5, 2) := by decide +kernel
theorem d_Wl_put_13 : decode b_Wl_put 13 = .ok (.bipush 32, 2) := by decide +kernel
theorem d_Wl_put_15 : decode b_Wl_put 15 = .ok (.if_icmp .ge 75, 3) := by decide +kernel
theorem d_Wl_put_18 : decode b_Wl_put 18 = .ok (.iload_n 3, 1) := by decide +kernel
theorem d_Wl_put_19 : decode b_Wl_put 19 = .ok (.iload 4, 2) := by decide +kernel
theorem d_Wl_put_21 : decode b_Wl_put 21 = .ok (.if_icmp .ge 69, 3) := by decide +kernel
theorem d_Wl_put_24 : decode b_Wl_put 24 = .ok (.iload_n 3, 1) := by decide +kernel
theorem d_Wl_put_25 : decode b_Wl_put 25 = .ok (.iload 4, 2) := by decide +kernel
theorem d_Wl_put_27 : decode b_Wl_put 27 = .ok (.iadd, 1) := by decide +kernel
theorem d_Wl_put_28 : decode b_Wl_put 28 = .ok (.iconst 2, 1) := by decide +kernel
theorem d_Wl_put_29 : decode b_Wl_put 29 = .ok (.idiv, 1) := by decide +kernel
theorem d_Wl_put_30 : decode b_Wl_put 30 = .ok (.istore 6, 2) := by decide +kernel
theorem d_Wl_put_32 : decode b_Wl_put 32 = .ok (.aload_n 0, 1) := by decide +kernel
theorem d_Wl_put_33 : decode b_Wl_put 33 = .ok (.getfield 9, 3) := by decide +kernel
theorem d_Wl_put_36 : decode b_Wl_put 36 = .ok (.aload_n 0, 1) := by decide +kernel
theorem d_Wl_put_37 : decode b_Wl_put 37 = .ok (.getfield 21, 3) := by decide +kernel
theorem d_Wl_put_40 : decode b_Wl_put 40 = .ok (.iload 6, 2) := by decide +kernel
theorem d_Wl_put_42 : decode b_Wl_put 42 = .ok (.iaload, 1) := by decide +kernel
theorem d_Wl_put_43 : decode b_Wl_put 43 = .ok (.aload_n 0, 1) := by decide +kernel
theorem d_Wl_put_44 : decode b_Wl_put 44 = .ok (.getfield 25, 3) := by decide +kernel
theorem d_Wl_put_47 : decode b_Wl_put 47 = .ok (.iload 6, 2) := by decide +kernel
theorem d_Wl_put_49 : decode b_Wl_put 49 = .ok (.iaload, 1) := by decide +kernel
theorem d_Wl_put_50 : decode b_Wl_put 50 = .ok (.aload_n 0, 1) := by decide +kernel
theorem d_Wl_put_51 : decode b_Wl_put 51 = .ok (.getfield 9, 3) := by decide +kernel
theorem d_Wl_put_54 : decode b_Wl_put 54 = .ok (.iload_n 1, 1) := by decide +kernel
theorem d_Wl_put_55 : decode b_Wl_put 55 = .ok (.iload_n 2, 1) := by decide +kernel
theorem d_Wl_put_56 : decode b_Wl_put 56 = .ok (.invokevirtual 32, 3) := by decide +kernel
theorem d_Wl_put_59 : decode b_Wl_put 59 = .ok (.istore 7, 2) := by decide +kernel
theorem d_Wl_put_61 : decode b_Wl_put 61 = .ok (.iload 7, 2) := by decide +kernel
theorem d_Wl_put_63 : decode b_Wl_put 63 = .ok (.ifCond .ne 4, 3) := by decide +kernel
theorem d_Wl_put_66 : decode b_Wl_put 66 = .ok (.return_, 1) := by decide +kernel
theorem d_Wl_put_67 : decode b_Wl_put 67 = .ok (.iload 7, 2) := by decide +kernel
theorem d_Wl_put_69 : decode b_Wl_put 69 = .ok (.ifCond .ge 11, 3) := by decide +kernel
theorem d_Wl_put_72 : decode b_Wl_put 72 = .ok (.iload 6, 2) := by decide +kernel
theorem d_Wl_put_74 : decode b_Wl_put 74 = .ok (.iconst 1, 1) := by decide +kernel
theorem d_Wl_put_75 : decode b_Wl_put 75 = .ok (.iadd, 1) := by decide +kernel
theorem d_Wl_put_76 : decode b_Wl_put 76 = .ok (.istore_n 3, 1) := by decide +kernel
theorem d_Wl_put_77 : decode b_Wl_put 77 = .ok (.goto 7, 3) := by decide +kernel
theorem d_Wl_put_80 : decode b_Wl_put 80 = .ok (.iload 6, 2) := by decide +kernel
theorem d_Wl_put_82 : decode b_Wl_put 82 = .ok (.istore 4, 2) := by decide +kernel
theorem d_Wl_put_84 : decode b_Wl_put 84 = .ok (.iinc 5 1, 3) := by decide +kernel
theorem d_Wl_put_87 : decode b_Wl_put 87 = .ok (.goto (-76), 3) := by decide +kernel
theorem d_Wl_put_90 : decode b_Wl_put 90 = .ok (.aload_n 0, 1) := by decide +kernel
theorem d_Wl_put_91 : decode b_Wl_put 91 = .ok (.getfield 28, 3) := by decide +kernel
theorem d_Wl_put_94 : decode b_Wl_put 94 = .ok (.aload_n 0, 1) := by decide +kernel
theorem d_Wl_put_95 : decode b_Wl_put 95 = .ok (.getfield 21, 3) := by decide +kernel
theorem d_Wl_put_98 : decode b_Wl_put 98 = .ok (.arraylength, 1) := by decide +kernel
theorem d_Wl_put_99 : decode b_Wl_put 99 = .ok (.if_icmp .lt 4, 3) := by decide +kernel
theorem d_Wl_put_102 : decode b_Wl_put 102 = .ok (.return_, 1) := by decide +kernel
theorem d_Wl_put_103 : decode b_Wl_put 103 = .ok (.aload_n 0, 1) := by decide +kernel
theorem d_Wl_put_104 : decode b_Wl_put 104 = .ok (.getfield 21, 3) := by decide +kernel
theorem d_Wl_put_107 : decode b_Wl_put 107 = .ok (.iload_n 3, 1) := by decide +kernel
theorem d_Wl_put_108 : decode b_Wl_put 108 = .ok (.aload_n 0, 1) := by decide +kernel
theorem d_Wl_put_109 : decode b_Wl_put 109 = .ok (.getfield 21, 3) := by decide +kernel
theorem d_Wl_put_112 : decode b_Wl_put 112 = .ok (.iload_n 3, 1) := by decide +kernel
theorem d_Wl_put_113 : decode b_Wl_put 113 = .ok (.iconst 1, 1) := by decide +kernel
theorem d_Wl_put_114 : decode b_Wl_put 114 = .ok (.iadd, 1) := by decide +kernel
theorem d_Wl_put_115 : decode b_Wl_put 115 = .ok (.aload_n 0, 1) := by decide +kernel
theorem d_Wl_put_116 : decode b_Wl_put 116 = .ok (.getfield 28, 3) := by decide +kernel
theorem d_Wl_put_119 : decode b_Wl_put 119 = .ok (.iload_n 3, 1) := by decide +kernel
theorem d_Wl_put_120 : decode b_Wl_put 120 = .ok (.isub, 1) := by decide +kernel
theorem d_Wl_put_121 : decode b_Wl_put 121 = .ok (.invokestatic 38, 3) := by decide +kernel
theorem d_Wl_put_124 : decode b_Wl_put 124 = .ok (.aload_n 0, 1) := by decide +kernel
theorem d_Wl_put_125 : decode b_Wl_put 125 = .ok (.getfield 25, 3) := by decide +kernel
theorem d_Wl_put_128 : decode b_Wl_put 128 = .ok (.iload_n 3, 1) := by decide +kernel
theorem d_Wl_put_129 : decode b_Wl_put 129 = .ok (.aload_n 0, 1) := by decide +kernel
theorem d_Wl_put_130 : decode b_Wl_put 130 = .ok (.getfield 25, 3) := by decide +kernel
theorem d_Wl_put_133 : decode b_Wl_put 133 = .ok (.iload_n 3, 1) := by decide +kernel
theorem d_Wl_put_134 : decode b_Wl_put 134 = .ok (.iconst 1, 1) := by decide +kernel
theorem d_Wl_put_135 : decode b_Wl_put 135 = .ok (.iadd, 1) := by decide +kernel
theorem d_Wl_put_136 : decode b_Wl_put 136 = .ok (.aload_n 0, 1) := by decide +kernel
theorem d_Wl_put_137 : decode b_Wl_put 137 = .ok (.getfield 28, 3) := by decide +kernel
theorem d_Wl_put_140 : decode b_Wl_put 140 = .ok (.iload_n 3, 1) := by decide +kernel
theorem d_Wl_put_141 : decode b_Wl_put 141 = .ok (.isub, 1) := by decide +kernel
theorem d_Wl_put_142 : decode b_Wl_put 142 = .ok (.invokestatic 38, 3) := by decide +kernel
theorem d_Wl_put_145 : decode b_Wl_put 145 = .ok (.aload_n 0, 1) := by decide +kernel
theorem d_Wl_put_146 : decode b_Wl_put 146 = .ok (.getfield 21, 3) := by decide +kernel
theorem d_Wl_put_149 : decode b_Wl_put 149 = .ok (.iload_n 3, 1) := by decide +kernel
theorem d_Wl_put_150 : decode b_Wl_put 150 = .ok (.iload_n 1, 1) := by decide +kernel
theorem d_Wl_put_151 : decode b_Wl_put 151 = .ok (.iastore, 1) := by decide +kernel
theorem d_Wl_put_152 : decode b_Wl_put 152 = .ok (.aload_n 0, 1) := by decide +kernel
theorem d_Wl_put_153 : decode b_Wl_put 153 = .ok (.getfield 25, 3) := by decide +kernel
theorem d_Wl_put_156 : decode b_Wl_put 156 = .ok (.iload_n 3, 1) := by decide +kernel
theorem d_Wl_put_157 : decode b_Wl_put 157 = .ok (.iload_n 2, 1) := by decide +kernel
theorem d_Wl_put_158 : decode b_Wl_put 158 = .ok (.iastore, 1) := by decide +kernel
theorem d_Wl_put_159 : decode b_Wl_put 159 = .ok (.aload_n 0, 1) := by decide +kernel
theorem d_Wl_put_160 : decode b_Wl_put 160 = .ok (.dup, 1) := by decide +kernel
theorem d_Wl_put_161 : decode b_Wl_put 161 = .ok (.getfield 28, 3) := by decide +kernel
theorem d_Wl_put_164 : decode b_Wl_put 164 = .ok (.iconst 1, 1) := by decide +kernel
theorem d_Wl_put_165 : decode b_Wl_put 165 = .ok (.iadd, 1) := by decide +kernel
theorem d_Wl_put_166 : decode b_Wl_put 166 = .ok (.putfield 28, 3) := by decide +kernel
theorem d_Wl_put_169 : decode b_Wl_put 169 = .ok (.return_, 1) := by decide +kernel
abbrev b_Wl_count : ByteArray := prog_10_method_3_code
def y_Wl_count : MethodName := ⟨"SpellDesk$WordList", "count", "()I"⟩
set_option maxRecDepth 20000 in
theorem Y_Wl_count : gh_Y y_Wl_count b_Wl_count 1 (some .int) 0 := ⟨gt_in (i := 898) rfl rfl, gt_in (i := 13) (by decide +kernel) rfl, by decide +kernel, by decide +kernel, by decide +kernel⟩
theorem V_Wl_count : Cond.instanceMethod y_Wl_count ∈ gTbl ∧ Cond.selects y_Wl_count.cls y_Wl_count y_Wl_count ∈ gTbl := ⟨(gt_in (i := 896) (by decide +kernel) rfl), (gt_in (i := 897) (by decide +kernel) rfl)⟩
theorem d_Wl_count_0 : decode b_Wl_count 0 = .ok (.aload_n 0, 1) := by decide +kernel
theorem d_Wl_count_1 : decode b_Wl_count 1 = .ok (.getfield 28, 3) := by decide +kernel
theorem d_Wl_count_4 : decode b_Wl_count 4 = .ok (.ireturn, 1) := by decide +kernel
abbrev b_Wl_from : ByteArray := prog_10_method_4_code
def y_Wl_from : MethodName := ⟨"SpellDesk$WordList", "from", "(I)I"⟩
set_option maxRecDepth 20000 in
theorem Y_Wl_from : gh_Y y_Wl_from b_Wl_from 2 (some .int) 1 := ⟨gt_in (i := 902) rfl rfl, gt_in (i := 13) (by decide +kernel) rfl, by decide +kernel, by decide +kernel, by decide +kernel⟩
theorem V_Wl_from : Cond.instanceMethod y_Wl_from ∈ gTbl ∧ Cond.selects y_Wl_from.cls y_Wl_from y_Wl_from ∈ gTbl := ⟨(gt_in (i := 900) (by decide +kernel) rfl), (gt_in (i := 901) (by decide +kernel) rfl)⟩
theorem d_Wl_from_0 : decode b_Wl_from 0 = .ok (.iload_n 1, 1) := by decide +kernel
theorem d_Wl_from_1 : decode b_Wl_from 1 = .ok (.ifCond .lt 20, 3) := by decide +kernel
theorem d_Wl_from_4 : decode b_Wl_from 4 = .ok (.iload_n 1, 1) := by decide +kernel
theorem d_Wl_from_5 : decode b_Wl_from 5 = .ok (.aload_n 0, 1) := by decide +kernel
theorem d_Wl_from_6 : decode b_Wl_from 6 = .ok (.getfield 28, 3) := by decide +kernel
theorem d_Wl_from_9 : decode b_Wl_from 9 = .ok (.if_icmp .ge 12, 3) := by decide +kernel
theorem d_Wl_from_12 : decode b_Wl_from 12 = .ok (.aload_n 0, 1) := by decide +kernel
theorem d_Wl_from_13 : decode b_Wl_from 13 = .ok (.getfield 21, 3) := by decide +kernel
theorem d_Wl_from_16 : decode b_Wl_from 16 = .ok (.iload_n 1, 1) := by decide +kernel
theorem d_Wl_from_17 : decode b_Wl_from 17 = .ok (.iaload, 1) := by decide +kernel
theorem d_Wl_from_18 : decode b_Wl_from 18 = .ok (.goto 4, 3) := by decide +kernel
theorem d_Wl_from_21 : decode b_Wl_from 21 = .ok (.iconst 0, 1) := by decide +kernel
theorem d_Wl_from_22 : decode b_Wl_from 22 = .ok (.ireturn, 1) := by decide +kernel
abbrev b_Wl_length : ByteArray := prog_10_method_5_code
def y_Wl_length : MethodName := ⟨"SpellDesk$WordList", "length", "(I)I"⟩
set_option maxRecDepth 20000 in
theorem Y_Wl_length : gh_Y y_Wl_length b_Wl_length 2 (some .int) 1 := ⟨gt_in (i := 906) rfl rfl, gt_in (i := 13) (by decide +kernel) rfl, by decide +kernel, by decide +kernel, by decide +kernel⟩
theorem V_Wl_length : Cond.instanceMethod y_Wl_length ∈ gTbl ∧ Cond.selects y_Wl_length.cls y_Wl_length y_Wl_length ∈ gTbl := ⟨(gt_in (i := 904) (by decide +kernel) rfl), (gt_in (i := 905) (by decide +kernel) rfl)⟩
theorem d_Wl_length_0 : decode b_Wl_length 0 = .ok (.iload_n 1, 1) := by decide +kernel
theorem d_Wl_length_1 : decode b_Wl_length 1 = .ok (.ifCond .lt 20, 3) := by decide +kernel
theorem d_Wl_length_4 : decode b_Wl_length 4 = .ok (.iload_n 1, 1) := by decide +kernel
theorem d_Wl_length_5 : decode b_Wl_length 5 = .ok (.aload_n 0, 1) := by decide +kernel
theorem d_Wl_length_6 : decode b_Wl_length 6 = .ok (.getfield 28, 3) := by decide +kernel
theorem d_Wl_length_9 : decode b_Wl_length 9 = .ok (.if_icmp .ge 12, 3) := by decide +kernel
theorem d_Wl_length_12 : decode b_Wl_length 12 = .ok (.aload_n 0, 1) := by decide +kernel
theorem d_Wl_length_13 : decode b_Wl_length 13 = .ok (.getfield 25, 3) := by decide +kernel
theorem d_Wl_length_16 : decode b_Wl_length 16 = .ok (.iload_n 1, 1) := by decide +kernel
theorem d_Wl_length_17 : decode b_Wl_length 17 = .ok (.iaload, 1) := by decide +kernel
theorem d_Wl_length_18 : decode b_Wl_length 18 = .ok (.goto 4, 3) := by decide +kernel
theorem d_Wl_length_21 : decode b_Wl_length 21 = .ok (.iconst 0, 1) := by decide +kernel
theorem d_Wl_length_22 : decode b_Wl_length 22 = .ok (.ireturn, 1) := by decide +kernel
abbrev b_Wl_row : ByteArray := prog_10_method_2_code
def y_Wl_row : MethodName := ⟨"SpellDesk$WordList", "row", "()LSpellDesk$Letters;"⟩
set_option maxRecDepth 20000 in
theorem Y_Wl_row : gh_Y y_Wl_row b_Wl_row 1 (some (.object "SpellDesk$Letters")) 0 := ⟨gt_in (i := 1032) rfl rfl, gt_in (i := 13) (by decide +kernel) rfl, by decide +kernel, by decide +kernel, by decide +kernel⟩
theorem V_Wl_row : Cond.instanceMethod y_Wl_row ∈ gTbl ∧ Cond.selects y_Wl_row.cls y_Wl_row y_Wl_row ∈ gTbl := ⟨(gt_in (i := 1030) (by decide +kernel) rfl), (gt_in (i := 1031) (by decide +kernel) rfl)⟩
theorem d_Wl_row_0 : decode b_Wl_row 0 = .ok (.aload_n 0, 1) := by decide +kernel
theorem d_Wl_row_1 : decode b_Wl_row 1 = .ok (.getfield 9, 3) := by decide +kernel
theorem d_Wl_row_4 : decode b_Wl_row 4 = .ok (.areturn, 1) := by decide +kernel
theorem kf_Wl_9 : Cond.fieldLink "SpellDesk$WordList" 9 "SpellDesk$WordList" "row" "LSpellDesk$Letters;" ∈ gTbl := (gt_in (i := 198) (by decide +kernel) rfl)
theorem kf_Wl_21 : Cond.fieldLink "SpellDesk$WordList" 21 "SpellDesk$WordList" "starts" "[I" ∈ gTbl := (gt_in (i := 199) (by decide +kernel) rfl)
theorem kf_Wl_25 : Cond.fieldLink "SpellDesk$WordList" 25 "SpellDesk$WordList" "lengths" "[I" ∈ gTbl := (gt_in (i := 200) (by decide +kernel) rfl)
theorem kf_Wl_28 : Cond.fieldLink "SpellDesk$WordList" 28 "SpellDesk$WordList" "count" "I" ∈ gTbl := (gt_in (i := 201) (by decide +kernel) rfl)
theorem km_Wl_3 : Cond.methodLink "SpellDesk$WordList" 3 ⟨"java/lang/Object", "<init>", "()V"⟩ ∈ gTbl := (gt_in (i := 196) (by decide +kernel) rfl)
theorem km_Wl_15 : Cond.methodLink "SpellDesk$WordList" 15 ⟨"java/lang/Math", "max", "(II)I"⟩ ∈ gTbl := (gt_in (i := 197) (by decide +kernel) rfl)
theorem km_Wl_32 : Cond.methodLink "SpellDesk$WordList" 32 ⟨"SpellDesk$Letters", "compare", "(IILSpellDesk$Letters;II)I"⟩ ∈ gTbl := (gt_in (i := 892) (by decide +kernel) rfl)
theorem km_Wl_38 : Cond.methodLink "SpellDesk$WordList" 38 ⟨"java/lang/System", "arraycopy", "(Ljava/lang/Object;ILjava/lang/Object;II)V"⟩ ∈ gTbl := (gt_in (i := 893) (by decide +kernel) rfl)
