abbrev b_AL_init : ByteArray := prog_31_method_2_code
def y_AL_init : MethodName := ⟨"java/util/ArrayList", "<init>", "()V"⟩
set_option maxRecDepth 20000 in
theorem Y_AL_init : gh_Y y_AL_init b_AL_init 1 none 0 := ⟨gt_in (i := 113) rfl rfl, gt_in (i := 9) (by decide +kernel) rfl, by decide +kernel, by decide +kernel, by decide +kernel⟩
theorem V_AL_init : Cond.instanceMethod y_AL_init ∈ gTbl := (gt_in (i := 112) (by decide +kernel) rfl)
theorem d_AL_init_0 : decode b_AL_init 0 = .ok (.aload_n 0, 1) := by decide +kernel
theorem d_AL_init_1 : decode b_AL_init 1 = .ok (.invokespecial 1, 3) := by decide +kernel
theorem d_AL_init_4 : decode b_AL_init 4 = .ok (.aload_n 0, 1) := by decide +kernel
theorem d_AL_init_5 : decode b_AL_init 5 = .ok (.getstatic 39, 3) := by decide +kernel
theorem d_AL_init_8 : decode b_AL_init 8 = .ok (.putfield 9, 3) := by decide +kernel
theorem d_AL_init_11 : decode b_AL_init 11 = .ok (.return_, 1) := by decide +kernel
abbrev b_AL_size : ByteArray := prog_31_method_8_code
def y_AL_size : MethodName := ⟨"java/util/ArrayList", "size", "()I"⟩
set_option maxRecDepth 20000 in
theorem Y_AL_size : gh_Y y_AL_size b_AL_size 1 (some .int) 0 := ⟨gt_in (i := 380) rfl rfl, gt_in (i := 9) (by decide +kernel) rfl, by decide +kernel, by decide +kernel, by decide +kernel⟩
theorem V_AL_size : Cond.instanceMethod y_AL_size ∈ gTbl ∧ Cond.selects y_AL_size.cls y_AL_size y_AL_size ∈ gTbl := ⟨(gt_in (i := 378) (by decide +kernel) rfl), (gt_in (i := 379) (by decide +kernel) rfl)⟩
theorem d_AL_size_0 : decode b_AL_size 0 = .ok (.aload_n 0, 1) := by decide +kernel
theorem d_AL_size_1 : decode b_AL_size 1 = .ok (.getfield 48, 3) := by decide +kernel
theorem d_AL_size_4 : decode b_AL_size 4 = .ok (.ireturn, 1) := by decide +kernel
abbrev b_AL_get : ByteArray := prog_31_method_20_code
def y_AL_get : MethodName := ⟨"java/util/ArrayList", "get", "(I)Ljava/lang/Object;"⟩
set_option maxRecDepth 20000 in
theorem Y_AL_get : gh_Y y_AL_get b_AL_get 2 (some (.object "java/lang/Object")) 1 := ⟨gt_in (i := 384) rfl rfl, gt_in (i := 9) (by decide +kernel) rfl, by decide +kernel, by decide +kernel, by decide +kernel⟩
theorem V_AL_get : Cond.instanceMethod y_AL_get ∈ gTbl ∧ Cond.selects y_AL_get.cls y_AL_get y_AL_get ∈ gTbl := ⟨(gt_in (i := 382) (by decide +kernel) rfl), (gt_in (i := 383) (by decide +kernel) rfl)⟩
theorem d_AL_get_0 : decode b_AL_get 0 = .ok (.iload_n 1, 1) := by decide +kernel
theorem d_AL_get_1 : decode b_AL_get 1 = .ok (.aload_n 0, 1) := by decide +kernel
theorem d_AL_get_2 : decode b_AL_get 2 = .ok (.getfield 48, 3) := by decide +kernel
theorem d_AL_get_5 : decode b_AL_get 5 = .ok (.invokestatic 118, 3) := by decide +kernel
theorem d_AL_get_8 : decode b_AL_get 8 = .ok (.pop, 1) := by decide +kernel
theorem d_AL_get_9 : decode b_AL_get 9 = .ok (.aload_n 0, 1) := by decide +kernel
theorem d_AL_get_10 : decode b_AL_get 10 = .ok (.iload_n 1, 1) := by decide +kernel
theorem d_AL_get_11 : decode b_AL_get 11 = .ok (.invokevirtual 123, 3) := by decide +kernel
theorem d_AL_get_14 : decode b_AL_get 14 = .ok (.areturn, 1) := by decide +kernel
abbrev b_AL_elementData : ByteArray := prog_31_method_18_code
def y_AL_elementData : MethodName := ⟨"java/util/ArrayList", "elementData", "(I)Ljava/lang/Object;"⟩
set_option maxRecDepth 20000 in
theorem Y_AL_elementData : gh_Y y_AL_elementData b_AL_elementData 2 (some (.object "java/lang/Object")) 1 := ⟨gt_in (i := 392) rfl rfl, gt_in (i := 9) (by decide +kernel) rfl, by decide +kernel, by decide +kernel, by decide +kernel⟩
theorem V_AL_elementData : Cond.instanceMethod y_AL_elementData ∈ gTbl ∧ Cond.selects y_AL_elementData.cls y_AL_elementData y_AL_elementData ∈ gTbl := ⟨(gt_in (i := 390) (by decide +kernel) rfl), (gt_in (i := 391) (by decide +kernel) rfl)⟩
theorem d_AL_elementData_0 : decode b_AL_elementData 0 = .ok (.aload_n 0, 1) := by decide +kernel
theorem d_AL_elementData_1 : decode b_AL_elementData 1 = .ok (.getfield 9, 3) := by decide +kernel
theorem d_AL_elementData_4 : decode b_AL_elementData 4 = .ok (.iload_n 1, 1) := by decide +kernel
theorem d_AL_elementData_5 : decode b_AL_elementData 5 = .ok (.aaload, 1) := by decide +kernel
theorem d_AL_elementData_6 : decode b_AL_elementData 6 = .ok (.areturn, 1) := by decide +kernel
abbrev b_AL_add : ByteArray := prog_31_method_26_code
def y_AL_add : MethodName := ⟨"java/util/ArrayList", "add", "(ILjava/lang/Object;)V"⟩
set_option maxRecDepth 20000 in
theorem Y_AL_add : gh_Y y_AL_add b_AL_add 5 none 2 := ⟨gt_in (i := 462) rfl rfl, gt_in (i := 9) (by decide +kernel) rfl, by decide +kernel, by decide +kernel, by decide +kernel⟩
theorem V_AL_add : Cond.instanceMethod y_AL_add ∈ gTbl ∧ Cond.selects y_AL_add.cls y_AL_add y_AL_add ∈ gTbl := ⟨(gt_in (i := 460) (by decide +kernel) rfl), (gt_in (i := 461) (by decide +kernel) rfl)⟩
theorem d_AL_add_0 : decode b_AL_add 0 = .ok (.aload_n 0, 1) := by decide +kernel
theorem d_AL_add_1 : decode b_AL_add 1 = .ok (.iload_n 1, 1) := by decide +kernel
theorem d_AL_add_2 : decode b_AL_add 2 = .ok (.invokevirtual 135, 3) := by decide +kernel
theorem d_AL_add_5 : decode b_AL_add 5 = .ok (.aload_n 0, 1) := by decide +kernel
theorem d_AL_add_6 : decode b_AL_add 6 = .ok (.dup, 1) := by decide +kernel
theorem d_AL_add_7 : decode b_AL_add 7 = .ok (.getfield 63, 3) := by decide +kernel
theorem d_AL_add_10 : decode b_AL_add 10 = .ok (.iconst 1, 1) := by decide +kernel
theorem d_AL_add_11 : decode b_AL_add 11 = .ok (.iadd, 1) := by decide +kernel
theorem d_AL_add_12 : decode b_AL_add 12 = .ok (.putfield 63, 3) := by decide +kernel
theorem d_AL_add_15 : decode b_AL_add 15 = .ok (.aload_n 0, 1) := by decide +kernel
theorem d_AL_add_16 : decode b_AL_add 16 = .ok (.getfield 48, 3) := by decide +kernel
theorem d_AL_add_19 : decode b_AL_add 19 = .ok (.dup, 1) := by decide +kernel
theorem d_AL_add_20 : decode b_AL_add 20 = .ok (.istore_n 3, 1) := by decide +kernel
theorem d_AL_add_21 : decode b_AL_add 21 = .ok (.aload_n 0, 1) := by decide +kernel
theorem d_AL_add_22 : decode b_AL_add 22 = .ok (.getfield 9, 3) := by decide +kernel
theorem d_AL_add_25 : decode b_AL_add 25 = .ok (.dup, 1) := by decide +kernel
theorem d_AL_add_26 : decode b_AL_add 26 = .ok (.astore 4, 2) := by decide +kernel
theorem d_AL_add_28 : decode b_AL_add 28 = .ok (.arraylength, 1) := by decide +kernel
theorem d_AL_add_29 : decode b_AL_add 29 = .ok (.if_icmp .ne 9, 3) := by decide +kernel
theorem d_AL_add_32 : decode b_AL_add 32 = .ok (.aload_n 0, 1) := by decide +kernel
theorem d_AL_add_33 : decode b_AL_add 33 = .ok (.invokevirtual 129, 3) := by decide +kernel
theorem d_AL_add_36 : decode b_AL_add 36 = .ok (.astore 4, 2) := by decide +kernel
theorem d_AL_add_38 : decode b_AL_add 38 = .ok (.aload 4, 2) := by decide +kernel
theorem d_AL_add_40 : decode b_AL_add 40 = .ok (.iload_n 1, 1) := by decide +kernel
theorem d_AL_add_41 : decode b_AL_add 41 = .ok (.aload 4, 2) := by decide +kernel
theorem d_AL_add_43 : decode b_AL_add 43 = .ok (.iload_n 1, 1) := by decide +kernel
theorem d_AL_add_44 : decode b_AL_add 44 = .ok (.iconst 1, 1) := by decide +kernel
theorem d_AL_add_45 : decode b_AL_add 45 = .ok (.iadd, 1) := by decide +kernel
theorem d_AL_add_46 : decode b_AL_add 46 = .ok (.iload_n 3, 1) := by decide +kernel
theorem d_AL_add_47 : decode b_AL_add 47 = .ok (.iload_n 1, 1) := by decide +kernel
theorem d_AL_add_48 : decode b_AL_add 48 = .ok (.isub, 1) := by decide +kernel
theorem d_AL_add_49 : decode b_AL_add 49 = .ok (.invokestatic 112, 3) := by decide +kernel
theorem d_AL_add_52 : decode b_AL_add 52 = .ok (.aload 4, 2) := by decide +kernel
theorem d_AL_add_54 : decode b_AL_add 54 = .ok (.iload_n 1, 1) := by decide +kernel
theorem d_AL_add_55 : decode b_AL_add 55 = .ok (.aload_n 2, 1) := by decide +kernel
theorem d_AL_add_56 : decode b_AL_add 56 = .ok (.aastore, 1) := by decide +kernel
theorem d_AL_add_57 : decode b_AL_add 57 = .ok (.aload_n 0, 1) := by decide +kernel
theorem d_AL_add_58 : decode b_AL_add 58 = .ok (.iload_n 3, 1) := by decide +kernel
theorem d_AL_add_59 : decode b_AL_add 59 = .ok (.iconst 1, 1) := by decide +kernel
theorem d_AL_add_60 : decode b_AL_add 60 = .ok (.iadd, 1) := by decide +kernel
theorem d_AL_add_61 : decode b_AL_add 61 = .ok (.putfield 48, 3) := by decide +kernel
theorem d_AL_add_64 : decode b_AL_add 64 = .ok (.return_, 1) := by decide +kernel
abbrev b_AL_rangeCheckForAdd : ByteArray := prog_31_method_45_code
def y_AL_rangeCheckForAdd : MethodName := ⟨"java/util/ArrayList", "rangeCheckForAdd", "(I)V"⟩
set_option maxRecDepth 20000 in
theorem Y_AL_rangeCheckForAdd : gh_Y y_AL_rangeCheckForAdd b_AL_rangeCheckForAdd 2 none 1 := ⟨gt_in (i := 466) rfl rfl, gt_in (i := 9) (by decide +kernel) rfl, by decide +kernel, by decide +kernel, by decide +kernel⟩
theorem V_AL_rangeCheckForAdd : Cond.instanceMethod y_AL_rangeCheckForAdd ∈ gTbl ∧ Cond.selects y_AL_rangeCheckForAdd.cls y_AL_rangeCheckForAdd y_AL_rangeCheckForAdd ∈ gTbl := ⟨(gt_in (i := 465) (by decide +kernel) rfl), (gt_sel (n := 3) (i := 3) (by decide +kernel))⟩
theorem d_AL_rangeCheckForAdd_0 : decode b_AL_rangeCheckForAdd 0 = .ok (.iload_n 1, 1) := by decide +kernel
theorem d_AL_rangeCheckForAdd_1 : decode b_AL_rangeCheckForAdd 1 = .ok (.aload_n 0, 1) := by decide +kernel
theorem d_AL_rangeCheckForAdd_2 : decode b_AL_rangeCheckForAdd 2 = .ok (.getfield 48, 3) := by decide +kernel
theorem d_AL_rangeCheckForAdd_5 : decode b_AL_rangeCheckForAdd 5 = .ok (.if_icmp .gt 7, 3) := by decide +kernel
theorem d_AL_rangeCheckForAdd_8 : decode b_AL_rangeCheckForAdd 8 = .ok (.iload_n 1, 1) := by decide +kernel
theorem d_AL_rangeCheckForAdd_9 : decode b_AL_rangeCheckForAdd 9 = .ok (.ifCond .ge 16, 3) := by decide +kernel
theorem d_AL_rangeCheckForAdd_12 : decode b_AL_rangeCheckForAdd 12 = .ok (.new 187, 3) := by decide +kernel
theorem d_AL_rangeCheckForAdd_15 : decode b_AL_rangeCheckForAdd 15 = .ok (.dup, 1) := by decide +kernel
theorem d_AL_rangeCheckForAdd_16 : decode b_AL_rangeCheckForAdd 16 = .ok (.aload_n 0, 1) := by decide +kernel
theorem d_AL_rangeCheckForAdd_17 : decode b_AL_rangeCheckForAdd 17 = .ok (.iload_n 1, 1) := by decide +kernel
theorem d_AL_rangeCheckForAdd_18 : decode b_AL_rangeCheckForAdd 18 = .ok (.invokevirtual 198, 3) := by decide +kernel
theorem d_AL_rangeCheckForAdd_21 : decode b_AL_rangeCheckForAdd 21 = .ok (.invokespecial 193, 3) := by decide +kernel
theorem d_AL_rangeCheckForAdd_24 : decode b_AL_rangeCheckForAdd 24 = .ok (.athrow, 1) := by decide +kernel
theorem d_AL_rangeCheckForAdd_25 : decode b_AL_rangeCheckForAdd 25 = .ok (.return_, 1) := by decide +kernel
abbrev b_AL_grow : ByteArray := prog_31_method_7_code
def y_AL_grow : MethodName := ⟨"java/util/ArrayList", "grow", "()[Ljava/lang/Object;"⟩
set_option maxRecDepth 20000 in
theorem Y_AL_grow : gh_Y y_AL_grow b_AL_grow 1 (some (.array (.object "java/lang/Object"))) 0 := ⟨gt_in (i := 752) rfl rfl, gt_in (i := 9) (by decide +kernel) rfl, by decide +kernel, by decide +kernel, by decide +kernel⟩
theorem V_AL_grow : Cond.instanceMethod y_AL_grow ∈ gTbl ∧ Cond.selects y_AL_grow.cls y_AL_grow y_AL_grow ∈ gTbl := ⟨(gt_in (i := 751) (by decide +kernel) rfl), (gt_sel (n := 3) (i := 6) (by decide +kernel))⟩
theorem d_AL_grow_0 : decode b_AL_grow 0 = .ok (.aload_n 0, 1) := by decide +kernel
theorem d_AL_grow_1 : decode b_AL_grow 1 = .ok (.aload_n 0, 1) := by decide +kernel
theorem d_AL_grow_2 : decode b_AL_grow 2 = .ok (.getfield 48, 3) := by decide +kernel
theorem d_AL_grow_5 : decode b_AL_grow 5 = .ok (.iconst 1, 1) := by decide +kernel
theorem d_AL_grow_6 : decode b_AL_grow 6 = .ok (.iadd, 1) := by decide +kernel
theorem d_AL_grow_7 : decode b_AL_grow 7 = .ok (.invokevirtual 69, 3) := by decide +kernel
theorem d_AL_grow_10 : decode b_AL_grow 10 = .ok (.areturn, 1) := by decide +kernel
abbrev b_AL_grow1 : ByteArray := prog_31_method_6_code
def y_AL_grow1 : MethodName := ⟨"java/util/ArrayList", "grow", "(I)[Ljava/lang/Object;"⟩
set_option maxRecDepth 20000 in
theorem Y_AL_grow1 : gh_Y y_AL_grow1 b_AL_grow1 4 (some (.array (.object "java/lang/Object"))) 1 := ⟨gt_in (i := 756) rfl rfl, gt_in (i := 9) (by decide +kernel) rfl, by decide +kernel, by decide +kernel, by decide +kernel⟩
theorem V_AL_grow1 : Cond.instanceMethod y_AL_grow1 ∈ gTbl ∧ Cond.selects y_AL_grow1.cls y_AL_grow1 y_AL_grow1 ∈ gTbl := ⟨(gt_in (i := 755) (by decide +kernel) rfl), (gt_sel (n := 3) (i := 7) (by decide +kernel))⟩
theorem d_AL_grow1_0 : decode b_AL_grow1 0 = .ok (.aload_n 0, 1) := by decide +kernel
theorem d_AL_grow1_1 : decode b_AL_grow1 1 = .ok (.getfield 9, 3) := by decide +kernel
theorem d_AL_grow1_4 : decode b_AL_grow1 4 = .ok (.arraylength, 1) := by decide +kernel
theorem d_AL_grow1_5 : decode b_AL_grow1 5 = .ok (.istore_n 2, 1) := by decide +kernel
theorem d_AL_grow1_6 : decode b_AL_grow1 6 = .ok (.iload_n 2, 1) := by decide +kernel
theorem d_AL_grow1_7 : decode b_AL_grow1 7 = .ok (.ifCond .gt 13, 3) := by decide +kernel
theorem d_AL_grow1_10 : decode b_AL_grow1 10 = .ok (.aload_n 0, 1) := by decide +kernel
theorem d_AL_grow1_11 : decode b_AL_grow1 11 = .ok (.getfield 9, 3) := by decide +kernel
theorem d_AL_grow1_14 : decode b_AL_grow1 14 = .ok (.getstatic 39, 3) := by decide +kernel
theorem d_AL_grow1_17 : decode b_AL_grow1 17 = .ok (.if_acmp .eq 28, 3) := by decide +kernel
theorem d_AL_grow1_20 : decode b_AL_grow1 20 = .ok (.iload_n 2, 1) := by decide +kernel
theorem d_AL_grow1_21 : decode b_AL_grow1 21 = .ok (.iload_n 1, 1) := by decide +kernel
theorem d_AL_grow1_22 : decode b_AL_grow1 22 = .ok (.iload_n 2, 1) := by decide +kernel
theorem d_AL_grow1_23 : decode b_AL_grow1 23 = .ok (.isub, 1) := by decide +kernel
theorem d_AL_grow1_24 : decode b_AL_grow1 24 = .ok (.iload_n 2, 1) := by decide +kernel
theorem d_AL_grow1_25 : decode b_AL_grow1 25 = .ok (.iconst 1, 1) := by decide +kernel
theorem d_AL_grow1_26 : decode b_AL_grow1 26 = .ok (.ishr, 1) := by decide +kernel
theorem d_AL_grow1_27 : decode b_AL_grow1 27 = .ok (.invokestatic 73, 3) := by decide +kernel
theorem d_AL_grow1_30 : decode b_AL_grow1 30 = .ok (.istore_n 3, 1) := by decide +kernel
theorem d_AL_grow1_31 : decode b_AL_grow1 31 = .ok (.aload_n 0, 1) := by decide +kernel
theorem d_AL_grow1_32 : decode b_AL_grow1 32 = .ok (.aload_n 0, 1) := by decide +kernel
theorem d_AL_grow1_33 : decode b_AL_grow1 33 = .ok (.getfield 9, 3) := by decide +kernel
theorem d_AL_grow1_36 : decode b_AL_grow1 36 = .ok (.iload_n 3, 1) := by decide +kernel
theorem d_AL_grow1_37 : decode b_AL_grow1 37 = .ok (.invokestatic 66, 3) := by decide +kernel
theorem d_AL_grow1_40 : decode b_AL_grow1 40 = .ok (.dup_x1, 1) := by decide +kernel
theorem d_AL_grow1_41 : decode b_AL_grow1 41 = .ok (.putfield 9, 3) := by decide +kernel
theorem d_AL_grow1_44 : decode b_AL_grow1 44 = .ok (.areturn, 1) := by decide +kernel
theorem d_AL_grow1_45 : decode b_AL_grow1 45 = .ok (.aload_n 0, 1) := by decide +kernel
theorem d_AL_grow1_46 : decode b_AL_grow1 46 = .ok (.bipush 10, 2) := by decide +kernel
theorem d_AL_grow1_48 : decode b_AL_grow1 48 = .ok (.iload_n 1, 1) := by decide +kernel
theorem d_AL_grow1_49 : decode b_AL_grow1 49 = .ok (.invokestatic 79, 3) := by decide +kernel
theorem d_AL_grow1_52 : decode b_AL_grow1 52 = .ok (.anewarray 7, 3) := by decide +kernel
theorem d_AL_grow1_55 : decode b_AL_grow1 55 = .ok (.dup_x1, 1) := by decide +kernel
theorem d_AL_grow1_56 : decode b_AL_grow1 56 = .ok (.putfield 9, 3) := by decide +kernel
theorem d_AL_grow1_59 : decode b_AL_grow1 59 = .ok (.areturn, 1) := by decide +kernel
abbrev b_AL_remove : ByteArray := prog_31_method_29_code
def y_AL_remove : MethodName := ⟨"java/util/ArrayList", "remove", "(I)Ljava/lang/Object;"⟩
set_option maxRecDepth 20000 in
theorem Y_AL_remove : gh_Y y_AL_remove b_AL_remove 4 (some (.object "java/lang/Object")) 1 := ⟨gt_in (i := 822) rfl rfl, gt_in (i := 9) (by decide +kernel) rfl, by decide +kernel, by decide +kernel, by decide +kernel⟩
theorem V_AL_remove : Cond.instanceMethod y_AL_remove ∈ gTbl ∧ Cond.selects y_AL_remove.cls y_AL_remove y_AL_remove ∈ gTbl := ⟨(gt_in (i := 820) (by decide +kernel) rfl), (gt_in (i := 821) (by decide +kernel) rfl)⟩
theorem d_AL_remove_0 : decode b_AL_remove 0 = .ok (.iload_n 1, 1) := by decide +kernel
theorem d_AL_remove_1 : decode b_AL_remove 1 = .ok (.aload_n 0, 1) := by decide +kernel
theorem d_AL_remove_2 : decode b_AL_remove 2 = .ok (.getfield 48, 3) := by decide +kernel
theorem d_AL_remove_5 : decode b_AL_remove 5 = .ok (.invokestatic 118, 3) := by decide +kernel
theorem d_AL_remove_8 : decode b_AL_remove 8 = .ok (.pop, 1) := by decide +kernel
theorem d_AL_remove_9 : decode b_AL_remove 9 = .ok (.aload_n 0, 1) := by decide +kernel
theorem d_AL_remove_10 : decode b_AL_remove 10 = .ok (.getfield 9, 3) := by decide +kernel
theorem d_AL_remove_13 : decode b_AL_remove 13 = .ok (.astore_n 2, 1) := by decide +kernel
theorem d_AL_remove_14 : decode b_AL_remove 14 = .ok (.aload_n 2, 1) := by decide +kernel
theorem d_AL_remove_15 : decode b_AL_remove 15 = .ok (.iload_n 1, 1) := by decide +kernel
theorem d_AL_remove_16 : decode b_AL_remove 16 = .ok (.aaload, 1) := by decide +kernel
theorem d_AL_remove_17 : decode b_AL_remove 17 = .ok (.astore_n 3, 1) := by decide +kernel
theorem d_AL_remove_18 : decode b_AL_remove 18 = .ok (.aload_n 0, 1) := by decide +kernel
theorem d_AL_remove_19 : decode b_AL_remove 19 = .ok (.aload_n 2, 1) := by decide +kernel
theorem d_AL_remove_20 : decode b_AL_remove 20 = .ok (.iload_n 1, 1) := by decide +kernel
theorem d_AL_remove_21 : decode b_AL_remove 21 = .ok (.invokevirtual 144, 3) := by decide +kernel
theorem d_AL_remove_24 : decode b_AL_remove 24 = .ok (.aload_n 3, 1) := by decide +kernel
theorem d_AL_remove_25 : decode b_AL_remove 25 = .ok (.areturn, 1) := by decide +kernel
abbrev b_AL_fastRemove : ByteArray := prog_31_method_39_code
def y_AL_fastRemove : MethodName := ⟨"java/util/ArrayList", "fastRemove", "([Ljava/lang/Object;I)V"⟩
set_option maxRecDepth 20000 in
theorem Y_AL_fastRemove : gh_Y y_AL_fastRemove b_AL_fastRemove 4 none 2 := ⟨gt_in (i := 826) rfl rfl, gt_in (i := 9) (by decide +kernel) rfl, by decide +kernel, by decide +kernel, by decide +kernel⟩
theorem V_AL_fastRemove : Cond.instanceMethod y_AL_fastRemove ∈ gTbl ∧ Cond.selects y_AL_fastRemove.cls y_AL_fastRemove y_AL_fastRemove ∈ gTbl := ⟨(gt_in (i := 825) (by decide +kernel) rfl), (gt_sel (n := 3) (i := 9) (by decide +kernel))⟩
theorem d_AL_fastRemove_0 : decode b_AL_fastRemove 0 = .ok (.aload_n 0, 1) := by decide +kernel
theorem d_AL_fastRemove_1 : decode b_AL_fastRemove 1 = .ok (.dup, 1) := by decide +kernel
theorem d_AL_fastRemove_2 : decode b_AL_fastRemove 2 = .ok (.getfield 63, 3) := by decide +kernel
theorem d_AL_fastRemove_5 : decode b_AL_fastRemove 5 = .ok (.iconst 1, 1) := by decide +kernel
theorem d_AL_fastRemove_6 : decode b_AL_fastRemove 6 = .ok (.iadd, 1) := by decide +kernel
theorem d_AL_fastRemove_7 : decode b_AL_fastRemove 7 = .ok (.putfield 63, 3) := by decide +kernel
theorem d_AL_fastRemove_10 : decode b_AL_fastRemove 10 = .ok (.aload_n 0, 1) := by decide +kernel
theorem d_AL_fastRemove_11 : decode b_AL_fastRemove 11 = .ok (.getfield 48, 3) := by decide +kernel
theorem d_AL_fastRemove_14 : decode b_AL_fastRemove 14 = .ok (.iconst 1, 1) := by decide +kernel
theorem d_AL_fastRemove_15 : decode b_AL_fastRemove 15 = .ok (.isub, 1) := by decide +kernel
theorem d_AL_fastRemove_16 : decode b_AL_fastRemove 16 = .ok (.dup, 1) := by decide +kernel
theorem d_AL_fastRemove_17 : decode b_AL_fastRemove 17 = .ok (.istore_n 3, 1) := by decide +kernel
theorem d_AL_fastRemove_18 : decode b_AL_fastRemove 18 = .ok (.iload_n 2, 1) := by decide +kernel
theorem d_AL_fastRemove_19 : decode b_AL_fastRemove 19 = .ok (.if_icmp .le 15, 3) := by decide +kernel
theorem d_AL_fastRemove_22 : decode b_AL_fastRemove 22 = .ok (.aload_n 1, 1) := by decide +kernel
theorem d_AL_fastRemove_23 : decode b_AL_fastRemove 23 = .ok (.iload_n 2, 1) := by decide +kernel
theorem d_AL_fastRemove_24 : decode b_AL_fastRemove 24 = .ok (.iconst 1, 1) := by decide +kernel
theorem d_AL_fastRemove_25 : decode b_AL_fastRemove 25 = .ok (.iadd, 1) := by decide +kernel
theorem d_AL_fastRemove_26 : decode b_AL_fastRemove 26 = .ok (.aload_n 1, 1) := by decide +kernel
theorem d_AL_fastRemove_27 : decode b_AL_fastRemove 27 = .ok (.iload_n 2, 1) := by decide +kernel
theorem d_AL_fastRemove_28 : decode b_AL_fastRemove 28 = .ok (.iload_n 3, 1) := by decide +kernel
theorem d_AL_fastRemove_29 : decode b_AL_fastRemove 29 = .ok (.iload_n 2, 1) := by decide +kernel
theorem d_AL_fastRemove_30 : decode b_AL_fastRemove 30 = .ok (.isub, 1) := by decide +kernel
theorem d_AL_fastRemove_31 : decode b_AL_fastRemove 31 = .ok (.invokestatic 112, 3) := by decide +kernel
theorem d_AL_fastRemove_34 : decode b_AL_fastRemove 34 = .ok (.aload_n 1, 1) := by decide +kernel
theorem d_AL_fastRemove_35 : decode b_AL_fastRemove 35 = .ok (.aload_n 0, 1) := by decide +kernel
theorem d_AL_fastRemove_36 : decode b_AL_fastRemove 36 = .ok (.iload_n 3, 1) := by decide +kernel
theorem d_AL_fastRemove_37 : decode b_AL_fastRemove 37 = .ok (.dup_x1, 1) := by decide +kernel
theorem d_AL_fastRemove_38 : decode b_AL_fastRemove 38 = .ok (.putfield 48, 3) := by decide +kernel
theorem d_AL_fastRemove_41 : decode b_AL_fastRemove 41 = .ok (.aconst_null, 1) := by decide +kernel
theorem d_AL_fastRemove_42 : decode b_AL_fastRemove 42 = .ok (.aastore, 1) := by decide +kernel
theorem d_AL_fastRemove_43 : decode b_AL_fastRemove 43 = .ok (.return_, 1) := by decide +kernel
abbrev b_AL_add1 : ByteArray := prog_31_method_25_code
def y_AL_add1 : MethodName := ⟨"java/util/ArrayList", "add", "(Ljava/lang/Object;)Z"⟩
set_option maxRecDepth 20000 in
theorem Y_AL_add1 : gh_Y y_AL_add1 b_AL_add1 2 (some .boolean) 1 := ⟨gt_in (i := 869) rfl rfl, gt_in (i := 9) (by decide +kernel) rfl, by decide +kernel, by decide +kernel, by decide +kernel⟩
theorem V_AL_add1 : Cond.instanceMethod y_AL_add1 ∈ gTbl ∧ Cond.selects y_AL_add1.cls y_AL_add1 y_AL_add1 ∈ gTbl := ⟨(gt_in (i := 867) (by decide +kernel) rfl), (gt_in (i := 868) (by decide +kernel) rfl)⟩
theorem d_AL_add1_0 : decode b_AL_add1 0 = .ok (.aload_n 0, 1) := by decide +kernel
theorem d_AL_add1_1 : decode b_AL_add1 1 = .ok (.dup, 1) := by decide +kernel
theorem d_AL_add1_2 : decode b_AL_add1 2 = .ok (.getfield 63, 3) := by decide +kernel
theorem d_AL_add1_5 : decode b_AL_add1 5 = .ok (.iconst 1, 1) := by decide +kernel
theorem d_AL_add1_6 : decode b_AL_add1 6 = .ok (.iadd, 1) := by decide +kernel
theorem d_AL_add1_7 : decode b_AL_add1 7 = .ok (.putfield 63, 3) := by decide +kernel
theorem d_AL_add1_10 : decode b_AL_add1 10 = .ok (.aload_n 0, 1) := by decide +kernel
theorem d_AL_add1_11 : decode b_AL_add1 11 = .ok (.aload_n 1, 1) := by decide +kernel
theorem d_AL_add1_12 : decode b_AL_add1 12 = .ok (.aload_n 0, 1) := by decide +kernel
theorem d_AL_add1_13 : decode b_AL_add1 13 = .ok (.getfield 9, 3) := by decide +kernel
theorem d_AL_add1_16 : decode b_AL_add1 16 = .ok (.aload_n 0, 1) := by decide +kernel
theorem d_AL_add1_17 : decode b_AL_add1 17 = .ok (.getfield 48, 3) := by decide +kernel
theorem d_AL_add1_20 : decode b_AL_add1 20 = .ok (.invokevirtual 131, 3) := by decide +kernel
theorem d_AL_add1_23 : decode b_AL_add1 23 = .ok (.iconst 1, 1) := by decide +kernel
theorem d_AL_add1_24 : decode b_AL_add1 24 = .ok (.ireturn, 1) := by decide +kernel
abbrev b_AL_add2 : ByteArray := prog_31_method_24_code
def y_AL_add2 : MethodName := ⟨"java/util/ArrayList", "add", "(Ljava/lang/Object;[Ljava/lang/Object;I)V"⟩
set_option maxRecDepth 20000 in
theorem Y_AL_add2 : gh_Y y_AL_add2 b_AL_add2 4 none 3 := ⟨gt_in (i := 873) rfl rfl, gt_in (i := 9) (by decide +kernel) rfl, by decide +kernel, by decide +kernel, by decide +kernel⟩
theorem V_AL_add2 : Cond.instanceMethod y_AL_add2 ∈ gTbl ∧ Cond.selects y_AL_add2.cls y_AL_add2 y_AL_add2 ∈ gTbl := ⟨(gt_in (i := 872) (by decide +kernel) rfl), (gt_sel (n := 3) (i := 12) (by decide +kernel))⟩
theorem d_AL_add2_0 : decode b_AL_add2 0 = .ok (.iload_n 3, 1) := by decide +kernel
theorem d_AL_add2_1 : decode b_AL_add2 1 = .ok (.aload_n 2, 1) := by decide +kernel
theorem d_AL_add2_2 : decode b_AL_add2 2 = .ok (.arraylength, 1) := by decide +kernel
theorem d_AL_add2_3 : decode b_AL_add2 3 = .ok (.if_icmp .ne 8, 3) := by decide +kernel
theorem d_AL_add2_6 : decode b_AL_add2 6 = .ok (.aload_n 0, 1) := by decide +kernel
theorem d_AL_add2_7 : decode b_AL_add2 7 = .ok (.invokevirtual 129, 3) := by decide +kernel
theorem d_AL_add2_10 : decode b_AL_add2 10 = .ok (.astore_n 2, 1) := by decide +kernel
theorem d_AL_add2_11 : decode b_AL_add2 11 = .ok (.aload_n 2, 1) := by decide +kernel
theorem d_AL_add2_12 : decode b_AL_add2 12 = .ok (.iload_n 3, 1) := by decide +kernel
theorem d_AL_add2_13 : decode b_AL_add2 13 = .ok (.aload_n 1, 1) := by decide +kernel
theorem d_AL_add2_14 : decode b_AL_add2 14 = .ok (.aastore, 1) := by decide +kernel
theorem d_AL_add2_15 : decode b_AL_add2 15 = .ok (.aload_n 0, 1) := by decide +kernel
theorem d_AL_add2_16 : decode b_AL_add2 16 = .ok (.iload_n 3, 1) := by decide +kernel
theorem d_AL_add2_17 : decode b_AL_add2 17 = .ok (.iconst 1, 1) := by decide +kernel
theorem d_AL_add2_18 : decode b_AL_add2 18 = .ok (.iadd, 1) := by decide +kernel
theorem d_AL_add2_19 : decode b_AL_add2 19 = .ok (.putfield 48, 3) := by decide +kernel
theorem d_AL_add2_22 : decode b_AL_add2 22 = .ok (.return_, 1) := by decide +kernel
abbrev b_AL_clear : ByteArray := prog_31_method_40_code
def y_AL_clear : MethodName := ⟨"java/util/ArrayList", "clear", "()V"⟩
set_option maxRecDepth 20000 in
theorem Y_AL_clear : gh_Y y_AL_clear b_AL_clear 4 none 0 := ⟨gt_in (i := 1050) rfl rfl, gt_in (i := 9) (by decide +kernel) rfl, by decide +kernel, by decide +kernel, by decide +kernel⟩
theorem V_AL_clear : Cond.instanceMethod y_AL_clear ∈ gTbl ∧ Cond.selects y_AL_clear.cls y_AL_clear y_AL_clear ∈ gTbl := ⟨(gt_in (i := 1048) (by decide +kernel) rfl), (gt_in (i := 1049) (by decide +kernel) rfl)⟩
theorem d_AL_clear_0 : decode b_AL_clear 0 = .ok (.aload_n 0, 1) := by decide +kernel
theorem d_AL_clear_1 : decode b_AL_clear 1 = .ok (.dup, 1) := by decide +kernel
theorem d_AL_clear_2 : decode b_AL_clear 2 = .ok (.getfield 63, 3) := by decide +kernel
theorem d_AL_clear_5 : decode b_AL_clear 5 = .ok (.iconst 1, 1) := by decide +kernel
theorem d_AL_clear_6 : decode b_AL_clear 6 = .ok (.iadd, 1) := by decide +kernel
theorem d_AL_clear_7 : decode b_AL_clear 7 = .ok (.putfield 63, 3) := by decide +kernel
theorem d_AL_clear_10 : decode b_AL_clear 10 = .ok (.aload_n 0, 1) := by decide +kernel
theorem d_AL_clear_11 : decode b_AL_clear 11 = .ok (.getfield 9, 3) := by decide +kernel
theorem d_AL_clear_14 : decode b_AL_clear 14 = .ok (.astore_n 1, 1) := by decide +kernel
theorem d_AL_clear_15 : decode b_AL_clear 15 = .ok (.aload_n 0, 1) := by decide +kernel
theorem d_AL_clear_16 : decode b_AL_clear 16 = .ok (.getfield 48, 3) := by decide +kernel
theorem d_AL_clear_19 : decode b_AL_clear 19 = .ok (.istore_n 2, 1) := by decide +kernel
theorem d_AL_clear_20 : decode b_AL_clear 20 = .ok (.aload_n 0, 1) := by decide +kernel
theorem d_AL_clear_21 : decode b_AL_clear 21 = .ok (.iconst 0, 1) := by decide +kernel
theorem d_AL_clear_22 : decode b_AL_clear 22 = .ok (.dup_x1, 1) := by decide +kernel
theorem d_AL_clear_23 : decode b_AL_clear 23 = .ok (.putfield 48, 3) := by decide +kernel
theorem d_AL_clear_26 : decode b_AL_clear 26 = .ok (.istore_n 3, 1) := by decide +kernel
theorem d_AL_clear_27 : decode b_AL_clear 27 = .ok (.iload_n 3, 1) := by decide +kernel
theorem d_AL_clear_28 : decode b_AL_clear 28 = .ok (.iload_n 2, 1) := by decide +kernel
theorem d_AL_clear_29 : decode b_AL_clear 29 = .ok (.if_icmp .ge 13, 3) := by decide +kernel
theorem d_AL_clear_32 : decode b_AL_clear 32 = .ok (.aload_n 1, 1) := by decide +kernel
theorem d_AL_clear_33 : decode b_AL_clear 33 = .ok (.iload_n 3, 1) := by decide +kernel
theorem d_AL_clear_34 : decode b_AL_clear 34 = .ok (.aconst_null, 1) := by decide +kernel
theorem d_AL_clear_35 : decode b_AL_clear 35 = .ok (.aastore, 1) := by decide +kernel
theorem d_AL_clear_36 : decode b_AL_clear 36 = .ok (.iinc 3 1, 3) := by decide +kernel
theorem d_AL_clear_39 : decode b_AL_clear 39 = .ok (.goto (-12), 3) := by decide +kernel
theorem d_AL_clear_42 : decode b_AL_clear 42 = .ok (.return_, 1) := by decide +kernel
theorem kf_AL_9 : Cond.fieldLink "java/util/ArrayList" 9 "java/util/ArrayList" "elementData" "[Ljava/lang/Object;" ∈ gTbl := (gt_in (i := 123) (by decide +kernel) rfl)
theorem kf_AL_39 : Cond.fieldLink "java/util/ArrayList" 39 "java/util/ArrayList" "DEFAULTCAPACITY_EMPTY_ELEMENTDATA" "[Ljava/lang/Object;" ∈ gTbl := (gt_in (i := 121) (by decide +kernel) rfl)
theorem kf_AL_48 : Cond.fieldLink "java/util/ArrayList" 48 "java/util/ArrayList" "size" "I" ∈ gTbl := (gt_in (i := 124) (by decide +kernel) rfl)
theorem kf_AL_63 : Cond.fieldLink "java/util/ArrayList" 63 "java/util/ArrayList" "modCount" "I" ∈ gTbl := (gt_in (i := 126) (by decide +kernel) rfl)
theorem kc_AL_7 : Cond.classLink "java/util/ArrayList" 7 "java/lang/Object" ∈ gTbl := (gt_in (i := 788) (by decide +kernel) rfl)
theorem kc_AL_187 : Cond.classLink "java/util/ArrayList" 187 "java/lang/IndexOutOfBoundsException" ∈ gTbl := (gt_in (i := 467) (by decide +kernel) rfl)
theorem km_AL_1 : Cond.methodLink "java/util/ArrayList" 1 ⟨"java/util/AbstractList", "<init>", "()V"⟩ ∈ gTbl := (gt_in (i := 114) (by decide +kernel) rfl)
theorem km_AL_66 : Cond.methodLink "java/util/ArrayList" 66 ⟨"java/util/Arrays", "copyOf", "([Ljava/lang/Object;I)[Ljava/lang/Object;"⟩ ∈ gTbl := (gt_in (i := 758) (by decide +kernel) rfl)
theorem km_AL_69 : Cond.methodLink "java/util/ArrayList" 69 ⟨"java/util/ArrayList", "grow", "(I)[Ljava/lang/Object;"⟩ ∈ gTbl := (gt_in (i := 753) (by decide +kernel) rfl)
theorem km_AL_73 : Cond.methodLink "java/util/ArrayList" 73 ⟨"jdk/internal/util/ArraysSupport", "newLength", "(III)I"⟩ ∈ gTbl := (gt_in (i := 757) (by decide +kernel) rfl)
theorem km_AL_79 : Cond.methodLink "java/util/ArrayList" 79 ⟨"java/lang/Math", "max", "(II)I"⟩ ∈ gTbl := (gt_in (i := 787) (by decide +kernel) rfl)
theorem km_AL_112 : Cond.methodLink "java/util/ArrayList" 112 ⟨"java/lang/System", "arraycopy", "(Ljava/lang/Object;ILjava/lang/Object;II)V"⟩ ∈ gTbl := (gt_in (i := 789) (by decide +kernel) rfl)
theorem km_AL_118 : Cond.methodLink "java/util/ArrayList" 118 ⟨"java/util/Objects", "checkIndex", "(II)I"⟩ ∈ gTbl := (gt_in (i := 385) (by decide +kernel) rfl)
theorem km_AL_123 : Cond.methodLink "java/util/ArrayList" 123 ⟨"java/util/ArrayList", "elementData", "(I)Ljava/lang/Object;"⟩ ∈ gTbl := (gt_in (i := 389) (by decide +kernel) rfl)
theorem km_AL_129 : Cond.methodLink "java/util/ArrayList" 129 ⟨"java/util/ArrayList", "grow", "()[Ljava/lang/Object;"⟩ ∈ gTbl := (gt_in (i := 749) (by decide +kernel) rfl)
theorem km_AL_131 : Cond.methodLink "java/util/ArrayList" 131 ⟨"java/util/ArrayList", "add", "(Ljava/lang/Object;[Ljava/lang/Object;I)V"⟩ ∈ gTbl := (gt_in (i := 870) (by decide +kernel) rfl)
theorem km_AL_135 : Cond.methodLink "java/util/ArrayList" 135 ⟨"java/util/ArrayList", "rangeCheckForAdd", "(I)V"⟩ ∈ gTbl := (gt_in (i := 463) (by decide +kernel) rfl)
theorem km_AL_144 : Cond.methodLink "java/util/ArrayList" 144 ⟨"java/util/ArrayList", "fastRemove", "([Ljava/lang/Object;I)V"⟩ ∈ gTbl := (gt_in (i := 823) (by decide +kernel) rfl)
theorem km_AL_193 : Cond.methodLink "java/util/ArrayList" 193 ⟨"java/lang/IndexOutOfBoundsException", "<init>", "(Ljava/lang/String;)V"⟩ ∈ gTbl := (gt_in (i := 724) (by decide +kernel) rfl)
theorem km_AL_198 : Cond.methodLink "java/util/ArrayList" 198 ⟨"java/util/ArrayList", "outOfBoundsMsg", "(I)Ljava/lang/String;"⟩ ∈ gTbl := (gt_in (i := 507) (by decide +kernel) rfl)
abbrev b_AbL_init : ByteArray := prog_30_method_1_code
def y_AbL_init : MethodName := ⟨"java/util/AbstractList", "<init>", "()V"⟩
set_option maxRecDepth 20000 in
theorem Y_AbL_init : gh_Y y_AbL_init b_AbL_init 1 none 0 := ⟨gt_in (i := 116) rfl rfl, gt_in (i := 8) (by decide +kernel) rfl, by decide +kernel, by decide +kernel, by decide +kernel⟩
theorem V_AbL_init : Cond.instanceMethod y_AbL_init ∈ gTbl := (gt_in (i := 115) (by decide +kernel) rfl)
theorem d_AbL_init_0 : decode b_AbL_init 0 = .ok (.aload_n 0, 1) := by decide +kernel
theorem d_AbL_init_1 : decode b_AbL_init 1 = .ok (.invokespecial 1, 3) := by decide +kernel
theorem d_AbL_init_4 : decode b_AbL_init 4 = .ok (.aload_n 0, 1) := by decide +kernel
theorem d_AbL_init_5 : decode b_AbL_init 5 = .ok (.iconst 0, 1) := by decide +kernel
theorem d_AbL_init_6 : decode b_AbL_init 6 = .ok (.putfield 7, 3) := by decide +kernel
theorem d_AbL_init_9 : decode b_AbL_init 9 = .ok (.return_, 1) := by decide +kernel
theorem kf_AbL_7 : Cond.fieldLink "java/util/AbstractList" 7 "java/util/AbstractList" "modCount" "I" ∈ gTbl := (gt_in (i := 125) (by decide +kernel) rfl)
theorem km_AbL_1 : Cond.methodLink "java/util/AbstractList" 1 ⟨"java/util/AbstractCollection", "<init>", "()V"⟩ ∈ gTbl := (gt_in (i := 117) (by decide +kernel) rfl)
abbrev b_AbC_init : ByteArray := prog_29_method_1_code
def y_AbC_init : MethodName := ⟨"java/util/AbstractCollection", "<init>", "()V"⟩
set_option maxRecDepth 20000 in
theorem Y_AbC_init : gh_Y y_AbC_init b_AbC_init 1 none 0 := ⟨gt_in (i := 119) rfl rfl, gt_in (i := 7) (by decide +kernel) rfl, by decide +kernel, by decide +kernel, by decide +kernel⟩
theorem V_AbC_init : Cond.instanceMethod y_AbC_init ∈ gTbl := (gt_in (i := 118) (by decide +kernel) rfl)
theorem d_AbC_init_0 : decode b_AbC_init 0 = .ok (.aload_n 0, 1) := by decide +kernel
theorem d_AbC_init_1 : decode b_AbC_init 1 = .ok (.invokespecial 1, 3) := by decide +kernel
theorem d_AbC_init_4 : decode b_AbC_init 4 = .ok (.return_, 1) := by decide +kernel
theorem km_AbC_1 : Cond.methodLink "java/util/AbstractCollection" 1 ⟨"java/lang/Object", "<init>", "()V"⟩ ∈ gTbl := (gt_in (i := 120) (by decide +kernel) rfl)
abbrev b_Obs_checkIndex : ByteArray := prog_35_method_17_code
def y_Obs_checkIndex : MethodName := ⟨"java/util/Objects", "checkIndex", "(II)I"⟩
set_option maxRecDepth 20000 in
theorem Y_Obs_checkIndex : gh_Y y_Obs_checkIndex b_Obs_checkIndex 2 (some .int) 2 := ⟨gt_in (i := 387) rfl rfl, gt_in (i := 23) (by decide +kernel) rfl, by decide +kernel, by decide +kernel, by decide +kernel⟩
theorem V_Obs_checkIndex : Cond.static y_Obs_checkIndex ∈ gTbl := (gt_in (i := 386) (by decide +kernel) rfl)
theorem d_Obs_checkIndex_0 : decode b_Obs_checkIndex 0 = .ok (.iload_n 0, 1) := by decide +kernel
theorem d_Obs_checkIndex_1 : decode b_Obs_checkIndex 1 = .ok (.iload_n 1, 1) := by decide +kernel
theorem d_Obs_checkIndex_2 : decode b_Obs_checkIndex 2 = .ok (.aconst_null, 1) := by decide +kernel
theorem d_Obs_checkIndex_3 : decode b_Obs_checkIndex 3 = .ok (.invokestatic 105, 3) := by decide +kernel
theorem d_Obs_checkIndex_6 : decode b_Obs_checkIndex 6 = .ok (.ireturn, 1) := by decide +kernel
theorem km_Obs_105 : Cond.methodLink "java/util/Objects" 105 ⟨"jdk/internal/util/Preconditions", "checkIndex", "(IILjava/util/function/BiFunction;)I"⟩ ∈ gTbl := (gt_in (i := 388) (by decide +kernel) rfl)
abbrev b_Ars_copyOf1 : ByteArray := prog_32_method_119_code
def y_Ars_copyOf1 : MethodName := ⟨"java/util/Arrays", "copyOf", "([Ljava/lang/Object;I)[Ljava/lang/Object;"⟩
set_option maxRecDepth 20000 in
theorem Y_Ars_copyOf1 : gh_Y y_Ars_copyOf1 b_Ars_copyOf1 2 (some (.array (.object "java/lang/Object"))) 2 := ⟨gt_in (i := 760) rfl rfl, gt_in (i := 29) (by decide +kernel) rfl, by decide +kernel, by decide +kernel, by decide +kernel⟩
theorem V_Ars_copyOf1 : Cond.static y_Ars_copyOf1 ∈ gTbl := (gt_in (i := 759) (by decide +kernel) rfl)
theorem d_Ars_copyOf1_0 : decode b_Ars_copyOf1 0 = .ok (.aload_n 0, 1) := by decide +kernel
theorem d_Ars_copyOf1_1 : decode b_Ars_copyOf1 1 = .ok (.iload_n 1, 1) := by decide +kernel
theorem d_Ars_copyOf1_2 : decode b_Ars_copyOf1 2 = .ok (.aload_n 0, 1) := by decide +kernel
theorem d_Ars_copyOf1_3 : decode b_Ars_copyOf1 3 = .ok (.invokevirtual 86, 3) := by decide +kernel
theorem d_Ars_copyOf1_6 : decode b_Ars_copyOf1 6 = .ok (.invokestatic 300, 3) := by decide +kernel
theorem d_Ars_copyOf1_9 : decode b_Ars_copyOf1 9 = .ok (.areturn, 1) := by decide +kernel
abbrev b_Ars_copyOf2 : ByteArray := prog_32_method_120_code
def y_Ars_copyOf2 : MethodName := ⟨"java/util/Arrays", "copyOf", "([Ljava/lang/Object;ILjava/lang/Class;)[Ljava/lang/Object;"⟩
set_option maxRecDepth 20000 in
theorem Y_Ars_copyOf2 : gh_Y y_Ars_copyOf2 b_Ars_copyOf2 4 (some (.array (.object "java/lang/Object"))) 3 := ⟨gt_in (i := 783) rfl rfl, gt_in (i := 29) (by decide +kernel) rfl, by decide +kernel, by decide +kernel, by decide +kernel⟩
theorem V_Ars_copyOf2 : Cond.static y_Ars_copyOf2 ∈ gTbl := (gt_in (i := 782) (by decide +kernel) rfl)
theorem d_Ars_copyOf2_0 : decode b_Ars_copyOf2 0 = .ok (.aload_n 2, 1) := by decide +kernel
theorem d_Ars_copyOf2_1 : decode b_Ars_copyOf2 1 = .ok (.ldc 110, 2) := by decide +kernel
theorem d_Ars_copyOf2_3 : decode b_Ars_copyOf2 3 = .ok (.if_acmp .ne 10, 3) := by decide +kernel
theorem d_Ars_copyOf2_6 : decode b_Ars_copyOf2 6 = .ok (.iload_n 1, 1) := by decide +kernel
theorem d_Ars_copyOf2_7 : decode b_Ars_copyOf2 7 = .ok (.anewarray 2, 3) := by decide +kernel
theorem d_Ars_copyOf2_10 : decode b_Ars_copyOf2 10 = .ok (.goto 14, 3) := by decide +kernel
theorem d_Ars_copyOf2_13 : decode b_Ars_copyOf2 13 = .ok (.aload_n 2, 1) := by decide +kernel
theorem d_Ars_copyOf2_14 : decode b_Ars_copyOf2 14 = .ok (.invokevirtual 90, 3) := by decide +kernel
theorem d_Ars_copyOf2_17 : decode b_Ars_copyOf2 17 = .ok (.iload_n 1, 1) := by decide +kernel
theorem d_Ars_copyOf2_18 : decode b_Ars_copyOf2 18 = .ok (.invokestatic 95, 3) := by decide +kernel
theorem d_Ars_copyOf2_21 : decode b_Ars_copyOf2 21 = .ok (.checkcast 110, 3) := by decide +kernel
theorem d_Ars_copyOf2_24 : decode b_Ars_copyOf2 24 = .ok (.astore_n 3, 1) := by decide +kernel
theorem d_Ars_copyOf2_25 : decode b_Ars_copyOf2 25 = .ok (.aload_n 0, 1) := by decide +kernel
theorem d_Ars_copyOf2_26 : decode b_Ars_copyOf2 26 = .ok (.iconst 0, 1) := by decide +kernel
theorem d_Ars_copyOf2_27 : decode b_Ars_copyOf2 27 = .ok (.aload_n 3, 1) := by decide +kernel
theorem d_Ars_copyOf2_28 : decode b_Ars_copyOf2 28 = .ok (.iconst 0, 1) := by decide +kernel
theorem d_Ars_copyOf2_29 : decode b_Ars_copyOf2 29 = .ok (.aload_n 0, 1) := by decide +kernel
theorem d_Ars_copyOf2_30 : decode b_Ars_copyOf2 30 = .ok (.arraylength, 1) := by decide +kernel
theorem d_Ars_copyOf2_31 : decode b_Ars_copyOf2 31 = .ok (.iload_n 1, 1) := by decide +kernel
theorem d_Ars_copyOf2_32 : decode b_Ars_copyOf2 32 = .ok (.invokestatic 304, 3) := by decide +kernel
theorem d_Ars_copyOf2_35 : decode b_Ars_copyOf2 35 = .ok (.invokestatic 150, 3) := by decide +kernel
theorem d_Ars_copyOf2_38 : decode b_Ars_copyOf2 38 = .ok (.aload_n 3, 1) := by decide +kernel
theorem d_Ars_copyOf2_39 : decode b_Ars_copyOf2 39 = .ok (.areturn, 1) := by decide +kernel
theorem kc_Ars_2 : Cond.classLink "java/util/Arrays" 2 "java/lang/Object" ∈ gTbl := (gt_in (i := 786) (by decide +kernel) rfl)
theorem kc_Ars_110 : Cond.classLink "java/util/Arrays" 110 "[Ljava/lang/Object;" ∈ gTbl := (gt_in (i := 784) (by decide +kernel) rfl)
theorem km_Ars_86 : Cond.methodLink "java/util/Arrays" 86 ⟨"java/lang/Object", "getClass", "()Ljava/lang/Class;"⟩ ∈ gTbl := (gt_in (i := 761) (by decide +kernel) rfl)
theorem km_Ars_150 : Cond.methodLink "java/util/Arrays" 150 ⟨"java/lang/System", "arraycopy", "(Ljava/lang/Object;ILjava/lang/Object;II)V"⟩ ∈ gTbl := (gt_in (i := 583) (by decide +kernel) rfl)
theorem km_Ars_300 : Cond.methodLink "java/util/Arrays" 300 ⟨"java/util/Arrays", "copyOf", "([Ljava/lang/Object;ILjava/lang/Class;)[Ljava/lang/Object;"⟩ ∈ gTbl := (gt_in (i := 781) (by decide +kernel) rfl)
theorem km_Ars_304 : Cond.methodLink "java/util/Arrays" 304 ⟨"java/lang/Math", "min", "(II)I"⟩ ∈ gTbl := (gt_in (i := 580) (by decide +kernel) rfl)
abbrev b_ArS_newLength : ByteArray := prog_38_method_27_code
def y_ArS_newLength : MethodName := ⟨"jdk/internal/util/ArraysSupport", "newLength", "(III)I"⟩
set_option maxRecDepth 20000 in
theorem Y_ArS_newLength : gh_Y y_ArS_newLength b_ArS_newLength 4 (some .int) 3 := ⟨gt_in (i := 563) rfl rfl, gt_in (i := 28) (by decide +kernel) rfl, by decide +kernel, by decide +kernel, by decide +kernel⟩
theorem V_ArS_newLength : Cond.static y_ArS_newLength ∈ gTbl := (gt_in (i := 562) (by decide +kernel) rfl)
theorem d_ArS_newLength_0 : decode b_ArS_newLength 0 = .ok (.iload_n 0, 1) := by decide +kernel
theorem d_ArS_newLength_1 : decode b_ArS_newLength 1 = .ok (.iload_n 1, 1) := by decide +kernel
theorem d_ArS_newLength_2 : decode b_ArS_newLength 2 = .ok (.iload_n 2, 1) := by decide +kernel
theorem d_ArS_newLength_3 : decode b_ArS_newLength 3 = .ok (.invokestatic 194, 3) := by decide +kernel
theorem d_ArS_newLength_6 : decode b_ArS_newLength 6 = .ok (.iadd, 1) := by decide +kernel
theorem d_ArS_newLength_7 : decode b_ArS_newLength 7 = .ok (.istore_n 3, 1) := by decide +kernel
theorem d_ArS_newLength_8 : decode b_ArS_newLength 8 = .ok (.iconst 0, 1) := by decide +kernel
theorem d_ArS_newLength_9 : decode b_ArS_newLength 9 = .ok (.iload_n 3, 1) := by decide +kernel
theorem d_ArS_newLength_10 : decode b_ArS_newLength 10 = .ok (.if_icmp .ge 11, 3) := by decide +kernel
theorem d_ArS_newLength_13 : decode b_ArS_newLength 13 = .ok (.iload_n 3, 1) := by decide +kernel
theorem d_ArS_newLength_14 : decode b_ArS_newLength 14 = .ok (.ldc 200, 2) := by decide +kernel
theorem d_ArS_newLength_16 : decode b_ArS_newLength 16 = .ok (.if_icmp .gt 5, 3) := by decide +kernel
theorem d_ArS_newLength_19 : decode b_ArS_newLength 19 = .ok (.iload_n 3, 1) := by decide +kernel
theorem d_ArS_newLength_20 : decode b_ArS_newLength 20 = .ok (.ireturn, 1) := by decide +kernel
theorem d_ArS_newLength_21 : decode b_ArS_newLength 21 = .ok (.iload_n 0, 1) := by decide +kernel
theorem d_ArS_newLength_22 : decode b_ArS_newLength 22 = .ok (.iload_n 1, 1) := by decide +kernel
theorem d_ArS_newLength_23 : decode b_ArS_newLength 23 = .ok (.invokestatic 201, 3) := by decide +kernel
theorem d_ArS_newLength_26 : decode b_ArS_newLength 26 = .ok (.ireturn, 1) := by decide +kernel
theorem km_ArS_194 : Cond.methodLink "jdk/internal/util/ArraysSupport" 194 ⟨"java/lang/Math", "max", "(II)I"⟩ ∈ gTbl := (gt_in (i := 564) (by decide +kernel) rfl)
theorem km_ArS_201 : Cond.methodLink "jdk/internal/util/ArraysSupport" 201 ⟨"jdk/internal/util/ArraysSupport", "hugeLength", "(II)I"⟩ ∈ gTbl := (gt_in (i := 566) (by decide +kernel) rfl)
abbrev b_Mt_min : ByteArray := prog_21_method_69_code
def y_Mt_min : MethodName := ⟨"java/lang/Math", "min", "(II)I"⟩
set_option maxRecDepth 20000 in
theorem Y_Mt_min : gh_Y y_Mt_min b_Mt_min 2 (some .int) 2 := ⟨gt_in (i := 582) rfl rfl, gt_in (i := 3) (by decide +kernel) rfl, by decide +kernel, by decide +kernel, by decide +kernel⟩
theorem V_Mt_min : Cond.static y_Mt_min ∈ gTbl := (gt_in (i := 581) (by decide +kernel) rfl)
theorem d_Mt_min_0 : decode b_Mt_min 0 = .ok (.iload_n 0, 1) := by decide +kernel
theorem d_Mt_min_1 : decode b_Mt_min 1 = .ok (.iload_n 1, 1) := by decide +kernel
theorem d_Mt_min_2 : decode b_Mt_min 2 = .ok (.if_icmp .gt 7, 3) := by decide +kernel
theorem d_Mt_min_5 : decode b_Mt_min 5 = .ok (.iload_n 0, 1) := by decide +kernel
theorem d_Mt_min_6 : decode b_Mt_min 6 = .ok (.goto 4, 3) := by decide +kernel
theorem d_Mt_min_9 : decode b_Mt_min 9 = .ok (.iload_n 1, 1) := by decide +kernel
theorem d_Mt_min_10 : decode b_Mt_min 10 = .ok (.ireturn, 1) := by decide +kernel
