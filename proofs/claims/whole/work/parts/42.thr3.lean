/-! the words that a throw asks -/
def thr_sp : List Cond := [.declares (Bundle.initS "java/lang/RuntimeException"), .declares (Bundle.initS "java/lang/Exception"), .declares (Bundle.initS "java/lang/Throwable"), .castable "java/lang/IllegalStateException" "java/lang/IllegalStateException", .castable "java/lang/IndexOutOfBoundsException" "java/lang/IndexOutOfBoundsException", .laysStatic "java/lang/Throwable" "UNASSIGNED_STACK" "[Ljava/lang/StackTraceElement;", .laysStatic "java/lang/Throwable" "SUPPRESSED_SENTINEL" "Ljava/util/List;", .isRef (.static "java/lang/Throwable" "UNASSIGNED_STACK" "[Ljava/lang/StackTraceElement;"), .isRef (.static "java/lang/Throwable" "SUPPRESSED_SENTINEL" "Ljava/util/List;")]
def thr_ck (q : Cond × Option Nat) : Bool := match q.2 with
  | some i => decide (tables_1[i]? = some q.1) && goodWord q.1
  | none => decide (q.1 ∈ thr_sp)
theorem thr_zip : ∀ (L : List Cond) (I : List (Option Nat)), L.length ≤ I.length → (L.zip I).all thr_ck = true → ∀ a ∈ L, a ∈ gTbl ∨ a ∈ thr_sp
  | [], _, _, _, a, h => by cases h
  | c :: L, [], hl, _, a, _ => by simp at hl
  | c :: L, i :: I, hl, hz, a, h => by
    rw [List.zip_cons_cons, List.all_cons, Bool.and_eq_true] at hz
    rcases List.mem_cons.mp h with e | h
    · subst e
      have hz1 := hz.1
      cases i with
      | none => exact Or.inr (of_decide_eq_true hz1)
      | some i =>
        have hz2 : (decide (tables_1[i]? = some a) && goodWord a) = true := hz1
        rw [Bool.and_eq_true] at hz2
        exact Or.inl (gt_in (of_decide_eq_true hz2.1) hz2.2)
    · exact thr_zip L I (by simpa using hl) hz.2 a h
set_option maxRecDepth 20000 in
theorem thr_ISE : ∀ a ∈ Bundle.ownAtoms "SpellDesk" 83 "java/lang/IllegalStateException" ["java/lang/RuntimeException", "java/lang/Exception"], a ∈ gTbl ∨ a ∈ thr_sp := thr_zip _ [some 15, some 489, some 498, some 501, some 504, some 506, some 490, some 491, some 38, some 39, some 492, some 497, some 502, some 738, some 479, some 739, some 481, some 740, some 483, some 493, none, some 495, none, some 485, some 734, some 735, some 737, some 485, some 1122, some 1123, some 1124, some 728, none, some 728, some 729, some 730, some 731, none, some 731, some 732, some 733, some 734, none, some 1121, some 1112, none, some 1114, some 500, some 1115, some 1116, some 1117, some 1118, none, none, some 736, some 487, some 1119] (by decide +kernel) (by decide +kernel)
set_option maxRecDepth 20000 in
theorem thr_IOE : ∀ a ∈ Bundle.ownAtoms "SpellDesk" 105 "java/lang/IndexOutOfBoundsException" ["java/lang/RuntimeException", "java/lang/Exception"], a ∈ gTbl ∨ a ∈ thr_sp := thr_zip _ [some 15, some 489, some 498, some 501, some 504, some 506, some 490, some 491, some 38, some 39, some 492, some 497, some 502, some 738, some 479, some 739, some 481, some 740, some 483, some 493, none, some 495, none, some 485, some 734, some 735, some 737, some 485, some 725, some 726, some 727, some 728, none, some 728, some 729, some 730, some 731, none, some 731, some 732, some 733, some 734, none, some 1142, some 468, none, some 476, some 477, some 478, some 480, some 482, some 484, none, none, some 736, some 487, some 486] (by decide +kernel) (by decide +kernel)
theorem thr_dc {args : Array Value} {U : State} {x : MethodName} {b : ByteArray} {n : Nat} {r : Option FieldType} (h1 : (Cond.instanceMethod x).before args U = true) (h2 : (Cond.code x b n r).before args U = true) : (Cond.declares x).before args U = true := by
  obtain ⟨m, meth, q1, q2, q3, -⟩ := Cond.instanceMethod_spec h1
  obtain ⟨meth', c, p1, -, -, -, -, -, -, p2⟩ := Cond.code_spec q1 h2
  cases q2.symm.trans p1
  simp [Cond.before, Cond.holds, Cond.value, q1, q2, q3, p2]
/-- a static of Throwable that holds a reference -/
def gh_LS (n d : String) (A : Nat → Prop) (U : State) (H : Heap) : Prop := ∃ (c : ClassId) (k : Class) (i : Nat) (f : Field) (a : Nat) (cell : Cell) (v : Value), U.vm.findClass "java/lang/Throwable" = some c ∧ U.fieldFound? "java/lang/Throwable" n d = some (c, k, i, f) ∧ f.isStatic = true ∧ k.statics = some a ∧ k.staticTypes[f.slot]? = some f.type ∧ H[a]? = some cell ∧ cell.vm.isStatics = true ∧ cell.cls = c ∧ cell.slots[f.slot]? = some v ∧ v.isRef = true ∧ ¬ A a
theorem gh_LS.moved {n d : String} {A : Nat → Prop} {u U : State} {H : Heap} (hvm : u.vm.Alike U.vm) (h : gh_LS n d A u H) : gh_LS n d A U H := by
  obtain ⟨c, k, i, f, a, cell, v, h1, h2, h3, h4, h5, h6⟩ := h
  obtain ⟨k', hi', he⟩ := State.fieldFound?_setVm hvm h2
  exact ⟨c, k', i, f, a, cell, v, by rw [hvm.findClass]; exact h1, hi', h3, by rw [he]; exact h4, by rw [he]; exact h5, h6⟩
theorem gh_LS.kept {n d : String} {A : Nat → Prop} {U : State} {H H1 : Heap} (hq : ∀ a : Nat, a < H.size → ¬ A a → H1[a]? = H[a]?) (h : gh_LS n d A U H) : gh_LS n d A U H1 := by
  obtain ⟨c, k, i, f, a, cell, v, h1, h2, h3, h4, h5, h6, h7, h8, h9, h10, h11⟩ := h
  exact ⟨c, k, i, f, a, cell, v, h1, h2, h3, h4, h5, by rw [hq a (Array.getElem?_eq_some_iff.mp h6).1 h11]; exact h6, h7, h8, h9, h10, h11⟩
theorem gh_LS.narrow {n d : String} {A B : Nat → Prop} {U : State} {H : Heap} (hAB : ∀ q, B q → A q) (h : gh_LS n d A U H) : gh_LS n d B U H := by
  obtain ⟨c, k, i, f, a, cell, v, h1, h2, h3, h4, h5, h6, h7, h8, h9, h10, h11⟩ := h
  exact ⟨c, k, i, f, a, cell, v, h1, h2, h3, h4, h5, h6, h7, h8, h9, h10, fun q => h11 (hAB a q)⟩
theorem gh_LS.use {n d : String} {A : Nat → Prop} {U : State} {args : Array Value} (h : gh_LS n d A U U.heap) : (Cond.laysStatic "java/lang/Throwable" n d).before args U = true ∧ (Cond.isRef (.static "java/lang/Throwable" n d)).before args U = true := by
  obtain ⟨c, k, i, f, a, cell, v, h1, h2, h3, h4, h5, h6, h7, h8, h9, h10, h11⟩ := h
  have h12 : f.slot < cell.slots.size := (Array.getElem?_eq_some_iff.mp h9).1
  constructor
  · simp [Cond.before, Cond.holds, Cond.value, h1, h2, h3, h4, h5, h6, h7, h8, h12]
  · have he : (Term.static "java/lang/Throwable" n d).eval args U none [] U = some v := by
      simp [Term.eval, State.fieldNamed?, h2, h3, h4, h6, h7, h9]
    simp only [Cond.before, Cond.holds, Cond.value, he]
    cases v <;> simp_all [Value.isRef]
def gh_J (A : Nat → Prop) (U : State) (H : Heap) : Prop := gh_LS "UNASSIGNED_STACK" "[Ljava/lang/StackTraceElement;" A U H ∧ gh_LS "SUPPRESSED_SENTINEL" "Ljava/util/List;" A U H
theorem gh_J.moved {A : Nat → Prop} {u U : State} {H : Heap} (hvm : u.vm.Alike U.vm) (h : gh_J A u H) : gh_J A U H := ⟨h.1.moved hvm, h.2.moved hvm⟩
theorem gh_J.kept {A : Nat → Prop} {U : State} {H H1 : Heap} (hq : ∀ a : Nat, a < H.size → ¬ A a → H1[a]? = H[a]?) (h : gh_J A U H) : gh_J A U H1 := ⟨h.1.kept hq, h.2.kept hq⟩
theorem gh_J.narrow {A B : Nat → Prop} {U : State} {H : Heap} (hAB : ∀ q, B q → A q) (h : gh_J A U H) : gh_J B U H := ⟨h.1.narrow hAB, h.2.narrow hAB⟩
theorem thr_words {G : GG} {A : Nat → Prop} {args : Array Value} {s U : State} {H : Heap} (hts : ∀ w ∈ gTbl, w.before args s = true) (hX : gh_X G s) (hJ : gh_J A s H) (hv : U.vm = s.vm) (hh : U.heap = H) : ∀ a, a ∈ gTbl ∨ a ∈ thr_sp → a.before args U = true := by
  have htab : ∀ w : Cond, w.onTables = true → w.before args s = true → w.before args U = true := fun w hw h => va_tabs hw hv.symm h
  have hal : s.vm.Alike U.vm := by rw [hv]; exact Vm.Alike.refl _
  have hJU : gh_J A U U.heap := by rw [hh]; exact hJ.moved hal
  intro a h
  rcases h with h | h
  · rcases gTbl_good a h with q | ⟨ty, rfl⟩
    · rw [Bool.and_eq_true] at q
      exact htab a q.1 (hts a h)
    · exact word_at (s := s) (by rw [hv]; exact State.WarmedH.refl s) (Or.inr ⟨ty, rfl⟩) (hts _ h)
  · simp only [thr_sp, List.mem_cons, List.not_mem_nil, or_false] at h
    rcases h with rfl | rfl | rfl | rfl | rfl | rfl | rfl | rfl | rfl
    · exact htab _ rfl (thr_dc (hts (.instanceMethod (Bundle.initS "java/lang/RuntimeException")) (gt_in (i := 728) (by decide +kernel) rfl)) (hts (.code (Bundle.initS "java/lang/RuntimeException") Bundle.six 2 none) (gt_in (i := 729) (by decide +kernel) rfl)))
    · exact htab _ rfl (thr_dc (hts (.instanceMethod (Bundle.initS "java/lang/Exception")) (gt_in (i := 731) (by decide +kernel) rfl)) (hts (.code (Bundle.initS "java/lang/Exception") Bundle.six 2 none) (gt_in (i := 732) (by decide +kernel) rfl)))
    · exact htab _ rfl (thr_dc (hts (.instanceMethod (Bundle.initS "java/lang/Throwable")) (gt_in (i := 734) (by decide +kernel) rfl)) (hts (.code (Bundle.initS "java/lang/Throwable") prog_28_method_2_code 2 none) (gt_in (i := 735) (by decide +kernel) rfl)))
    · exact (va_Nw.same rfl hv.symm hX.2.2.2.1).use rfl
    · exact (va_Nw.same rfl hv.symm hX.2.2.2.2.1).use rfl
    · exact hJU.1.use.1
    · exact hJU.2.use.1
    · exact hJU.1.use.2
    · exact hJU.2.use.2
