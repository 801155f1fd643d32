/-- what the thrown state is -/
def thr_Q (C : String) (s : State) (below : List Frame) (locs : List Loc) (cells slots : Nat) (H : Heap) (U : State) : Prop := U.status = .running ∧ ∃ (a : Addr) (ce : Cell), Ended U below (.threw a) ∧ s.WarmedH U.vm ∧ s.sameButNew ({ U with vm := s.vm } : State) locs cells slots ∧ U.heap[a]? = some ce ∧ ce.vm.isStatics = false ∧ s.vm.findClass C = some ce.cls ∧ H.size ≤ U.heap.size ∧ ∀ q : Nat, q < H.size → U.heap[q]? = H[q]?
theorem thr_join {s t U : State} {locs : List Loc} {cells slots c2 n2 : Nat} (h1 : s.sameButNew t locs cells slots) (h2 : ({ s with heap := t.heap, slotsUsed := t.slotsUsed } : State).sameButNew U [] c2 n2) : s.sameButNew U locs (cells + c2) (slots + n2) := by
  have h3 : t.sameButNew U [] c2 n2 := by
    obtain ⟨a1, a2, a3, a4, a5, a6⟩ := h2
    refine ⟨?_, a2, a3, a4, a5, a6⟩
    have e : t.setFrames U.frames = ({ (s.setFrames t.frames).setFrames U.frames with heap := t.heap, slotsUsed := t.slotsUsed } : State) := congrArg (fun z => State.setFrames z U.frames) h1.1
    rw [State.setFrames_setFrames] at e
    rw [e]
    exact a1
  have := h1.trans h3
  rw [List.append_nil] at this
  exact this
theorem thr_same {s U : State} {cells slots : Nat} (h : s.sameButNew U [] cells slots) : s.heap.size ≤ U.heap.size ∧ ∀ q : Nat, q < s.heap.size → U.heap[q]? = s.heap[q]? := by
  refine ⟨h.2.1, fun q hq => ?_⟩
  obtain ⟨c', h1, h2, h3, h4⟩ := h.2.2.2.2.2 q _ (Array.getElem?_eq_getElem hq)
  rw [h1, Array.getElem?_eq_getElem hq, h2]
  congr 1
  have : c'.slots = (s.heap[q]).slots := by
    apply Array.ext_getElem?
    intro i
    exact h4 i (by simp)
  rw [this]
set_option maxHeartbeats 4000000 in
theorem thr_new0 {p : Program} {l : Launch} {e : Env} {R : Room} {s : State} {m : MethodId} {args : Array Value} {below : List Frame} {meth : Method} {c : Code} {H : Heap} {cc : ByteArray} {pc ix il ic : Nat} {ls : Array Slot} {st : List Value} {own C tx : String} {names : List String} {sa : Nat} {cC : ClassId}
    (hexec : p.tables.exec = Jvm.exec) (hb : c.code = cc) (hfl : l.flags = pinnedFlags ++ [noTraceFlag]) (hown : s.vm.findClass own = some m.cls) (hlocks : meth.locks = false) (hout : c.exceptionTable.isEmpty = true) (hsize : ls.size = c.maxLocals)
    (hcl : (Cond.classLink own ix C).before args s = true) (hins : (Cond.instantiable C 6).before args s = true) (hini : (Cond.initialized C).before args s = true) (hfc : s.vm.findClass C = some cC)
    (hldc : vk_R own il tx sa s) (hfit : Bundle.fit C = true) (hnames : ∀ n ∈ names, Bundle.fit n = true)
    (hsH : s.heap = H) (hat : ∀ a ∈ Bundle.ownAtoms own ic C names, a.before args s = true)
    (d0 : decode cc pc = .ok (.new ix, 3)) (d3 : decode cc (pc + 3) = .ok (.dup, 1)) (d4 : decode cc (pc + 4) = .ok (.ldc il, 2)) (d6 : decode cc (pc + 6) = .ok (.invokespecial ic, 3)) (d9 : decode cc (pc + 9) = .ok (.athrow, 1))
    (hfr : names.length + 3 < R.frames) (hlo : (st.map fun v => v.category).sum + (13 * (names.length + 1) + 43) ≤ R.locals) (hcells : 1 ≤ R.cells) (hslots : 6 ≤ R.slots)
    : W p l e R s m args below meth c H [] 0 0 (fun U => U.status = .running ∧ ∃ (a : Addr) (ce : Cell), Ended U below (.threw a) ∧ s.WarmedH U.vm ∧ s.sameButNew ({ U with vm := s.vm } : State) [] 1 6 ∧ U.heap[a]? = some ce ∧ ce.vm.isStatics = false ∧ s.vm.findClass C = some ce.cls) (F0 m pc ls st) := by
  refine W.newcK (C := C) (n := 6) (own := own) (index := ix) hexec hb hown hcl hins hini rfl d0 (show 0 + 1 ≤ R.cells by omega) (show 0 + 6 ≤ R.slots by omega) hfc rfl fun H1 kC hkC e1 z1 o1 => ?_
  show W p l e R s m args below meth c H1 [] (0 + 1) (0 + 6) _ (F0 m (pc + 3) ls (.ref H.size :: st))
  refine lv_dup hexec hb d3 rfl ?_
  refine va_ldcS hexec hb hown hldc d4 ?_
  intro T1 hT1 X1
  have htr := Launch.traces_off hfl X1.admits
  obtain ⟨U, q1, q2, q3, q4, q5, ce, q6, q7⟩ := X1.ctorThrowS hexec htr (own := own) (cls := C) (names := names) (ic := ic) hown hfit hnames hat (fun x hx => by cases hx) (a := H.size) (cX := cC) (kX := kC) hfc hkC (by rw [hT1]; exact e1) (by rw [hsH]; exact Nat.le_refl _) (msg := .ref sa) rfl (g := F0 m (pc + 6) ls (.ref sa :: .ref H.size :: .ref H.size :: st)) rfl hsize rfl rfl (rest := st) rfl (by rw [hb]; exact d6) (by rw [hb]; exact d9) (fun x hx => by
    have h0 : c.exceptionTable.size = 0 := by simpa [Array.isEmpty] using hout
    have h1 : c.exceptionTable.toList = [] := List.eq_nil_of_length_eq_zero (by simpa using h0)
    rw [h1] at hx
    cases hx) hfr (by show 2 * 0 + (1 + (st.map fun v => v.category).sum) + _ ≤ _; omega) hlocks
  exact ⟨U, q1, q2, H.size, ce, q3, q4, q5, q6, by rw [q7.vm]; rfl, q7.cls⟩
theorem thr_new {p : Program} {l : Launch} {e : Env} {R : Room} {s : State} {m : MethodId} {args : Array Value} {below : List Frame} {meth : Method} {c : Code} {H : Heap} {locs : List Loc} {cells slots : Nat} {cc : ByteArray} {pc ix il ic : Nat} {ls : Array Slot} {st : List Value} {own C tx : String} {names : List String} {sa : Nat} {cC : ClassId}
    (hexec : p.tables.exec = Jvm.exec) (hb : c.code = cc) (hfl : l.flags = pinnedFlags ++ [noTraceFlag]) (hown : s.vm.findClass own = some m.cls) (hlocks : meth.locks = false) (hout : c.exceptionTable.isEmpty = true) (hsize : ls.size = c.maxLocals)
    (hcl : (Cond.classLink own ix C).before args s = true) (hins : (Cond.instantiable C 6).before args s = true) (hini : (Cond.initialized C).before args s = true) (hfc : s.vm.findClass C = some cC)
    (hldc : vk_R own il tx sa s) (hfit : Bundle.fit C = true) (hnames : ∀ n ∈ names, Bundle.fit n = true)
    (hat : ∀ U : State, U.vm = s.vm → U.heap = H → ∀ a ∈ Bundle.ownAtoms own ic C names, a.before args U = true)
    (d0 : decode cc pc = .ok (.new ix, 3)) (d3 : decode cc (pc + 3) = .ok (.dup, 1)) (d4 : decode cc (pc + 4) = .ok (.ldc il, 2)) (d6 : decode cc (pc + 6) = .ok (.invokespecial ic, 3)) (d9 : decode cc (pc + 9) = .ok (.athrow, 1))
    (hfr : names.length + 3 < R.frames) (hlo : (st.map fun v => v.category).sum + (13 * (names.length + 1) + 43) ≤ R.locals) (hcells : cells + 1 ≤ R.cells) (hslots : slots + 6 ≤ R.slots)
    (T : State) (hT : T.heap = H) (X : Stand p l e R s m args below meth c T locs cells slots) : ∃ U, Steps p.tables e below (T.setTop (F0 m pc ls st)) U ∧ thr_Q C s below locs (cells + 1) (slots + 6) H U := by
  subst hT
  have X0 := thr_rebase X (by omega) (by omega)
  have htab : ∀ (U : State) (w : Cond), U.vm = s.vm → w.onTables = true → w.before args s = true → w.before args U = true := fun U w hv hw h => va_tabs hw hv.symm h
  have hj : ∀ U : State, ({ s with heap := T.heap, slotsUsed := T.slotsUsed } : State).sameButNew U [] 1 6 → s.sameButNew U locs (cells + 1) (slots + 6) := fun U q => thr_join (t := T.setVm s.vm) X.same q
  have hwm : ∀ vm' : Vm, ({ s with heap := T.heap, slotsUsed := T.slotsUsed } : State).WarmedH vm' → s.WarmedH vm' := fun vm' q => q
  obtain ⟨sz, hsz⟩ : ∃ x : State, x = ({ s with heap := T.heap, slotsUsed := T.slotsUsed } : State) := ⟨_, rfl⟩
  have hv : sz.vm = s.vm := by rw [hsz]
  have hh : sz.heap = T.heap := by rw [hsz]
  obtain ⟨Rz, hRz⟩ : ∃ x : Room, x = ({ R with cells := R.cells - cells, slots := R.slots - slots } : Room) := ⟨_, rfl⟩
  have r1 : Rz.frames = R.frames := by rw [hRz]
  have r2 : Rz.locals = R.locals := by rw [hRz]
  have r3 : Rz.cells = R.cells - cells := by rw [hRz]
  have r4 : Rz.slots = R.slots - slots := by rw [hRz]
  rw [← hsz] at X0 hj hwm
  rw [← hRz] at X0
  obtain ⟨U, q1, q2, a, ce, q3, q4, q5, q6, q7, q8⟩ := thr_new0 (s := sz) (R := Rz) hexec hb hfl (by rw [hv]; exact hown) hlocks hout hsize (htab sz _ hv rfl hcl) (htab sz _ hv rfl hins) (htab sz _ hv rfl hini) (by rw [hv]; exact hfc) (hldc.same hv) hfit hnames hh (hat sz hv hh) d0 d3 d4 d6 d9 (by rw [r1]; exact hfr) (by rw [r2]; exact hlo) (by omega) (by omega) T rfl X0
  rw [hv] at q5 q8
  obtain ⟨p1, p2⟩ := thr_same q5
  rw [hh] at p1 p2
  exact ⟨U, q1, q2, a, ce, q3, hwm _ q4, hj _ q5, q6, q7, q8, p1, p2⟩
