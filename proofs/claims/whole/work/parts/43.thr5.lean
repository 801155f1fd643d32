/-! a call that throws, into the caller's own handler -/
set_option maxHeartbeats 1000000 in
theorem thr_callW {p : Program} {l : Launch} {e : Env} {R : Room} {s : State} {m : MethodId} {args : Array Value} {below : List Frame} {meth : Method} {c : Code} {H : Heap} {locs : List Loc} {cells slots : Nat} {Q : State → Prop} {cc : ByteArray} {pc index mc ms ny : Nat} {ls : Array Slot} {own C C2 : String} {y : MethodName} {cy : ByteArray} {ry : Option FieldType} {ws : List Cond} {rm : Room} {Pc : Array Value → State → Prop} {Qc : Array Value → State → Outcome → State → Prop} {b : Addr} {As rest : List Value} {x0 : ExceptionTableEntry} {cell0 : Cell} {Lf : List Loc → Prop}
    (hexec : p.tables.exec = Jvm.exec) (hb : c.code = cc) (hown : s.vm.findClass own = some m.cls) (hsz : ls.size = c.maxLocals)
    (hM : MetFree l y (headSpec ws rm) Pc (fun _ _ _ _ _ => True) Qc) (hQ : ∀ a st o t, Qc a st o t → (∃ (x : Addr) (ce : Cell), o = .threw x ∧ t.heap[x]? = some ce ∧ ce.vm.isStatics = false ∧ st.vm.findClass C2 = some ce.cls) ∧ st.WarmedH t.vm ∧ ∃ L, st.sameButNew ({ t with vm := st.vm } : State) L mc ms ∧ Lf L)
    (hws : ∀ w ∈ ws, ∀ (a' : Array Value) (U : State), s.WarmedH U.vm → w.before a' U = true) (hcw : Cond.code y cy ny ry ∈ ws)
    (hlink : (Cond.methodLink own index y).before args s = true) (hinst : (Cond.instanceMethod y).before args s = true) (hsel : (Cond.selects C y y).before args s = true) (hini : ∀ (a' : Array Value) (U : State), s.WarmedH U.vm → (Cond.initialized y.cls).before a' U = true) (hcode : (Cond.code y cy ny ry).before args s = true) (hy : y.cls ≠ "java/lang/invoke/MethodHandle" ∧ y.cls ≠ "java/lang/invoke/VarHandle")
    (hcell : H[b]? = some cell0) (hobj : cell0.vm.isStatics = false) (hcls : s.vm.findClass C = some cell0.cls)
    (hP : ∀ (U : State) (g : JFrame) (mk : MethodId), U.heap = H → s.WarmedH U.vm → Pc (Value.ref b :: As).toArray (U.calling g mk (Value.ref b :: As).toArray))
    (hlen : ∀ sig, parseMethodDescriptor y.desc = some sig → As.length = sig.parameters.length) (hdg : decode cc pc = .ok (.invokevirtual index, 3)) (hrest : (rest.map fun v => v.category).sum ≤ 8)
    (hfr : rm.frames + 1 ≤ R.frames) (hlo : 8 + (ny + 11) + rm.locals ≤ R.locals) (hrc : rm.cells = mc) (hrs : rm.slots = ms) (hcells : cells + mc ≤ R.cells) (hslots : slots + ms ≤ R.slots)
    (htab : c.exceptionTable.toList = [x0]) (hcov : covers x0 pc = true) (h0 : x0.catchType ≠ 0) (hcl : (Cond.classLink own x0.catchType C2).before args s = true) {cT : ClassId} (hcT : s.vm.findClass C2 = some cT) (hasg : s.vm.assignable cT cT = true)
    (kk : ∀ (x : Addr) (U0 t : State) (L : List Loc) (o : Outcome), U0.heap = H → Qc (Value.ref b :: As).toArray U0 o t → U0.sameButNew ({ t with vm := U0.vm } : State) L mc ms → Lf L → W p l e R s m args below meth c t.heap (locs ++ L) (cells + mc) (slots + ms) Q (F0 m x0.handlerPc ls [.ref x])) : W p l e R s m args below meth c H locs cells slots Q (F0 m pc ls (As.reverse ++ .ref b :: rest)) := by
  intro T hT X
  obtain ⟨mk, methM, hnamed, hmethM, hstM, habM⟩ := Cond.instanceMethod_spec hinst
  obtain ⟨methM', cM, hmethM', hcM, -, hlM, -, -, -, hsigM⟩ := Cond.code_spec hnamed hcode
  cases hmethM.symm.trans hmethM'
  obtain ⟨c2, r2, m2, q1, q2, q3, q4, kP, hkP, hkPi⟩ := Cond.selects_spec hsel
  cases hcls.symm.trans q1
  cases (State.methodFound?_of_named hnamed hy).symm.trans q2
  cases hnamed.symm.trans q3
  have hselP : selectMethod e.platform s.vm cell0.cls mk = .method mk := by rw [Launch.admits_selectMethod X.admits]; exact q4
  obtain ⟨vm₁, X₁, hstep₁⟩ := X.invokevirtual hexec hown hlink hnamed hmethM hstM hkP hkPi hy (a := b) (cell := cell0) (by rw [hT]; exact hcell)
    (fun z h => by rw [h] at hobj; cases hobj) hselP hmethM habM hkP hkPi (g := F0 m pc ls (As.reverse ++ .ref b :: rest)) rfl (argsL := As) (rest := rest) (hlen _ hsigM) rfl (by rw [hb]; exact hdg)
  obtain ⟨U, hU⟩ : ∃ z, z = T.setVm vm₁ := ⟨_, rfl⟩
  have hUh : U.heap = H := by rw [hU]; exact hT
  rw [← hU] at X₁ hstep₁
  obtain ⟨g, hg⟩ : ∃ z : JFrame, z = F0 m pc ls rest := ⟨_, rfl⟩
  have hgm : g.method = m := by rw [hg]
  have hW₁ := X₁.warmed
  have hn : U.methodNamed? y = some mk := X₁.named hnamed
  obtain ⟨methY, cY, hmY, hcY, -, hlY, -, -, -, -⟩ := Cond.code_spec hn (hws _ hcw (Value.ref b :: As).toArray U hW₁)
  obtain ⟨kY, hkY, -⟩ := className_of_methodNamed hn
  have hinitY : kY.init = .initialized := Cond.initialized_spec (findClass_of_methodNamed hn) hkY (hini (Value.ref b :: As).toArray U hW₁)
  have h : At U g.method c below := by rw [hgm]; exact X₁.here
  have hdg' : decode c.code g.pc = .ok (.invokevirtual index, 3) := by rw [hb, hg]; exact hdg
  have happ : (headSpec ws rm).appliesLoose y e.platform (U.calling g mk (Value.ref b :: As).toArray) = true :=
    Spec.appliesLoose_calling (g := g) h hdg' hn hkY hinitY
      (X₁.room_calling (g := g) (R' := (headSpec ws rm).room) (by rw [hg]; exact hsz) hmY hcY hfr (by
        rw [hlY, hg]
        show 2 * 0 + (rest.map fun v => v.category).sum + (ny + 11) + rm.locals ≤ R.locals
        omega) (by show cells + rm.cells ≤ R.cells; omega) (by show slots + rm.slots ≤ R.slots; omega)) (atoms_intro fun w hw => hws w hw _ _ hW₁)
  obtain ⟨mid, hmid⟩ := h.above
  have hfrm : (U.setTop g).frames = (.java g :: mid) ++ below := by rw [State.frames_setTop' g h.top, hmid]; rfl
  obtain ⟨o, s₂, hsteps, -, hend, hq⟩ := Steps.callFree hM p X₁.admits X₁.cas X₁.clock (acts := []) hfrm happ (hP U g mk hUh hW₁) trivial
  obtain ⟨⟨x, ce, rfl, hce1, hce2, hce3⟩, hWq, L, hsb, hLf⟩ := hQ _ _ _ _ hq
  rw [State.frames_setTop' g h.top] at hend
  have hsb' : (U.calling g mk (Value.ref b :: As).toArray).sameButNew ({ s₂ with vm := (U.calling g mk (Value.ref b :: As).toArray).vm } : State) L mc ms := hsb
  obtain ⟨e2, r2', r3, r4, r5, r6⟩ := hsb'
  have e3 : s₂ = ({ (U.calling g mk (Value.ref b :: As).toArray).setFrames s₂.frames with heap := s₂.heap, slotsUsed := s₂.slotsUsed } : State).setVm s₂.vm := by
    have : s₂ = ({ s₂ with vm := (U.calling g mk (Value.ref b :: As).toArray).vm } : State).setVm s₂.vm := rfl
    rw [e2] at this
    exact this
  have hW' : U.WarmedH s₂.vm := hWq
  have hf₂ : s₂.frames = .throwing x :: .java g :: U.frames.tail := hend
  obtain ⟨g₀, hg0⟩ := Option.isSome_iff_exists.mp h.top
  obtain ⟨r, hr⟩ := State.topJava?_eq_some.mp hg0
  have hs₂ : s₂ = (({ U with heap := s₂.heap, slotsUsed := s₂.slotsUsed } : State).setVm s₂.vm).setFrames (.throwing x :: .java g :: below) := by
    refine e3.trans ?_
    rw [hf₂, State.calling_eq h.top, State.setFrames_setFrames, X₁.tail]
    rfl
  have hsame : U.sameButNew ({ U with heap := s₂.heap, slotsUsed := s₂.slotsUsed } : State) L mc ms := by
    refine ⟨?_, r2', r3, r4, r5, r6⟩
    obtain ⟨t, ht, -⟩ := State.frames_cons hr
    show ({ U with heap := s₂.heap, slotsUsed := s₂.slotsUsed } : State) = { U.setFrames U.frames with heap := s₂.heap, slotsUsed := s₂.slotsUsed }
    rw [State.setFrames_self ht]
  have X₂ : Stand p l e R s m args below meth c (({ U with heap := s₂.heap, slotsUsed := s₂.slotsUsed } : State).setVm s₂.vm) (locs ++ L) (cells + mc) (slots + ms) :=
    ⟨X₁.admits, X₁.cas, X₁.clock, X₁.frames, X₁.room, X₁.hears, X₁.method, X₁.code, (X₁.here.setHeapUsed s₂.heap s₂.slotsUsed).setVm hW'.alike, X₁.tail, State.WarmedH.trans X₁.warmed hW', X₁.limits, X₁.bytes, X₁.same.trans (hsame.setVm s.vm)⟩
  have hceT : ce.cls = cT := by
    have e1 : U.vm.findClass C2 = some ce.cls := hce3
    rw [hW₁.alike.findClass, hcT] at e1
    exact (Option.some.inj e1).symm
  obtain ⟨vm', X₃, hst3⟩ := X₂.caughtLink x (g := g) hgm hown [] x0 [] htab (fun y hy => by cases hy) (by rw [hg]; exact hcov) h0 hcl hcT (cell := ce) hce1 hce2 (by rw [hceT]; exact hasg)
  obtain ⟨t, t1, t2⟩ := kk x (U.calling g mk (Value.ref b :: As).toArray) s₂ L _ hUh hq hsb hLf ((({ U with heap := s₂.heap, slotsUsed := s₂.slotsUsed } : State).setVm s₂.vm).setVm vm') rfl X₃
  refine ⟨t, hstep₁ _ (fun acts => ?_), t2⟩
  rw [doInvoke_state]
  show Steps p.tables e below (doInvoke e (U.setTop (F0 m pc ls rest)) [] mk (Value.ref b :: As).toArray).fst t
  rw [← hg]
  refine hsteps.trans ?_
  rw [hs₂]
  refine hst3 _ ?_
  rw [hg]
  exact t1
