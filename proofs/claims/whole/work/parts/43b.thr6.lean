/-! methods with a handler: their contracts; a call that throws into the handler -/
def gh_JX (X : GX) : Prop :=
  match X with
  | (_, _, s, _, _, _, _, _, A, _) => gh_J A s s.heap
def gh_HX (X : GX) (h : Nat × Nat × Nat × Nat) : Prop :=
  match X with
  | (_, _, _, _, _, _, _, c, _, _) => c.exceptionTable.toList.map (fun h => (h.startPc, h.endPc, h.handlerPc, h.catchType)) = [h]
def gMetW (l : Launch) (G : GG) (y : MethodName) (cc : ByteArray) (nL : Nat) (ret : Option FieldType) (h : Nat × Nat × Nat × Nat) (rm : Room) (av : List Value) (g : GH) (Post : Option Value → GH → Prop) : Prop := ∀ sz : Nat, Met l y (.codeWith y cc nL ret [h] :: gTbl) rm (va_Pc av (fun U => U.heap.size = sz ∧ gh_P G.1 g U.heap ∧ gh_C G (gh_A g sz) U U.heap ∧ gh_J (gh_A g sz) U U.heap)) (gh_Q G g sz Post) rm.cells rm.slots (gh_A g sz)
theorem gMetW.of {l : Launch} {G : GG} {y : MethodName} {cc : ByteArray} {nL : Nat} {ret : Option FieldType} {hh : Nat × Nat × Nat × Nat} {rm : Room} {av : List Value} {g : GH} {Post : Option Value → GH → Prop} (lv0 : List (Option Value)) (hy : plainName y.cls = true) (hav : av.all (fun w => w.category == 1) = true) (hn : av.length ≤ nL) (hlv : av.map some ++ List.replicate (nL - av.length) none = lv0)
    (h : ∀ X : GX, gh_K G X cc nL y.cls → gh_HX X hh → gh_JX X → gh_E G X ret rm.cells rm.slots Post → gh_W l G rm X g 0 0 lv0 0 []) : gMetW l G y cc nL ret hh rm av g Post := by
  intro sz
  refine va_MetW (cc := cc) (maxL := nL) (ret := ret) (hh := [hh]) hy rfl ?_
  intro p e s m args below meth c s₁ B hml hv
  obtain ⟨rfl, hsz, hP, hC, hJ⟩ := hv
  subst hsz
  have hts := atoms_spec (ws := .codeWith y cc nL ret [hh] :: gTbl) B.pre
  have hown : s.vm.findClass y.cls = some m.cls := findClass_of_methodNamed B.named
  obtain ⟨m', meth', c', q0, q1, q2, -, -, q3, -⟩ := Cond.codeWith_spec (hts _ List.mem_cons_self)
  cases B.named.symm.trans q0
  cases B.method.symm.trans q1
  have q4 : s₁.code? m = some c := B.here.code
  rw [State.code?_eq, B.state] at q4
  have q5 : (s.vm.method? m).bind (fun k => k.code) = some c := q4
  rw [q1] at q5
  cases q2.symm.trans q5
  rw [lg_entry_eq]
  exact h (p, e, s, m, av.toArray, below, meth, c, gh_A g s.heap.size, MQ below (gh_Q G g s.heap.size Post) av.toArray s rm.cells rm.slots (gh_A g s.heap.size)) ⟨B.exec, B.bytes, hml, hown, fun w hw => hts w (List.mem_cons_of_mem _ hw), hC, fun q hq => Or.inr hq⟩ q3 hJ ⟨B.returns, B.notSynchronized, g, rfl, rfl⟩ s.heap [] _ hP (fun a ha => Or.inl ha) va_S.rf (gh_entry (fun w hw => by simpa using List.all_eq_true.mp hav w hw) hn hlv)
section GHT
variable {l : Launch} {G : GG} {R : Room} {X : GX} {cc : ByteArray} {nL : Nat} {own : String} {g : GH} {k n pc : Nat} {lv : List (Option Value)} {st : List Value} {Post : Option Value → GH → Prop}
theorem gh_preJ {s : State} {H : Heap} {A : Nat → Prop} {locs : List Loc} (hP : gh_P G.1 g H) (hAa : ∀ a, g a ≠ none → A a) (hS : va_S A s.heap H locs) (hA : ∀ q, s.heap.size ≤ q → A q) (hC : gh_C G A s s.heap) (hJ : gh_J A s s.heap) (As : List Value) : PreS s H (va_Pc As (fun U => U.heap.size = H.size ∧ gh_P G.1 g U.heap ∧ gh_C G (gh_A g H.size) U U.heap ∧ gh_J (gh_A g H.size) U U.heap)) As := by
  have hF : ∀ q, gh_A g H.size q → A q := fun q h => by
    rcases h with h | h
    · exact hAa q h
    · exact hA q (Nat.le_trans hS.1 h)
  refine ⟨fun a U f mk q => ?_, fun U hU hW => ?_⟩
  · obtain ⟨q1, q2, q3, q4, q5⟩ := q
    exact ⟨q1, q2, q3, gh_C.same (u := U) (U := U.calling f mk a) rfl q4, gh_J.moved (u := U) (U := U.calling f mk a) (Vm.Alike.refl _) q5⟩
  · refine ⟨rfl, by rw [hU], by rw [hU]; exact hP, ?_, ?_⟩
    · rw [hU]
      exact ((gh_C.kept hS.2.1 hC).narrow hF).warm hW
    · rw [hU]
      exact ((hJ.kept hS.2.1).narrow hF).moved hW.alike
theorem gh_callT {y : MethodName} {cy : ByteArray} {ny na index : Nat} {ry : Option FieldType} {rm : Room} {rest : List Value} {b t ci : Nat} {fs : List Value} {T : u_T} {N : Nat} {C2 : String} {a1 a2 a3 a4 : Nat} (As : List Value) (hK : gh_K G X cc nL own) (hH : gh_HX X (a1, a2, a3, a4)) (hJ : gh_JX X) (hM : gThr l G y cy ny ry rm (.ref b :: As) g C2) (hY : gh_Y y cy ny ry na) (hV : Cond.instanceMethod y ∈ gTbl ∧ Cond.selects y.cls y y ∈ gTbl) (hlk : Cond.methodLink own index y ∈ gTbl) (hb0 : g b = some (t, .inr (ci, fs))) (hc : vwCl[ci]? = some (y.cls, T, N)) (hst : st = As.reverse ++ .ref b :: rest) (hd : decode cc pc = .ok (.invokevirtual index, 3)) (hna : As.length = na) (hlv : lv.length = nL) (hrest : (rest.map fun v => v.category).sum ≤ 8) (hR : rm.frames + 1 ≤ R.frames ∧ 8 + (ny + 11) + rm.locals ≤ R.locals) (hf : k + rm.cells ≤ R.cells ∧ n + rm.slots ≤ R.slots)
    (hpc : a1 ≤ pc ∧ pc < a2) (h0 : a4 ≠ 0) (hcl : Cond.classLink own a4 C2 ∈ gTbl) (hca : ∀ s : State, gh_X G s → va_Nw (.castable C2 C2) s)
    (kk : ∀ x : Nat, gh_W l G R X g (k + rm.cells) (n + rm.slots) lv a3 [.ref x]) : gh_W l G R X g k n lv pc st := by
  obtain ⟨p, e, s, m, args, below, meth, c, A, Q⟩ := X
  obtain ⟨hx, hb, hml, hown, hts, hC, hA⟩ := hK
  intro H locs ls hP hAa hS hl
  have hF : ∀ q, gh_A g H.size q → A q := fun q h => by
    rcases h with h | h
    · exact hAa q h
    · exact hA q (Nat.le_trans hS.1 h)
  obtain ⟨hbl, hpre⟩ := gh_preJ hP hAa hS hA hC hJ (.ref b :: As)
  obtain ⟨cellB, v1, v2, v3⟩ : ∃ cellB : Cell, H[b]? = some cellB ∧ cellB.vm.isStatics = false ∧ s.vm.findClass y.cls = some cellB.cls := va_recv (ws := [(b, .inr (ci, fs))]) hC.1 (fun i q hi => by
    have hz : i < 1 := (List.getElem?_eq_some_iff.mp hi).1
    rw [show i = 0 by omega] at hi
    cases hi
    exact hP b t _ hb0) (ci := ci) (q := (y.cls, T, N)) (q0 := 0) hc rfl
  obtain ⟨x0, hx0⟩ : ∃ x0, c.exceptionTable.toList = [x0] := by
    have hH : c.exceptionTable.toList.map (fun h => (h.startPc, h.endPc, h.handlerPc, h.catchType)) = [(a1, a2, a3, a4)] := hH
    cases hc : c.exceptionTable.toList with
    | nil => rw [hc] at hH; cases hH
    | cons z zs =>
      cases zs with
      | nil => exact ⟨z, rfl⟩
      | cons w ws => rw [hc] at hH; cases hH
  have hxx : (x0.startPc, x0.endPc, x0.handlerPc, x0.catchType) = (a1, a2, a3, a4) := by
    have hH : c.exceptionTable.toList.map (fun h => (h.startPc, h.endPc, h.handlerPc, h.catchType)) = [(a1, a2, a3, a4)] := hH
    rw [hx0] at hH
    exact (List.cons.inj hH).1
  injection hxx with e1 e2
  injection e2 with e2 e3
  injection e3 with e3 e4
  obtain ⟨cT, cT2, k1, k2, k3⟩ := Cond.castable_spec (va_Nw.use (A := args) rfl (hca s hC.2.1.2.2.2.2.2.2.2))
  cases k1.symm.trans k2
  subst hst
  have g1 := gh_good (own := own) (R := R) hts hY hlk hR
  refine thr_callW (s := s) (mc := rm.cells) (ms := rm.slots) (x0 := x0) (Lf := fun L => ∀ q ∈ L, gh_A g H.size q.base) (C := y.cls) (C2 := C2) (cT := cT) hx hb hown (by rw [hl.1, hlv, hml]) (hM H.size) (fun a st o t hq => ⟨hq.1, hq.2.2.2.1, ?_⟩) g1.2.2.2.2.1 g1.2.2.2.2.2.1 (hts _ hlk) (hts _ hV.1) (hts _ hV.2) (fun a' U hW => word_at hW (gTbl_good _ hY.2.1) (hts _ hY.2.1)) g1.2.2.2.2.2.2.1 ⟨hY.2.2.1, hY.2.2.2.1⟩ v1 v2 v3 (fun U f mk hU hW => hbl _ _ _ _ (hpre U hU hW)) (fun sig h => hna.trans (g1.2.2.2.2.2.2.2.2.2.1 sig h)) hd hrest hR.1 hR.2 rfl rfl hf.1 hf.2 hx0 (by simp [covers, e1, e2, hpc]) (by rw [e4]; exact h0) (by rw [e4]; exact hts _ hcl) k1 k3 (fun x U0 t L o hU hq hsb hLf => ?_)
  · obtain ⟨L, q1, q2⟩ := hq.2.2.2.2
    exact ⟨L, q1, q2⟩
  · obtain ⟨-, z1, ⟨z2, z3⟩, -⟩ := hq
    rw [hU] at z2 z3
    rw [e3]
    exact kk x t.heap (locs ++ L) ls z1 hAa ⟨Nat.le_trans hS.1 z2, fun q h1 h2 => by rw [z3 q (Nat.lt_of_lt_of_le h1 hS.1) (fun z => h2 (hF q z))]; exact hS.2.1 q h1 h2, fun q hq => by
      rcases List.mem_append.mp hq with h | h
      · exact hS.2.2 q h
      · exact hF _ (hLf q h)⟩ hl
theorem gh_callSW {y : MethodName} {cy : ByteArray} {ny na index : Nat} {ry : Option FieldType} {hh : Nat × Nat × Nat × Nat} {rm : Room} {rest : List Value} (As : List Value) (hK : gh_K G X cc nL own) (hJ : gh_JX X) (hM : gMetW l G y cy ny ry hh rm As g Post) (hw : Cond.codeWith y cy ny ry [hh] ∈ gTbl) (hini : Cond.initialized y.cls ∈ gTbl) (hna : (parseMethodDescriptor y.desc).map (fun d => d.parameters.length) = some na) (hnm : y.cls ≠ "java/lang/invoke/MethodHandle" ∧ y.cls ≠ "java/lang/invoke/VarHandle") (hV : Cond.static y ∈ gTbl) (hlk : Cond.methodLink own index y ∈ gTbl) (hst : st = As.reverse ++ rest) (hd : decode cc pc = .ok (.invokestatic index, 3)) (hnl : As.length = na) (hlv : lv.length = nL) (hrest : (rest.map fun v => v.category).sum ≤ 8) (hR : rm.frames + 1 ≤ R.frames ∧ 8 + (ny + 11) + rm.locals ≤ R.locals) (hf : k + rm.cells ≤ R.cells ∧ n + rm.slots ≤ R.slots)
    (kk : ∀ (v : Option Value) (g' : GH), Post v g' → gh_W l G R X g' (k + rm.cells) (n + rm.slots) lv (pc + 3) (v.toList ++ rest)) : gh_W l G R X g k n lv pc st := by
  obtain ⟨p, e, s, m, args, below, meth, c, A, Q⟩ := X
  obtain ⟨hx, hb, hml, hown, hts, hC, hA⟩ := hK
  intro H locs ls hP hAa hS hl
  obtain ⟨hbl, hpre⟩ := gh_preJ hP hAa hS hA hC hJ As
  subst hst
  refine gh_back hP hAa hS hl hA (a := As.toArray) (mc := rm.cells) (ms := rm.slots) ?_ kk
  have hws : ∀ w ∈ (Cond.codeWith y cy ny ry [hh] :: gTbl), ∀ (a' : Array Value) (U : State), s.WarmedH U.vm → w.before a' U = true := fun w h a' U hW => by
    have h' : w ∈ gTbl := by
      rcases List.mem_cons.mp h with e | e
      · rw [e]; exact hw
      · exact e
    exact word_at hW (gTbl_good w h') (hts w h')
  have hB : Back l R p e below s args y 3 8 (PreOf R rm.cells rm.slots _) (PostOf (gh_Q G g H.size Post) rm.cells rm.slots (gh_A g H.size)) := va_backW (hh := [hh]) (bytes := cy) (maxL := ny) (ret := ry) (hM H.size) hbl rfl rfl hR.1 hR.2 hws List.mem_cons_self (fun a' U hW => word_at hW (gTbl_good _ hini) (hts _ hini))
  obtain ⟨mk, methM, cM, hnamed, hmethM, -, -, -, -, -, -, hsigM⟩ := Cond.codeWith_spec (hts _ hw)
  have hstatic : methM.isStatic = true := Cond.static_spec hnamed hmethM (hts _ hV)
  obtain ⟨kP, hkP, -⟩ := className_of_methodNamed hnamed
  have hinitP : kP.init = .initialized := Cond.initialized_spec (findClass_of_methodNamed hnamed) hkP (hts _ hini)
  intro T hT Xs
  obtain ⟨vm₁, X₁, hstep₁⟩ := Xs.invokestatic hx hown (hts _ hlk) hnamed hmethM hstatic hkP hinitP hnm (g := F0 m pc ls (As.reverse ++ rest)) rfl (argsL := As) (rest := rest) (by
    rw [hsigM] at hna
    exact hnl.trans (Option.some.inj hna).symm) rfl (by rw [hb]; exact hd)
  obtain ⟨v, ⟨U', l2, c2, s2⟩, X', ⟨g', mk', t, L, e1, e2, hq, h1, hL, h2, h3⟩, st⟩ := hB m meth c ⟨T.setVm vm₁, locs, k, n⟩ (F0 m pc ls rest) (.invokestatic index) mk As.toArray X₁ rfl (by rw [hml, ← hlv]; exact hl.1) (by rw [hb]; exact hd) (lv_room hrest) (X₁.named hnamed) ⟨hf.1, hf.2, hpre _ hT X₁.warmed⟩
  dsimp only [Pt.U, Pt.locs, Pt.cells, Pt.slots] at X' e1 e2 h1 h2 h3 st
  subst h1; subst h2; subst h3
  exact ⟨v, (T.setVm vm₁).calling g' mk' As.toArray, t, U', L, hT, X', hL, e1, e2, hq, fun target h => hstep₁ _ fun acts => by rw [doInvoke_state]; exact st.trans h⟩
end GHT
