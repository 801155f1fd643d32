section GHR3
variable {l : Launch} {G : GG} {R : Room} {X : GX} {cc : ByteArray} {nL : Nat} {own : String} {g : GH} {k n pc : Nat} {lv : List (Option Value)} {st : List Value}
theorem gh_newc {N t0 : Nat} {cA : ClassId} {x : Int32} (t : Nat) (hK : gh_K G X cc nL own) (hd : decode cc pc = .ok (.newarray .char, 2)) (ht : (gh_tys G)[t0]? = some (cA, .char)) (hw : Cond.arrayClass .char ∈ gTbl) (hxN : x = nI N) (hN : N < 65536) (hcells : k + 1 ≤ R.cells) (hslots : n + N ≤ R.slots) (kk : ∀ a : Nat, g a = none → gh_W l G R X (gh_up g a t (.inl (cA, N, .inl (fun _ => 0)))) (k + 1) (n + N) lv (pc + 2) (.ref a :: st)) : gh_W l G R X g k n lv pc (.int x :: st) := by
  obtain ⟨p, e, s, m, args, below, meth, c, A, Q⟩ := X
  obtain ⟨hx, hb, hml, hown, hts, hC, hA⟩ := hK
  intro H locs ls hP hAa hS hl
  subst hxN
  obtain ⟨ws, w1, w2, w3, w4⟩ := gh_list hP hAa
  have hby : N * componentBytes .char ≤ 536870912 := by
    have h8 : componentBytes .char ≤ 8 := by decide
    exact Nat.le_trans (Nat.mul_le_mul (Nat.le_of_lt hN) h8) (by decide)
  refine va_newa (atype := .char) (N' := N) (a0 := (N, .inl (fun _ => 0))) hx hb (hts _ hw) (ty := .char) rfl hC.1 w1 w2 hS hA (fun cA => rfl) (nI_pos (by omega)) (nI_clamp (by omega)) hby hcells hslots hd (fun q cB H1 hK1 h1 h2 h3 => ?_)
  have e : cB = cA := by
    have z1 := (hK1.2 (gh_tys G).length (cB, .char) (by rw [List.getElem?_append_right (Nat.le_refl _), Nat.sub_self]; rfl)).2
    have z2 := (hC.1.2 t0 (cA, .char) ht).2
    exact Option.some.inj (z1.symm.trans z2)
  subst e
  obtain ⟨z1, z2⟩ := gh_push t w3 h1 h2
  refine kk q z1 H1 locs ls z2 (fun b hb => ?_) h3 hl
  by_cases hba : b = q
  · rw [hba]
    exact h2.2 ws.length (q, _) (by rw [List.getElem?_append_right (Nat.le_refl _), Nat.sub_self]; rfl)
  · rw [gh_un hba] at hb; exact hAa b hb
theorem gh_newi {N t0 : Nat} {cA : ClassId} {x : Int32} (t : Nat) (hK : gh_K G X cc nL own) (hd : decode cc pc = .ok (.newarray .int, 2)) (ht : (gh_tys G)[t0]? = some (cA, .int)) (hw : Cond.arrayClass .int ∈ gTbl) (hxN : x = nI N) (hN : N < 65536) (hcells : k + 1 ≤ R.cells) (hslots : n + N ≤ R.slots) (kk : ∀ a : Nat, g a = none → gh_W l G R X (gh_up g a t (.inl (cA, N, .inl (fun _ => 0)))) (k + 1) (n + N) lv (pc + 2) (.ref a :: st)) : gh_W l G R X g k n lv pc (.int x :: st) := by
  obtain ⟨p, e, s, m, args, below, meth, c, A, Q⟩ := X
  obtain ⟨hx, hb, hml, hown, hts, hC, hA⟩ := hK
  intro H locs ls hP hAa hS hl
  subst hxN
  obtain ⟨ws, w1, w2, w3, w4⟩ := gh_list hP hAa
  have hby : N * componentBytes .int ≤ 536870912 := by
    have h8 : componentBytes .int ≤ 8 := by decide
    exact Nat.le_trans (Nat.mul_le_mul (Nat.le_of_lt hN) h8) (by decide)
  refine va_newa (atype := .int) (N' := N) (a0 := (N, .inl (fun _ => 0))) hx hb (hts _ hw) (ty := .int) rfl hC.1 w1 w2 hS hA (fun cA => rfl) (nI_pos (by omega)) (nI_clamp (by omega)) hby hcells hslots hd (fun q cB H1 hK1 h1 h2 h3 => ?_)
  have e : cB = cA := by
    have z1 := (hK1.2 (gh_tys G).length (cB, .int) (by rw [List.getElem?_append_right (Nat.le_refl _), Nat.sub_self]; rfl)).2
    have z2 := (hC.1.2 t0 (cA, .int) ht).2
    exact Option.some.inj (z1.symm.trans z2)
  subst e
  obtain ⟨z1, z2⟩ := gh_push t w3 h1 h2
  refine kk q z1 H1 locs ls z2 (fun b hb => ?_) h3 hl
  by_cases hba : b = q
  · rw [hba]
    exact h2.2 ws.length (q, _) (by rw [List.getElem?_append_right (Nat.le_refl _), Nat.sub_self]; rfl)
  · rw [gh_un hba] at hb; exact hAa b hb
end GHR3
/-! contracts -/
def gh_ws (y : MethodName) (cc : ByteArray) (nL : Nat) (ret : Option FieldType) : List Cond := .code y cc nL ret :: gTbl
def gh_Q (G : GG) (g0 : GH) (sz : Nat) (Post : Option Value → GH → Prop) : Array Value → State → Outcome → State → Prop := fun _ st oc t => (∃ (v : Option Value) (g' : GH), oc = .returned v ∧ Post v g' ∧ gh_P G.1 g' t.heap ∧ ∀ a, g' a ≠ none → gh_A g0 sz a) ∧ va_F (gh_A g0 sz) st t
def gMet (l : Launch) (G : GG) (y : MethodName) (cc : ByteArray) (nL : Nat) (ret : Option FieldType) (rm : Room) (av : List Value) (g : GH) (Post : Option Value → GH → Prop) : Prop := ∀ sz : Nat, Met l y (gh_ws y cc nL ret) rm (va_Pc av (fun U => U.heap.size = sz ∧ gh_P G.1 g U.heap ∧ gh_C G (gh_A g sz) U U.heap)) (gh_Q G g sz Post) rm.cells rm.slots (gh_A g sz)
/-- what a method's own walk ends in -/
def gh_E (G : GG) (X : GX) (ret : Option FieldType) (mc ms : Nat) (Post : Option Value → GH → Prop) : Prop :=
  match X with
  | (_, _, s, _, args, below, meth, _, A, Q) => meth.sig.returnType = ret ∧ meth.locks = false ∧ ∃ g0 : GH, A = gh_A g0 s.heap.size ∧ Q = MQ below (gh_Q G g0 s.heap.size Post) args s mc ms A
/-- the words of a method: its code, its class, how many arguments -/
def gh_Y (y : MethodName) (cc : ByteArray) (nL : Nat) (ret : Option FieldType) (na : Nat) : Prop := Cond.code y cc nL ret ∈ gTbl ∧ Cond.initialized y.cls ∈ gTbl ∧ y.cls ≠ "java/lang/invoke/MethodHandle" ∧ y.cls ≠ "java/lang/invoke/VarHandle" ∧ (parseMethodDescriptor y.desc).map (fun d => d.parameters.length) = some na
theorem gMet.of {l : Launch} {G : GG} {y : MethodName} {cc : ByteArray} {nL : Nat} {ret : Option FieldType} {rm : Room} {av : List Value} {g : GH} {Post : Option Value → GH → Prop} (lv0 : List (Option Value)) (hy : plainFor y = true) (hav : av.all (fun w => w.category == 1) = true) (hn : av.length ≤ nL) (hlv : av.map some ++ List.replicate (nL - av.length) none = lv0)
    (h : ∀ X : GX, gh_K G X cc nL y.cls → (y.name = "<init>" → gh_I X) → gh_E G X ret rm.cells rm.slots Post → gh_W l G rm X g 0 0 lv0 0 []) : gMet l G y cc nL ret rm av g Post := by
  intro sz
  refine va_MetF (cc := cc) (maxL := nL) (ret := ret) hy rfl ?_
  intro p e s m args below meth c s₁ B hml hv
  obtain ⟨rfl, hsz, hP, hC⟩ := hv
  subst hsz
  have hts := atoms_spec (ws := gh_ws y cc nL ret) B.pre
  have hown : s.vm.findClass y.cls = some m.cls := findClass_of_methodNamed B.named
  rw [lg_entry_eq]
  exact h (p, e, s, m, av.toArray, below, meth, c, gh_A g s.heap.size, MQ below (gh_Q G g s.heap.size Post) av.toArray s rm.cells rm.slots (gh_A g s.heap.size)) ⟨B.exec, B.bytes, hml, hown, fun w hw => hts w (List.mem_cons_of_mem _ hw), hC, fun q hq => Or.inr hq⟩ (fun hi => by
    have := (name_of_methodNamed B.named B.method).1
    rw [hi] at this
    exact this) ⟨B.returns, B.notSynchronized, g, rfl, rfl⟩ s.heap [] _ hP (fun a ha => Or.inl ha) va_S.rf (gh_entry (fun w hw => by simpa using List.all_eq_true.mp hav w hw) hn hlv)
section GHR4
variable {l : Launch} {G : GG} {R : Room} {X : GX} {cc : ByteArray} {nL : Nat} {own : String} {g : GH} {k n pc mc ms : Nat} {lv : List (Option Value)} {st : List Value} {Post : Option Value → GH → Prop} {ret : Option FieldType}

theorem gh_iret {v : Int32} (hK : gh_K G X cc nL own) (hE : gh_E G X (some .int) mc ms Post) (hd : decode cc pc = .ok (.ireturn, 1)) (hk : k ≤ mc) (hn : n ≤ ms) (hp : Post (some (.int v)) g) : gh_W l G R X g k n lv pc [.int v] := by
  obtain ⟨p, e, s, m, args, below, meth, c, A, Q⟩ := X
  obtain ⟨hx, hb, hml, hown, hts, hC, hA⟩ := hK
  intro H locs ls hP hAa hS hl
  obtain ⟨hr, hlk, g0, rfl, rfl⟩ := hE
  refine W.widen hk hn ?_
  exact W.iret hx hb hr (fun t ht hW => ⟨⟨(some (.int v)), g, rfl, hp, by rw [ht]; exact hP, hAa⟩, hS.F ht⟩) hS.2.2 hd hlk
theorem gh_zret {v : Int32} {ty : FieldType} (hnar : narrow ty (.int v) = .int v) (hK : gh_K G X cc nL own) (hE : gh_E G X (some ty) mc ms Post) (hd : decode cc pc = .ok (.ireturn, 1)) (hk : k ≤ mc) (hn : n ≤ ms) (hp : Post (some (.int v)) g) : gh_W l G R X g k n lv pc [.int v] := by
  obtain ⟨p, e, s, m, args, below, meth, c, A, Q⟩ := X
  obtain ⟨hx, hb, hml, hown, hts, hC, hA⟩ := hK
  intro H locs ls hP hAa hS hl
  obtain ⟨hr, hlk, g0, rfl, rfl⟩ := hE
  refine W.widen hk hn ?_
  exact W.zret hx hb hr hnar (fun t ht hW => ⟨⟨(some (.int v)), g, rfl, hp, by rw [ht]; exact hP, hAa⟩, hS.F ht⟩) hS.2.2 hd hlk
theorem gh_vret (hK : gh_K G X cc nL own) (hE : gh_E G X none mc ms Post) (hd : decode cc pc = .ok (.return_, 1)) (hk : k ≤ mc) (hn : n ≤ ms) (hp : Post none g) : gh_W l G R X g k n lv pc [] := by
  obtain ⟨p, e, s, m, args, below, meth, c, A, Q⟩ := X
  obtain ⟨hx, hb, hml, hown, hts, hC, hA⟩ := hK
  intro H locs ls hP hAa hS hl
  obtain ⟨hr, hlk, g0, rfl, rfl⟩ := hE
  refine W.widen hk hn ?_
  exact W.vret hx hb hr (fun t ht hW => ⟨⟨none, g, rfl, hp, by rw [ht]; exact hP, hAa⟩, hS.F ht⟩) hS.2.2 hd hlk
theorem gh_aret {v : Value} {ty : FieldType} (hty : (∃ n, ty = .object n) ∨ ∃ t, ty = .array t) (hv : v = .null ∨ ∃ a, v = .ref a) (hK : gh_K G X cc nL own) (hE : gh_E G X (some ty) mc ms Post) (hd : decode cc pc = .ok (.areturn, 1)) (hk : k ≤ mc) (hn : n ≤ ms) (hp : Post (some v) g) : gh_W l G R X g k n lv pc [v] := by
  obtain ⟨p, e, s, m, args, below, meth, c, A, Q⟩ := X
  obtain ⟨hx, hb, hml, hown, hts, hC, hA⟩ := hK
  intro H locs ls hP hAa hS hl
  obtain ⟨hr, hlk, g0, rfl, rfl⟩ := hE
  refine W.widen hk hn ?_
  exact W.aret hx hb hr hty hv (fun t ht hW => ⟨⟨(some v), g, rfl, hp, by rw [ht]; exact hP, hAa⟩, hS.F ht⟩) hS.2.2 hd hlk
/-- behind a call -/
theorem gh_back {p : Program} {e : Env} {s : State} {m : MethodId} {args : Array Value} {below : List Frame} {meth : Method} {c : Code} {H : Heap} {locs : List Loc} {ls : Array Slot} {Q : State → Prop} {A : Nat → Prop} {rest st0 : List Value} {a : Array Value} (hP : gh_P G.1 g H) (hAa : ∀ a, g a ≠ none → A a) (hS : va_S A s.heap H locs) (hl : gh_L ls lv) (hA : ∀ q, s.heap.size ≤ q → A q)
    (hr : va_Run p l e R s m args below meth c H locs k n mc ms (F0 m pc ls st0) rest (gh_Q G g H.size Post a) (gh_A g H.size))
    (kk : ∀ (v : Option Value) (g' : GH), Post v g' → gh_W l G R (p, e, s, m, args, below, meth, c, A, Q) g' (k + mc) (n + ms) lv (pc + 3) (v.toList ++ rest)) : W p l e R s m args below meth c H locs k n Q (F0 m pc ls st0) := by
  have hF : ∀ q, gh_A g H.size q → A q := fun q h => by
    rcases h with h | h
    · exact hAa q h
    · exact hA q (Nat.le_trans hS.1 h)
  intro T hT X
  obtain ⟨v, st₀, t, T', L, h0, X', hL, e1, e2, ⟨⟨v', g', hv, hp, hP', hA'⟩, hz, hk⟩, st⟩ := hr T hT X
  cases hv
  rw [h0] at hz hk
  obtain ⟨t2, a1, b1⟩ := kk v g' hp T'.heap (locs ++ L) ls (by rw [e1]; exact hP') (fun a ha => hF a (hA' a ha))
    ⟨Nat.le_trans hS.1 (by rw [e1]; exact hz), fun q h1 h2 => by rw [e1, hk q (Nat.lt_of_lt_of_le h1 hS.1) (fun z => h2 (hF q z))]; exact hS.2.1 q h1 h2, fun q hq => by
      rcases List.mem_append.mp hq with h | h
      · exact hS.2.2 q h
      · exact hF _ (hL q h)⟩ hl T' rfl X'
  exact ⟨t2, st t2 a1, b1⟩
theorem gh_good {args : Array Value} {s : State} {y : MethodName} {cy : ByteArray} {ny na : Nat} {ry : Option FieldType} {rm : Room} {idx : Nat} (hts : ∀ w ∈ gTbl, w.before args s = true) (hY : gh_Y y cy ny ry na) (hl : Cond.methodLink own idx y ∈ gTbl) (hR : rm.frames + 1 ≤ R.frames ∧ 8 + (ny + 11) + rm.locals ≤ R.locals) : CallB R s args own idx y cy ny ry (gh_ws y cy ny ry) rm rm.cells rm.slots na :=
  callB_of na hts (fun w hw => by
    rcases List.mem_cons.mp hw with h | h
    · rw [h]; exact ⟨hY.1, gTbl_good _ hY.1⟩
    · exact ⟨h, gTbl_good _ h⟩) rfl rfl rfl (hts _ hY.2.1) (hts _ hl) hY.2.2 hR
theorem gh_pre {s : State} {H : Heap} {A : Nat → Prop} {locs : List Loc} (hP : gh_P G.1 g H) (hAa : ∀ a, g a ≠ none → A a) (hS : va_S A s.heap H locs) (hA : ∀ q, s.heap.size ≤ q → A q) (hC : gh_C G A s s.heap) (As : List Value) : PreS s H (va_Pc As (fun U => U.heap.size = H.size ∧ gh_P G.1 g U.heap ∧ gh_C G (gh_A g H.size) U U.heap)) As := by
  refine ⟨fun a U f mk q => ?_, fun U hU hW => ?_⟩
  · obtain ⟨q1, q2, q3, q4⟩ := q
    exact ⟨q1, q2, q3, gh_C.same (u := U) (U := U.calling f mk a) rfl q4⟩
  · refine ⟨rfl, by rw [hU], by rw [hU]; exact hP, ?_⟩
    rw [hU]
    exact ((gh_C.kept hS.2.1 hC).narrow (fun q h => by
      rcases h with h | h
      · exact hAa q h
      · exact hA q (Nat.le_trans hS.1 h))).warm hW

theorem gh_callV {y : MethodName} {cy : ByteArray} {ny na index : Nat} {ry : Option FieldType} {rm : Room} {rest : List Value} {b t ci : Nat} {fs : List Value} {T : u_T} {N : Nat} (As : List Value) (hK : gh_K G X cc nL own) (hM : gMet l G y cy ny ry rm (.ref b :: As) g Post) (hY : gh_Y y cy ny ry na) (hV : Cond.instanceMethod y ∈ gTbl ∧ Cond.selects y.cls y y ∈ gTbl) (hlk : Cond.methodLink own index y ∈ gTbl) (hb0 : g b = some (t, .inr (ci, fs))) (hc : vwCl[ci]? = some (y.cls, T, N)) (hst : st = As.reverse ++ .ref b :: rest) (hd : decode cc pc = .ok (.invokevirtual index, 3)) (hna : As.length = na) (hlv : lv.length = nL) (hrest : (rest.map fun v => v.category).sum ≤ 8) (hR : rm.frames + 1 ≤ R.frames ∧ 8 + (ny + 11) + rm.locals ≤ R.locals) (hf : k + rm.cells ≤ R.cells ∧ n + rm.slots ≤ R.slots)
    (kk : ∀ (v : Option Value) (g' : GH), Post v g' → gh_W l G R X g' (k + rm.cells) (n + rm.slots) lv (pc + 3) (v.toList ++ rest)) : gh_W l G R X g k n lv pc st := by
  obtain ⟨p, e, s, m, args, below, meth, c, A, Q⟩ := X
  obtain ⟨hx, hb, hml, hown, hts, hC, hA⟩ := hK
  intro H locs ls hP hAa hS hl
  obtain ⟨hbl, hpre⟩ := gh_pre hP hAa hS hA hC (.ref b :: As)
  refine gh_back hP hAa hS hl hA (a := (Value.ref b :: As).toArray) (va_runV (C := y.cls) (b := b) (As := As) (rest := rest) ⟨hx, hb, hml, hown, hts⟩ (hM H.size) ⟨gh_good hts hY hlk hR, hts _ hV.1, hts _ hV.2⟩ ⟨hbl, ?_, hpre⟩ rfl hna (by rw [← hlv]; exact hl.1) hst (lv_room hrest) hd hf) kk
  exact va_recv (ws := [(b, .inr (ci, fs))]) hC.1 (fun i q hi => by
    have hz : i < 1 := (List.getElem?_eq_some_iff.mp hi).1
    rw [show i = 0 by omega] at hi
    cases hi
    exact hP b t _ hb0) (ci := ci) (q := (y.cls, T, N)) (q0 := 0) hc rfl
theorem gh_callI {y : MethodName} {cy : ByteArray} {ny na index : Nat} {rm : Room} {rest : List Value} {b : Nat} (As : List Value) (hK : gh_K G X cc nL own) (hM : gMet l G y cy ny none rm (.ref b :: As) g Post) (hY : gh_Y y cy ny none na) (hi : y.name = "<init>") (hV : Cond.instanceMethod y ∈ gTbl) (hlk : Cond.methodLink own index y ∈ gTbl) (hst : st = As.reverse ++ .ref b :: rest) (hd : decode cc pc = .ok (.invokespecial index, 3)) (hna : As.length = na) (hlv : lv.length = nL) (hrest : (rest.map fun v => v.category).sum ≤ 8) (hR : rm.frames + 1 ≤ R.frames ∧ 8 + (ny + 11) + rm.locals ≤ R.locals) (hf : k + rm.cells ≤ R.cells ∧ n + rm.slots ≤ R.slots)
    (kk : ∀ (v : Option Value) (g' : GH), Post v g' → gh_W l G R X g' (k + rm.cells) (n + rm.slots) lv (pc + 3) (v.toList ++ rest)) : gh_W l G R X g k n lv pc st := by
  obtain ⟨p, e, s, m, args, below, meth, c, A, Q⟩ := X
  obtain ⟨hx, hb, hml, hown, hts, hC, hA⟩ := hK
  intro H locs ls hP hAa hS hl
  exact gh_back hP hAa hS hl hA (a := (Value.ref b :: As).toArray) (va_runI (b := b) (As := As) (rest := rest) ⟨hx, hb, hml, hown, hts⟩ (hM H.size) ⟨gh_good hts hY hlk hR, hi, hts _ hV⟩ (gh_pre hP hAa hS hA hC (.ref b :: As)) rfl hna (by rw [← hlv]; exact hl.1) hst (lv_room hrest) hd hf) kk
theorem gh_callS {y : MethodName} {cy : ByteArray} {ny na index : Nat} {ry : Option FieldType} {rm : Room} {rest : List Value} (As : List Value) (hK : gh_K G X cc nL own) (hM : gMet l G y cy ny ry rm As g Post) (hY : gh_Y y cy ny ry na) (hV : Cond.static y ∈ gTbl) (hlk : Cond.methodLink own index y ∈ gTbl) (hst : st = As.reverse ++ rest) (hd : decode cc pc = .ok (.invokestatic index, 3)) (hna : As.length = na) (hlv : lv.length = nL) (hrest : (rest.map fun v => v.category).sum ≤ 8) (hR : rm.frames + 1 ≤ R.frames ∧ 8 + (ny + 11) + rm.locals ≤ R.locals) (hf : k + rm.cells ≤ R.cells ∧ n + rm.slots ≤ R.slots)
    (kk : ∀ (v : Option Value) (g' : GH), Post v g' → gh_W l G R X g' (k + rm.cells) (n + rm.slots) lv (pc + 3) (v.toList ++ rest)) : gh_W l G R X g k n lv pc st := by
  obtain ⟨p, e, s, m, args, below, meth, c, A, Q⟩ := X
  obtain ⟨hx, hb, hml, hown, hts, hC, hA⟩ := hK
  intro H locs ls hP hAa hS hl
  exact gh_back hP hAa hS hl hA (a := As.toArray) (va_runS (As := As) (rest := rest) ⟨hx, hb, hml, hown, hts⟩ (hM H.size) ⟨gh_good hts hY hlk hR, hts _ hV⟩ (gh_pre hP hAa hS hA hC As) rfl hna (by rw [← hlv]; exact hl.1) hst (lv_room hrest) hd hf) kk
theorem gh_objInit {a index : Nat} (hK : gh_K G X cc nL own) (hd : decode cc pc = .ok (.invokespecial index, 3)) (hlk : Cond.methodLink own index objectInit ∈ gTbl) (hin : Cond.instanceMethod objectInit ∈ gTbl) (hcode : Cond.code objectInit ⟨#[0xb1]⟩ 1 none ∈ gTbl) (hlv : lv.length = nL) (hR : 1 ≤ R.frames) (hR2 : (st.map fun v => v.category).sum + 12 ≤ R.locals) (kk : gh_W l G R X g k n lv (pc + 3) st) : gh_W l G R X g k n lv pc (.ref a :: st) := by
  obtain ⟨p, e, s, m, args, below, meth, c, A, Q⟩ := X
  obtain ⟨hx, hb, hml, hown, hts, hC, hA⟩ := hK
  intro H locs ls hP hAa hS hl
  refine W.objInit hx hb hown (hts _ hlk) (hts _ hin) (hts _ hcode) rfl (by rw [hml, ← hlv]; exact hl.1) rfl hd hR (by show 2 * 0 + _ + 12 ≤ _; omega) ?_
  exact W.eq (g2 := F0 m (pc + 3) ls st) rfl (kk H locs ls hP hAa hS hl)
end GHR4
section GHR5
variable {l : Launch} {G : GG} {R : Room} {X : GX} {cc : ByteArray} {nL : Nat} {own : String} {g : GH} {k n pc : Nat} {lv : List (Option Value)} {st : List Value}
theorem gh_icmp_eqN {a b : Nat} {off : Int} {tgt : Nat} (hK : gh_K G X cc nL own) (hd : decode cc pc = .ok (.if_icmp .eq off, 3)) (ht : (pc : Int) + off = (tgt : Int)) (ha : a < 2 ^ 31) (hb : b < 2 ^ 31) (kt : a = b → gh_W l G R X g k n lv tgt st) (kf : a ≠ b → gh_W l G R X g k n lv (pc + 3) st) : gh_W l G R X g k n lv pc (.int (nI b) :: .int (nI a) :: st) :=
  gh_icmp_eq hK hd ht (fun z => kt ((nI_eq ha hb).mp z)) (fun z => kf (fun h => z ((nI_eq ha hb).mpr h)))
theorem gh_icmp_neN {a b : Nat} {off : Int} {tgt : Nat} (hK : gh_K G X cc nL own) (hd : decode cc pc = .ok (.if_icmp .ne off, 3)) (ht : (pc : Int) + off = (tgt : Int)) (ha : a < 2 ^ 31) (hb : b < 2 ^ 31) (kt : a ≠ b → gh_W l G R X g k n lv tgt st) (kf : a = b → gh_W l G R X g k n lv (pc + 3) st) : gh_W l G R X g k n lv pc (.int (nI b) :: .int (nI a) :: st) :=
  gh_icmp_ne hK hd ht (fun z => kt (fun h => z ((nI_eq ha hb).mpr h))) (fun z => kf ((nI_eq ha hb).mp z))
theorem gh_icmp_ltN {a b : Nat} {off : Int} {tgt : Nat} (hK : gh_K G X cc nL own) (hd : decode cc pc = .ok (.if_icmp .lt off, 3)) (ht : (pc : Int) + off = (tgt : Int)) (ha : a < 2 ^ 31) (hb : b < 2 ^ 31) (kt : a < b → gh_W l G R X g k n lv tgt st) (kf : b ≤ a → gh_W l G R X g k n lv (pc + 3) st) : gh_W l G R X g k n lv pc (.int (nI b) :: .int (nI a) :: st) :=
  gh_icmp_lt hK hd ht (fun z => kt ((nI_ltI ha hb).mp z)) (fun z => kf (Nat.not_lt.mp fun h => z ((nI_ltI ha hb).mpr h)))
theorem gh_icmp_geN {a b : Nat} {off : Int} {tgt : Nat} (hK : gh_K G X cc nL own) (hd : decode cc pc = .ok (.if_icmp .ge off, 3)) (ht : (pc : Int) + off = (tgt : Int)) (ha : a < 2 ^ 31) (hb : b < 2 ^ 31) (kt : b ≤ a → gh_W l G R X g k n lv tgt st) (kf : a < b → gh_W l G R X g k n lv (pc + 3) st) : gh_W l G R X g k n lv pc (.int (nI b) :: .int (nI a) :: st) :=
  gh_icmp_ge hK hd ht (fun z => kt ((nI_leI hb ha).mp z)) (fun z => kf (Nat.not_le.mp fun h => z ((nI_leI hb ha).mpr h)))
theorem gh_icmp_gtN {a b : Nat} {off : Int} {tgt : Nat} (hK : gh_K G X cc nL own) (hd : decode cc pc = .ok (.if_icmp .gt off, 3)) (ht : (pc : Int) + off = (tgt : Int)) (ha : a < 2 ^ 31) (hb : b < 2 ^ 31) (kt : b < a → gh_W l G R X g k n lv tgt st) (kf : a ≤ b → gh_W l G R X g k n lv (pc + 3) st) : gh_W l G R X g k n lv pc (.int (nI b) :: .int (nI a) :: st) :=
  gh_icmp_gt hK hd ht (fun z => kt ((nI_ltI hb ha).mp z)) (fun z => kf (Nat.not_lt.mp fun h => z ((nI_ltI hb ha).mpr h)))
theorem gh_icmp_leN {a b : Nat} {off : Int} {tgt : Nat} (hK : gh_K G X cc nL own) (hd : decode cc pc = .ok (.if_icmp .le off, 3)) (ht : (pc : Int) + off = (tgt : Int)) (ha : a < 2 ^ 31) (hb : b < 2 ^ 31) (kt : a ≤ b → gh_W l G R X g k n lv tgt st) (kf : b < a → gh_W l G R X g k n lv (pc + 3) st) : gh_W l G R X g k n lv pc (.int (nI b) :: .int (nI a) :: st) :=
  gh_icmp_le hK hd ht (fun z => kt ((nI_leI ha hb).mp z)) (fun z => kf (Nat.not_le.mp fun h => z ((nI_leI ha hb).mpr h)))
theorem gh_if_eqN {a : Nat} {off : Int} {tgt : Nat} (hK : gh_K G X cc nL own) (hd : decode cc pc = .ok (.ifCond .eq off, 3)) (ht : (pc : Int) + off = (tgt : Int)) (ha : a < 2 ^ 31) (kt : a = 0 → gh_W l G R X g k n lv tgt st) (kf : 0 < a → gh_W l G R X g k n lv (pc + 3) st) : gh_W l G R X g k n lv pc (.int (nI a) :: st) := by
  refine gh_if_eq hK hd ht (fun z => kt ?_) (fun z => kf ?_)
  · have z : nI a = nI 0 := z
    exact (nI_eq ha (by decide)).mp z
  · have z : ¬ nI a = nI 0 := z
    exact Nat.pos_of_ne_zero fun h => z ((nI_eq ha (by decide)).mpr h)
theorem gh_if_neN {a : Nat} {off : Int} {tgt : Nat} (hK : gh_K G X cc nL own) (hd : decode cc pc = .ok (.ifCond .ne off, 3)) (ht : (pc : Int) + off = (tgt : Int)) (ha : a < 2 ^ 31) (kt : 0 < a → gh_W l G R X g k n lv tgt st) (kf : a = 0 → gh_W l G R X g k n lv (pc + 3) st) : gh_W l G R X g k n lv pc (.int (nI a) :: st) := by
  refine gh_if_ne hK hd ht (fun z => kt ?_) (fun z => kf ?_)
  · have z : ¬ nI a = nI 0 := z
    exact Nat.pos_of_ne_zero fun h => z ((nI_eq ha (by decide)).mpr h)
  · have z : nI a = nI 0 := z
    exact (nI_eq ha (by decide)).mp z
theorem gh_if_gtN {a : Nat} {off : Int} {tgt : Nat} (hK : gh_K G X cc nL own) (hd : decode cc pc = .ok (.ifCond .gt off, 3)) (ht : (pc : Int) + off = (tgt : Int)) (ha : a < 2 ^ 31) (kt : 0 < a → gh_W l G R X g k n lv tgt st) (kf : a = 0 → gh_W l G R X g k n lv (pc + 3) st) : gh_W l G R X g k n lv pc (.int (nI a) :: st) := by
  refine gh_if_gt hK hd ht (fun z => kt ?_) (fun z => kf ?_)
  · have z : nI 0 < nI a := z
    exact (nI_ltI (a := 0) (by decide) ha).mp z
  · have z : ¬ nI 0 < nI a := z
    exact Nat.eq_zero_of_not_pos fun h => z ((nI_ltI (a := 0) (by decide) ha).mpr h)
theorem gh_if_leN {a : Nat} {off : Int} {tgt : Nat} (hK : gh_K G X cc nL own) (hd : decode cc pc = .ok (.ifCond .le off, 3)) (ht : (pc : Int) + off = (tgt : Int)) (ha : a < 2 ^ 31) (kt : a = 0 → gh_W l G R X g k n lv tgt st) (kf : 0 < a → gh_W l G R X g k n lv (pc + 3) st) : gh_W l G R X g k n lv pc (.int (nI a) :: st) := by
  refine gh_if_le hK hd ht (fun z => kt ?_) (fun z => kf ?_)
  · have z : nI a ≤ nI 0 := z
    exact Nat.le_zero.mp ((nI_leI ha (b := 0) (by decide)).mp z)
  · have z : ¬ nI a ≤ nI 0 := z
    exact Nat.pos_of_ne_zero fun h => z ((nI_leI ha (b := 0) (by decide)).mpr (Nat.le_of_eq h))
theorem gh_if_ltN {a : Nat} {off : Int} (hK : gh_K G X cc nL own) (hd : decode cc pc = .ok (.ifCond .lt off, 3)) {tgt : Nat} (ht : (pc : Int) + off = (tgt : Int)) (ha : a < 2 ^ 31) (kf : gh_W l G R X g k n lv (pc + 3) st) : gh_W l G R X g k n lv pc (.int (nI a) :: st) :=
  gh_if_lt hK hd ht (fun z => absurd z (nI_pos ha)) (fun _ => kf)
theorem gh_if_geN {a : Nat} {off : Int} {tgt : Nat} (hK : gh_K G X cc nL own) (hd : decode cc pc = .ok (.ifCond .ge off, 3)) (ht : (pc : Int) + off = (tgt : Int)) (ha : a < 2 ^ 31) (kt : gh_W l G R X g k n lv tgt st) : gh_W l G R X g k n lv pc (.int (nI a) :: st) :=
  gh_if_ge hK hd ht (fun _ => kt) (fun z => absurd (nI_pos' ha) z)
theorem gh_addN {a b : Nat} (hK : gh_K G X cc nL own) (hd : decode cc pc = .ok (.iadd, 1)) (kk : gh_W l G R X g k n lv (pc + 1) (.int (nI (a + b)) :: st)) : gh_W l G R X g k n lv pc (.int (nI b) :: .int (nI a) :: st) := by
  refine gh_iadd hK hd ?_
  rw [nI_add]
  exact kk
theorem gh_subN {a b : Nat} (hK : gh_K G X cc nL own) (hd : decode cc pc = .ok (.isub, 1)) (h : b ≤ a) (kk : gh_W l G R X g k n lv (pc + 1) (.int (nI (a - b)) :: st)) : gh_W l G R X g k n lv pc (.int (nI b) :: .int (nI a) :: st) := by
  refine gh_isub hK hd ?_
  rw [pk_sub h]
  exact kk
theorem gh_mulN {a b : Nat} (hK : gh_K G X cc nL own) (hd : decode cc pc = .ok (.imul, 1)) (kk : gh_W l G R X g k n lv (pc + 1) (.int (nI (a * b)) :: st)) : gh_W l G R X g k n lv pc (.int (nI b) :: .int (nI a) :: st) := by
  refine gh_imul hK hd ?_
  rw [pk_mul]
  exact kk
theorem gh_divN {a b : Nat} (hK : gh_K G X cc nL own) (hd : decode cc pc = .ok (.idiv, 1)) (ha : a < 2 ^ 31) (h0 : 0 < b) (hb : b < 2 ^ 31) (kk : gh_W l G R X g k n lv (pc + 1) (.int (nI (a / b)) :: st)) : gh_W l G R X g k n lv pc (.int (nI b) :: .int (nI a) :: st) := by
  refine gh_idiv hK hd (nI_ne0 h0 hb) ?_
  rw [pk_div ha h0 hb]
  exact kk
theorem gh_remN {a b : Nat} (hK : gh_K G X cc nL own) (hd : decode cc pc = .ok (.irem, 1)) (ha : a < 2 ^ 31) (h0 : 0 < b) (hb : b < 2 ^ 31) (kk : gh_W l G R X g k n lv (pc + 1) (.int (nI (a % b)) :: st)) : gh_W l G R X g k n lv pc (.int (nI b) :: .int (nI a) :: st) := by
  refine gh_irem hK hd (nI_ne0 h0 hb) ?_
  rw [pk_rem ha h0 hb]
  exact kk
theorem gh_incN {i a : Nat} {lv' : List (Option Value)} (hK : gh_K G X cc nL own) (hd : decode cc pc = .ok (.iinc i 1, 3)) (hx1 : lv[i]? = some (some (.int (nI a)))) (hv : lv.set i (some (.int (nI (a + 1)))) = lv') (kk : gh_W l G R X g k n lv' (pc + 3) st) : gh_W l G R X g k n lv pc st :=
  gh_iinc hK hd hx1 (nI_1 a) hv kk
end GHR5
