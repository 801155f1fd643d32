/-! contracts of methods that throw -/
def gh_TP (C : String) (G : GG) (g0 : GH) (sz mc ms : Nat) : Array Value → State → Outcome → State → Prop := fun _ st o t => (∃ (x : Addr) (ce : Cell), o = .threw x ∧ t.heap[x]? = some ce ∧ ce.vm.isStatics = false ∧ st.vm.findClass C = some ce.cls) ∧ gh_P G.1 g0 t.heap ∧ va_F (gh_A g0 sz) st t ∧ st.WarmedH t.vm ∧ ∃ L, st.sameButNew ({ t with vm := st.vm } : State) L mc ms ∧ ∀ q ∈ L, gh_A g0 sz q.base
def gThr (l : Launch) (G : GG) (y : MethodName) (cc : ByteArray) (nL : Nat) (ret : Option FieldType) (rm : Room) (av : List Value) (g : GH) (C : String) : Prop := ∀ sz : Nat, MetFree l y (headSpec (gh_ws y cc nL ret) rm) (va_Pc av (fun U => U.heap.size = sz ∧ gh_P G.1 g U.heap ∧ gh_C G (gh_A g sz) U U.heap ∧ gh_J (gh_A g sz) U U.heap)) (fun _ _ _ _ _ => True) (gh_TP C G g sz rm.cells rm.slots)
def gh_ET (G : GG) (X : GX) (C : String) (g0 : GH) (mc ms : Nat) : Prop :=
  match X with
  | (_, _, s, _, args, below, meth, c, A, Q) => meth.locks = false ∧ c.exceptionTable.isEmpty = true ∧ A = gh_A g0 s.heap.size ∧ gh_J A s s.heap ∧ Q = fun t => ∃ o, t.status = .running ∧ Ended t below o ∧ gh_TP C G g0 s.heap.size mc ms args s o t
theorem gThr.of {l : Launch} {G : GG} {y : MethodName} {cc : ByteArray} {nL : Nat} {ret : Option FieldType} {rm : Room} {av : List Value} {g : GH} {C : String} (lv0 : List (Option Value)) (hy : plainFor y = true) (hav : av.all (fun w => w.category == 1) = true) (hn : av.length ≤ nL) (hlv : av.map some ++ List.replicate (nL - av.length) none = lv0)
    (h : ∀ X : GX, gh_K G X cc nL y.cls → gh_ET G X C g rm.cells rm.slots → gh_W l G rm X g 0 0 lv0 0 []) : gThr l G y cc nL ret rm av g C := by
  intro sz
  refine MetFree.of_bodySF (code := cc) (maxLocals := nL) (ret := ret) hy ?_ ?_
  · intro args s m hp hm
    obtain ⟨meth, c, h1, h2, h3, h4, h5, h6, -, -⟩ := Cond.code_spec hm (atoms_spec (ws := gh_ws y cc nL ret) hp _ List.mem_cons_self)
    exact ⟨meth, c, h1, h2, h3, h4, h5, h6⟩
  · intro p e s m args below meth c s₁ B hml hP _
    obtain ⟨rfl, hsz, hPg, hC, hJ⟩ := hP
    subst hsz
    have hts := atoms_spec (ws := gh_ws y cc nL ret) B.pre
    have hown : s.vm.findClass y.cls = some m.cls := findClass_of_methodNamed B.named
    have hh0 : s₁.heap = s.heap := by rw [B.state]; rfl
    have body := h (p, e, s, m, av.toArray, below, meth, c, gh_A g s.heap.size, fun t => ∃ o, t.status = .running ∧ Ended t below o ∧ gh_TP C G g s.heap.size rm.cells rm.slots av.toArray s o t) ⟨B.exec, B.bytes, hml, hown, fun w hw => hts w (List.mem_cons_of_mem _ hw), hC, fun q hq => Or.inr hq⟩ ⟨B.notSynchronized, B.noHandlers (hts _ List.mem_cons_self), rfl, hJ, rfl⟩ s.heap [] _ hPg (fun a ha => Or.inl ha) va_S.rf (gh_entry (fun w hw => by simpa using List.all_eq_true.mp hav w hw) hn hlv)
    rw [lg_entry_eq]
    obtain ⟨t, a1, o, b1, b2, b3⟩ := body s₁ hh0 (Stand.of_body B)
    exact ⟨t, o, a1, b1, b2, b3⟩
theorem gh_throw {l : Launch} {G : GG} {R : Room} {X : GX} {cc : ByteArray} {nL : Nat} {g : GH} {k n pc mc ms : Nat} {lv : List (Option Value)} {st : List Value} {C tx : String} {names : List String} {ix il ic i : Nat} (hK : gh_K G X cc nL "SpellDesk") (hET : gh_ET G X C g mc ms) (hfl : l.flags = pinnedFlags ++ [noTraceFlag]) (hlv : lv.length = nL) (hi : i < st_N) (hq : st_own[i]? = some ("SpellDesk", il, tx)) (hfit : Bundle.fit C = true) (hnames : ∀ n ∈ names, Bundle.fit n = true)
    (hcl : Cond.classLink "SpellDesk" ix C ∈ gTbl) (hins : Cond.instantiable C 6 ∈ gTbl) (hini : Cond.initialized C ∈ gTbl) (hat : ∀ a ∈ Bundle.ownAtoms "SpellDesk" ic C names, a ∈ gTbl ∨ a ∈ thr_sp)
    (d0 : decode cc pc = .ok (.new ix, 3)) (d3 : decode cc (pc + 3) = .ok (.dup, 1)) (d4 : decode cc (pc + 4) = .ok (.ldc il, 2)) (d6 : decode cc (pc + 6) = .ok (.invokespecial ic, 3)) (d9 : decode cc (pc + 9) = .ok (.athrow, 1))
    (hfr : names.length + 3 < R.frames) (hlo : (st.map fun v => v.category).sum + (13 * (names.length + 1) + 43) ≤ R.locals) (hkR : k + 1 ≤ R.cells) (hnR : n + 6 ≤ R.slots) (hk : k + 1 ≤ mc) (hn : n + 6 ≤ ms) : gh_W l G R X g k n lv pc st := by
  obtain ⟨p, e, s, m, args, below, meth, c, A, Q⟩ := X
  obtain ⟨hx, hb, hml, hown, hts, hC, hA⟩ := hK
  obtain ⟨hlk, hno, hAe, hJ, hQ⟩ := hET
  subst hAe
  subst hQ
  intro H locs ls hP hAa hS hl T hT Xs
  obtain ⟨cC, kX, hc1, -⟩ := Cond.instantiable_spec (hts _ hins)
  have hJH : gh_J (gh_A g s.heap.size) s H := hJ.kept hS.2.1
  obtain ⟨U, q1, q2, a, ce, q3, q4, q5, q6, q7, q8, q9, q10⟩ := thr_new hx hb hfl hown hlk hno (by rw [hl.1, hlv, hml]) (hts _ hcl) (hts _ hins) (hts _ hini) hc1 (hC.2.2 i hi _ hq) hfit hnames (fun U hv hh => fun a ha => thr_words hts hC.2.1.2.2.2.2.2.2.2 hJH hv hh a (hat a ha)) d0 d3 d4 d6 d9 hfr hlo hkR hnR T hT Xs
  refine ⟨U, q1, .threw a, q2, q3, ⟨a, ce, rfl, q6, q7, q8⟩, fun b t e he => (hP b t e he).kept (q10 b (hP b t e he).lt), ⟨Nat.le_trans hS.1 q9, fun q h1 h2 => by rw [q10 q (Nat.lt_of_lt_of_le h1 hS.1)]; exact hS.2.1 q h1 h2⟩, q4, locs, q5.mono hk hn, hS.2.2⟩
