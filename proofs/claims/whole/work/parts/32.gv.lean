/-! LONGS -/
section GHL0
variable {p : Program} {l : Launch} {e : Env} {R : Room} {s : State} {m : MethodId} {args : Array Value} {below : List Frame} {meth : Method} {c : Code} {H : Heap} {locs : List Loc} {cells slots : Nat} {Q : State → Prop} {cc : ByteArray} {pc : Nat} {ls : Array Slot} {rest : List Value}
theorem gq_lcmp (hexec : p.tables.exec = Jvm.exec) (hb : c.code = cc) {x y : Int64} (hdg : decode cc pc = .ok (.lcmp, 1)) (k : ∀ v : Int32, (v = 0 ↔ x = y) → W p l e R s m args below meth c H locs cells slots Q (F0 m (pc + 1) ls (.int v :: rest))) : W p l e R s m args below meth c H locs cells slots Q (F0 m pc ls (.long y :: .long x :: rest)) := by
  intro T hT X
  have hv : ((if x > y then 1 else if x == y then 0 else -1 : Int32) = 0 ↔ x = y) := by
    by_cases h1 : x > y
    · rw [if_pos h1]
      exact ⟨fun z => absurd z (by decide), fun z => absurd h1 (by rw [z]; exact Int64.lt_irrefl)⟩
    · rw [if_neg h1]
      by_cases h2 : x = y
      · simp [h2]
      · rw [if_neg (by simpa using h2)]
        exact ⟨fun z => absurd z (by decide), fun z => absurd z h2⟩
  obtain ⟨t, a, b⟩ := k _ hv T hT X
  refine ⟨t, ?_, b⟩
  jvm_step X.here [X.here.top, hexec, hb, hdg]
  by_cases h1 : x > y
  · simp only [h1, if_true] at a ⊢
    exact a
  · by_cases h2 : x = y
    · simp [h2] at a ⊢
      exact a
    · simp [h1, h2] at a ⊢
      exact a
end GHL0
section GHL1
variable {l : Launch} {G : GG} {R : Room} {X : GX} {cc : ByteArray} {nL : Nat} {own : String} {g : GH} {k n pc mc ms : Nat} {lv : List (Option Value)} {st : List Value} {Post : Option Value → GH → Prop}

theorem gh_i2l {x : Int32} {v : Int64} (hK : gh_K G X cc nL own) (hd : decode cc pc = .ok (.i2l, 1)) (hv : x.toInt64 = v) (kk : gh_W l G R X g k n lv (pc + 1) (.long v :: st)) : gh_W l G R X g k n lv pc (.int x :: st) := by
  obtain ⟨p, e, s, m, args, below, meth, c, A, Q⟩ := X
  obtain ⟨hx, hb, hml, hown, hts, hC, hA⟩ := hK
  intro H locs ls hP hAa hS hl
  exact lv_i2l hx hb hd hv (kk H locs ls hP hAa hS hl)
theorem gh_ldc2 {index : Nat} {v : Int64} (hK : gh_K G X cc nL own) (hd : decode cc pc = .ok (.ldc2_w index, 3)) (hw : Cond.constantLong own index v ∈ gTbl) (kk : gh_W l G R X g k n lv (pc + 3) (.long v :: st)) : gh_W l G R X g k n lv pc (st) := by
  obtain ⟨p, e, s, m, args, below, meth, c, A, Q⟩ := X
  obtain ⟨hx, hb, hml, hown, hts, hC, hA⟩ := hK
  intro H locs ls hP hAa hS hl
  exact lv_ldc2 hx hb hown (hts _ hw) hd (kk H locs ls hP hAa hS hl)
theorem gh_lcmp {x y : Int64} (hK : gh_K G X cc nL own) (hd : decode cc pc = .ok (.lcmp, 1)) (kk : ∀ v : Int32, (v = 0 ↔ x = y) → gh_W l G R X g k n lv (pc + 1) (.int v :: st)) : gh_W l G R X g k n lv pc (.long y :: .long x :: st) := by
  obtain ⟨p, e, s, m, args, below, meth, c, A, Q⟩ := X
  obtain ⟨hx, hb, hml, hown, hts, hC, hA⟩ := hK
  intro H locs ls hP hAa hS hl
  exact gq_lcmp hx hb hd (fun v hv => kk v hv H locs ls hP hAa hS hl)
/-- the judgement with locals as pairs -/
def gh_V (l : Launch) (G : GG) (R : Room) (X : GX) (g : GH) (k n : Nat) (L : Nat × List (Nat × Value)) (pc : Nat) (st : List Value) : Prop :=
  match X with
  | (p, e, s, m, args, below, meth, c, A, Q) => ∀ (H : Heap) (locs : List Loc) (ls : Array Slot), gh_P G.1 g H → (∀ a, g a ≠ none → A a) → va_S A s.heap H locs → lv_has ls L.1 L.2 → W p l e R s m args below meth c H locs k n Q (F0 m pc ls st)
variable {L : Nat × List (Nat × Value)}

theorem gv_iconst {i : Int} {v : Int32} (hK : gh_K G X cc nL own) (hd : decode cc pc = .ok (.iconst i, 1)) (hv : Int32.ofInt i = v) (kk : gh_V l G R X g k n L (pc + 1) (.int v :: st)) : gh_V l G R X g k n L pc (st) := by
  obtain ⟨p, e, s, m, args, below, meth, c, A, Q⟩ := X
  obtain ⟨hx, hb, hml, hown, hts, hC, hA⟩ := hK
  intro H locs ls hP hAa hS hl
  exact lv_iconst hx hb hd hv (kk H locs ls hP hAa hS hl)
theorem gv_bipush {i : Int} {v : Int32} (hK : gh_K G X cc nL own) (hd : decode cc pc = .ok (.bipush i, 2)) (hv : (Int8.ofInt i).toInt32 = v) (kk : gh_V l G R X g k n L (pc + 2) (.int v :: st)) : gh_V l G R X g k n L pc (st) := by
  obtain ⟨p, e, s, m, args, below, meth, c, A, Q⟩ := X
  obtain ⟨hx, hb, hml, hown, hts, hC, hA⟩ := hK
  intro H locs ls hP hAa hS hl
  exact lv_bipush hx hb hd hv (kk H locs ls hP hAa hS hl)
theorem gv_lconst {i : Fin 2} {v : Int64} (hK : gh_K G X cc nL own) (hd : decode cc pc = .ok (.lconst i, 1)) (hv : Int64.ofNat (i : Nat) = v) (kk : gh_V l G R X g k n L (pc + 1) (.long v :: st)) : gh_V l G R X g k n L pc (st) := by
  obtain ⟨p, e, s, m, args, below, meth, c, A, Q⟩ := X
  obtain ⟨hx, hb, hml, hown, hts, hC, hA⟩ := hK
  intro H locs ls hP hAa hS hl
  exact lv_lconst hx hb hd hv (kk H locs ls hP hAa hS hl)
theorem gv_iload {i : Nat} {x : Int32} (hK : gh_K G X cc nL own) (hd : decode cc pc = .ok (.iload i, 2)) (hv : (i, Value.int x) ∈ L.2) (kk : gh_V l G R X g k n L (pc + 2) (.int x :: st)) : gh_V l G R X g k n L pc (st) := by
  obtain ⟨p, e, s, m, args, below, meth, c, A, Q⟩ := X
  obtain ⟨hx, hb, hml, hown, hts, hC, hA⟩ := hK
  intro H locs ls hP hAa hS hl
  exact lv_iload hx hb hd (hl.2.2 (i, .int x) hv) (kk H locs ls hP hAa hS hl)
theorem gv_aload_n {i : Fin 4} {x : Nat} (hK : gh_K G X cc nL own) (hd : decode cc pc = .ok (.aload_n i, 1)) (hv : (i.val, Value.ref x) ∈ L.2) (kk : gh_V l G R X g k n L (pc + 1) (.ref x :: st)) : gh_V l G R X g k n L pc (st) := by
  obtain ⟨p, e, s, m, args, below, meth, c, A, Q⟩ := X
  obtain ⟨hx, hb, hml, hown, hts, hC, hA⟩ := hK
  intro H locs ls hP hAa hS hl
  exact lv_aload_n hx hb hd rfl (hl.2.2 (i.val, .ref x) hv) (kk H locs ls hP hAa hS hl)
theorem gv_lload_n {i : Fin 4} {x : Int64} (hK : gh_K G X cc nL own) (hd : decode cc pc = .ok (.lload_n i, 1)) (hv : (i.val, Value.long x) ∈ L.2) (kk : gh_V l G R X g k n L (pc + 1) (.long x :: st)) : gh_V l G R X g k n L pc (st) := by
  obtain ⟨p, e, s, m, args, below, meth, c, A, Q⟩ := X
  obtain ⟨hx, hb, hml, hown, hts, hC, hA⟩ := hK
  intro H locs ls hP hAa hS hl
  exact lv_lload_n hx hb hd rfl (hl.2.2 (i.val, .long x) hv) (kk H locs ls hP hAa hS hl)
theorem gv_isub {x y : Int32} (hK : gh_K G X cc nL own) (hd : decode cc pc = .ok (.isub, 1)) (kk : gh_V l G R X g k n L (pc + 1) (.int (x - y) :: st)) : gh_V l G R X g k n L pc (.int y :: .int x :: st) := by
  obtain ⟨p, e, s, m, args, below, meth, c, A, Q⟩ := X
  obtain ⟨hx, hb, hml, hown, hts, hC, hA⟩ := hK
  intro H locs ls hP hAa hS hl
  exact lv_isub hx hb hd (kk H locs ls hP hAa hS hl)
theorem gv_lor {x y : Int64} (hK : gh_K G X cc nL own) (hd : decode cc pc = .ok (.lor, 1)) (kk : gh_V l G R X g k n L (pc + 1) (.long (x ||| y) :: st)) : gh_V l G R X g k n L pc (.long y :: .long x :: st) := by
  obtain ⟨p, e, s, m, args, below, meth, c, A, Q⟩ := X
  obtain ⟨hx, hb, hml, hown, hts, hC, hA⟩ := hK
  intro H locs ls hP hAa hS hl
  exact lv_lor hx hb hd (kk H locs ls hP hAa hS hl)
theorem gv_lshl {x v : Int64} {y : Int32} (hK : gh_K G X cc nL own) (hd : decode cc pc = .ok (.lshl, 1)) (hv : x <<< (y.toInt64 &&& 63) = v) (kk : gh_V l G R X g k n L (pc + 1) (.long v :: st)) : gh_V l G R X g k n L pc (.int y :: .long x :: st) := by
  obtain ⟨p, e, s, m, args, below, meth, c, A, Q⟩ := X
  obtain ⟨hx, hb, hml, hown, hts, hC, hA⟩ := hK
  intro H locs ls hP hAa hS hl
  exact lv_lshl hx hb hd hv (kk H locs ls hP hAa hS hl)
theorem gv_i2l {x : Int32} {v : Int64} (hK : gh_K G X cc nL own) (hd : decode cc pc = .ok (.i2l, 1)) (hv : x.toInt64 = v) (kk : gh_V l G R X g k n L (pc + 1) (.long v :: st)) : gh_V l G R X g k n L pc (.int x :: st) := by
  obtain ⟨p, e, s, m, args, below, meth, c, A, Q⟩ := X
  obtain ⟨hx, hb, hml, hown, hts, hC, hA⟩ := hK
  intro H locs ls hP hAa hS hl
  exact lv_i2l hx hb hd hv (kk H locs ls hP hAa hS hl)
theorem gv_goto {off : Int} {tgt : Nat} (hK : gh_K G X cc nL own) (hd : decode cc pc = .ok (.goto off, 3)) (ht : (pc : Int) + off = (tgt : Int)) (kk : gh_V l G R X g k n L tgt (st)) : gh_V l G R X g k n L pc (st) := by
  obtain ⟨p, e, s, m, args, below, meth, c, A, Q⟩ := X
  obtain ⟨hx, hb, hml, hown, hts, hC, hA⟩ := hK
  intro H locs ls hP hAa hS hl
  exact lv_goto hx hb hd ht (kk H locs ls hP hAa hS hl)
theorem gv_lcmp {x y : Int64} (hK : gh_K G X cc nL own) (hd : decode cc pc = .ok (.lcmp, 1)) (kk : ∀ v : Int32, (v = 0 ↔ x = y) → gh_V l G R X g k n L (pc + 1) (.int v :: st)) : gh_V l G R X g k n L pc (.long y :: .long x :: st) := by
  obtain ⟨p, e, s, m, args, below, meth, c, A, Q⟩ := X
  obtain ⟨hx, hb, hml, hown, hts, hC, hA⟩ := hK
  intro H locs ls hP hAa hS hl
  exact gq_lcmp hx hb hd (fun v hv => kk v hv H locs ls hP hAa hS hl)
theorem gv_if_ne {x : Int32} {off : Int} {tgt : Nat} (hK : gh_K G X cc nL own) (hd : decode cc pc = .ok (.ifCond .ne off, 3)) (ht : (pc : Int) + off = (tgt : Int)) (kt : ¬ x = 0 → gh_V l G R X g k n L tgt st) (kf : x = 0 → gh_V l G R X g k n L (pc + 3) st) : gh_V l G R X g k n L pc (.int x :: st) := by
  obtain ⟨p, e, s, m, args, below, meth, c, A, Q⟩ := X
  obtain ⟨hx, hb, hml, hown, hts, hC, hA⟩ := hK
  intro H locs ls hP hAa hS hl
  exact lv_if_ne hx hb hd ht (fun z => kt z H locs ls hP hAa hS hl) (fun z => kf z H locs ls hP hAa hS hl)
theorem gv_icmp_lt {x y : Int32} {off : Int} {tgt : Nat} (hK : gh_K G X cc nL own) (hd : decode cc pc = .ok (.if_icmp .lt off, 3)) (ht : (pc : Int) + off = (tgt : Int)) (kt : x < y → gh_V l G R X g k n L tgt st) (kf : ¬ x < y → gh_V l G R X g k n L (pc + 3) st) : gh_V l G R X g k n L pc (.int y :: .int x :: st) := by
  obtain ⟨p, e, s, m, args, below, meth, c, A, Q⟩ := X
  obtain ⟨hx, hb, hml, hown, hts, hC, hA⟩ := hK
  intro H locs ls hP hAa hS hl
  exact lv_icmp_lt hx hb hd ht (fun z => kt z H locs ls hP hAa hS hl) (fun z => kf z H locs ls hP hAa hS hl)
theorem gv_icmp_gt {x y : Int32} {off : Int} {tgt : Nat} (hK : gh_K G X cc nL own) (hd : decode cc pc = .ok (.if_icmp .gt off, 3)) (ht : (pc : Int) + off = (tgt : Int)) (kt : y < x → gh_V l G R X g k n L tgt st) (kf : ¬ y < x → gh_V l G R X g k n L (pc + 3) st) : gh_V l G R X g k n L pc (.int y :: .int x :: st) := by
  obtain ⟨p, e, s, m, args, below, meth, c, A, Q⟩ := X
  obtain ⟨hx, hb, hml, hown, hts, hC, hA⟩ := hK
  intro H locs ls hP hAa hS hl
  exact lv_icmp_gt hx hb hd ht (fun z => kt z H locs ls hP hAa hS hl) (fun z => kf z H locs ls hP hAa hS hl)
theorem gv_istore {i : Nat} {x : Int32} {L' : List (Nat × Value)} (hK : gh_K G X cc nL own) (hd : decode cc pc = .ok (.istore i, 2)) (hn : i < L.1) (hv : (i, Value.int x) :: L.2.filter (fun q => !(q.1 == i) && !(q.1 + 1 == i && q.2.category == 2)) = L') (kk : gh_V l G R X g k n (L.1, L') (pc + 2) st) : gh_V l G R X g k n L pc (.int x :: st) := by
  obtain ⟨p, e, s, m, args, below, meth, c, A, Q⟩ := X
  obtain ⟨hx, hb, hml, hown, hts, hC, hA⟩ := hK
  intro H locs ls hP hAa hS hl
  exact lv_istore hx hb hd hl hn hv (fun ls' hl' => kk H locs ls' hP hAa hS hl')
theorem gv_lstore_n {i : Fin 4} {x : Int64} {L' : List (Nat × Value)} (hK : gh_K G X cc nL own) (hd : decode cc pc = .ok (.lstore_n i, 1)) (hn : i.val + 1 < L.1) (hv : (i.val, Value.long x) :: L.2.filter (fun q => !(q.1 == i.val) && (!(q.1 == i.val + 1) && !(q.1 + 1 == i.val && q.2.category == 2))) = L') (kk : gh_V l G R X g k n (L.1, L') (pc + 1) st) : gh_V l G R X g k n L pc (.long x :: st) := by
  obtain ⟨p, e, s, m, args, below, meth, c, A, Q⟩ := X
  obtain ⟨hx, hb, hml, hown, hts, hC, hA⟩ := hK
  intro H locs ls hP hAa hS hl
  exact lv_lstore_n hx hb hd rfl hl hn hv (fun ls' hl' => kk H locs ls' hP hAa hS hl')
theorem gv_iinc {i q : Nat} {j : Int} {x v : Int32} {L' : List (Nat × Value)} (hK : gh_K G X cc nL own) (hd : decode cc pc = .ok (.iinc i j, 3)) (hq : L.2[q]? = some (i, .int x)) (hj : x + Int32.ofInt j = v) (hn : i < L.1) (hv : (i, Value.int v) :: L.2.filter (fun q => !(q.1 == i) && !(q.1 + 1 == i && q.2.category == 2)) = L') (kk : gh_V l G R X g k n (L.1, L') (pc + 3) st) : gh_V l G R X g k n L pc st := by
  obtain ⟨p, e, s, m, args, below, meth, c, A, Q⟩ := X
  obtain ⟨hx, hb, hml, hown, hts, hC, hA⟩ := hK
  intro H locs ls hP hAa hS hl
  exact lv_iinc hx hb hd hl hq hj hn hv (fun ls' hl' => kk H locs ls' hP hAa hS hl')
theorem gv_get {ref C : String} {T : u_T} {N ci index a t : Nat} {fs : List Value} {v : Value} (hK : gh_K G X cc nL own) (hd : decode cc pc = .ok (.getfield index, 3)) (hin : ∀ w ∈ u_ws C T N, w ∈ gTbl) (hc : vwCl[ci]? = some (C, T, N)) (he : g a = some (t, .inr (ci, fs))) (j : Nat) (hj : j < N) (hlink : Cond.fieldLink own index ref (T j).2.1 (T j).2.2.1 ∈ gTbl) (hsame : (T j).1 = ref) (hv : fs[j]? = some v) (kk : gh_V l G R X g k n L (pc + 3) (v :: st)) : gh_V l G R X g k n L pc (.ref a :: st) := by
  obtain ⟨p, e, s, m, args, below, meth, c, A, Q⟩ := X
  obtain ⟨hx, hb, hml, hown, hts, hC, hA⟩ := hK
  intro H locs ls hP hAa hS hl
  exact va_get (ws := [(a, .inr (ci, fs))]) hx hb hts hin hown hC.1 (fun i q hi => by
    have hz : i < 1 := (List.getElem?_eq_some_iff.mp hi).1
    rw [show i = 0 by omega] at hi
    cases hi
    exact hP a t _ he) 0 rfl hc j hj (hts _ hlink) (fun x h => by rw [← hsame]; exact h) hv hd (kk H locs ls hP hAa hS hl)
theorem gv_iald {a t N t0 : Nat} {cA : ClassId} {f : Nat → Int32} {i : Int32} (hK : gh_K G X cc nL own) (hd : decode cc pc = .ok (.iaload, 1)) (he : g a = some (t, .inl (cA, N, .inl f))) (ht : (gh_tys G)[t0]? = some (cA, .int)) (hin : vp_in i N) (kk : gh_V l G R X g k n L (pc + 1) (.int (f i.toNatClampNeg) :: st)) : gh_V l G R X g k n L pc (.int i :: .ref a :: st) := by
  obtain ⟨p, e, s, m, args, below, meth, c, A, Q⟩ := X
  obtain ⟨hx, hb, hml, hown, hts, hC, hA⟩ := hK
  intro H locs ls hP hAa hS hl
  exact va_iald (ws := [(a, .inl (cA, N, .inl f))]) hx hb hC.1 (fun i q hi => by
    have hz : i < 1 := (List.getElem?_eq_some_iff.mp hi).1
    rw [show i = 0 by omega] at hi
    cases hi
    exact hP a t _ he) 0 t0 rfl ht hin hd (kk H locs ls hP hAa hS hl)
theorem gv_ialdN {a t N t0 j : Nat} {cA : ClassId} {f : Nat → Int32} (hK : gh_K G X cc nL own) (hd : decode cc pc = .ok (.iaload, 1)) (he : g a = some (t, .inl (cA, N, .inl f))) (ht : (gh_tys G)[t0]? = some (cA, .int)) (hj : j < N) (hN : N < 2 ^ 31) (kk : gh_V l G R X g k n L (pc + 1) (.int (f j) :: st)) : gh_V l G R X g k n L pc (.int (nI j) :: .ref a :: st) := by
  refine gv_iald hK hd he ht (vp_in_nI hj hN) ?_
  rw [nI_clamp (by omega)]
  exact kk
theorem gv_zret {v : Int32} {ty : FieldType} (hnar : narrow ty (.int v) = .int v) (hK : gh_K G X cc nL own) (hE : gh_E G X (some ty) mc ms Post) (hd : decode cc pc = .ok (.ireturn, 1)) (hk : k ≤ mc) (hn : n ≤ ms) (hp : Post (some (.int v)) g) : gh_V l G R X g k n L pc [.int v] := by
  obtain ⟨p, e, s, m, args, below, meth, c, A, Q⟩ := X
  obtain ⟨hx, hb, hml, hown, hts, hC, hA⟩ := hK
  intro H locs ls hP hAa hS hl
  obtain ⟨hr, hlk, g0, rfl, rfl⟩ := hE
  refine W.widen hk hn ?_
  exact W.zret hx hb hr hnar (fun t ht hW => ⟨⟨(some (.int v)), g, rfl, hp, by rw [ht]; exact hP, hAa⟩, hS.F ht⟩) hS.2.2 hd hlk
end GHL1
/-- a method whose arguments may be long -/
theorem gMet.ofV {l : Launch} {G : GG} {y : MethodName} {cc : ByteArray} {nL : Nat} {ret : Option FieldType} {rm : Room} {av : List Value} {g : GH} {Post : Option Value → GH → Prop} (hy : plainFor y = true) (hn : (lg_sl av).length ≤ nL)
    (h : ∀ X : GX, gh_K G X cc nL y.cls → gh_E G X ret rm.cells rm.slots Post → gh_V l G rm X g 0 0 (nL, lv_args 0 av) 0 []) : gMet l G y cc nL ret rm av g Post := by
  intro sz
  refine va_MetF (cc := cc) (maxL := nL) (ret := ret) hy rfl ?_
  intro p e s m args below meth c s₁ B hml hv
  obtain ⟨rfl, hsz, hP, hC⟩ := hv
  subst hsz
  have hts := atoms_spec (ws := gh_ws y cc nL ret) B.pre
  have hown : s.vm.findClass y.cls = some m.cls := findClass_of_methodNamed B.named
  rw [lg_entry_eq]
  exact h (p, e, s, m, av.toArray, below, meth, c, gh_A g s.heap.size, MQ below (gh_Q G g s.heap.size Post) av.toArray s rm.cells rm.slots (gh_A g s.heap.size)) ⟨B.exec, B.bytes, hml, hown, fun w hw => hts w (List.mem_cons_of_mem _ hw), hC, fun q hq => Or.inr hq⟩ ⟨B.returns, B.notSynchronized, g, rfl, rfl⟩ s.heap [] _ hP (fun a ha => Or.inl ha) va_S.rf (lv_entry av hn)
