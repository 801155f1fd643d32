section GHR6
variable {l : Launch} {G : GG} {R : Room} {X : GX} {cc : ByteArray} {nL : Nat} {own : String} {g : GH} {k n pc : Nat} {lv : List (Option Value)} {st : List Value} {Post : Option Value → GH → Prop}
theorem gh_ldcS {i index : Nat} {tx : String} (hK : gh_K G X cc nL own) (hd : decode cc pc = .ok (.ldc index, 2)) (hi : i < st_N) (hq : st_own[i]? = some (own, index, tx)) (kk : gh_W l G R X g k n lv (pc + 2) (.ref (G.2.2.1 i) :: st)) : gh_W l G R X g k n lv pc st := by
  obtain ⟨p, e, s, m, args, below, meth, c, A, Q⟩ := X
  obtain ⟨hx, hb, hml, hown, hts, hC, hA⟩ := hK
  intro H locs ls hP hAa hS hl
  exact va_ldcS hx hb hown (hC.2.2 i hi _ hq) hd (kk H locs ls hP hAa hS hl)
theorem gh_strV {i index : Nat} (hK : gh_K G X cc nL own) (hd : decode cc pc = .ok (.getfield index, 3)) (hi : i < st_N) (hlk : Cond.fieldLink own index "java/lang/String" "value" "[B" ∈ gTbl) (kk : gh_W l G R X g k n lv (pc + 3) (.ref (G.2.2.2.1 i) :: st)) : gh_W l G R X g k n lv pc (.ref (G.2.2.1 i) :: st) := by
  obtain ⟨p, e, s, m, args, below, meth, c, A, Q⟩ := X
  obtain ⟨hx, hb, hml, hown, hts, hC, hA⟩ := hK
  intro H locs ls hP hAa hS hl
  exact vk_getf hx hb (hC.2.1.1.1 i hi).2.2.1 hS hown (hts _ hlk) (fun x h => h) hd (kk H locs ls hP hAa hS hl)
theorem gh_strC {i index : Nat} (hK : gh_K G X cc nL own) (hd : decode cc pc = .ok (.getfield index, 3)) (hi : i < st_N) (hlk : Cond.fieldLink own index "java/lang/String" "coder" "B" ∈ gTbl) (kk : gh_W l G R X g k n lv (pc + 3) (.int (nI 0) :: st)) : gh_W l G R X g k n lv pc (.ref (G.2.2.1 i) :: st) := by
  obtain ⟨p, e, s, m, args, below, meth, c, A, Q⟩ := X
  obtain ⟨hx, hb, hml, hown, hts, hC, hA⟩ := hK
  intro H locs ls hP hAa hS hl
  exact vk_getf hx hb (hC.2.1.1.1 i hi).2.1 hS hown (hts _ hlk) (fun x h => h) hd (kk H locs ls hP hAa hS hl)
theorem gh_strL {i : Nat} (hK : gh_K G X cc nL own) (hd : decode cc pc = .ok (.arraylength, 1)) (hi : i < st_N) (kk : gh_W l G R X g k n lv (pc + 1) (.int (nI (st_len.getD i 0)) :: st)) : gh_W l G R X g k n lv pc (.ref (G.2.2.2.1 i) :: st) := by
  obtain ⟨p, e, s, m, args, below, meth, c, A, Q⟩ := X
  obtain ⟨hx, hb, hml, hown, hts, hC, hA⟩ := hK
  intro H locs ls hP hAa hS hl
  exact va_tlen hx hb (hC.2.1.1.1 i hi).2.2.2 hS rfl hd (kk H locs ls hP hAa hS hl)
theorem gh_strB {i j : Nat} (hK : gh_K G X cc nL own) (hd : decode cc pc = .ok (.baload, 1)) (hi : i < st_N) (hj : j < st_len.getD i 0) (hj2 : st_len.getD i 0 < 2 ^ 31) (kk : gh_W l G R X g k n lv (pc + 1) (.int ((st_byt.getD i []).getD j 0) :: st)) : gh_W l G R X g k n lv pc (.int (nI j) :: .ref (G.2.2.2.1 i) :: st) := by
  obtain ⟨p, e, s, m, args, below, meth, c, A, Q⟩ := X
  obtain ⟨hx, hb, hml, hown, hts, hC, hA⟩ := hK
  intro H locs ls hP hAa hS hl
  exact va_tb hx hb (hC.2.1.1.1 i hi).2.2.2 hS (vp_in_nI hj hj2) (by rw [nI_clamp (by omega)]) hd (kk H locs ls hP hAa hS hl)
theorem gh_cs {index : Nat} (hK : gh_K G X cc nL own) (hd : decode cc pc = .ok (.getstatic index, 3)) (hlk : Cond.fieldLink own index "java/lang/String" "COMPACT_STRINGS" "Z" ∈ gTbl) (kk : gh_W l G R X g k n lv (pc + 3) (.int (nI 1) :: st)) : gh_W l G R X g k n lv pc st := by
  obtain ⟨p, e, s, m, args, below, meth, c, A, Q⟩ := X
  obtain ⟨hx, hb, hml, hown, hts, hC, hA⟩ := hK
  intro H locs ls hP hAa hS hl
  exact va_gets hx hb hC.2.1.2.2.2.1 hS hown (hts _ hlk) (fun x h => h) hd (kk H locs ls hP hAa hS hl)
theorem gh_sio {index : Nat} (hK : gh_K G X cc nL own) (hd : decode cc pc = .ok (.getstatic index, 3)) (hlk : Cond.fieldLink own index "jdk/internal/util/Preconditions" "SIOOBE_FORMATTER" "Ljava/util/function/BiFunction;" ∈ gTbl) (kk : ∀ v : Value, (v = .null ∨ ∃ a, v = .ref a) → gh_W l G R X g k n lv (pc + 3) (v :: st)) : gh_W l G R X g k n lv pc st := by
  obtain ⟨p, e, s, m, args, below, meth, c, A, Q⟩ := X
  obtain ⟨hx, hb, hml, hown, hts, hC, hA⟩ := hK
  intro H locs ls hP hAa hS hl
  rcases hC.2.1.2.2.2.2.1 with h | ⟨t, h⟩
  · exact va_gets hx hb h hS hown (hts _ hlk) (fun x h => h) hd (kk _ (Or.inl rfl) H locs ls hP hAa hS hl)
  · exact va_gets hx hb h hS hown (hts _ hlk) (fun x h => h) hd (kk _ (Or.inr ⟨t, rfl⟩) H locs ls hP hAa hS hl)
theorem gh_de {index : Nat} (hK : gh_K G X cc nL own) (hd : decode cc pc = .ok (.getstatic index, 3)) (hlk : Cond.fieldLink own index "java/util/ArrayList" "DEFAULTCAPACITY_EMPTY_ELEMENTDATA" "[Ljava/lang/Object;" ∈ gTbl) (kk : gh_W l G R X g k n lv (pc + 3) (.ref G.2.2.2.2.1 :: st)) : gh_W l G R X g k n lv pc st := by
  obtain ⟨p, e, s, m, args, below, meth, c, A, Q⟩ := X
  obtain ⟨hx, hb, hml, hown, hts, hC, hA⟩ := hK
  intro H locs ls hP hAa hS hl
  exact va_gets hx hb hC.2.1.2.1 hS hown (hts _ hlk) (fun x h => h) hd (kk H locs ls hP hAa hS hl)
theorem gh_deL (hK : gh_K G X cc nL own) (hd : decode cc pc = .ok (.arraylength, 1)) (kk : gh_W l G R X g k n lv (pc + 1) (.int (nI 0) :: st)) : gh_W l G R X g k n lv pc (.ref G.2.2.2.2.1 :: st) := by
  obtain ⟨p, e, s, m, args, below, meth, c, A, Q⟩ := X
  obtain ⟨hx, hb, hml, hown, hts, hC, hA⟩ := hK
  intro H locs ls hP hAa hS hl
  exact va_tlen hx hb hC.2.1.2.2.1 hS rfl hd (kk H locs ls hP hAa hS hl)
/-- the empty list's array is no cell of the world -/
theorem gh_deO (hK : gh_K G X cc nL own) (kk : g G.2.2.2.2.1 = none → gh_W l G R X g k n lv pc st) : gh_W l G R X g k n lv pc st := by
  obtain ⟨p, e, s, m, args, below, meth, c, A, Q⟩ := X
  obtain ⟨hx, hb, hml, hown, hts, hC, hA⟩ := id hK
  intro H locs ls hP hAa hS hl
  refine kk ?_ H locs ls hP hAa hS hl
  cases hg : g G.2.2.2.2.1 with
  | none => rfl
  | some x => exact absurd (hAa _ (by rw [hg]; exact fun z => by cases z)) (va_T.out hC.2.1.2.2.1)
theorem gh_callVs {y : MethodName} {cy : ByteArray} {ny na index i : Nat} {ry : Option FieldType} {rm : Room} {rest : List Value} (As : List Value) (hK : gh_K G X cc nL own) (hM : gMet l G y cy ny ry rm (.ref (G.2.2.1 i) :: As) g Post) (hY : gh_Y y cy ny ry na) (hV : Cond.instanceMethod y ∈ gTbl ∧ Cond.selects y.cls y y ∈ gTbl) (hlk : Cond.methodLink own index y ∈ gTbl) (hi : i < st_N) (hc : y.cls = "java/lang/String") (hst : st = As.reverse ++ .ref (G.2.2.1 i) :: rest) (hd : decode cc pc = .ok (.invokevirtual index, 3)) (hna : As.length = na) (hlv : lv.length = nL) (hrest : (rest.map fun v => v.category).sum ≤ 8) (hR : rm.frames + 1 ≤ R.frames ∧ 8 + (ny + 11) + rm.locals ≤ R.locals) (hf : k + rm.cells ≤ R.cells ∧ n + rm.slots ≤ R.slots)
    (kk : ∀ (v : Option Value) (g' : GH), Post v g' → gh_W l G R X g' (k + rm.cells) (n + rm.slots) lv (pc + 3) (v.toList ++ rest)) : gh_W l G R X g k n lv pc st := by
  obtain ⟨p, e, s, m, args, below, meth, c, A, Q⟩ := X
  obtain ⟨hx, hb, hml, hown, hts, hC, hA⟩ := hK
  intro H locs ls hP hAa hS hl
  obtain ⟨hbl, hpre⟩ := gh_pre hP hAa hS hA hC (.ref (G.2.2.1 i) :: As)
  refine gh_back hP hAa hS hl hA (a := (Value.ref (G.2.2.1 i) :: As).toArray) (va_runV (C := y.cls) (b := G.2.2.1 i) (As := As) (rest := rest) ⟨hx, hb, hml, hown, hts⟩ (hM H.size) ⟨gh_good hts hY hlk hR, hts _ hV.1, hts _ hV.2⟩ ⟨hbl, ?_, hpre⟩ rfl hna (by rw [← hlv]; exact hl.1) hst (lv_room hrest) hd hf) kk
  rw [hc]
  exact vk_recv hC.2.1.1 hi hS
end GHR6
theorem st_all : ∀ i, i < st_N → st_len.getD i 0 = (st_txt.getD i []).length ∧ st_len.getD i 0 < 100 ∧ ∀ j, j < st_len.getD i 0 → (st_byt.getD i []).getD j 0 = nI ((st_txt.getD i []).getD j 0) ∧ (st_txt.getD i []).getD j 0 < 128 := by decide +kernel
theorem w_cn : Cond.native arraycopyName ∈ gTbl := gt_in (i := 585) (by decide +kernel) rfl
theorem w_cs : Cond.static arraycopyName ∈ gTbl := gt_in (i := 584) (by decide +kernel) rfl
theorem w_cy : Cond.initialized "java/lang/System" ∈ gTbl := gt_in (i := 30) (by decide +kernel) rfl
section GHCP
variable {l : Launch} {G : GG} {R : Room} {X : GX} {cc : ByteArray} {nL : Nat} {own : String} {g : GH} {k n pc : Nat} {lv : List (Option Value)} {st : List Value}
/-- System.arraycopy within one array of ints -/
theorem gh_copyi {a t N t0 index sp dp cn : Nat} {cA : ClassId} {f : Nat → Int32} (hK : gh_K G X cc nL own) (hd : decode cc pc = .ok (.invokestatic index, 3)) (hlk : Cond.methodLink own index arraycopyName ∈ gTbl) (he : g a = some (t, .inl (cA, N, .inl f))) (ht : (gh_tys G)[t0]? = some (cA, .int)) (hN : N < 2 ^ 31) (h1 : sp + cn ≤ N) (h2 : dp + cn ≤ N) (hlv : lv.length = nL) (hR : 1 ≤ R.frames) (hR2 : (st.map fun v => v.category).sum + (nativeFrameWords "java/lang/System" "arraycopy" 5 + 11) ≤ R.locals) (kk : gh_W l G R X (gh_up g a t (.inl (cA, N, .inl (va_cpy f f sp dp cn)))) k n lv (pc + 3) st) : gh_W l G R X g k n lv pc (.int (nI cn) :: .int (nI dp) :: .ref a :: .int (nI sp) :: .ref a :: st) := by
  obtain ⟨p, e, s, m, args, below, meth, c, A, Q⟩ := X
  obtain ⟨hx, hb, hml, hown, hts, hC, hA⟩ := hK
  intro H locs ls hP hAa hS hl
  obtain ⟨ws, w1, w2, w3, w4⟩ := gh_list hP hAa
  obtain ⟨q0, hq⟩ := w3 a t _ he
  have c1 : (nI sp).toNatClampNeg = sp := nI_clamp (by omega)
  have c2 : (nI dp).toNatClampNeg = dp := nI_clamp (by omega)
  have c3 : (nI cn).toNatClampNeg = cn := nI_clamp (by omega)
  refine va_copyi hx hb (by rw [hml, ← hlv]; exact hl.1.symm) hown (hts _ hlk) (hts _ w_cn) (hts _ w_cs) (hts _ w_cy) hC.1 w1 w2 hS q0 q0 t0 t0 hq hq ht ht rfl (nI_pos (by omega)) (nI_pos (by omega)) (nI_pos (by omega)) (by rw [c1, c3]; exact h1) (by rw [c2, c3]; exact h2) (fun _ _ => rfl) hR hR2 hd (fun H1 locs1 z1 z2 z3 => ?_)
  rw [c1, c2, c3] at z1 z2
  refine kk H1 locs1 ls (gh_set t w2 w3 hq z1) (fun b hb => ?_) z3 hl
  by_cases hba : b = a
  · rw [hba]; exact hAa a (by rw [he]; exact fun z => by cases z)
  · rw [gh_un hba] at hb; exact hAa b hb
end GHCP
theorem w_sf : Cond.sameField "java/util/ArrayList" "java/util/AbstractList" "modCount" "I" ∈ gTbl := gt_in (i := 127) (by decide +kernel) rfl
theorem w_gs : Cond.selects "[Ljava/lang/Object;" ⟨"java/lang/Object", "getClass", "()Ljava/lang/Class;"⟩ ⟨"java/lang/Object", "getClass", "()Ljava/lang/Class;"⟩ ∈ gTbl := gt_in (i := 1421) (by decide +kernel) rfl
theorem w_gi : Cond.instanceMethod ⟨"java/lang/Object", "getClass", "()Ljava/lang/Class;"⟩ ∈ gTbl := gt_in (i := 762) (by decide +kernel) rfl
theorem w_gn : Cond.native ⟨"java/lang/Object", "getClass", "()Ljava/lang/Class;"⟩ ∈ gTbl := gt_in (i := 780) (by decide +kernel) rfl
section GHQ
variable {l : Launch} {G : GG} {R : Room} {X : GX} {cc : ByteArray} {nL : Nat} {own : String} {g : GH} {k n pc : Nat} {lv : List (Option Value)} {st : List Value}
abbrev qArr (G : GG) (N : Nat) (f : Nat → Option Nat) : va_E := .inl (G.2.1 2, N, .inr (.inr (.inr (.inr f))))
/-- modCount, which AbstractList declares -/
theorem gh_getM {index a t : Nat} {fs : List Value} {v : Value} (hK : gh_K G X cc nL own) (hd : decode cc pc = .ok (.getfield index, 3)) (he : g a = some (t, .inr (11, fs))) (hlink : Cond.fieldLink own index "java/util/ArrayList" "modCount" "I" ∈ gTbl) (hv : fs[0]? = some v) (kk : gh_W l G R X g k n lv (pc + 3) (v :: st)) : gh_W l G R X g k n lv pc (.ref a :: st) := by
  obtain ⟨p, e, s, m, args, below, meth, c, A, Q⟩ := X
  obtain ⟨hx, hb, hml, hown, hts, hC, hA⟩ := hK
  intro H locs ls hP hAa hS hl
  exact va_get (C := R_AL) (T := F_AL) (N := 3) (ws := [(a, .inr (11, fs))]) hx hb hts in_AL hown hC.1 (fun i q hi => by
    have hz : i < 1 := (List.getElem?_eq_some_iff.mp hi).1
    rw [show i = 0 by omega] at hi
    cases hi
    exact hP a t _ he) 0 rfl rfl 0 (by decide) (hts _ hlink) (fun x h => u_same (hts _ w_sf) x h) hv hd (kk H locs ls hP hAa hS hl)
theorem gh_putM {index a t : Nat} {fs fs' : List Value} {v : Int32} (hK : gh_K G X cc nL own) (hd : decode cc pc = .ok (.putfield index, 3)) (he : g a = some (t, .inr (11, fs))) (hlink : Cond.fieldLink own index "java/util/ArrayList" "modCount" "I" ∈ gTbl) (hl0 : 0 < fs.length) (hfs : fs.set 0 (.int v) = fs') (kk : gh_W l G R X (gh_up g a t (.inr (11, fs'))) k n lv (pc + 3) st) : gh_W l G R X g k n lv pc (.int v :: .ref a :: st) := by
  obtain ⟨p, e, s, m, args, below, meth, c, A, Q⟩ := X
  obtain ⟨hx, hb, hml, hown, hts, hC, hA⟩ := hK
  intro H locs ls hP hAa hS hl
  subst hfs
  obtain ⟨ws, w1, w2, w3, w4⟩ := gh_list hP hAa
  obtain ⟨q0, hq⟩ := w3 a t _ he
  refine va_put (C := R_AL) (T := F_AL) (N := 3) hx hb hts in_AL t_AL ty_AL nm_AL hown hC.1 w1 w2 hS q0 hq rfl 0 (by decide) (hts _ hlink) (fun x h => u_same (hts _ w_sf) x h) rfl (ty_AL 0 (by decide)) rfl rfl hl0 hd (fun H1 locs1 h1 h2 h3 => kk H1 locs1 ls (gh_set t w2 w3 hq h1) (fun b hb => ?_) h3 hl)
  by_cases hba : b = a
  · rw [hba]; exact hAa a (by rw [he]; exact fun z => by cases z)
  · rw [gh_un hba] at hb; exact hAa b hb
theorem gh_aaldN {a t N j : Nat} {f : Nat → Option Nat} (hK : gh_K G X cc nL own) (hd : decode cc pc = .ok (.aaload, 1)) (he : g a = some (t, qArr G N f)) (hj : j < N) (hN : N < 2 ^ 31) (kk : gh_W l G R X g k n lv (pc + 1) (va_rf (f j) :: st)) : gh_W l G R X g k n lv pc (.int (nI j) :: .ref a :: st) := by
  refine gh_aald (t0 := 2) hK hd he rfl (vp_in_nI hj hN) ?_
  rw [nI_clamp (by omega)]
  exact kk
/-- an object of the class ci into an array of Objects -/
theorem gh_aast {a t N j v tv ci : Nat} {vs : List Value} {r : vw_C} {f : Nat → Option Nat} (hK : gh_K G X cc nL own) (hd : decode cc pc = .ok (.aastore, 1)) (he : g a = some (t, qArr G N f)) (hv : g v = some (tv, .inr (ci, vs))) (hc : vwCl[ci]? = some r) (hci : r.1 = "SpellDesk$Entry" ∨ r.1 = "SpellDesk$Rule") (hj : j < N) (hN : N < 2 ^ 31) (kk : gh_W l G R X (gh_up g a t (qArr G N (va_up f j (some v)))) k n lv (pc + 1) st) : gh_W l G R X g k n lv pc (.ref v :: .int (nI j) :: .ref a :: st) := by
  obtain ⟨p, e, s, m, args, below, meth, c, A, Q⟩ := X
  obtain ⟨hx, hb, hml, hown, hts, hC, hA⟩ := hK
  intro H locs ls hP hAa hS hl
  obtain ⟨ws, w1, w2, w3, w4⟩ := gh_list hP hAa
  obtain ⟨q0, hq⟩ := w3 a t _ he
  obtain ⟨qk, hqk⟩ := w3 v tv _ hv
  have hX := hC.2.1.2.2.2.2.2.2.2
  have hca : va_Nw (.castable r.1 "java/lang/Object") s := by
    rcases hci with h | h
    · rw [h]; exact hX.2.1
    · rw [h]; exact hX.2.2.1
  have ej : (nI j).toNatClampNeg = j := nI_clamp (by omega)
  refine va_astqO (E := "java/lang/Object") hx hb hC.1 w1 w2 hS q0 2 qk ci hq rfl hca hqk hc (vp_in_nI hj hN) hd (fun H1 locs1 h1 h2 h3 => kk H1 locs1 ls (gh_set t w2 w3 hq (by rw [ej] at h1; exact h1)) (fun b hb => ?_) h3 hl)
  by_cases hba : b = a
  · rw [hba]; exact hAa a (by rw [he]; exact fun z => by cases z)
  · rw [gh_un hba] at hb; exact hAa b hb
theorem gh_aastN {a t N j : Nat} {f : Nat → Option Nat} (hK : gh_K G X cc nL own) (hd : decode cc pc = .ok (.aastore, 1)) (he : g a = some (t, qArr G N f)) (hj : j < N) (hN : N < 2 ^ 31) (kk : gh_W l G R X (gh_up g a t (qArr G N (va_up f j none))) k n lv (pc + 1) st) : gh_W l G R X g k n lv pc (.null :: .int (nI j) :: .ref a :: st) := by
  obtain ⟨p, e, s, m, args, below, meth, c, A, Q⟩ := X
  obtain ⟨hx, hb, hml, hown, hts, hC, hA⟩ := hK
  intro H locs ls hP hAa hS hl
  obtain ⟨ws, w1, w2, w3, w4⟩ := gh_list hP hAa
  obtain ⟨q0, hq⟩ := w3 a t _ he
  have ej : (nI j).toNatClampNeg = j := nI_clamp (by omega)
  refine va_astqN (C := "java/lang/Object") hx hb hC.1 w1 w2 hS q0 2 hq rfl (vp_in_nI hj hN) hd (fun H1 locs1 h1 h2 h3 => kk H1 locs1 ls (gh_set t w2 w3 hq (by rw [ej] at h1; exact h1)) (fun b hb => ?_) h3 hl)
  by_cases hba : b = a
  · rw [hba]; exact hAa a (by rw [he]; exact fun z => by cases z)
  · rw [gh_un hba] at hb; exact hAa b hb
theorem gh_newq {N index : Nat} (t : Nat) (hK : gh_K G X cc nL own) (hd : decode cc pc = .ok (.anewarray index, 3)) (hcl : Cond.classLink own index "java/lang/Object" ∈ gTbl) (hN : N < 65536) (hcells : k + 1 ≤ R.cells) (hslots : n + N ≤ R.slots) (kk : ∀ a : Nat, g a = none → gh_W l G R X (gh_up g a t (qArr G N (fun _ => none))) (k + 1) (n + N) lv (pc + 3) (.ref a :: st)) : gh_W l G R X g k n lv pc (.int (nI N) :: st) := by
  obtain ⟨p, e, s, m, args, below, meth, c, A, Q⟩ := X
  obtain ⟨hx, hb, hml, hown, hts, hC, hA⟩ := hK
  intro H locs ls hP hAa hS hl
  obtain ⟨ws, w1, w2, w3, w4⟩ := gh_list hP hAa
  refine va_newq (N' := N) hx hb hown (hts _ hcl) hC.2.1.2.2.2.2.2.2.2.1 hC.1 w1 w2 hS hA (nI_pos (by omega)) (nI_clamp (by omega)) (by omega) hcells hslots hd (fun q cB H1 hK1 h1 h2 h3 => ?_)
  have e : cB = G.2.1 2 := by
    have z1 := va_nmO (hK1.2 (gh_tys G).length (cB, .object "java/lang/Object") (by rw [List.getElem?_append_right (Nat.le_refl _), Nat.sub_self]; rfl)).2 rfl
    have z2 := va_nmO (hC.1.2 2 (G.2.1 2, .object "java/lang/Object") rfl).2 rfl
    exact Option.some.inj (z1.symm.trans z2)
  subst e
  obtain ⟨z1, z2⟩ := gh_push t w3 h1 h2
  refine kk q z1 H1 locs ls z2 (fun b hb => ?_) h3 hl
  by_cases hba : b = q
  · rw [hba]
    exact h2.2 ws.length (q, _) (by rw [List.getElem?_append_right (Nat.le_refl _), Nat.sub_self]; rfl)
  · rw [gh_un hba] at hb; exact hAa b hb
/-- System.arraycopy between arrays of Objects that hold entries, or rules, alone -/
theorem gh_copyq {a0 u0 a t N0 N index sp dp cn ci : Nat} {r : vw_C} {f f2 : Nat → Option Nat} (hK : gh_K G X cc nL own) (hd : decode cc pc = .ok (.invokestatic index, 3)) (hlk : Cond.methodLink own index arraycopyName ∈ gTbl) (he0 : g a0 = some (u0, qArr G N0 f)) (he : g a = some (t, qArr G N f2)) (hc : vwCl[ci]? = some r) (hci : r.1 = "SpellDesk$Entry" ∨ r.1 = "SpellDesk$Rule") (hel : ∀ i, i < cn → ∀ y, f (sp + i) = some y → ∃ ty fs, g y = some (ty, .inr (ci, fs))) (hN0 : N0 < 2 ^ 31) (hN : N < 2 ^ 31) (h1 : sp + cn ≤ N0) (h2 : dp + cn ≤ N) (hlv : lv.length = nL) (hR : 1 ≤ R.frames) (hR2 : (st.map fun v => v.category).sum + (nativeFrameWords "java/lang/System" "arraycopy" 5 + 11) ≤ R.locals) (kk : gh_W l G R X (gh_up g a t (qArr G N (va_cpy f f2 sp dp cn))) k n lv (pc + 3) st) : gh_W l G R X g k n lv pc (.int (nI cn) :: .int (nI dp) :: .ref a :: .int (nI sp) :: .ref a0 :: st) := by
  obtain ⟨p, e, s, m, args, below, meth, c, A, Q⟩ := X
  obtain ⟨hx, hb, hml, hown, hts, hC, hA⟩ := hK
  intro H locs ls hP hAa hS hl
  obtain ⟨ws, w1, w2, w3, w4⟩ := gh_list hP hAa
  obtain ⟨q0, hq0⟩ := w3 a0 u0 _ he0
  obtain ⟨q1, hq⟩ := w3 a t _ he
  have c1 : (nI sp).toNatClampNeg = sp := nI_clamp (by omega)
  have c2 : (nI dp).toNatClampNeg = dp := nI_clamp (by omega)
  have c3 : (nI cn).toNatClampNeg = cn := nI_clamp (by omega)
  have hX := hC.2.1.2.2.2.2.2.2.2
  have hca : va_Nw (.castable r.1 "java/lang/Object") s := by
    rcases hci with h | h
    · rw [h]; exact hX.2.1
    · rw [h]; exact hX.2.2.1
  refine va_copyq (C := r.1) (E1 := "java/lang/Object") hx hb (by rw [hml, ← hlv]; exact hl.1.symm) hown (hts _ hlk) (hts _ w_cn) (hts _ w_cs) (hts _ w_cy) hC.1 w1 w2 hS q0 q1 2 2 hq0 hq rfl rfl (nI_pos (by omega)) (nI_pos (by omega)) (nI_pos (by omega)) (by rw [c1, c3]; exact h1) (by rw [c2, c3]; exact h2) (fun i hi y hy => ?_) (fun comp c0 z1 z2 => ?_) hR hR2 hd (fun H1 locs1 z1 z2 z3 => ?_)
  · rw [c1] at hy
    rw [c3] at hi
    obtain ⟨ty, fs, hg⟩ := hel i hi y hy
    obtain ⟨qy, hqy⟩ := w3 y ty _ hg
    exact va_recv hC.1 w1 hc hqy
  · obtain ⟨x1, x2, y1, y2, y3⟩ := Cond.castable_spec (va_Nw.use (A := args) rfl hca)
    cases z2.symm.trans y1
    cases z1.symm.trans y2
    exact y3
  rw [c1, c2, c3] at z1 z2
  refine kk H1 locs1 ls (gh_set t w2 w3 hq z1) (fun b hb => ?_) z3 hl
  by_cases hba : b = a
  · rw [hba]; exact hAa a (by rw [he]; exact fun z => by cases z)
  · rw [gh_un hba] at hb; exact hAa b hb
theorem gh_acmp_eq {rx ry : Nat} {off : Int} {tgt : Nat} (hK : gh_K G X cc nL own) (hd : decode cc pc = .ok (.if_acmp .eq off, 3)) (ht : (pc : Int) + off = (tgt : Int)) (kt : rx = ry → gh_W l G R X g k n lv tgt st) (kf : rx ≠ ry → gh_W l G R X g k n lv (pc + 3) st) : gh_W l G R X g k n lv pc (.ref ry :: .ref rx :: st) := by
  obtain ⟨p, e, s, m, args, below, meth, c, A, Q⟩ := X
  obtain ⟨hx, hb, hml, hown, hts, hC, hA⟩ := hK
  intro H locs ls hP hAa hS hl
  exact lv_acmp_eq (rx := some rx) (ry := some ry) hx hb hd ht (fun z => kt (Option.some.inj z) H locs ls hP hAa hS hl) (fun z => kf (fun q => z (by rw [q])) H locs ls hP hAa hS hl)
theorem gh_acmp_ne {rx ry : Nat} {off : Int} {tgt : Nat} (hK : gh_K G X cc nL own) (hd : decode cc pc = .ok (.if_acmp .ne off, 3)) (ht : (pc : Int) + off = (tgt : Int)) (kt : rx ≠ ry → gh_W l G R X g k n lv tgt st) (kf : rx = ry → gh_W l G R X g k n lv (pc + 3) st) : gh_W l G R X g k n lv pc (.ref ry :: .ref rx :: st) := by
  obtain ⟨p, e, s, m, args, below, meth, c, A, Q⟩ := X
  obtain ⟨hx, hb, hml, hown, hts, hC, hA⟩ := hK
  intro H locs ls hP hAa hS hl
  exact lv_acmp_ne (rx := some rx) (ry := some ry) hx hb hd ht (fun z => kt (fun q => z (by rw [q])) H locs ls hP hAa hS hl) (fun z => kf (Option.some.inj z) H locs ls hP hAa hS hl)
theorem gh_ldcM {index : Nat} (hK : gh_K G X cc nL own) (hd : decode cc pc = .ok (.ldc index, 2)) (hcl : Cond.classLink own index "[Ljava/lang/Object;" ∈ gTbl) (kk : gh_W l G R X g k n lv (pc + 2) (.ref G.2.2.2.2.2 :: st)) : gh_W l G R X g k n lv pc st := by
  obtain ⟨p, e, s, m, args, below, meth, c, A, Q⟩ := X
  obtain ⟨hx, hb, hml, hown, hts, hC, hA⟩ := hK
  intro H locs ls hP hAa hS hl
  exact va_ldcM hx hb hown (hts _ hcl) hC.2.1.2.2.2.2.2.2.2.2.2.2.2.2.2 hd (kk H locs ls hP hAa hS hl)
theorem gh_getC {a t N index : Nat} {f : Nat → Option Nat} (hK : gh_K G X cc nL own) (hd : decode cc pc = .ok (.invokevirtual index, 3)) (hlk : Cond.methodLink own index ⟨"java/lang/Object", "getClass", "()Ljava/lang/Class;"⟩ ∈ gTbl) (he : g a = some (t, qArr G N f)) (hlv : lv.length = nL) (hR : 1 ≤ R.frames) (hR2 : (st.map fun v => v.category).sum + 14 ≤ R.locals) (kk : gh_W l G R X g k n lv (pc + 3) (.ref G.2.2.2.2.2 :: st)) : gh_W l G R X g k n lv pc (.ref a :: st) := by
  obtain ⟨p, e, s, m, args, below, meth, c, A, Q⟩ := X
  obtain ⟨hx, hb, hml, hown, hts, hC, hA⟩ := hK
  intro H locs ls hP hAa hS hl
  have hX := hC.2.1.2.2.2.2.2.2.2
  refine va_getC hx hb (by rw [hml, ← hlv]; exact hl.1.symm) hown (hts _ hlk) (va_Dc.use hX.2.2.2.2.2.1) (hts _ w_gs) (hts _ w_gi) (hts _ w_gn) hX.2.2.2.2.2.2 ⟨_, hP a t _ he, rfl, ?_⟩ hR hR2 hd (kk H locs ls hP hAa hS hl)
  exact va_nmO (hC.1.2 2 (G.2.1 2, .object "java/lang/Object") rfl).2 rfl
/-- checkcast of an object of its own class -/
theorem gh_cast0 {a t ci index N : Nat} {nm : String} {T : u_T} {fs : List Value} (hK : gh_K G X cc nL own) (hd : decode cc pc = .ok (.checkcast index, 3)) (hcl : Cond.classLink own index nm ∈ gTbl) (he : g a = some (t, .inr (ci, fs))) (hc : vwCl[ci]? = some (nm, T, N)) (kk : gh_W l G R X g k n lv (pc + 3) (.ref a :: st)) : gh_W l G R X g k n lv pc (.ref a :: st) := by
  obtain ⟨p, e, s, m, args, below, meth, c, A, Q⟩ := X
  obtain ⟨hx, hb, hml, hown, hts, hC, hA⟩ := hK
  intro H locs ls hP hAa hS hl
  exact va_castS hx hb hown (hts _ hcl) (hC.1.1 ci _ hc).2 (va_recv (ws := [(a, .inr (ci, fs))]) hC.1 (fun i q hi => by
    have hz : i < 1 := (List.getElem?_eq_some_iff.mp hi).1
    rw [show i = 0 by omega] at hi
    cases hi
    exact hP a t _ he) (ci := ci) (q := (nm, T, N)) (q0 := 0) hc rfl) hd (kk H locs ls hP hAa hS hl)
theorem gh_ldcI {index : Nat} {v : Int32} (hK : gh_K G X cc nL own) (hd : decode cc pc = .ok (.ldc index, 2)) (hw : Cond.constant own index v ∈ gTbl) (kk : gh_W l G R X g k n lv (pc + 2) (.int v :: st)) : gh_W l G R X g k n lv pc st := by
  obtain ⟨p, e, s, m, args, below, meth, c, A, Q⟩ := X
  obtain ⟨hx, hb, hml, hown, hts, hC, hA⟩ := hK
  intro H locs ls hP hAa hS hl
  exact lv_ldc hx hb hown (hts _ hw) hd (kk H locs ls hP hAa hS hl)
end GHQ
