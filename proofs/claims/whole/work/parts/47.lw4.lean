/-! the start -/
def subl : List Cond → List Cond → Bool
  | [], _ => true
  | _ :: _, [] => false
  | c :: cs, d :: ds => if c = d then subl cs ds else subl (c :: cs) ds
theorem subl_mem : ∀ (ds cs : List Cond), subl cs ds = true → ∀ c ∈ cs, c ∈ ds
  | [], [], _, c, h => by cases h
  | [], _ :: _, h, _, _ => by cases h
  | d :: ds, [], _, c, h => by cases h
  | d :: ds, c0 :: cs, h, c, hc => by
    unfold subl at h
    by_cases e : c0 = d
    · rw [if_pos e] at h
      rcases List.mem_cons.mp hc with z | z
      · rw [z, e]; exact List.mem_cons_self
      · exact List.mem_cons_of_mem _ (subl_mem ds cs h c z)
    · rw [if_neg e] at h
      exact List.mem_cons_of_mem _ (subl_mem ds (c0 :: cs) h c hc)
def st_tm (i : Nat) : Term := .string (st_own.getD i ("", 0, "")).1 (st_own.getD i ("", 0, "")).2.1
def st_val (i : Nat) : Term := .field (st_tm i) "java/lang/String" "value" "[B"
def st_exp (i : Nat) : List Cond := .exactly (st_tm i) "java/lang/String" :: .eq (.field (st_tm i) "java/lang/String" "coder" "B") (.int 0) :: .arrayOf (st_val i) .byte :: .eq (.length (st_val i)) (.int (Int32.ofNat (st_len.getD i 0))) :: ((List.range (st_len.getD i 0)).map (fun j => Cond.eq (.elem (st_val i) (.int (Int32.ofNat j))) (.int ((st_byt.getD i []).getD j 0))) ++ (List.range i).map (fun j => Cond.not (Cond.eq (st_tm j) (st_tm i))))
def st_xpt : List Cond := (List.range st_N).flatMap st_exp
set_option maxRecDepth 100000 in
theorem st_sub : subl st_xpt (flatC (Jvm.Cond.and given_1 narrow_1)) = true := by decide +kernel
theorem st_in {i : Nat} {c : Cond} (hi : i < st_N) (h : c ∈ st_exp i) : c ∈ flatC (Jvm.Cond.and given_1 narrow_1) := subl_mem _ _ st_sub c (List.mem_flatMap.mpr ⟨i, List.mem_range.mpr hi, h⟩)
theorem st_wd : ∀ i, i < st_N → ∀ q, st_own[i]? = some q → Cond.stringRef q.1 q.2.1 q.2.2 ∈ tables_1 := fun i hi q hq => by
  have hi : i < 21 := hi
  rcases (show i = 0 ∨ i = 1 ∨ i = 2 ∨ i = 3 ∨ i = 4 ∨ i = 5 ∨ i = 6 ∨ i = 7 ∨ i = 8 ∨ i = 9 ∨ i = 10 ∨ i = 11 ∨ i = 12 ∨ i = 13 ∨ i = 14 ∨ i = 15 ∨ i = 16 ∨ i = 17 ∨ i = 18 ∨ i = 19 ∨ i = 20 by omega) with rfl | rfl | rfl | rfl | rfl | rfl | rfl | rfl | rfl | rfl | rfl | rfl | rfl | rfl | rfl | rfl | rfl | rfl | rfl | rfl | rfl
  · cases hq; exact List.mem_of_getElem? (i := 293) (by decide +kernel)
  · cases hq; exact List.mem_of_getElem? (i := 407) (by decide +kernel)
  · cases hq; exact List.mem_of_getElem? (i := 426) (by decide +kernel)
  · cases hq; exact List.mem_of_getElem? (i := 790) (by decide +kernel)
  · cases hq; exact List.mem_of_getElem? (i := 791) (by decide +kernel)
  · cases hq; exact List.mem_of_getElem? (i := 814) (by decide +kernel)
  · cases hq; exact List.mem_of_getElem? (i := 827) (by decide +kernel)
  · cases hq; exact List.mem_of_getElem? (i := 848) (by decide +kernel)
  · cases hq; exact List.mem_of_getElem? (i := 874) (by decide +kernel)
  · cases hq; exact List.mem_of_getElem? (i := 875) (by decide +kernel)
  · cases hq; exact List.mem_of_getElem? (i := 967) (by decide +kernel)
  · cases hq; exact List.mem_of_getElem? (i := 979) (by decide +kernel)
  · cases hq; exact List.mem_of_getElem? (i := 1006) (by decide +kernel)
  · cases hq; exact List.mem_of_getElem? (i := 1011) (by decide +kernel)
  · cases hq; exact List.mem_of_getElem? (i := 1013) (by decide +kernel)
  · cases hq; exact List.mem_of_getElem? (i := 1014) (by decide +kernel)
  · cases hq; exact List.mem_of_getElem? (i := 1033) (by decide +kernel)
  · cases hq; exact List.mem_of_getElem? (i := 1038) (by decide +kernel)
  · cases hq; exact List.mem_of_getElem? (i := 1056) (by decide +kernel)
  · cases hq; exact List.mem_of_getElem? (i := 1120) (by decide +kernel)
  · cases hq; exact List.mem_of_getElem? (i := 1141) (by decide +kernel)
theorem gh_LS.of {args : Array Value} {s : State} {n d : String} {A : Nat → Prop} (hl : (Cond.laysStatic "java/lang/Throwable" n d).before args s = true) (h : (Cond.isRef (.static "java/lang/Throwable" n d)).before args s = true) (hA : ∀ a : Nat, a < s.heap.size → ¬ A a) : gh_LS n d A s s.heap := by
  obtain ⟨c, k, i, f, a, cell, hc, hi, hst, ha, hcell, hs, hcls, hlt, hty⟩ := Cond.laysStatic_spec hl
  obtain ⟨v, hv, hr⟩ := Cond.isRef_spec h
  obtain ⟨hst', a', cell', ha', hcell', -, hslot⟩ := Term.static_spec hi hv
  cases ha.symm.trans ha'
  cases hcell.symm.trans hcell'
  exact ⟨c, k, i, f, a, cell, v, hc, hi, hst, ha, hty, hcell, hs, hcls, hslot, hr, hA a (Array.getElem?_eq_some_iff.mp hcell).1⟩
theorem st_arr {args : Array Value} {s : State} {ty : FieldType} (h : (Cond.arrayClass ty).before args s = true) (hty : ∀ C, ty ≠ .object C) : ∃ cA : ClassId, ArrOfT s cA ty ∧ va_RA s cA ty := by
  obtain ⟨c, k, comp, h1, h2, h3⟩ := Cond.arrayClass_spec h
  refine ⟨c, fun n z => ⟨fun k h => (by cases h), k, h2, comp, h3⟩, ?_⟩
  cases ty with
  | object C => exact absurd rfl (hty C)
  | _ => exact h1
theorem st_arrO {args : Array Value} {s : State} {C : String} (h : (Cond.arrayOver (.object C)).before args s = true) : ∃ cA : ClassId, ArrOfT s cA (.object C) ∧ va_RA s cA (.object C) := by
  obtain ⟨comp, c, k, h1, h2, h3, h4, h5⟩ := Cond.arrayOver_spec h
  exact ⟨c, fun n z => ⟨fun k h => (by cases h), k, h3, comp, h4⟩, k, comp, h3, h4, h1, h5⟩
set_option maxRecDepth 20000 in
theorem st_cl {args : Array Value} {s : State} (hts : ∀ w ∈ gTbl, w.before args s = true) : ∀ k : Nat, ∃ z : ClassId × (Nat → Nat), ∀ q, vwCl[k]? = some q → u_Kn s q.1 q.2.1 q.2.2 z.1 z.2 := by
  intro k
  by_cases hk : k < 14
  · rcases (show k = 0 ∨ k = 1 ∨ k = 2 ∨ k = 3 ∨ k = 4 ∨ k = 5 ∨ k = 6 ∨ k = 7 ∨ k = 8 ∨ k = 9 ∨ k = 10 ∨ k = 11 ∨ k = 12 ∨ k = 13 by omega) with rfl | rfl | rfl | rfl | rfl | rfl | rfl | rfl | rfl | rfl | rfl | rfl | rfl | rfl
    · obtain ⟨c, i, h⟩ := u_known (C := R_SD) (T := F_SD) (N := 8) (n := 8) hts in_SD (hts _ wi_SD)
      exact ⟨(c, i), fun q hq => by cases hq; exact h⟩
    · obtain ⟨c, i, h⟩ := u_known (C := R_Dc) (T := F_Dc) (N := 1) (n := 1) hts in_Dc (hts _ wi_Dc)
      exact ⟨(c, i), fun q hq => by cases hq; exact h⟩
    · obtain ⟨c, i, h⟩ := u_known (C := R_En) (T := F_En) (N := 2) (n := 2) hts in_En (hts _ wi_En)
      exact ⟨(c, i), fun q hq => by cases hq; exact h⟩
    · obtain ⟨c, i, h⟩ := u_known (C := R_Lt) (T := F_Lt) (N := 2) (n := 2) hts in_Lt (hts _ wi_Lt)
      exact ⟨(c, i), fun q hq => by cases hq; exact h⟩
    · obtain ⟨c, i, h⟩ := u_known (C := R_Ln) (T := F_Ln) (N := 7) (n := 7) hts in_Ln (hts _ wi_Ln)
      exact ⟨(c, i), fun q hq => by cases hq; exact h⟩
    · obtain ⟨c, i, h⟩ := u_known (C := R_Pr) (T := F_Pr) (N := 3) (n := 3) hts in_Pr (hts _ wi_Pr)
      exact ⟨(c, i), fun q hq => by cases hq; exact h⟩
    · obtain ⟨c, i, h⟩ := u_known (C := R_Ru) (T := F_Ru) (N := 5) (n := 5) hts in_Ru (hts _ wi_Ru)
      exact ⟨(c, i), fun q hq => by cases hq; exact h⟩
    · obtain ⟨c, i, h⟩ := u_known (C := R_Rs) (T := F_Rs) (N := 3) (n := 3) hts in_Rs (hts _ wi_Rs)
      exact ⟨(c, i), fun q hq => by cases hq; exact h⟩
    · obtain ⟨c, i, h⟩ := u_known (C := R_Sp) (T := F_Sp) (N := 8) (n := 8) hts in_Sp (hts _ wi_Sp)
      exact ⟨(c, i), fun q hq => by cases hq; exact h⟩
    · obtain ⟨c, i, h⟩ := u_known (C := R_Wl) (T := F_Wl) (N := 4) (n := 4) hts in_Wl (hts _ wi_Wl)
      exact ⟨(c, i), fun q hq => by cases hq; exact h⟩
    · obtain ⟨c, i, h⟩ := u_known (C := R_Md) (T := F_Md) (N := 26) (n := 26) hts in_Md (hts _ wi_Md)
      exact ⟨(c, i), fun q hq => by cases hq; exact h⟩
    · obtain ⟨c, i, h⟩ := u_known (C := R_AL) (T := F_AL) (N := 3) (n := 3) hts in_AL (hts _ wi_AL)
      exact ⟨(c, i), fun q hq => by cases hq; exact h⟩
    · obtain ⟨c, i, h⟩ := u_known (C := R_ISE) (T := F_ISE) (N := 6) (n := 6) hts in_ISE (hts _ wi_ISE)
      exact ⟨(c, i), fun q hq => by cases hq; exact h⟩
    · obtain ⟨c, i, h⟩ := u_known (C := R_IOE) (T := F_IOE) (N := 6) (n := 6) hts in_IOE (hts _ wi_IOE)
      exact ⟨(c, i), fun q hq => by cases hq; exact h⟩
  · exact ⟨(0, fun _ => 0), fun q hq => by rw [List.getElem?_eq_none (by show 14 ≤ k; omega)] at hq; cases hq⟩
set_option maxRecDepth 100000 in
set_option maxHeartbeats 4000000 in
theorem st_C {s : State} {b : Nat} {A : Nat → Prop} (hts : ∀ w ∈ lw_tbl, w.before #[Value.ref b] s = true) (hgv : (Jvm.Cond.and given_1 narrow_1).before #[Value.ref b] s = true) (hA : ∀ a : Nat, a < s.heap.size → ¬ A a) : ∃ G : GG, gh_C G A s s.heap := by
  have htg : ∀ w ∈ gTbl, w.before #[Value.ref b] s = true := fun w h => hts w (List.mem_filter.mp h).1
  have hs := flat_of_before _ hgv
  obtain ⟨z, hz⟩ := Classical.axiomOfChoice (st_cl htg)
  obtain ⟨c0, a0⟩ := st_arr (htg _ w_ac) (fun C h => by cases h)
  obtain ⟨c1, a1⟩ := st_arr (htg _ w_ai) (fun C h => by cases h)
  have wao : (Cond.arrayOver (.object "java/lang/Object")).before #[Value.ref b] s = true := (hts _ (List.mem_append_right _ (List.mem_of_getElem? (i := 785) (by decide +kernel))))
  obtain ⟨c2, a2⟩ := st_arrO wao
  obtain ⟨c3, a3⟩ := st_arr (htg _ w_ab) (fun C h => by cases h)
  obtain ⟨c4, a4⟩ := st_arr (htg _ w_al) (fun C h => by cases h)
  obtain ⟨adK, adV, hSt, hAd⟩ := vk_Sof (args := #[Value.ref b]) (s := s) (N := st_N) (tm := st_tm) (len := st_len) (byt := st_byt) (A := A) (by decide) (fun i hi => hs _ (st_in hi (by simp [st_exp]))) (fun i hi => hs _ (st_in hi (by simp [st_exp]))) (fun i hi => hs _ (st_in hi (by simp [st_exp, st_val]))) (fun i hi => hs _ (st_in hi (by simp [st_exp, st_val])))
    (fun i hi j hj => hs _ (st_in hi (by
      unfold st_exp
      refine List.mem_cons_of_mem _ (List.mem_cons_of_mem _ (List.mem_cons_of_mem _ (List.mem_cons_of_mem _ (List.mem_append_left _ ?_))))
      exact List.mem_map.mpr ⟨j, List.mem_range.mpr hj, rfl⟩)))
    (fun i j hi hj hij => by
      have key : ∀ i j : Nat, j < st_N → i < j → (Cond.not (Cond.eq (st_tm i) (st_tm j))).before #[Value.ref b] s = true := fun i j hj h => hs _ (st_in hj (by
        unfold st_exp
        refine List.mem_cons_of_mem _ (List.mem_cons_of_mem _ (List.mem_cons_of_mem _ (List.mem_cons_of_mem _ (List.mem_append_right _ ?_))))
        exact List.mem_map.mpr ⟨i, List.mem_range.mpr h, rfl⟩))
      rcases Nat.lt_or_gt_of_ne hij with h | h
      · exact Or.inl (key i j hj h)
      · exact Or.inr (key j i hi h)) hA
  obtain ⟨t, ht, hT⟩ := va_Tof (args := #[Value.ref b]) (s := s) (tm := (.static "java/util/ArrayList" "DEFAULTCAPACITY_EMPTY_ELEMENTDATA" "[Ljava/lang/Object;")) (ty := .object "java/lang/Object") (N := 0) (f := fun _ => .null) (A := A) (by decide) (hs _ (by decide +kernel)) (va_eqt (hs (Cond.eq (.length (.static "java/util/ArrayList" "DEFAULTCAPACITY_EMPTY_ELEMENTDATA" "[Ljava/lang/Object;")) (.int 0)) (by decide +kernel))) (fun j hj => absurd hj (Nat.not_lt_zero j)) hA
  obtain ⟨mi, hmi⟩ := va_Mi.of (args := #[Value.ref b]) (s := s) (C := "[Ljava/lang/Object;") (hs _ (by decide +kernel))
  refine ⟨((fun k => (z k).1, fun k => (z k).2), (fun k => match k with | 0 => c0 | 1 => c1 | 2 => c2 | 3 => c3 | _ => c4), adK, adV, t, mi), ⟨fun k q hq => hz k q hq, fun k q hq => ?_⟩, ⟨hSt, va_Zof (hts _ (List.mem_append_right _ (List.mem_of_getElem? (i := 122) (by decide +kernel)))) (hts _ (List.mem_append_right _ (List.mem_of_getElem? (i := 9) (by decide +kernel)))) ht hA, hT, va_Zof (hts _ (List.mem_append_right _ (List.mem_of_getElem? (i := 307) (by decide +kernel)))) (hts _ (List.mem_append_right _ (List.mem_of_getElem? (i := 19) (by decide +kernel)))) (va_eqi (hs _ (by decide +kernel))) hA, va_Zqof (hts _ (List.mem_append_right _ (List.mem_of_getElem? (i := 323) (by decide +kernel)))) (hts _ (List.mem_append_right _ (List.mem_of_getElem? (i := 21) (by decide +kernel)))) (hs _ (by decide +kernel)) hA, va_Zqof (hts _ (List.mem_append_right _ (List.mem_of_getElem? (i := 494) (by decide +kernel)))) (hts _ (List.mem_append_right _ (List.mem_of_getElem? (i := 15) (by decide +kernel)))) (hs _ (by decide +kernel)) hA, va_Zqof (hts _ (List.mem_append_right _ (List.mem_of_getElem? (i := 496) (by decide +kernel)))) (hts _ (List.mem_append_right _ (List.mem_of_getElem? (i := 15) (by decide +kernel)))) (hs _ (by decide +kernel)) hA, va_AO.of wao, va_Nw.of rfl (hts _ (List.mem_append_right _ (List.mem_of_getElem? (i := 1433) (by decide +kernel)))), va_Nw.of rfl (hts _ (List.mem_append_right _ (List.mem_of_getElem? (i := 1429) (by decide +kernel)))), va_Nw.of rfl (hts _ (List.mem_append_right _ (List.mem_of_getElem? (i := 1113) (by decide +kernel)))), va_Nw.of rfl (hts _ (List.mem_append_right _ (List.mem_of_getElem? (i := 469) (by decide +kernel)))), va_Dc.of (hts _ (List.mem_append_right _ (List.mem_of_getElem? (i := 1422) (by decide +kernel)))), hmi⟩, fun i hi q hq => vk_R.of (hts _ (List.mem_append_right _ (st_wd i hi q hq))) ?_⟩
  · by_cases hk : k < 5
    · rcases (show k = 0 ∨ k = 1 ∨ k = 2 ∨ k = 3 ∨ k = 4 by omega) with rfl | rfl | rfl | rfl | rfl
      · cases hq; exact a0
      · cases hq; exact a1
      · cases hq; exact a2
      · cases hq; exact a3
      · cases hq; exact a4
    · rw [List.getElem?_eq_none (by show 5 ≤ k; omega)] at hq
      cases hq
  · have h1 := hAd i hi
    unfold st_tm at h1
    rw [List.getD_eq_getElem?_getD, hq] at h1
    exact h1
set_option maxRecDepth 100000 in
theorem st_J {s : State} {b : Nat} {A : Nat → Prop} (hts : ∀ w ∈ lw_tbl, w.before #[Value.ref b] s = true) (hgv : (Jvm.Cond.and given_1 narrow_1).before #[Value.ref b] s = true) (hA : ∀ a : Nat, a < s.heap.size → ¬ A a) : gh_J A s s.heap := by
  have hs := flat_of_before _ hgv
  exact ⟨gh_LS.of (hts _ (List.mem_append_right _ (List.mem_of_getElem? (i := 494) (by decide +kernel)))) (hs _ (by decide +kernel)) hA, gh_LS.of (hts _ (List.mem_append_right _ (List.mem_of_getElem? (i := 496) (by decide +kernel)))) (hs _ (by decide +kernel)) hA⟩
/-- THE LAW, from its entry -/
theorem whole_start {p : Program} {e : Env} {s : State} {m : MethodId} {below : List Frame} {meth : Method} {c : Code} (l : Launch) (hfl : l.flags = pinnedFlags ++ [noTraceFlag]) {b L : Nat} {xs : Nat → Int32} (hL : L ≤ 2560) (C0 : lw_At p s m meth c b L xs) : W p l e room_1 s m #[Value.ref b] below meth c s.heap [] 0 0 (lw_Z below #[Value.ref b] s) (entryFrame m ([Value.ref b] : List Value).toArray 7) := by
  obtain ⟨hx, hb, hr, hml, hown, hts, hX, hbl, hlocks, hgv⟩ := C0
  have htg : ∀ w ∈ gTbl, w.before #[Value.ref b] s = true := fun w h => hts w (List.mem_filter.mp h).1
  have hA2 : ∀ q, gh_A (fun _ => none) s.heap.size q → s.heap.size ≤ q := fun q h => h.elim (fun z => absurd rfl z) id
  have hA : ∀ a : Nat, a < s.heap.size → ¬ gh_A (fun _ => none) s.heap.size a := fun a h z => Nat.not_le.mpr h (hA2 a z)
  obtain ⟨G, hC⟩ := st_C hts hgv hA
  rw [lg_entry_eq]
  exact lw_entry l G (X := (p, e, s, m, #[Value.ref b], below, meth, c, gh_A (fun _ => none) s.heap.size, lw_Z below #[Value.ref b] s)) hfl ⟨hx, hb, hml, hown, htg, hC, fun q hq => Or.inr hq⟩ ⟨hX, hbl, hA b hbl⟩ (st_J hts hgv hA) ⟨rfl, hr, hlocks, hA2, rfl⟩ hL s.heap [] _ (fun a t e h => by cases h) (fun a ha => absurd rfl ha) va_S.rf (gh_entry (vs := [.ref b]) (fun w hw => by cases hw with | head => rfl | tail _ h => cases h) (Nat.le_of_ble_eq_true rfl) rfl)
