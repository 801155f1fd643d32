/-! rows that only the law's own code asks -/
def gh_SX (X : GX) (b L : Nat) (xs : Nat → Int32) : Prop :=
  match X with
  | (_, _, s, _, _, _, _, _, A, _) => va_X b L xs s s.heap ∧ b < s.heap.size ∧ ¬ A b
section GHLW
variable {l : Launch} {G : GG} {R : Room} {X : GX} {cc : ByteArray} {nL : Nat} {own : String} {g : GH} {k n pc : Nat} {lv : List (Option Value)} {st : List Value}
theorem gh_sld {b L i : Nat} {xs : Nat → Int32} (hK : gh_K G X cc nL own) (hX : gh_SX X b L xs) (hd : decode cc pc = .ok (.iaload, 1)) (hi : i < L) (hL : L < 2 ^ 31) (kk : gh_W l G R X g k n lv (pc + 1) (.int (xs i) :: st)) : gh_W l G R X g k n lv pc (.int (nI i) :: .ref b :: st) := by
  obtain ⟨p, e, s, m, args, below, meth, c, A, Q⟩ := X
  obtain ⟨hx, hb, hml, hown, hts, hC, hA⟩ := hK
  intro H locs ls hP hAa hS hl
  refine va_sld hx hb hX.1 hX.2.1 hX.2.2 hS (vp_in_nI hi hL) hd ?_
  rw [nI_clamp (by omega)]
  exact kk H locs ls hP hAa hS hl
theorem gh_slen {b L : Nat} {xs : Nat → Int32} (hK : gh_K G X cc nL own) (hX : gh_SX X b L xs) (hd : decode cc pc = .ok (.arraylength, 1)) (kk : gh_W l G R X g k n lv (pc + 1) (.int (nI L) :: st)) : gh_W l G R X g k n lv pc (.ref b :: st) := by
  obtain ⟨p, e, s, m, args, below, meth, c, A, Q⟩ := X
  obtain ⟨hx, hb, hml, hown, hts, hC, hA⟩ := hK
  intro H locs ls hP hAa hS hl
  exact va_slen hx hb hX.1 hX.2.1 hX.2.2 hS hd (kk H locs ls hP hAa hS hl)
theorem gh_lald {a t N t0 j : Nat} {cA : ClassId} {f : Nat → Int64} (hK : gh_K G X cc nL own) (hd : decode cc pc = .ok (.laload, 1)) (he : g a = some (t, .inl (cA, N, .inr (.inl f)))) (ht : (gh_tys G)[t0]? = some (cA, .long)) (hj : j < N) (hN : N < 2 ^ 31) (kk : gh_W l G R X g k n lv (pc + 1) (.long (f j) :: st)) : gh_W l G R X g k n lv pc (.int (nI j) :: .ref a :: st) := by
  obtain ⟨p, e, s, m, args, below, meth, c, A, Q⟩ := X
  obtain ⟨hx, hb, hml, hown, hts, hC, hA⟩ := hK
  intro H locs ls hP hAa hS hl
  refine va_lald (ws := [(a, .inl (cA, N, .inr (.inl f)))]) hx hb hC.1 (fun i q hi => ?_) 0 t0 rfl ht (vp_in_nI hj hN) hd ?_
  · have hz : i < 1 := (List.getElem?_eq_some_iff.mp hi).1
    rw [show i = 0 by omega] at hi
    cases hi
    exact hP a t _ he
  · rw [nI_clamp (by omega)]
    exact kk H locs ls hP hAa hS hl
theorem gh_last {a t N t0 j : Nat} {cA : ClassId} {f : Nat → Int64} {x : Int64} (hK : gh_K G X cc nL own) (hd : decode cc pc = .ok (.lastore, 1)) (he : g a = some (t, .inl (cA, N, .inr (.inl f)))) (ht : (gh_tys G)[t0]? = some (cA, .long)) (hj : j < N) (hN : N < 2 ^ 31) (kk : gh_W l G R X (gh_up g a t (.inl (cA, N, .inr (.inl (vp_updL f j x))))) k n lv (pc + 1) st) : gh_W l G R X g k n lv pc (.long x :: .int (nI j) :: .ref a :: st) := by
  obtain ⟨p, e, s, m, args, below, meth, c, A, Q⟩ := X
  obtain ⟨hx, hb, hml, hown, hts, hC, hA⟩ := hK
  intro H locs ls hP hAa hS hl
  obtain ⟨ws, w1, w2, w3, w4⟩ := gh_list hP hAa
  obtain ⟨q0, hq⟩ := w3 a t _ he
  refine va_last hx hb hC.1 w1 w2 hS q0 t0 hq ht (vp_in_nI hj hN) hd (fun H1 locs1 h1 h2 h3 => ?_)
  rw [nI_clamp (by omega)] at h1
  refine kk H1 locs1 ls (gh_set t w2 w3 hq h1) (fun b hb => ?_) h3 hl
  by_cases hba : b = a
  · rw [hba]; exact hAa a (by rw [he]; exact fun z => by cases z)
  · rw [gh_un hba] at hb; exact hAa b hb
theorem gh_newl {N t0 : Nat} {cA : ClassId} {x : Int32} (t : Nat) (hK : gh_K G X cc nL own) (hd : decode cc pc = .ok (.newarray .long, 2)) (ht : (gh_tys G)[t0]? = some (cA, .long)) (hw : Cond.arrayClass .long ∈ gTbl) (hxN : x = nI N) (hN : N < 65536) (hcells : k + 1 ≤ R.cells) (hslots : n + N ≤ R.slots) (kk : ∀ a : Nat, g a = none → gh_W l G R X (gh_up g a t (.inl (cA, N, .inr (.inl (fun _ => 0))))) (k + 1) (n + N) lv (pc + 2) (.ref a :: st)) : gh_W l G R X g k n lv pc (.int x :: st) := by
  obtain ⟨p, e, s, m, args, below, meth, c, A, Q⟩ := X
  obtain ⟨hx, hb, hml, hown, hts, hC, hA⟩ := hK
  intro H locs ls hP hAa hS hl
  subst hxN
  obtain ⟨ws, w1, w2, w3, w4⟩ := gh_list hP hAa
  have hby : N * componentBytes .long ≤ 536870912 := by
    have h8 : componentBytes .long ≤ 8 := by decide
    exact Nat.le_trans (Nat.mul_le_mul (Nat.le_of_lt hN) h8) (by decide)
  refine va_newa (atype := .long) (N' := N) (a0 := (N, .inr (.inl (fun _ => 0)))) hx hb (hts _ hw) (ty := .long) rfl hC.1 w1 w2 hS hA (fun cA => rfl) (nI_pos (by omega)) (nI_clamp (by omega)) hby hcells hslots hd (fun q cB H1 hK1 h1 h2 h3 => ?_)
  have e : cB = cA := by
    have z1 := (hK1.2 (gh_tys G).length (cB, .long) (by rw [List.getElem?_append_right (Nat.le_refl _), Nat.sub_self]; rfl)).2
    have z2 := (hC.1.2 t0 (cA, .long) ht).2
    exact Option.some.inj (z1.symm.trans z2)
  subst e
  obtain ⟨z1, z2⟩ := gh_push t w3 h1 h2
  refine kk q z1 H1 locs ls z2 (fun b hb => ?_) h3 hl
  by_cases hba : b = q
  · rw [hba]
    exact h2.2 ws.length (q, _) (by rw [List.getElem?_append_right (Nat.le_refl _), Nat.sub_self]; rfl)
  · rw [gh_un hba] at hb; exact hAa b hb
theorem gh_tab {x : Int32} {dflt : Int} {offs : Array Int} {len td : Nat} {tgt : Nat → Nat} {N : Nat} (hK : gh_K G X cc nL own) (hd : decode cc pc = .ok (.tableswitch dflt 0 (N : Int) offs, len)) (ht : (pc : Int) + dflt = (td : Int)) (ho : ∀ j, j ≤ N → ∃ off, offs[j]? = some off ∧ (pc : Int) + off = (tgt j : Int)) (kin : ∀ j, j ≤ N → gh_W l G R X g k n lv (tgt j) st) (kout : gh_W l G R X g k n lv td st) : gh_W l G R X g k n lv pc (.int x :: st) := by
  obtain ⟨p, e, s, m, args, below, meth, c, A, Q⟩ := X
  obtain ⟨hx, hb, hml, hown, hts, hC, hA⟩ := hK
  intro H locs ls hP hAa hS hl
  by_cases h : x.toInt < 0 ∨ (N : Int) < x.toInt
  · exact lv_tableOut hx hb hd h ht (kout H locs ls hP hAa hS hl)
  · have h1 : ¬ x.toInt < 0 := fun z => h (Or.inl z)
    have h2 : ¬ (N : Int) < x.toInt := fun z => h (Or.inr z)
    obtain ⟨off, q1, q2⟩ := ho (x.toInt - 0).toNat (by omega)
    exact lv_tableIn hx hb hd h1 h2 q1 q2 (kin _ (by omega) H locs ls hP hAa hS hl)
end GHLW
abbrev b_Lw_type : ByteArray := method_3_code
def y_Lw_type : MethodName := ⟨"SpellDeskLaw", "type", "(LSpellDesk;IIII)I"⟩
theorem V_Lw_type : Cond.static y_Lw_type ∈ gTbl := (gt_in (i := 1101) (by decide +kernel) rfl)
theorem d_Lw_type_0 : decode b_Lw_type 0 = .ok (.aload_n 0, 1) := by decide +kernel
theorem d_Lw_type_1 : decode b_Lw_type 1 = .ok (.iload_n 1, 1) := by decide +kernel
theorem d_Lw_type_2 : decode b_Lw_type 2 = .ok (.iload_n 2, 1) := by decide +kernel
theorem d_Lw_type_3 : decode b_Lw_type 3 = .ok (.iload_n 3, 1) := by decide +kernel
theorem d_Lw_type_4 : decode b_Lw_type 4 = .ok (.iload 4, 2) := by decide +kernel
theorem d_Lw_type_6 : decode b_Lw_type 6 = .ok (.invokevirtual 7, 3) := by decide +kernel
theorem d_Lw_type_9 : decode b_Lw_type 9 = .ok (.goto 7, 3) := by decide +kernel
theorem d_Lw_type_12 : decode b_Lw_type 12 = .ok (.astore 5, 2) := by decide +kernel
theorem d_Lw_type_14 : decode b_Lw_type 14 = .ok (.iconst 1, 1) := by decide +kernel
theorem d_Lw_type_15 : decode b_Lw_type 15 = .ok (.ireturn, 1) := by decide +kernel
theorem d_Lw_type_16 : decode b_Lw_type 16 = .ok (.iconst 0, 1) := by decide +kernel
theorem d_Lw_type_17 : decode b_Lw_type 17 = .ok (.ireturn, 1) := by decide +kernel
abbrev b_Lw_output : ByteArray := method_4_code
def y_Lw_output : MethodName := ⟨"SpellDeskLaw", "output", "(LSpellDesk;I[J)I"⟩
theorem V_Lw_output : Cond.static y_Lw_output ∈ gTbl := (gt_in (i := 1133) (by decide +kernel) rfl)
theorem d_Lw_output_0 : decode b_Lw_output 0 = .ok (.aload_n 2, 1) := by decide +kernel
theorem d_Lw_output_1 : decode b_Lw_output 1 = .ok (.iconst 0, 1) := by decide +kernel
theorem d_Lw_output_2 : decode b_Lw_output 2 = .ok (.aload_n 0, 1) := by decide +kernel
theorem d_Lw_output_3 : decode b_Lw_output 3 = .ok (.iload_n 1, 1) := by decide +kernel
theorem d_Lw_output_4 : decode b_Lw_output 4 = .ok (.invokevirtual 15, 3) := by decide +kernel
theorem d_Lw_output_7 : decode b_Lw_output 7 = .ok (.i2l, 1) := by decide +kernel
theorem d_Lw_output_8 : decode b_Lw_output 8 = .ok (.lastore, 1) := by decide +kernel
theorem d_Lw_output_9 : decode b_Lw_output 9 = .ok (.goto 6, 3) := by decide +kernel
theorem d_Lw_output_12 : decode b_Lw_output 12 = .ok (.astore_n 3, 1) := by decide +kernel
theorem d_Lw_output_13 : decode b_Lw_output 13 = .ok (.iconst 1, 1) := by decide +kernel
theorem d_Lw_output_14 : decode b_Lw_output 14 = .ok (.ireturn, 1) := by decide +kernel
theorem d_Lw_output_15 : decode b_Lw_output 15 = .ok (.iconst 0, 1) := by decide +kernel
theorem d_Lw_output_16 : decode b_Lw_output 16 = .ok (.ireturn, 1) := by decide +kernel
theorem kc_Lw_8 : Cond.classLink "SpellDeskLaw" 8 "SpellDesk" ∈ gTbl := (gt_in (i := 32) (by decide +kernel) rfl)
theorem kc_Lw_13 : Cond.classLink "SpellDeskLaw" 13 "java/lang/IllegalStateException" ∈ gTbl := (gt_in (i := 1103) (by decide +kernel) rfl)
theorem kc_Lw_19 : Cond.classLink "SpellDeskLaw" 19 "java/lang/IndexOutOfBoundsException" ∈ gTbl := (gt_in (i := 1135) (by decide +kernel) rfl)
theorem kc_Lw_22 : Cond.classLink "SpellDeskLaw" 22 "SpellDeskModel" ∈ gTbl := (gt_in (i := 1147) (by decide +kernel) rfl)
theorem km_Lw_7 : Cond.methodLink "SpellDeskLaw" 7 ⟨"SpellDesk", "type", "(IIII)V"⟩ ∈ gTbl := (gt_in (i := 1104) (by decide +kernel) rfl)
theorem km_Lw_15 : Cond.methodLink "SpellDeskLaw" 15 ⟨"SpellDesk", "output", "(I)I"⟩ ∈ gTbl := (gt_in (i := 1136) (by decide +kernel) rfl)
theorem km_Lw_21 : Cond.methodLink "SpellDeskLaw" 21 ⟨"SpellDesk", "<init>", "()V"⟩ ∈ gTbl := (gt_in (i := 34) (by decide +kernel) rfl)
theorem km_Lw_24 : Cond.methodLink "SpellDeskLaw" 24 ⟨"SpellDeskModel", "<init>", "()V"⟩ ∈ gTbl := (gt_in (i := 1149) (by decide +kernel) rfl)
theorem km_Lw_25 : Cond.methodLink "SpellDeskLaw" 25 ⟨"SpellDeskLaw", "type", "(LSpellDesk;IIII)I"⟩ ∈ gTbl := (gt_in (i := 1100) (by decide +kernel) rfl)
theorem km_Lw_30 : Cond.methodLink "SpellDeskLaw" 30 ⟨"SpellDeskModel", "type", "(IIII)V"⟩ ∈ gTbl := (gt_in (i := 1236) (by decide +kernel) rfl)
theorem km_Lw_31 : Cond.methodLink "SpellDeskLaw" 31 ⟨"SpellDeskModel", "thrown", "()I"⟩ ∈ gTbl := (gt_in (i := 1232) (by decide +kernel) rfl)
theorem km_Lw_35 : Cond.methodLink "SpellDeskLaw" 35 ⟨"SpellDesk", "typed", "()I"⟩ ∈ gTbl := (gt_in (i := 264) (by decide +kernel) rfl)
theorem km_Lw_38 : Cond.methodLink "SpellDeskLaw" 38 ⟨"SpellDeskModel", "typed", "()I"⟩ ∈ gTbl := (gt_in (i := 1243) (by decide +kernel) rfl)
theorem km_Lw_39 : Cond.methodLink "SpellDeskLaw" 39 ⟨"SpellDesk", "run", "()I"⟩ ∈ gTbl := (gt_in (i := 272) (by decide +kernel) rfl)
theorem km_Lw_42 : Cond.methodLink "SpellDeskLaw" 42 ⟨"SpellDeskModel", "run", "()I"⟩ ∈ gTbl := (gt_in (i := 1247) (by decide +kernel) rfl)
theorem km_Lw_43 : Cond.methodLink "SpellDeskLaw" 43 ⟨"SpellDesk", "size", "()I"⟩ ∈ gTbl := (gt_in (i := 1066) (by decide +kernel) rfl)
theorem km_Lw_46 : Cond.methodLink "SpellDeskLaw" 46 ⟨"SpellDeskModel", "size", "()I"⟩ ∈ gTbl := (gt_in (i := 1384) (by decide +kernel) rfl)
theorem km_Lw_47 : Cond.methodLink "SpellDeskLaw" 47 ⟨"SpellDeskLaw", "output", "(LSpellDesk;I[J)I"⟩ ∈ gTbl := (gt_in (i := 1132) (by decide +kernel) rfl)
theorem km_Lw_50 : Cond.methodLink "SpellDeskLaw" 50 ⟨"SpellDeskModel", "output", "(I)I"⟩ ∈ gTbl := (gt_in (i := 1388) (by decide +kernel) rfl)
theorem km_Lw_51 : Cond.methodLink "SpellDeskLaw" 51 ⟨"SpellDesk", "lost", "()I"⟩ ∈ gTbl := (gt_in (i := 1075) (by decide +kernel) rfl)
theorem km_Lw_54 : Cond.methodLink "SpellDeskLaw" 54 ⟨"SpellDeskModel", "lost", "()I"⟩ ∈ gTbl := (gt_in (i := 1392) (by decide +kernel) rfl)
theorem km_Lw_55 : Cond.methodLink "SpellDeskLaw" 55 ⟨"SpellDesk", "wipe", "()V"⟩ ∈ gTbl := (gt_in (i := 1083) (by decide +kernel) rfl)
theorem km_Lw_58 : Cond.methodLink "SpellDeskLaw" 58 ⟨"SpellDeskModel", "wipe", "()V"⟩ ∈ gTbl := (gt_in (i := 1396) (by decide +kernel) rfl)
theorem km_Lw_59 : Cond.methodLink "SpellDeskLaw" 59 ⟨"SpellDesk", "entries", "()I"⟩ ∈ gTbl := (gt_in (i := 1092) (by decide +kernel) rfl)
theorem km_Lw_62 : Cond.methodLink "SpellDeskLaw" 62 ⟨"SpellDeskModel", "entries", "()I"⟩ ∈ gTbl := (gt_in (i := 1400) (by decide +kernel) rfl)
theorem km_Lw_63 : Cond.methodLink "SpellDeskLaw" 63 ⟨"SpellDesk", "rules", "(Z)I"⟩ ∈ gTbl := (gt_in (i := 1096) (by decide +kernel) rfl)
theorem km_Lw_67 : Cond.methodLink "SpellDeskLaw" 67 ⟨"SpellDeskModel", "rules", "(Z)I"⟩ ∈ gTbl := (gt_in (i := 1404) (by decide +kernel) rfl)
set_option maxRecDepth 20000 in
theorem Yw_Lw_type : Cond.codeWith y_Lw_type b_Lw_type 6 (some .int) [(0, 9, 12, 13)] ∈ gTbl := gt_in (i := 1102) rfl rfl
set_option maxRecDepth 20000 in
theorem Yw_Lw_output : Cond.codeWith y_Lw_output b_Lw_output 4 (some .int) [(0, 9, 12, 19)] ∈ gTbl := gt_in (i := 1134) rfl rfl
theorem Yi_Lw : Cond.initialized "SpellDeskLaw" ∈ gTbl := gt_in (i := 0) (by decide +kernel) rfl
theorem d_law_0 : decode code 0 = .ok (.new 8, 3) := by decide +kernel
theorem d_law_3 : decode code 3 = .ok (.dup, 1) := by decide +kernel
theorem d_law_4 : decode code 4 = .ok (.invokespecial 21, 3) := by decide +kernel
theorem d_law_7 : decode code 7 = .ok (.astore_n 1, 1) := by decide +kernel
theorem d_law_8 : decode code 8 = .ok (.new 22, 3) := by decide +kernel
theorem d_law_11 : decode code 11 = .ok (.dup, 1) := by decide +kernel
theorem d_law_12 : decode code 12 = .ok (.invokespecial 24, 3) := by decide +kernel
theorem d_law_15 : decode code 15 = .ok (.astore_n 2, 1) := by decide +kernel
theorem d_law_16 : decode code 16 = .ok (.iconst 1, 1) := by decide +kernel
theorem d_law_17 : decode code 17 = .ok (.newarray .long, 2) := by decide +kernel
theorem d_law_19 : decode code 19 = .ok (.astore_n 3, 1) := by decide +kernel
theorem d_law_20 : decode code 20 = .ok (.iconst 0, 1) := by decide +kernel
theorem d_law_21 : decode code 21 = .ok (.istore 4, 2) := by decide +kernel
theorem d_law_23 : decode code 23 = .ok (.iload 4, 2) := by decide +kernel
theorem d_law_25 : decode code 25 = .ok (.aload_n 0, 1) := by decide +kernel
theorem d_law_26 : decode code 26 = .ok (.arraylength, 1) := by decide +kernel
theorem d_law_27 : decode code 27 = .ok (.iconst 5, 1) := by decide +kernel
theorem d_law_28 : decode code 28 = .ok (.isub, 1) := by decide +kernel
theorem d_law_29 : decode code 29 = .ok (.if_icmp .gt 310, 3) := by decide +kernel
theorem d_law_32 : decode code 32 = .ok (.aload_n 0, 1) := by decide +kernel
theorem d_law_33 : decode code 33 = .ok (.iload 4, 2) := by decide +kernel
theorem d_law_35 : decode code 35 = .ok (.iaload, 1) := by decide +kernel
theorem d_law_36 : decode code 36 = .ok (.bipush 15, 2) := by decide +kernel
theorem d_law_38 : decode code 38 = .ok (.iand, 1) := by decide +kernel
theorem d_law_39 : decode code 39 = .ok (.tableswitch 294 0 8 #[49, 121, 134, 147, 160, 216, 229, 240, 253], 49) := by decide +kernel
theorem d_law_88 : decode code 88 = .ok (.aload_n 1, 1) := by decide +kernel
theorem d_law_89 : decode code 89 = .ok (.aload_n 0, 1) := by decide +kernel
theorem d_law_90 : decode code 90 = .ok (.iload 4, 2) := by decide +kernel
theorem d_law_92 : decode code 92 = .ok (.iconst 1, 1) := by decide +kernel
theorem d_law_93 : decode code 93 = .ok (.iadd, 1) := by decide +kernel
theorem d_law_94 : decode code 94 = .ok (.iaload, 1) := by decide +kernel
theorem d_law_95 : decode code 95 = .ok (.aload_n 0, 1) := by decide +kernel
theorem d_law_96 : decode code 96 = .ok (.iload 4, 2) := by decide +kernel
theorem d_law_98 : decode code 98 = .ok (.iconst 2, 1) := by decide +kernel
theorem d_law_99 : decode code 99 = .ok (.iadd, 1) := by decide +kernel
theorem d_law_100 : decode code 100 = .ok (.iaload, 1) := by decide +kernel
theorem d_law_101 : decode code 101 = .ok (.aload_n 0, 1) := by decide +kernel
theorem d_law_102 : decode code 102 = .ok (.iload 4, 2) := by decide +kernel
theorem d_law_104 : decode code 104 = .ok (.iconst 3, 1) := by decide +kernel
theorem d_law_105 : decode code 105 = .ok (.iadd, 1) := by decide +kernel
theorem d_law_106 : decode code 106 = .ok (.iaload, 1) := by decide +kernel
theorem d_law_107 : decode code 107 = .ok (.aload_n 0, 1) := by decide +kernel
theorem d_law_108 : decode code 108 = .ok (.iload 4, 2) := by decide +kernel
theorem d_law_110 : decode code 110 = .ok (.iconst 4, 1) := by decide +kernel
theorem d_law_111 : decode code 111 = .ok (.iadd, 1) := by decide +kernel
theorem d_law_112 : decode code 112 = .ok (.iaload, 1) := by decide +kernel
theorem d_law_113 : decode code 113 = .ok (.invokestatic 25, 3) := by decide +kernel
theorem d_law_116 : decode code 116 = .ok (.istore 5, 2) := by decide +kernel
theorem d_law_118 : decode code 118 = .ok (.aload_n 2, 1) := by decide +kernel
theorem d_law_119 : decode code 119 = .ok (.aload_n 0, 1) := by decide +kernel
theorem d_law_120 : decode code 120 = .ok (.iload 4, 2) := by decide +kernel
theorem d_law_122 : decode code 122 = .ok (.iconst 1, 1) := by decide +kernel
theorem d_law_123 : decode code 123 = .ok (.iadd, 1) := by decide +kernel
theorem d_law_124 : decode code 124 = .ok (.iaload, 1) := by decide +kernel
theorem d_law_125 : decode code 125 = .ok (.aload_n 0, 1) := by decide +kernel
theorem d_law_126 : decode code 126 = .ok (.iload 4, 2) := by decide +kernel
theorem d_law_128 : decode code 128 = .ok (.iconst 2, 1) := by decide +kernel
theorem d_law_129 : decode code 129 = .ok (.iadd, 1) := by decide +kernel
theorem d_law_130 : decode code 130 = .ok (.iaload, 1) := by decide +kernel
theorem d_law_131 : decode code 131 = .ok (.aload_n 0, 1) := by decide +kernel
theorem d_law_132 : decode code 132 = .ok (.iload 4, 2) := by decide +kernel
theorem d_law_134 : decode code 134 = .ok (.iconst 3, 1) := by decide +kernel
theorem d_law_135 : decode code 135 = .ok (.iadd, 1) := by decide +kernel
theorem d_law_136 : decode code 136 = .ok (.iaload, 1) := by decide +kernel
theorem d_law_137 : decode code 137 = .ok (.aload_n 0, 1) := by decide +kernel
theorem d_law_138 : decode code 138 = .ok (.iload 4, 2) := by decide +kernel
theorem d_law_140 : decode code 140 = .ok (.iconst 4, 1) := by decide +kernel
theorem d_law_141 : decode code 141 = .ok (.iadd, 1) := by decide +kernel
theorem d_law_142 : decode code 142 = .ok (.iaload, 1) := by decide +kernel
theorem d_law_143 : decode code 143 = .ok (.invokevirtual 30, 3) := by decide +kernel
theorem d_law_146 : decode code 146 = .ok (.aload_n 2, 1) := by decide +kernel
theorem d_law_147 : decode code 147 = .ok (.invokevirtual 31, 3) := by decide +kernel
theorem d_law_150 : decode code 150 = .ok (.iload 5, 2) := by decide +kernel
theorem d_law_152 : decode code 152 = .ok (.if_icmp .eq 5, 3) := by decide +kernel
theorem d_law_155 : decode code 155 = .ok (.iconst 0, 1) := by decide +kernel
theorem d_law_156 : decode code 156 = .ok (.ireturn, 1) := by decide +kernel
theorem d_law_157 : decode code 157 = .ok (.goto 176, 3) := by decide +kernel
theorem d_law_160 : decode code 160 = .ok (.aload_n 1, 1) := by decide +kernel
theorem d_law_161 : decode code 161 = .ok (.invokevirtual 35, 3) := by decide +kernel
theorem d_law_164 : decode code 164 = .ok (.aload_n 2, 1) := by decide +kernel
theorem d_law_165 : decode code 165 = .ok (.invokevirtual 38, 3) := by decide +kernel
theorem d_law_168 : decode code 168 = .ok (.if_icmp .eq 165, 3) := by decide +kernel
theorem d_law_171 : decode code 171 = .ok (.iconst 0, 1) := by decide +kernel
theorem d_law_172 : decode code 172 = .ok (.ireturn, 1) := by decide +kernel
theorem d_law_173 : decode code 173 = .ok (.aload_n 1, 1) := by decide +kernel
theorem d_law_174 : decode code 174 = .ok (.invokevirtual 39, 3) := by decide +kernel
theorem d_law_177 : decode code 177 = .ok (.aload_n 2, 1) := by decide +kernel
theorem d_law_178 : decode code 178 = .ok (.invokevirtual 42, 3) := by decide +kernel
theorem d_law_181 : decode code 181 = .ok (.if_icmp .eq 152, 3) := by decide +kernel
theorem d_law_184 : decode code 184 = .ok (.iconst 0, 1) := by decide +kernel
theorem d_law_185 : decode code 185 = .ok (.ireturn, 1) := by decide +kernel
theorem d_law_186 : decode code 186 = .ok (.aload_n 1, 1) := by decide +kernel
theorem d_law_187 : decode code 187 = .ok (.invokevirtual 43, 3) := by decide +kernel
theorem d_law_190 : decode code 190 = .ok (.aload_n 2, 1) := by decide +kernel
theorem d_law_191 : decode code 191 = .ok (.invokevirtual 46, 3) := by decide +kernel
theorem d_law_194 : decode code 194 = .ok (.if_icmp .eq 139, 3) := by decide +kernel
theorem d_law_197 : decode code 197 = .ok (.iconst 0, 1) := by decide +kernel
theorem d_law_198 : decode code 198 = .ok (.ireturn, 1) := by decide +kernel
theorem d_law_199 : decode code 199 = .ok (.aload_n 1, 1) := by decide +kernel
theorem d_law_200 : decode code 200 = .ok (.aload_n 0, 1) := by decide +kernel
theorem d_law_201 : decode code 201 = .ok (.iload 4, 2) := by decide +kernel
theorem d_law_203 : decode code 203 = .ok (.iconst 1, 1) := by decide +kernel
theorem d_law_204 : decode code 204 = .ok (.iadd, 1) := by decide +kernel
theorem d_law_205 : decode code 205 = .ok (.iaload, 1) := by decide +kernel
theorem d_law_206 : decode code 206 = .ok (.aload_n 3, 1) := by decide +kernel
theorem d_law_207 : decode code 207 = .ok (.invokestatic 47, 3) := by decide +kernel
theorem d_law_210 : decode code 210 = .ok (.istore 5, 2) := by decide +kernel
theorem d_law_212 : decode code 212 = .ok (.aload_n 2, 1) := by decide +kernel
theorem d_law_213 : decode code 213 = .ok (.aload_n 0, 1) := by decide +kernel
theorem d_law_214 : decode code 214 = .ok (.iload 4, 2) := by decide +kernel
theorem d_law_216 : decode code 216 = .ok (.iconst 1, 1) := by decide +kernel
theorem d_law_217 : decode code 217 = .ok (.iadd, 1) := by decide +kernel
theorem d_law_218 : decode code 218 = .ok (.iaload, 1) := by decide +kernel
theorem d_law_219 : decode code 219 = .ok (.invokevirtual 50, 3) := by decide +kernel
theorem d_law_222 : decode code 222 = .ok (.istore 6, 2) := by decide +kernel
theorem d_law_224 : decode code 224 = .ok (.aload_n 2, 1) := by decide +kernel
theorem d_law_225 : decode code 225 = .ok (.invokevirtual 31, 3) := by decide +kernel
theorem d_law_228 : decode code 228 = .ok (.iload 5, 2) := by decide +kernel
theorem d_law_230 : decode code 230 = .ok (.if_icmp .eq 5, 3) := by decide +kernel
theorem d_law_233 : decode code 233 = .ok (.iconst 0, 1) := by decide +kernel
theorem d_law_234 : decode code 234 = .ok (.ireturn, 1) := by decide +kernel
theorem d_law_235 : decode code 235 = .ok (.iload 5, 2) := by decide +kernel
theorem d_law_237 : decode code 237 = .ok (.ifCond .ne 15, 3) := by decide +kernel
theorem d_law_240 : decode code 240 = .ok (.aload_n 3, 1) := by decide +kernel
theorem d_law_241 : decode code 241 = .ok (.iconst 0, 1) := by decide +kernel
theorem d_law_242 : decode code 242 = .ok (.laload, 1) := by decide +kernel
theorem d_law_243 : decode code 243 = .ok (.iload 6, 2) := by decide +kernel
theorem d_law_245 : decode code 245 = .ok (.i2l, 1) := by decide +kernel
theorem d_law_246 : decode code 246 = .ok (.lcmp, 1) := by decide +kernel
theorem d_law_247 : decode code 247 = .ok (.ifCond .eq 5, 3) := by decide +kernel
theorem d_law_250 : decode code 250 = .ok (.iconst 0, 1) := by decide +kernel
theorem d_law_251 : decode code 251 = .ok (.ireturn, 1) := by decide +kernel
theorem d_law_252 : decode code 252 = .ok (.goto 81, 3) := by decide +kernel
theorem d_law_255 : decode code 255 = .ok (.aload_n 1, 1) := by decide +kernel
theorem d_law_256 : decode code 256 = .ok (.invokevirtual 51, 3) := by decide +kernel
theorem d_law_259 : decode code 259 = .ok (.aload_n 2, 1) := by decide +kernel
theorem d_law_260 : decode code 260 = .ok (.invokevirtual 54, 3) := by decide +kernel
theorem d_law_263 : decode code 263 = .ok (.if_icmp .eq 70, 3) := by decide +kernel
theorem d_law_266 : decode code 266 = .ok (.iconst 0, 1) := by decide +kernel
theorem d_law_267 : decode code 267 = .ok (.ireturn, 1) := by decide +kernel
theorem d_law_268 : decode code 268 = .ok (.aload_n 1, 1) := by decide +kernel
theorem d_law_269 : decode code 269 = .ok (.invokevirtual 55, 3) := by decide +kernel
theorem d_law_272 : decode code 272 = .ok (.aload_n 2, 1) := by decide +kernel
theorem d_law_273 : decode code 273 = .ok (.invokevirtual 58, 3) := by decide +kernel
theorem d_law_276 : decode code 276 = .ok (.goto 57, 3) := by decide +kernel
theorem d_law_279 : decode code 279 = .ok (.aload_n 1, 1) := by decide +kernel
theorem d_law_280 : decode code 280 = .ok (.invokevirtual 59, 3) := by decide +kernel
theorem d_law_283 : decode code 283 = .ok (.aload_n 2, 1) := by decide +kernel
theorem d_law_284 : decode code 284 = .ok (.invokevirtual 62, 3) := by decide +kernel
theorem d_law_287 : decode code 287 = .ok (.if_icmp .eq 46, 3) := by decide +kernel
theorem d_law_290 : decode code 290 = .ok (.iconst 0, 1) := by decide +kernel
theorem d_law_291 : decode code 291 = .ok (.ireturn, 1) := by decide +kernel
theorem d_law_292 : decode code 292 = .ok (.aload_n 1, 1) := by decide +kernel
theorem d_law_293 : decode code 293 = .ok (.aload_n 0, 1) := by decide +kernel
theorem d_law_294 : decode code 294 = .ok (.iload 4, 2) := by decide +kernel
theorem d_law_296 : decode code 296 = .ok (.iconst 1, 1) := by decide +kernel
theorem d_law_297 : decode code 297 = .ok (.iadd, 1) := by decide +kernel
theorem d_law_298 : decode code 298 = .ok (.iaload, 1) := by decide +kernel
theorem d_law_299 : decode code 299 = .ok (.ifCond .eq 7, 3) := by decide +kernel
theorem d_law_302 : decode code 302 = .ok (.iconst 1, 1) := by decide +kernel
theorem d_law_303 : decode code 303 = .ok (.goto 4, 3) := by decide +kernel
theorem d_law_306 : decode code 306 = .ok (.iconst 0, 1) := by decide +kernel
theorem d_law_307 : decode code 307 = .ok (.invokevirtual 63, 3) := by decide +kernel
theorem d_law_310 : decode code 310 = .ok (.aload_n 2, 1) := by decide +kernel
theorem d_law_311 : decode code 311 = .ok (.aload_n 0, 1) := by decide +kernel
theorem d_law_312 : decode code 312 = .ok (.iload 4, 2) := by decide +kernel
theorem d_law_314 : decode code 314 = .ok (.iconst 1, 1) := by decide +kernel
theorem d_law_315 : decode code 315 = .ok (.iadd, 1) := by decide +kernel
theorem d_law_316 : decode code 316 = .ok (.iaload, 1) := by decide +kernel
theorem d_law_317 : decode code 317 = .ok (.ifCond .eq 7, 3) := by decide +kernel
theorem d_law_320 : decode code 320 = .ok (.iconst 1, 1) := by decide +kernel
theorem d_law_321 : decode code 321 = .ok (.goto 4, 3) := by decide +kernel
theorem d_law_324 : decode code 324 = .ok (.iconst 0, 1) := by decide +kernel
theorem d_law_325 : decode code 325 = .ok (.invokevirtual 67, 3) := by decide +kernel
theorem d_law_328 : decode code 328 = .ok (.if_icmp .eq 5, 3) := by decide +kernel
theorem d_law_331 : decode code 331 = .ok (.iconst 0, 1) := by decide +kernel
theorem d_law_332 : decode code 332 = .ok (.ireturn, 1) := by decide +kernel
theorem d_law_333 : decode code 333 = .ok (.iinc 4 5, 3) := by decide +kernel
theorem d_law_336 : decode code 336 = .ok (.goto (-313), 3) := by decide +kernel
theorem d_law_339 : decode code 339 = .ok (.iconst 1, 1) := by decide +kernel
theorem d_law_340 : decode code 340 = .ok (.ireturn, 1) := by decide +kernel
