set_option maxRecDepth 20000 in
set_option maxHeartbeats 4000000 in
theorem c_Md_find (l : Launch) (G : GG) {ds : List (List Nat × Nat)} {ws : List Nat} {f : Nat} {g : GH} {B : Nat → Nat} {cd ty fr tt ap fi en wr mk wd : Nat} {F : Nat → Nat → Int32} {o : List Nat × Nat} (h : Md G g B (mS cd ty ds.length fr tt ap fi en wr mk wd) F o) (hD : DcA F ds) (hw : sA (F 1) f ws) (hwl : f + ws.length ≤ 2048) : gMet l G y_Md_find b_Md_find 5 (some .int) (rmk 1 0 0 26) [.ref (B 0), .ref (B 1), .int (nI f), .int (nI ws.length)] g (fun v g' => ((∃ e x, v = some (.int (nI e)) ∧ ds[e]? = some x ∧ x.1 = ws) ∨ (v = some (.int (-1)) ∧ ws ∉ wsD ds)) ∧ g' = g) := by
  refine gMet.of [some (.ref (B 0)), some (.ref (B 1)), some (.int (nI f)), some (.int (nI ws.length)), none] (by decide +kernel) rfl (Nat.le_of_ble_eq_true rfl) rfl (fun X hK hI hE => ?_)
  have hdl := hD.1
  have lp : ∀ (m e : Nat), e + m = ds.length → (∀ i, i < e → ((wsD ds).getD i []) ≠ ws) → gh_W l G (rmk 1 0 0 26) X g 0 0 [some (.ref (B 0)), some (.ref (B 1)), some (.int (nI f)), some (.int (nI ws.length)), some (.int (nI e))] 3 [] := by
    intro m
    induction m with
    | zero =>
      intro e he hn
      refine gh_iload hK d_Md_find_3 rfl ?_
      refine gh_aload_n hK d_Md_find_5 rfl ?_
      refine gh_get (v := .int (nI ds.length)) hK d_Md_find_6 in_Md rfl h.1 6 (by decide) kf_Md_106 rfl rfl ?_
      refine gh_icmp_geN hK d_Md_find_9 (tgt := 46) (by decide) (by omega) (by omega) (fun _ => ?_) (fun z => by omega)
      refine gh_iconst (v := (-1)) hK d_Md_find_46 (by decide) ?_
      refine gh_iret hK hE d_Md_find_47 (Nat.le_of_ble_eq_true rfl) (Nat.le_of_ble_eq_true rfl) ⟨Or.inr ⟨rfl, fun z => ?_⟩, rfl⟩
      obtain ⟨i, hi, q⟩ := mem_getD z
      rw [wsD, List.length_map] at hi
      exact hn i (by omega) q
    | succ m ih =>
      intro e he hn
      have hd := hD.wd (e := e) (by omega)
      refine gh_iload hK d_Md_find_3 rfl ?_
      refine gh_aload_n hK d_Md_find_5 rfl ?_
      refine gh_get (v := .int (nI ds.length)) hK d_Md_find_6 in_Md rfl h.1 6 (by decide) kf_Md_106 rfl rfl ?_
      refine gh_icmp_geN hK d_Md_find_9 (tgt := 46) (by decide) (by omega) (by omega) (fun z => by omega) (fun _ => ?_)
      refine gh_aload_n hK d_Md_find_12 rfl ?_
      refine gh_get (v := .ref (B 5)) hK d_Md_find_13 in_Md rfl h.1 9 (by decide) kf_Md_22 rfl rfl ?_
      refine gh_bipush (v := nI 16) hK d_Md_find_16 (by decide) ?_
      refine gh_iload hK d_Md_find_18 rfl ?_
      refine gh_mulN hK d_Md_find_20 ?_
      refine gh_aload_n hK d_Md_find_21 rfl ?_
      refine gh_get (v := .ref (B 3)) hK d_Md_find_22 in_Md rfl h.1 7 (by decide) kf_Md_16 rfl rfl ?_
      refine gh_iload hK d_Md_find_25 rfl ?_
      refine gh_mald hK d_Md_find_27 h 3 (by decide) (i := e) (x := (nI (((wsD ds).getD e []).length))) (by show e < 300; omega) (hD.wd (e := e) (by omega)).2.1 ?_
      refine gh_aload_n hK d_Md_find_28 rfl ?_
      refine gh_iload_n hK d_Md_find_29 rfl ?_
      refine gh_iload_n hK d_Md_find_30 rfl ?_
      refine gh_callS (rest := []) [.ref (B 5), .int (nI (16 * e)), .int (nI (((wsD ds).getD e []).length)), .ref (B 1), .int (nI f), .int (nI ws.length)] hK (c_Md_compare l G h (ja := 5) (jb := 1) (by decide) (by decide) hd.2.2 hw (by show 16 * e + _ ≤ 4800; omega) hwl) Y_Md_compare V_Md_compare km_Md_109 rfl d_Md_find_31 rfl rfl (Nat.le_of_ble_eq_true rfl) ⟨(Nat.le_of_ble_eq_true rfl), (Nat.le_of_ble_eq_true rfl)⟩ ⟨(Nat.le_of_ble_eq_true rfl), (Nat.le_of_ble_eq_true rfl)⟩ (fun v gp_1 hp => ?_)
      obtain ⟨r1, rfl, hr1, hgp⟩ := hp
      rw [hgp]
      show gh_W l G _ X g 0 0 [some (.ref (B 0)), some (.ref (B 1)), some (.int (nI f)), some (.int (nI ws.length)), some (.int (nI e))] 34 [.int r1]
      refine gh_if_neC hr1 hK d_Md_find_34 (tgt := 40) (by decide) (fun z => ?_) (fun z => ?_)
      · refine gh_incN (lv' := [some (.ref (B 0)), some (.ref (B 1)), some (.int (nI f)), some (.int (nI ws.length)), some (.int (nI (e + 1)))]) hK d_Md_find_40 rfl rfl ?_
        refine gh_goto (tgt := 3) hK d_Md_find_43 (by decide) ?_
        exact ih (e + 1) (by omega) (fun i hi q => by
          by_cases z2 : i = e
          · rw [z2] at q; rw [q, cmpL_self] at z; exact z rfl
          · exact hn i (by omega) q)
      refine gh_iload hK d_Md_find_37 rfl ?_
      exact gh_iret hK hE d_Md_find_39 (Nat.le_of_ble_eq_true rfl) (Nat.le_of_ble_eq_true rfl) ⟨Or.inl ⟨e, ds[e], rfl, List.getElem?_eq_getElem (by omega), by rw [← wsD_get (List.getElem?_eq_getElem (show e < ds.length by omega))]; exact (cmpL_zero _ _).mp z⟩, rfl⟩
  refine gh_iconst (v := nI 0) hK d_Md_find_0 (by decide) ?_
  refine gh_istore (lv' := [some (.ref (B 0)), some (.ref (B 1)), some (.int (nI f)), some (.int (nI ws.length)), some (.int (nI 0))]) hK d_Md_find_1 (Nat.le_of_ble_eq_true rfl) rfl ?_
  exact lp ds.length 0 (by omega) (fun i hi => absurd hi (Nat.not_lt_zero _))
set_option maxRecDepth 20000 in
set_option maxHeartbeats 4000000 in
theorem c_Md_behind (l : Launch) (G : GG) {ds : List (List Nat × Nat)} {la : Option Nat} {g : GH} {B : Nat → Nat} {cd ty fr tt ap fi en wr mk wd : Nat} {F : Nat → Nat → Int32} {o : List Nat × Nat} (h : Md G g B (mS cd ty ds.length fr tt ap fi en wr mk wd) F o) (hD : DcA F ds) (hla : ∀ i, la = some i → i < ds.length) : gMet l G y_Md_behind b_Md_behind 5 (some .int) (rmk 1 0 0 26) [.ref (B 0), .int (oI la)] g (fun v g' => v = some (.int (oI (selN (wsD ds) (la.map fun i => (wsD ds).getD i []) ds.length))) ∧ g' = g) := by
  refine gMet.of [some (.ref (B 0)), some (.int (oI la)), none, none, none] (by decide +kernel) rfl (Nat.le_of_ble_eq_true rfl) rfl (fun X hK hI hE => ?_)
  have hdl := hD.1
  obtain ⟨ws, hws⟩ : ∃ x, x = wsD ds := ⟨_, rfl⟩
  have hd2 : ∀ e, e < ds.length → (ws.getD e []).length ≤ 16 ∧ F 3 e = nI (ws.getD e []).length ∧ sA (F 5) (16 * e) (ws.getD e []) := fun e he => by rw [hws]; exact hD.wd he
  rw [← hws] at hE
  have lp : ∀ (m e : Nat) (v4 : Option Value), e + m = ds.length → gh_W l G (rmk 1 0 0 26) X g 0 0 [some (.ref (B 0)), some (.int (oI la)), some (.int (oI (selN ws (la.map fun i => ws.getD i []) e))), some (.int (nI e)), v4] 4 [] := by
    intro m
    induction m with
    | zero =>
      intro e v4 he
      have he : e = ds.length := by omega
      subst he
      refine gh_iload_n hK d_Md_behind_4 rfl ?_
      refine gh_aload_n hK d_Md_behind_5 rfl ?_
      refine gh_get (v := .int (nI ds.length)) hK d_Md_behind_6 in_Md rfl h.1 6 (by decide) kf_Md_106 rfl rfl ?_
      refine gh_icmp_geN hK d_Md_behind_9 (tgt := 114) (by decide) (by omega) (by omega) (fun _ => ?_) (fun z => by omega)
      refine gh_iload_n hK d_Md_behind_114 rfl ?_
      exact gh_iret hK hE d_Md_behind_115 (Nat.le_of_ble_eq_true rfl) (Nat.le_of_ble_eq_true rfl) ⟨rfl, rfl⟩
    | succ m ih =>
      intro e v4 he
      obtain ⟨g1, hg1⟩ : ∃ x, x = g := ⟨_, rfl⟩
      have h1 := h
      rw [← hg1] at h1
      have stA : gh_W l G (rmk 1 0 0 26) X g1 0 0 [some (.ref (B 0)), some (.int (oI la)), some (.int (oI (selN ws (la.map fun i => ws.getD i []) e))), some (.int (nI e)), v4] 56 [.int (nI (bn (latB (la.map fun i => ws.getD i []) (ws.getD e []))))] → gh_W l G (rmk 1 0 0 26) X g1 0 0 [some (.ref (B 0)), some (.int (oI la)), some (.int (oI (selN ws (la.map fun i => ws.getD i []) e))), some (.int (nI e)), v4] 12 [] := by
        intro kk
        refine gh_iload_n hK d_Md_behind_12 rfl ?_
        refine gh_iconst (v := (-1)) hK d_Md_behind_13 (by decide) ?_
        refine gh_icmp_eqO hK d_Md_behind_14 (tgt := 51) (by decide) (fun i hi => by have := hla i hi; omega) (fun z => ?_) (fun i zi => ?_)
        · refine gh_iconst (v := nI 1) hK d_Md_behind_51 (by decide) ?_
          refine gh_goto (tgt := 56) hK d_Md_behind_52 (by decide) ?_
          subst z
          exact kk
        have hi := hla i zi
        rw [show oI la = nI i from by rw [zi]; rfl] at kk ⊢
        show gh_W l G _ X g1 0 0 [some (.ref (B 0)), some (.int (nI i)), some (.int (oI (selN ws (la.map fun i => ws.getD i []) e))), some (.int (nI e)), v4] 17 []
        refine gh_aload_n hK d_Md_behind_17 rfl ?_
        refine gh_get (v := .ref (B 5)) hK d_Md_behind_18 in_Md rfl h1.1 9 (by decide) kf_Md_22 rfl rfl ?_
        refine gh_bipush (v := nI 16) hK d_Md_behind_21 (by decide) ?_
        refine gh_iload_n hK d_Md_behind_23 rfl ?_
        refine gh_mulN hK d_Md_behind_24 ?_
        refine gh_aload_n hK d_Md_behind_25 rfl ?_
        refine gh_get (v := .ref (B 3)) hK d_Md_behind_26 in_Md rfl h1.1 7 (by decide) kf_Md_16 rfl rfl ?_
        refine gh_iload_n hK d_Md_behind_29 rfl ?_
        refine gh_mald hK d_Md_behind_30 h1 3 (by decide) (i := e) (x := (nI ((ws.getD e []).length))) (by show e < 300; omega) (hd2 e (by omega)).2.1 ?_
        refine gh_aload_n hK d_Md_behind_31 rfl ?_
        refine gh_get (v := .ref (B 5)) hK d_Md_behind_32 in_Md rfl h1.1 9 (by decide) kf_Md_22 rfl rfl ?_
        refine gh_bipush (v := nI 16) hK d_Md_behind_35 (by decide) ?_
        refine gh_iload_n hK d_Md_behind_37 rfl ?_
        refine gh_mulN hK d_Md_behind_38 ?_
        refine gh_aload_n hK d_Md_behind_39 rfl ?_
        refine gh_get (v := .ref (B 3)) hK d_Md_behind_40 in_Md rfl h1.1 7 (by decide) kf_Md_16 rfl rfl ?_
        refine gh_iload_n hK d_Md_behind_43 rfl ?_
        refine gh_mald hK d_Md_behind_44 h1 3 (by decide) (i := i) (x := (nI ((ws.getD i []).length))) (by show i < 300; omega) (hd2 i (by omega)).2.1 ?_
        refine gh_callS (rest := []) [.ref (B 5), .int (nI (16 * e)), .int (nI ((ws.getD e []).length)), .ref (B 5), .int (nI (16 * i)), .int (nI ((ws.getD i []).length))] hK (c_Md_compare l G h1 (ja := 5) (jb := 5) (by decide) (by decide) (hd2 e (by omega)).2.2 (hd2 i (by omega)).2.2 (by have := (hd2 e (by omega)).1; show 16 * e + _ ≤ 4800; omega) (by have := (hd2 i (by omega)).1; show 16 * i + _ ≤ 4800; omega)) Y_Md_compare V_Md_compare km_Md_109 rfl d_Md_behind_45 rfl rfl (Nat.le_of_ble_eq_true rfl) ⟨(Nat.le_of_ble_eq_true rfl), (Nat.le_of_ble_eq_true rfl)⟩ ⟨(Nat.le_of_ble_eq_true rfl), (Nat.le_of_ble_eq_true rfl)⟩ (fun v gp_1 hp => ?_)
        obtain ⟨r1, rfl, hr1, hgp⟩ := hp
        rw [hgp]
        show gh_W l G _ X g1 0 0 [some (.ref (B 0)), some (.int (nI i)), some (.int (oI (selN ws (la.map fun i => ws.getD i []) e))), some (.int (nI e)), v4] 48 [.int r1]
        refine gh_if_leC hr1 hK d_Md_behind_48 (tgt := 55) (by decide) (fun z => ?_) (fun z => ?_)
        · refine gh_iconst (v := nI 0) hK d_Md_behind_55 (by decide) ?_
          rw [show latB (la.map fun i => ws.getD i []) (ws.getD e []) = false from (by rw [zi]; exact decide_eq_false (show ¬ 0 < cmpL (ws.getD e []) (ws.getD i []) by omega))] at kk
          exact kk
        · refine gh_iconst (v := nI 1) hK d_Md_behind_51 (by decide) ?_
          refine gh_goto (tgt := 56) hK d_Md_behind_52 (by decide) ?_
          rw [show latB (la.map fun i => ws.getD i []) (ws.getD e []) = true from (by rw [zi]; exact decide_eq_true (show 0 < cmpL (ws.getD e []) (ws.getD i []) by omega))] at kk
          exact kk
      have stB : gh_W l G (rmk 1 0 0 26) X g1 0 0 [some (.ref (B 0)), some (.int (oI la)), some (.int (oI (selN ws (la.map fun i => ws.getD i []) e))), some (.int (nI e)), some (.int (nI (bn (latB (la.map fun i => ws.getD i []) (ws.getD e [])))))] 107 [.int (oI (selN ws (la.map fun i => ws.getD i []) (e + 1)))] → gh_W l G (rmk 1 0 0 26) X g1 0 0 [some (.ref (B 0)), some (.int (oI la)), some (.int (oI (selN ws (la.map fun i => ws.getD i []) e))), some (.int (nI e)), some (.int (nI (bn (latB (la.map fun i => ws.getD i []) (ws.getD e [])))))] 58 [] := by
        intro kk
        obtain ⟨-, hse⟩ := selN_spec ws (la.map fun i => ws.getD i []) e
        rw [selN] at kk
        refine gh_iload hK d_Md_behind_58 rfl ?_
        refine gh_if_eqB hK d_Md_behind_60 (tgt := 106) (by decide) (fun z => ?_) (fun z => ?_)
        · cases hs : selN ws (la.map fun i => ws.getD i []) e with
          | none =>
            rw [hs] at kk
            dsimp only at kk
            rw [if_neg (by rw [z]; decide)] at kk
            refine gh_iload_n hK d_Md_behind_106 rfl ?_
            exact kk
          | some c =>
            rw [hs] at kk
            dsimp only at kk
            rw [if_neg (fun q => by rw [z] at q; cases q.1)] at kk
            refine gh_iload_n hK d_Md_behind_106 rfl ?_
            exact kk
        cases hs : selN ws (la.map fun i => ws.getD i []) e with
        | none =>
          rw [hs] at kk
          dsimp only at kk
          rw [if_pos z] at kk
          refine gh_iload_n hK d_Md_behind_63 rfl ?_
          refine gh_iconst (v := (-1)) hK d_Md_behind_64 (by decide) ?_
          refine gh_icmp_eqO hK d_Md_behind_65 (tgt := 102) (by decide) (fun i hi => by cases hi) (fun _ => ?_) (fun i q => by cases q)
          refine gh_iload_n hK d_Md_behind_102 rfl ?_
          refine gh_goto (tgt := 107) hK d_Md_behind_103 (by decide) ?_
          exact kk
        | some c =>
          have hc := (hse c hs).1
          rw [hs] at kk
          dsimp only at kk
          refine gh_iload_n hK d_Md_behind_63 rfl ?_
          refine gh_iconst (v := (-1)) hK d_Md_behind_64 (by decide) ?_
          refine gh_icmp_eqO hK d_Md_behind_65 (tgt := 102) (by decide) (fun i hi => by cases hi; omega) (fun q => by cases q) (fun i q => ?_)
          cases q
          show gh_W l G _ X g1 0 0 [some (.ref (B 0)), some (.int (oI la)), some (.int (nI c)), some (.int (nI e)), some (.int (nI (bn (latB (la.map fun i => ws.getD i []) (ws.getD e [])))))] 68 []
          refine gh_aload_n hK d_Md_behind_68 rfl ?_
          refine gh_get (v := .ref (B 5)) hK d_Md_behind_69 in_Md rfl h1.1 9 (by decide) kf_Md_22 rfl rfl ?_
          refine gh_bipush (v := nI 16) hK d_Md_behind_72 (by decide) ?_
          refine gh_iload_n hK d_Md_behind_74 rfl ?_
          refine gh_mulN hK d_Md_behind_75 ?_
          refine gh_aload_n hK d_Md_behind_76 rfl ?_
          refine gh_get (v := .ref (B 3)) hK d_Md_behind_77 in_Md rfl h1.1 7 (by decide) kf_Md_16 rfl rfl ?_
          refine gh_iload_n hK d_Md_behind_80 rfl ?_
          refine gh_mald hK d_Md_behind_81 h1 3 (by decide) (i := e) (x := (nI ((ws.getD e []).length))) (by show e < 300; omega) (hd2 e (by omega)).2.1 ?_
          refine gh_aload_n hK d_Md_behind_82 rfl ?_
          refine gh_get (v := .ref (B 5)) hK d_Md_behind_83 in_Md rfl h1.1 9 (by decide) kf_Md_22 rfl rfl ?_
          refine gh_bipush (v := nI 16) hK d_Md_behind_86 (by decide) ?_
          refine gh_iload_n hK d_Md_behind_88 rfl ?_
          refine gh_mulN hK d_Md_behind_89 ?_
          refine gh_aload_n hK d_Md_behind_90 rfl ?_
          refine gh_get (v := .ref (B 3)) hK d_Md_behind_91 in_Md rfl h1.1 7 (by decide) kf_Md_16 rfl rfl ?_
          refine gh_iload_n hK d_Md_behind_94 rfl ?_
          refine gh_mald hK d_Md_behind_95 h1 3 (by decide) (i := c) (x := (nI ((ws.getD c []).length))) (by show c < 300; omega) (hd2 c (by omega)).2.1 ?_
          refine gh_callS (rest := []) [.ref (B 5), .int (nI (16 * e)), .int (nI ((ws.getD e []).length)), .ref (B 5), .int (nI (16 * c)), .int (nI ((ws.getD c []).length))] hK (c_Md_compare l G h1 (ja := 5) (jb := 5) (by decide) (by decide) (hd2 e (by omega)).2.2 (hd2 c (by omega)).2.2 (by have := (hd2 e (by omega)).1; show 16 * e + _ ≤ 4800; omega) (by have := (hd2 c (by omega)).1; show 16 * c + _ ≤ 4800; omega)) Y_Md_compare V_Md_compare km_Md_109 rfl d_Md_behind_96 rfl rfl (Nat.le_of_ble_eq_true rfl) ⟨(Nat.le_of_ble_eq_true rfl), (Nat.le_of_ble_eq_true rfl)⟩ ⟨(Nat.le_of_ble_eq_true rfl), (Nat.le_of_ble_eq_true rfl)⟩ (fun v gp_1 hp => ?_)
          obtain ⟨r1, rfl, hr1, hgp⟩ := hp
          rw [hgp]
          show gh_W l G _ X g1 0 0 [some (.ref (B 0)), some (.int (oI la)), some (.int (nI c)), some (.int (nI e)), some (.int (nI (bn (latB (la.map fun i => ws.getD i []) (ws.getD e [])))))] 99 [.int r1]
          refine gh_if_geC hr1 hK d_Md_behind_99 (tgt := 106) (by decide) (fun z3 => ?_) (fun z3 => ?_)
          · refine gh_iload_n hK d_Md_behind_106 rfl ?_
            rw [if_neg (fun q => by omega)] at kk
            exact kk
          · refine gh_iload_n hK d_Md_behind_102 rfl ?_
            refine gh_goto (tgt := 107) hK d_Md_behind_103 (by decide) ?_
            rw [if_pos ⟨z, z3⟩] at kk
            exact kk
      refine gh_iload_n hK d_Md_behind_4 rfl ?_
      refine gh_aload_n hK d_Md_behind_5 rfl ?_
      refine gh_get (v := .int (nI ds.length)) hK d_Md_behind_6 in_Md rfl h.1 6 (by decide) kf_Md_106 rfl rfl ?_
      refine gh_icmp_geN hK d_Md_behind_9 (tgt := 114) (by decide) (by omega) (by omega) (fun z => by omega) (fun _ => ?_)
      rw [← hg1]
      refine stA ?_
      refine gh_istore (lv' := [some (.ref (B 0)), some (.int (oI la)), some (.int (oI (selN ws (la.map fun i => ws.getD i []) e))), some (.int (nI e)), some (.int (nI (bn (latB (la.map fun i => ws.getD i []) (ws.getD e [])))))]) hK d_Md_behind_56 (Nat.le_of_ble_eq_true rfl) rfl ?_
      refine stB ?_
      refine gh_istore_n (lv' := [some (.ref (B 0)), some (.int (oI la)), some (.int (oI (selN ws (la.map fun i => ws.getD i []) (e + 1)))), some (.int (nI e)), some (.int (nI (bn (latB (la.map fun i => ws.getD i []) (ws.getD e [])))))]) hK d_Md_behind_107 (Nat.le_of_ble_eq_true rfl) rfl ?_
      refine gh_incN (lv' := [some (.ref (B 0)), some (.int (oI la)), some (.int (oI (selN ws (la.map fun i => ws.getD i []) (e + 1)))), some (.int (nI (e + 1))), some (.int (nI (bn (latB (la.map fun i => ws.getD i []) (ws.getD e [])))))]) hK d_Md_behind_108 rfl rfl ?_
      refine gh_goto (tgt := 4) hK d_Md_behind_111 (by decide) ?_
      rw [hg1]
      exact ih (e + 1) _ (by omega)
  refine gh_iconst (v := (-1)) hK d_Md_behind_0 (by decide) ?_
  refine gh_istore_n (lv' := [some (.ref (B 0)), some (.int (oI la)), some (.int (-1)), none, none]) hK d_Md_behind_1 (Nat.le_of_ble_eq_true rfl) rfl ?_
  refine gh_iconst (v := nI 0) hK d_Md_behind_2 (by decide) ?_
  refine gh_istore_n (lv' := [some (.ref (B 0)), some (.int (oI la)), some (.int (-1)), some (.int (nI 0)), none]) hK d_Md_behind_3 (Nat.le_of_ble_eq_true rfl) rfl ?_
  exact lp ds.length 0 _ (by omega)
set_option maxRecDepth 20000 in
set_option maxHeartbeats 4000000 in
theorem c_Md_putEntry (l : Launch) (G : GG) {ds : List (List Nat × Nat)} {e : Nat} {ws : List Nat} {g : GH} {B : Nat → Nat} {cd ty fr tt ap fi en wr mk wd : Nat} {F : Nat → Nat → Int32} {o : List Nat × Nat} (h : Md G g B (mS cd ty ds.length fr tt ap fi en wr mk wd) F o) (hD : DcA F ds) (he : e < ds.length) (hw : (wsD ds).getD e [] = ws) : gMet l G y_Md_putEntry b_Md_putEntry 3 none (rmk 1 0 0 21) [.ref (B 0), .int (nI e)] g (fun v g' => v = none ∧ Md G g' B (mS cd ty ds.length fr tt ap fi en wr mk wd) F (prs o ws) ∧ gh_M MDT g g') := by
  refine gMet.of [some (.ref (B 0)), some (.int (nI e)), none] (by decide +kernel) rfl (Nat.le_of_ble_eq_true rfl) rfl (fun X hK hI hE => ?_)
  have mm : gh_M MDT g g := gh_M.rf
  have hdl := hD.1
  have hd := hD.wd he
  rw [hw] at hd
  have lp : ∀ (m k : Nat) (g1 : GH) (o1 : List Nat × Nat) (h : Md G g1 B (mS cd ty ds.length fr tt ap fi en wr mk wd) F o1) (mm : gh_M MDT g g1), k + m = ws.length → prs o1 (ws.drop k) = prs o ws → gh_W l G (rmk 1 0 0 21) X g1 0 0 [some (.ref (B 0)), some (.int (nI e)), some (.int (nI k))] 2 [] := by
    intro m
    induction m with
    | zero =>
      intro k g1 o1 h mm hk ho
      rw [List.drop_eq_nil_of_le (by omega), prs_nil] at ho
      subst ho
      refine gh_iload_n hK d_Md_putEntry_2 rfl ?_
      refine gh_aload_n hK d_Md_putEntry_3 rfl ?_
      refine gh_get (v := .ref (B 3)) hK d_Md_putEntry_4 in_Md rfl h.1 7 (by decide) kf_Md_16 rfl rfl ?_
      refine gh_iload_n hK d_Md_putEntry_7 rfl ?_
      refine gh_mald hK d_Md_putEntry_8 h 3 (by decide) (i := e) (x := (nI ws.length)) (by show e < 300; omega) hd.2.1 ?_
      refine gh_icmp_geN hK d_Md_putEntry_9 (tgt := 33) (by decide) (by omega) (by omega) (fun _ => ?_) (fun z => by omega)
      exact gh_vret hK hE d_Md_putEntry_33 (Nat.le_of_ble_eq_true rfl) (Nat.le_of_ble_eq_true rfl) ⟨rfl, h, mm⟩
    | succ m ih =>
      intro k g1 o1 h mm hk ho
      have hc := hd.2.2 k (by omega)
      refine gh_iload_n hK d_Md_putEntry_2 rfl ?_
      refine gh_aload_n hK d_Md_putEntry_3 rfl ?_
      refine gh_get (v := .ref (B 3)) hK d_Md_putEntry_4 in_Md rfl h.1 7 (by decide) kf_Md_16 rfl rfl ?_
      refine gh_iload_n hK d_Md_putEntry_7 rfl ?_
      refine gh_mald hK d_Md_putEntry_8 h 3 (by decide) (i := e) (x := (nI ws.length)) (by show e < 300; omega) hd.2.1 ?_
      refine gh_icmp_geN hK d_Md_putEntry_9 (tgt := 33) (by decide) (by omega) (by omega) (fun z => by omega) (fun _ => ?_)
      refine gh_aload_n hK d_Md_putEntry_12 rfl ?_
      refine gh_aload_n hK d_Md_putEntry_13 rfl ?_
      refine gh_get (v := .ref (B 5)) hK d_Md_putEntry_14 in_Md rfl h.1 9 (by decide) kf_Md_22 rfl rfl ?_
      refine gh_bipush (v := nI 16) hK d_Md_putEntry_17 (by decide) ?_
      refine gh_iload_n hK d_Md_putEntry_19 rfl ?_
      refine gh_mulN hK d_Md_putEntry_20 ?_
      refine gh_iload_n hK d_Md_putEntry_21 rfl ?_
      refine gh_addN hK d_Md_putEntry_22 ?_
      refine gh_mald hK d_Md_putEntry_23 h 5 (by decide) (i := (16 * e) + k) (x := (nI (ws.getD k 0))) (by show (16 * e) + k < 4800; omega) (hd.2.2 k (by omega)).1 ?_
      refine gh_callV (rest := []) [.int (nI (ws.getD k 0))] hK (c_Md_put l G h (c := ws.getD k 0) hc.2) Y_Md_put V_Md_put km_Md_66 h.1 rfl rfl d_Md_putEntry_24 rfl rfl (Nat.le_of_ble_eq_true rfl) ⟨(Nat.le_of_ble_eq_true rfl), (Nat.le_of_ble_eq_true rfl)⟩ ⟨(Nat.le_of_ble_eq_true rfl), (Nat.le_of_ble_eq_true rfl)⟩ (fun v g_1 hp => ?_)
      obtain ⟨rfl, h_1, mx⟩ := hp
      have mm := mm.tr mx
      show gh_W l G _ X g_1 0 0 [some (.ref (B 0)), some (.int (nI e)), some (.int (nI k))] 27 []
      refine gh_incN (lv' := [some (.ref (B 0)), some (.int (nI e)), some (.int (nI (k + 1)))]) hK d_Md_putEntry_27 rfl rfl ?_
      refine gh_goto (tgt := 2) hK d_Md_putEntry_30 (by decide) ?_
      exact ih (k + 1) g_1 _ h_1 mm (by omega) (by rw [← ho, drop_D (i := k) (by omega), prs_cons])
  refine gh_iconst (v := nI 0) hK d_Md_putEntry_0 (by decide) ?_
  refine gh_istore_n (lv' := [some (.ref (B 0)), some (.int (nI e)), some (.int (nI 0))]) hK d_Md_putEntry_1 (Nat.le_of_ble_eq_true rfl) rfl ?_
  exact lp ws.length 0 g o h mm (by omega) rfl
