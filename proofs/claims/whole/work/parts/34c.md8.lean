/-- words in an array, where each begins and how long it is -/
def WdA (F : Nat → Nat → Int32) (jw : Nat) (ws : List (List Nat)) (ps : Nat → Nat) : Prop := ws.length ≤ 1024 ∧ ∀ k, k < ws.length → F 11 k = nI (ps k) ∧ F 12 k = nI (ws.getD k []).length ∧ sA (F jw) (ps k) (ws.getD k []) ∧ ps k + (ws.getD k []).length ≤ mcp jw
set_option maxRecDepth 20000 in
set_option maxHeartbeats 4000000 in
theorem c_Md_putWords (l : Launch) (G : GG) {jw : Nat} {ws ss : List (List Nat)} {ps : Nat → Nat} {g : GH} {B : Nat → Nat} {cd ty ne fr tt ap fi en wr mk : Nat} {F : Nat → Nat → Int32} {o : List Nat × Nat} (h : Md G g B (mS cd ty ne fr tt ap fi en wr mk ws.length) F o) (hj : jw ∈ mAr) (hW : WdA F jw ws ps) (hs : srtL ss) (hm : ∀ w, w ∈ ss ↔ w ∈ ws) : gMet l G y_Md_putWords b_Md_putWords 6 none (rmk 1 0 0 26) [.ref (B 0), .ref (B jw)] g (fun v g' => v = none ∧ Md G g' B (mS cd ty ne fr tt ap fi en wr mk ws.length) F (prs o (jnI ss)) ∧ gh_M MDT g g') := by
  refine gMet.of [some (.ref (B 0)), some (.ref (B jw)), none, none, none, none] (by decide +kernel) rfl (Nat.le_of_ble_eq_true rfl) rfl (fun X hK hI hE => ?_)
  have mm : gh_M MDT g g := gh_M.rf
  obtain ⟨hwl, hw2⟩ := hW
  have hcj := mcp_le hj
  have inner : ∀ (la : Option Nat) (g1 : GH) (o1 : List Nat × Nat) (h1 : Md G g1 B (mS cd ty ne fr tt ap fi en wr mk ws.length) F o1) (hla : ∀ i, la = some i → i < ws.length) (kz : ∀ v5, gh_W l G (rmk 1 0 0 26) X g1 0 0 [some (.ref (B 0)), some (.ref (B jw)), some (.int (oI la)), some (.int (oI (selN ws (la.map fun i => ws.getD i []) ws.length))), some (.int (nI ws.length)), v5] 126 []) (m e : Nat) (v5 : Option Value), e + m = ws.length → gh_W l G (rmk 1 0 0 26) X g1 0 0 [some (.ref (B 0)), some (.ref (B jw)), some (.int (oI la)), some (.int (oI (selN ws (la.map fun i => ws.getD i []) e))), some (.int (nI e)), v5] 14 [] := by
    intro la g1 o1 h1 hla kz m
    induction m with
    | zero =>
      intro e v5 he
      have he : e = ws.length := by omega
      subst he
      refine gh_iload hK d_Md_putWords_14 rfl ?_
      refine gh_aload_n hK d_Md_putWords_16 rfl ?_
      refine gh_get (v := .int (nI ws.length)) hK d_Md_putWords_17 in_Md rfl h1.1 22 (by decide) kf_Md_205 rfl rfl ?_
      refine gh_icmp_geN hK d_Md_putWords_20 (tgt := 126) (by decide) (by omega) (by omega) (fun _ => kz _) (fun z => by omega)
    | succ m ih =>
      intro e v5 he
      have stA : gh_W l G (rmk 1 0 0 26) X g1 0 0 [some (.ref (B 0)), some (.ref (B jw)), some (.int (oI la)), some (.int (oI (selN ws (la.map fun i => ws.getD i []) e))), some (.int (nI e)), v5] 67 [.int (nI (bn (latB (la.map fun i => ws.getD i []) (ws.getD e []))))] → gh_W l G (rmk 1 0 0 26) X g1 0 0 [some (.ref (B 0)), some (.ref (B jw)), some (.int (oI la)), some (.int (oI (selN ws (la.map fun i => ws.getD i []) e))), some (.int (nI e)), v5] 23 [] := by
        intro kk
        refine gh_iload_n hK d_Md_putWords_23 rfl ?_
        refine gh_iconst (v := (-1)) hK d_Md_putWords_24 (by decide) ?_
        refine gh_icmp_eqO hK d_Md_putWords_25 (tgt := 62) (by decide) (fun i hi => by have := hla i hi; omega) (fun z => ?_) (fun i zi => ?_)
        · refine gh_iconst (v := nI 1) hK d_Md_putWords_62 (by decide) ?_
          refine gh_goto (tgt := 67) hK d_Md_putWords_63 (by decide) ?_
          subst z
          exact kk
        have hi := hla i zi
        rw [show oI la = nI i from by rw [zi]; rfl] at kk ⊢
        show gh_W l G _ X g1 0 0 [some (.ref (B 0)), some (.ref (B jw)), some (.int (nI i)), some (.int (oI (selN ws (la.map fun i => ws.getD i []) e))), some (.int (nI e)), v5] 28 []
        refine gh_aload_n hK d_Md_putWords_28 rfl ?_
        refine gh_aload_n hK d_Md_putWords_29 rfl ?_
        refine gh_get (v := .ref (B 11)) hK d_Md_putWords_30 in_Md rfl h1.1 23 (by decide) kf_Md_40 rfl rfl ?_
        refine gh_iload hK d_Md_putWords_33 rfl ?_
        refine gh_mald hK d_Md_putWords_35 h1 11 (by decide) (i := e) (x := (nI (ps e))) (by show e < 1024; omega) (hw2 e (by omega)).1 ?_
        refine gh_aload_n hK d_Md_putWords_36 rfl ?_
        refine gh_get (v := .ref (B 12)) hK d_Md_putWords_37 in_Md rfl h1.1 24 (by decide) kf_Md_43 rfl rfl ?_
        refine gh_iload hK d_Md_putWords_40 rfl ?_
        refine gh_mald hK d_Md_putWords_42 h1 12 (by decide) (i := e) (x := (nI ((ws.getD e []).length))) (by show e < 1024; omega) (hw2 e (by omega)).2.1 ?_
        refine gh_aload_n hK d_Md_putWords_43 rfl ?_
        refine gh_aload_n hK d_Md_putWords_44 rfl ?_
        refine gh_get (v := .ref (B 11)) hK d_Md_putWords_45 in_Md rfl h1.1 23 (by decide) kf_Md_40 rfl rfl ?_
        refine gh_iload_n hK d_Md_putWords_48 rfl ?_
        refine gh_mald hK d_Md_putWords_49 h1 11 (by decide) (i := i) (x := (nI (ps i))) (by show i < 1024; omega) (hw2 i (by omega)).1 ?_
        refine gh_aload_n hK d_Md_putWords_50 rfl ?_
        refine gh_get (v := .ref (B 12)) hK d_Md_putWords_51 in_Md rfl h1.1 24 (by decide) kf_Md_43 rfl rfl ?_
        refine gh_iload_n hK d_Md_putWords_54 rfl ?_
        refine gh_mald hK d_Md_putWords_55 h1 12 (by decide) (i := i) (x := (nI ((ws.getD i []).length))) (by show i < 1024; omega) (hw2 i (by omega)).2.1 ?_
        refine gh_callS (rest := []) [.ref (B jw), .int (nI (ps e)), .int (nI ((ws.getD e []).length)), .ref (B jw), .int (nI (ps i)), .int (nI ((ws.getD i []).length))] hK (c_Md_compare l G h1 (ja := jw) (jb := jw) hj hj (hw2 e (by omega)).2.2.1 (hw2 i (by omega)).2.2.1 (hw2 e (by omega)).2.2.2 (hw2 i (by omega)).2.2.2) Y_Md_compare V_Md_compare km_Md_109 rfl d_Md_putWords_56 rfl rfl (Nat.le_of_ble_eq_true rfl) ⟨(Nat.le_of_ble_eq_true rfl), (Nat.le_of_ble_eq_true rfl)⟩ ⟨(Nat.le_of_ble_eq_true rfl), (Nat.le_of_ble_eq_true rfl)⟩ (fun v gp_1 hp => ?_)
        obtain ⟨r1, rfl, hr1, hgp⟩ := hp
        rw [hgp]
        show gh_W l G _ X g1 0 0 [some (.ref (B 0)), some (.ref (B jw)), some (.int (nI i)), some (.int (oI (selN ws (la.map fun i => ws.getD i []) e))), some (.int (nI e)), v5] 59 [.int r1]
        refine gh_if_leC hr1 hK d_Md_putWords_59 (tgt := 66) (by decide) (fun z => ?_) (fun z => ?_)
        · refine gh_iconst (v := nI 0) hK d_Md_putWords_66 (by decide) ?_
          rw [show latB (la.map fun i => ws.getD i []) (ws.getD e []) = false from (by rw [zi]; exact decide_eq_false (show ¬ 0 < cmpL (ws.getD e []) (ws.getD i []) by omega))] at kk
          exact kk
        · refine gh_iconst (v := nI 1) hK d_Md_putWords_62 (by decide) ?_
          refine gh_goto (tgt := 67) hK d_Md_putWords_63 (by decide) ?_
          rw [show latB (la.map fun i => ws.getD i []) (ws.getD e []) = true from (by rw [zi]; exact decide_eq_true (show 0 < cmpL (ws.getD e []) (ws.getD i []) by omega))] at kk
          exact kk
      have stB : gh_W l G (rmk 1 0 0 26) X g1 0 0 [some (.ref (B 0)), some (.ref (B jw)), some (.int (oI la)), some (.int (oI (selN ws (la.map fun i => ws.getD i []) e))), some (.int (nI e)), some (.int (nI (bn (latB (la.map fun i => ws.getD i []) (ws.getD e [])))))] 119 [.int (oI (selN ws (la.map fun i => ws.getD i []) (e + 1)))] → gh_W l G (rmk 1 0 0 26) X g1 0 0 [some (.ref (B 0)), some (.ref (B jw)), some (.int (oI la)), some (.int (oI (selN ws (la.map fun i => ws.getD i []) e))), some (.int (nI e)), some (.int (nI (bn (latB (la.map fun i => ws.getD i []) (ws.getD e [])))))] 69 [] := by
        intro kk
        obtain ⟨-, hse⟩ := selN_spec ws (la.map fun i => ws.getD i []) e
        rw [selN] at kk
        refine gh_iload hK d_Md_putWords_69 rfl ?_
        refine gh_if_eqB hK d_Md_putWords_71 (tgt := 118) (by decide) (fun z => ?_) (fun z => ?_)
        · cases hs : selN ws (la.map fun i => ws.getD i []) e with
          | none =>
            rw [hs] at kk
            dsimp only at kk
            rw [if_neg (by rw [z]; decide)] at kk
            refine gh_iload_n hK d_Md_putWords_118 rfl ?_
            exact kk
          | some c =>
            rw [hs] at kk
            dsimp only at kk
            rw [if_neg (fun q => by rw [z] at q; cases q.1)] at kk
            refine gh_iload_n hK d_Md_putWords_118 rfl ?_
            exact kk
        cases hs : selN ws (la.map fun i => ws.getD i []) e with
        | none =>
          rw [hs] at kk
          dsimp only at kk
          rw [if_pos z] at kk
          refine gh_iload_n hK d_Md_putWords_74 rfl ?_
          refine gh_iconst (v := (-1)) hK d_Md_putWords_75 (by decide) ?_
          refine gh_icmp_eqO hK d_Md_putWords_76 (tgt := 113) (by decide) (fun i hi => by cases hi) (fun _ => ?_) (fun i q => by cases q)
          refine gh_iload hK d_Md_putWords_113 rfl ?_
          refine gh_goto (tgt := 119) hK d_Md_putWords_115 (by decide) ?_
          exact kk
        | some c =>
          have hc := (hse c hs).1
          rw [hs] at kk
          dsimp only at kk
          refine gh_iload_n hK d_Md_putWords_74 rfl ?_
          refine gh_iconst (v := (-1)) hK d_Md_putWords_75 (by decide) ?_
          refine gh_icmp_eqO hK d_Md_putWords_76 (tgt := 113) (by decide) (fun i hi => by cases hi; omega) (fun q => by cases q) (fun i q => ?_)
          cases q
          show gh_W l G _ X g1 0 0 [some (.ref (B 0)), some (.ref (B jw)), some (.int (oI la)), some (.int (nI c)), some (.int (nI e)), some (.int (nI (bn (latB (la.map fun i => ws.getD i []) (ws.getD e [])))))] 79 []
          refine gh_aload_n hK d_Md_putWords_79 rfl ?_
          refine gh_aload_n hK d_Md_putWords_80 rfl ?_
          refine gh_get (v := .ref (B 11)) hK d_Md_putWords_81 in_Md rfl h1.1 23 (by decide) kf_Md_40 rfl rfl ?_
          refine gh_iload hK d_Md_putWords_84 rfl ?_
          refine gh_mald hK d_Md_putWords_86 h1 11 (by decide) (i := e) (x := (nI (ps e))) (by show e < 1024; omega) (hw2 e (by omega)).1 ?_
          refine gh_aload_n hK d_Md_putWords_87 rfl ?_
          refine gh_get (v := .ref (B 12)) hK d_Md_putWords_88 in_Md rfl h1.1 24 (by decide) kf_Md_43 rfl rfl ?_
          refine gh_iload hK d_Md_putWords_91 rfl ?_
          refine gh_mald hK d_Md_putWords_93 h1 12 (by decide) (i := e) (x := (nI ((ws.getD e []).length))) (by show e < 1024; omega) (hw2 e (by omega)).2.1 ?_
          refine gh_aload_n hK d_Md_putWords_94 rfl ?_
          refine gh_aload_n hK d_Md_putWords_95 rfl ?_
          refine gh_get (v := .ref (B 11)) hK d_Md_putWords_96 in_Md rfl h1.1 23 (by decide) kf_Md_40 rfl rfl ?_
          refine gh_iload_n hK d_Md_putWords_99 rfl ?_
          refine gh_mald hK d_Md_putWords_100 h1 11 (by decide) (i := c) (x := (nI (ps c))) (by show c < 1024; omega) (hw2 c (by omega)).1 ?_
          refine gh_aload_n hK d_Md_putWords_101 rfl ?_
          refine gh_get (v := .ref (B 12)) hK d_Md_putWords_102 in_Md rfl h1.1 24 (by decide) kf_Md_43 rfl rfl ?_
          refine gh_iload_n hK d_Md_putWords_105 rfl ?_
          refine gh_mald hK d_Md_putWords_106 h1 12 (by decide) (i := c) (x := (nI ((ws.getD c []).length))) (by show c < 1024; omega) (hw2 c (by omega)).2.1 ?_
          refine gh_callS (rest := []) [.ref (B jw), .int (nI (ps e)), .int (nI ((ws.getD e []).length)), .ref (B jw), .int (nI (ps c)), .int (nI ((ws.getD c []).length))] hK (c_Md_compare l G h1 (ja := jw) (jb := jw) hj hj (hw2 e (by omega)).2.2.1 (hw2 c (by omega)).2.2.1 (hw2 e (by omega)).2.2.2 (hw2 c (by omega)).2.2.2) Y_Md_compare V_Md_compare km_Md_109 rfl d_Md_putWords_107 rfl rfl (Nat.le_of_ble_eq_true rfl) ⟨(Nat.le_of_ble_eq_true rfl), (Nat.le_of_ble_eq_true rfl)⟩ ⟨(Nat.le_of_ble_eq_true rfl), (Nat.le_of_ble_eq_true rfl)⟩ (fun v gp_1 hp => ?_)
          obtain ⟨r1, rfl, hr1, hgp⟩ := hp
          rw [hgp]
          show gh_W l G _ X g1 0 0 [some (.ref (B 0)), some (.ref (B jw)), some (.int (oI la)), some (.int (nI c)), some (.int (nI e)), some (.int (nI (bn (latB (la.map fun i => ws.getD i []) (ws.getD e [])))))] 110 [.int r1]
          refine gh_if_geC hr1 hK d_Md_putWords_110 (tgt := 118) (by decide) (fun z3 => ?_) (fun z3 => ?_)
          · refine gh_iload_n hK d_Md_putWords_118 rfl ?_
            rw [if_neg (fun q => by omega)] at kk
            exact kk
          · refine gh_iload hK d_Md_putWords_113 rfl ?_
            refine gh_goto (tgt := 119) hK d_Md_putWords_115 (by decide) ?_
            rw [if_pos ⟨z, z3⟩] at kk
            exact kk
      refine gh_iload hK d_Md_putWords_14 rfl ?_
      refine gh_aload_n hK d_Md_putWords_16 rfl ?_
      refine gh_get (v := .int (nI ws.length)) hK d_Md_putWords_17 in_Md rfl h1.1 22 (by decide) kf_Md_205 rfl rfl ?_
      refine gh_icmp_geN hK d_Md_putWords_20 (tgt := 126) (by decide) (by omega) (by omega) (fun z => by omega) (fun _ => ?_)
      refine stA ?_
      refine gh_istore (lv' := [some (.ref (B 0)), some (.ref (B jw)), some (.int (oI la)), some (.int (oI (selN ws (la.map fun i => ws.getD i []) e))), some (.int (nI e)), some (.int (nI (bn (latB (la.map fun i => ws.getD i []) (ws.getD e [])))))]) hK d_Md_putWords_67 (Nat.le_of_ble_eq_true rfl) rfl ?_
      refine stB ?_
      refine gh_istore_n (lv' := [some (.ref (B 0)), some (.ref (B jw)), some (.int (oI la)), some (.int (oI (selN ws (la.map fun i => ws.getD i []) (e + 1)))), some (.int (nI e)), some (.int (nI (bn (latB (la.map fun i => ws.getD i []) (ws.getD e [])))))]) hK d_Md_putWords_119 (Nat.le_of_ble_eq_true rfl) rfl ?_
      refine gh_incN (lv' := [some (.ref (B 0)), some (.ref (B jw)), some (.int (oI la)), some (.int (oI (selN ws (la.map fun i => ws.getD i []) (e + 1)))), some (.int (nI (e + 1))), some (.int (nI (bn (latB (la.map fun i => ws.getD i []) (ws.getD e [])))))]) hK d_Md_putWords_120 rfl rfl ?_
      refine gh_goto (tgt := 14) hK d_Md_putWords_123 (by decide) ?_
      exact ih (e + 1) _ (by omega)
  have prn : ∀ (b : Nat) (v2 v5 : Option Value) (o0 : List Nat × Nat) (hb : b < ws.length) (kz : ∀ (g2 : GH) (k : Nat), Md G g2 B (mS cd ty ne fr tt ap fi en wr mk ws.length) F (prs o0 (ws.getD b [])) → gh_M MDT g g2 → gh_W l G (rmk 1 0 0 26) X g2 0 0 [some (.ref (B 0)), some (.ref (B jw)), v2, some (.int (nI b)), some (.int (nI k)), v5] 182 []) (m k : Nat) (g1 : GH) (o1 : List Nat × Nat) (h : Md G g1 B (mS cd ty ne fr tt ap fi en wr mk ws.length) F o1) (mm : gh_M MDT g g1), k + m = (ws.getD b []).length → prs o1 ((ws.getD b []).drop k) = prs o0 (ws.getD b []) → gh_W l G (rmk 1 0 0 26) X g1 0 0 [some (.ref (B 0)), some (.ref (B jw)), v2, some (.int (nI b)), some (.int (nI k)), v5] 145 [] := by
    intro b v2 v5 o0 hb kz m
    have hwb := hw2 b hb
    induction m with
    | zero =>
      intro k g1 o1 h mm hk ho
      rw [List.drop_eq_nil_of_le (by omega), prs_nil] at ho
      subst ho
      refine gh_iload_n hK d_Md_putWords_145 rfl ?_
      refine gh_iconst (v := (-1)) hK d_Md_putWords_146 (by decide) ?_
      refine gh_icmp_eqO (b := some b) hK d_Md_putWords_147 (tgt := 182) (by decide) (fun i hi => by cases hi; omega) (fun q => by cases q) (fun i _ => ?_)
      refine gh_iload hK d_Md_putWords_150 rfl ?_
      refine gh_aload_n hK d_Md_putWords_152 rfl ?_
      refine gh_get (v := .ref (B 12)) hK d_Md_putWords_153 in_Md rfl h.1 24 (by decide) kf_Md_43 rfl rfl ?_
      refine gh_iload_n hK d_Md_putWords_156 rfl ?_
      refine gh_mald hK d_Md_putWords_157 h 12 (by decide) (i := b) (x := (nI ((ws.getD b []).length))) (by show b < 1024; omega) (hw2 b (by omega)).2.1 ?_
      refine gh_icmp_geN hK d_Md_putWords_158 (tgt := 182) (by decide) (by omega) (by omega) (fun _ => ?_) (fun z => by omega)
      exact kz g1 k h mm
    | succ m ih =>
      intro k g1 o1 h mm hk ho
      have hc := hwb.2.2.1 k (by omega)
      refine gh_iload_n hK d_Md_putWords_145 rfl ?_
      refine gh_iconst (v := (-1)) hK d_Md_putWords_146 (by decide) ?_
      refine gh_icmp_eqO (b := some b) hK d_Md_putWords_147 (tgt := 182) (by decide) (fun i hi => by cases hi; omega) (fun q => by cases q) (fun i _ => ?_)
      refine gh_iload hK d_Md_putWords_150 rfl ?_
      refine gh_aload_n hK d_Md_putWords_152 rfl ?_
      refine gh_get (v := .ref (B 12)) hK d_Md_putWords_153 in_Md rfl h.1 24 (by decide) kf_Md_43 rfl rfl ?_
      refine gh_iload_n hK d_Md_putWords_156 rfl ?_
      refine gh_mald hK d_Md_putWords_157 h 12 (by decide) (i := b) (x := (nI ((ws.getD b []).length))) (by show b < 1024; omega) (hw2 b (by omega)).2.1 ?_
      refine gh_icmp_geN hK d_Md_putWords_158 (tgt := 182) (by decide) (by omega) (by omega) (fun z => by omega) (fun _ => ?_)
      refine gh_aload_n hK d_Md_putWords_161 rfl ?_
      refine gh_aload_n hK d_Md_putWords_162 rfl ?_
      refine gh_aload_n hK d_Md_putWords_163 rfl ?_
      refine gh_get (v := .ref (B 11)) hK d_Md_putWords_164 in_Md rfl h.1 23 (by decide) kf_Md_40 rfl rfl ?_
      refine gh_iload_n hK d_Md_putWords_167 rfl ?_
      refine gh_mald hK d_Md_putWords_168 h 11 (by decide) (i := b) (x := (nI (ps b))) (by show b < 1024; omega) (hw2 b (by omega)).1 ?_
      refine gh_iload hK d_Md_putWords_169 rfl ?_
      refine gh_addN hK d_Md_putWords_171 ?_
      refine gh_mald hK d_Md_putWords_172 h jw hj (i := ps b + k) (by omega) hc.1 ?_
      refine gh_callV (rest := []) [.int (nI ((ws.getD b []).getD k 0))] hK (c_Md_put l G h (c := (ws.getD b []).getD k 0) hc.2) Y_Md_put V_Md_put km_Md_66 h.1 rfl rfl d_Md_putWords_173 rfl rfl (Nat.le_of_ble_eq_true rfl) ⟨(Nat.le_of_ble_eq_true rfl), (Nat.le_of_ble_eq_true rfl)⟩ ⟨(Nat.le_of_ble_eq_true rfl), (Nat.le_of_ble_eq_true rfl)⟩ (fun v g_1 hp => ?_)
      obtain ⟨rfl, h_1, mx⟩ := hp
      have mm := mm.tr mx
      show gh_W l G _ X g_1 0 0 [some (.ref (B 0)), some (.ref (B jw)), v2, some (.int (nI b)), some (.int (nI k)), v5] 176 []
      refine gh_incN (lv' := [some (.ref (B 0)), some (.ref (B jw)), v2, some (.int (nI b)), some (.int (nI (k + 1))), v5]) hK d_Md_putWords_176 rfl rfl ?_
      refine gh_goto (tgt := 145) hK d_Md_putWords_179 (by decide) ?_
      exact ih (k + 1) g_1 _ h_1 mm (by omega) (by rw [← ho, drop_D (i := k) (by omega), prs_cons])
  have outer : ∀ (rest done : List (List Nat)) (la : Option Nat) (x : Nat) (v4 v5 : Option Value) (g1 : GH) (o1 : List Nat × Nat) (h : Md G g1 B (mS cd ty ne fr tt ap fi en wr mk ws.length) F o1) (mm : gh_M MDT g g1), ss = done ++ rest → (la.map fun i => ws.getD i []) = done.getLast? → (∀ i, la = some i → i < ws.length) → x ≤ 1024 → prs o1 (match la with | none => jnI rest | some _ => jnT rest) = prs o (jnI ss) → gh_W l G (rmk 1 0 0 26) X g1 0 0 [some (.ref (B 0)), some (.ref (B jw)), some (.int (oI la)), some (.int (nI x)), v4, v5] 4 [] := by
    intro rest
    induction rest with
    | nil =>
      intro done la x v4 v5 g1 o1 h mm hsd hlw hla hx ho
      rw [List.append_nil] at hsd
      subst hsd
      have hse := sel_nil hs hm
      rw [← hlw] at hse
      refine gh_iload_n hK d_Md_putWords_4 rfl ?_
      refine gh_iconst (v := (-1)) hK d_Md_putWords_5 (by decide) ?_
      refine gh_icmp_eqO (b := some x) hK d_Md_putWords_6 (tgt := 196) (by decide) (fun i hi => by cases hi; omega) (fun q => by cases q) (fun i _ => ?_)
      refine gh_iconst (v := (-1)) hK d_Md_putWords_9 (by decide) ?_
      refine gh_istore_n (lv' := [some (.ref (B 0)), some (.ref (B jw)), some (.int (oI la)), some (.int (-1)), v4, v5]) hK d_Md_putWords_10 (Nat.le_of_ble_eq_true rfl) rfl ?_
      refine gh_iconst (v := nI 0) hK d_Md_putWords_11 (by decide) ?_
      refine gh_istore (lv' := [some (.ref (B 0)), some (.ref (B jw)), some (.int (oI la)), some (.int (-1)), some (.int (nI 0)), v5]) hK d_Md_putWords_12 (Nat.le_of_ble_eq_true rfl) rfl ?_
      refine inner la g1 o1 h hla (fun v5 => ?_) ws.length 0 _ (by omega)
      rw [hse]
      refine gh_iload_n hK d_Md_putWords_126 rfl ?_
      refine gh_iconst (v := (-1)) hK d_Md_putWords_127 (by decide) ?_
      refine gh_icmp_eqO (b := none) hK d_Md_putWords_128 (tgt := 142) (by decide) (fun i hi => by cases hi) (fun _ => ?_) (fun i q => by cases q)
      refine gh_iconst (v := nI 0) hK d_Md_putWords_142 (by decide) ?_
      refine gh_istore (lv' := [some (.ref (B 0)), some (.ref (B jw)), some (.int (oI la)), some (.int (oI none)), some (.int (nI 0)), v5]) hK d_Md_putWords_143 (Nat.le_of_ble_eq_true rfl) rfl ?_
      refine gh_iload_n hK d_Md_putWords_145 rfl ?_
      refine gh_iconst (v := (-1)) hK d_Md_putWords_146 (by decide) ?_
      refine gh_icmp_eqO (b := none) hK d_Md_putWords_147 (tgt := 182) (by decide) (fun i hi => by cases hi) (fun _ => ?_) (fun i q => by cases q)
      refine gh_iload_n hK d_Md_putWords_182 rfl ?_
      refine gh_iconst (v := (-1)) hK d_Md_putWords_183 (by decide) ?_
      refine gh_icmp_neO (b := none) hK d_Md_putWords_184 (tgt := 191) (by decide) (fun i hi => by cases hi) (fun i q => by cases q) (fun _ => ?_)
      refine gh_iload_n hK d_Md_putWords_187 rfl ?_
      refine gh_goto (tgt := 192) hK d_Md_putWords_188 (by decide) ?_
      refine gh_istore_n (lv' := [some (.ref (B 0)), some (.ref (B jw)), some (.int (oI la)), some (.int (oI none)), some (.int (nI 0)), v5]) hK d_Md_putWords_192 (Nat.le_of_ble_eq_true rfl) rfl ?_
      refine gh_goto (tgt := 4) hK d_Md_putWords_193 (by decide) ?_
      refine gh_iload_n hK d_Md_putWords_4 rfl ?_
      refine gh_iconst (v := (-1)) hK d_Md_putWords_5 (by decide) ?_
      refine gh_icmp_eqO (b := none) hK d_Md_putWords_6 (tgt := 196) (by decide) (fun i hi => by cases hi) (fun _ => ?_) (fun i q => by cases q)
      refine gh_iload_n hK d_Md_putWords_196 rfl ?_
      refine gh_iconst (v := (-1)) hK d_Md_putWords_197 (by decide) ?_
      refine gh_icmp_neO hK d_Md_putWords_198 (tgt := 207) (by decide) (fun i hi => by have := hla i hi; omega) (fun i z => ?_) (fun z => ?_)
      · subst z
        have ho : o1 = prs o (jnI ss) := ho
        subst ho
        exact gh_vret hK hE d_Md_putWords_207 (Nat.le_of_ble_eq_true rfl) (Nat.le_of_ble_eq_true rfl) ⟨rfl, h, mm⟩
      subst z
      have ho : prt o1 45 = prs o (jnI ss) := ho
      show gh_W l G _ X g1 0 0 [some (.ref (B 0)), some (.ref (B jw)), some (.int (oI none)), some (.int (oI none)), some (.int (nI 0)), v5] 201 []
      refine gh_aload_n hK d_Md_putWords_201 rfl ?_
      refine gh_bipush (v := nI 45) hK d_Md_putWords_202 (by decide) ?_
      refine gh_callV (rest := []) [.int (nI 45)] hK (c_Md_put l G h (c := 45) (by decide)) Y_Md_put V_Md_put km_Md_66 h.1 rfl rfl d_Md_putWords_204 rfl rfl (Nat.le_of_ble_eq_true rfl) ⟨(Nat.le_of_ble_eq_true rfl), (Nat.le_of_ble_eq_true rfl)⟩ ⟨(Nat.le_of_ble_eq_true rfl), (Nat.le_of_ble_eq_true rfl)⟩ (fun v g_1 hp => ?_)
      obtain ⟨rfl, h_1, mx⟩ := hp
      have mm := mm.tr mx
      show gh_W l G _ X g_1 0 0 [some (.ref (B 0)), some (.ref (B jw)), some (.int (oI none)), some (.int (oI none)), some (.int (nI 0)), v5] 207 []
      exact gh_vret hK hE d_Md_putWords_207 (Nat.le_of_ble_eq_true rfl) (Nat.le_of_ble_eq_true rfl) ⟨rfl, by rw [← ho]; exact h_1, mm⟩
    | cons r rest ih =>
      intro done la x v4 v5 g1 o1 h mm hsd hlw hla hx ho
      subst hsd
      obtain ⟨b, hse, hb, hbr⟩ := sel_cons hs hm
      rw [← hlw] at hse
      have fin : ∀ (g2 : GH) (o2 : List Nat × Nat) (v2 v4 v5 : Option Value) (h : Md G g2 B (mS cd ty ne fr tt ap fi en wr mk ws.length) F o2) (mm : gh_M MDT g g2), prs o2 (r ++ jnT rest) = prs o (jnI (done ++ r :: rest)) → gh_W l G (rmk 1 0 0 26) X g2 0 0 [some (.ref (B 0)), some (.ref (B jw)), v2, some (.int (nI b)), v4, v5] 142 [] := by
        intro g2 o2 v2 v4 v5 h mm ho
        refine gh_iconst (v := nI 0) hK d_Md_putWords_142 (by decide) ?_
        refine gh_istore (lv' := [some (.ref (B 0)), some (.ref (B jw)), v2, some (.int (nI b)), some (.int (nI 0)), v5]) hK d_Md_putWords_143 (Nat.le_of_ble_eq_true rfl) rfl ?_
        refine prn b v2 v5 o2 hb (fun g3 k h mm => ?_) (ws.getD b []).length 0 g2 o2 h mm (by omega) rfl
        rw [hbr] at h
        refine gh_iload_n hK d_Md_putWords_182 rfl ?_
        refine gh_iconst (v := (-1)) hK d_Md_putWords_183 (by decide) ?_
        refine gh_icmp_neO (b := some b) hK d_Md_putWords_184 (tgt := 191) (by decide) (fun i hi => by cases hi; omega) (fun i _ => ?_) (fun q => by cases q)
        refine gh_iload_n hK d_Md_putWords_191 rfl ?_
        refine gh_istore_n (lv' := [some (.ref (B 0)), some (.ref (B jw)), some (.int (nI b)), some (.int (nI b)), some (.int (nI k)), v5]) hK d_Md_putWords_192 (Nat.le_of_ble_eq_true rfl) rfl ?_
        refine gh_goto (tgt := 4) hK d_Md_putWords_193 (by decide) ?_
        refine ih (done ++ [r]) (some b) b _ _ g3 (prs o2 r) h mm (by rw [List.append_assoc]; rfl) (by rw [List.getLast?_append]; show some (ws.getD b []) = _; rw [hbr]; rfl) (fun i hi => by cases hi; exact hb) (by omega) ?_
        rw [← ho, prs_app]
      refine gh_iload_n hK d_Md_putWords_4 rfl ?_
      refine gh_iconst (v := (-1)) hK d_Md_putWords_5 (by decide) ?_
      refine gh_icmp_eqO (b := some x) hK d_Md_putWords_6 (tgt := 196) (by decide) (fun i hi => by cases hi; omega) (fun q => by cases q) (fun i _ => ?_)
      refine gh_iconst (v := (-1)) hK d_Md_putWords_9 (by decide) ?_
      refine gh_istore_n (lv' := [some (.ref (B 0)), some (.ref (B jw)), some (.int (oI la)), some (.int (-1)), v4, v5]) hK d_Md_putWords_10 (Nat.le_of_ble_eq_true rfl) rfl ?_
      refine gh_iconst (v := nI 0) hK d_Md_putWords_11 (by decide) ?_
      refine gh_istore (lv' := [some (.ref (B 0)), some (.ref (B jw)), some (.int (oI la)), some (.int (-1)), some (.int (nI 0)), v5]) hK d_Md_putWords_12 (Nat.le_of_ble_eq_true rfl) rfl ?_
      refine inner la g1 o1 h hla (fun v5 => ?_) ws.length 0 _ (by omega)
      rw [hse]
      show gh_W l G _ X g1 0 0 [some (.ref (B 0)), some (.ref (B jw)), some (.int (oI la)), some (.int (nI b)), some (.int (nI ws.length)), v5] 126 []
      refine gh_iload_n hK d_Md_putWords_126 rfl ?_
      refine gh_iconst (v := (-1)) hK d_Md_putWords_127 (by decide) ?_
      refine gh_icmp_eqO (b := some b) hK d_Md_putWords_128 (tgt := 142) (by decide) (fun i hi => by cases hi; omega) (fun q => by cases q) (fun i _ => ?_)
      refine gh_iload_n hK d_Md_putWords_131 rfl ?_
      refine gh_iconst (v := (-1)) hK d_Md_putWords_132 (by decide) ?_
      refine gh_icmp_eqO hK d_Md_putWords_133 (tgt := 142) (by decide) (fun i hi => by have := hla i hi; omega) (fun z => ?_) (fun i z => ?_)
      · subst z
        exact fin g1 o1 _ _ _ h mm ho
      subst z
      show gh_W l G _ X g1 0 0 [some (.ref (B 0)), some (.ref (B jw)), some (.int (nI i)), some (.int (nI b)), some (.int (nI ws.length)), v5] 136 []
      refine gh_aload_n hK d_Md_putWords_136 rfl ?_
      refine gh_bipush (v := nI 32) hK d_Md_putWords_137 (by decide) ?_
      refine gh_callV (rest := []) [.int (nI 32)] hK (c_Md_put l G h (c := 32) (by decide)) Y_Md_put V_Md_put km_Md_66 h.1 rfl rfl d_Md_putWords_139 rfl rfl (Nat.le_of_ble_eq_true rfl) ⟨(Nat.le_of_ble_eq_true rfl), (Nat.le_of_ble_eq_true rfl)⟩ ⟨(Nat.le_of_ble_eq_true rfl), (Nat.le_of_ble_eq_true rfl)⟩ (fun v g_1 hp => ?_)
      obtain ⟨rfl, h_1, mx⟩ := hp
      have mm := mm.tr mx
      show gh_W l G _ X g_1 0 0 [some (.ref (B 0)), some (.ref (B jw)), some (.int (nI i)), some (.int (nI b)), some (.int (nI ws.length)), v5] 142 []
      exact fin g_1 _ _ _ _ h_1 mm ho
  refine gh_iconst (v := (-1)) hK d_Md_putWords_0 (by decide) ?_
  refine gh_istore_n (lv' := [some (.ref (B 0)), some (.ref (B jw)), some (.int (-1)), none, none, none]) hK d_Md_putWords_1 (Nat.le_of_ble_eq_true rfl) rfl ?_
  refine gh_iconst (v := nI 0) hK d_Md_putWords_2 (by decide) ?_
  refine gh_istore_n (lv' := [some (.ref (B 0)), some (.ref (B jw)), some (.int (-1)), some (.int (nI 0)), none, none]) hK d_Md_putWords_3 (Nat.le_of_ble_eq_true rfl) rfl ?_
  exact outer ss [] none 0 _ _ g o h mm rfl rfl (fun i hi => by cases hi) (Nat.zero_le _) rfl
