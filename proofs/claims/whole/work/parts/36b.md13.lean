/-! the ways of a word, entry by entry -/
def wyI1 (us1 us2 : List RuR) (w : List Nat) (r : List Nat × Nat) (p s : Nat) : List (List Nat) := if mkO (rl2 us1 p) (rl2 us2 s) r = some w then [wyT r.1 p s] else []
def whS (us1 us2 : List RuR) (w : List Nat) (r : List Nat × Nat) (p : Nat) : Nat → Nat → List (List Nat)
  | 0, _ => []
  | k + 1, s => wyI1 us1 us2 w r p s ++ whS us1 us2 w r p k (s + 1)
def whP (us1 us2 : List RuR) (w : List Nat) (r : List Nat × Nat) : Nat → Nat → List (List Nat)
  | 0, _ => []
  | k + 1, p => whS us1 us2 w r p (us2.length + 1) 0 ++ whP us1 us2 w r k (p + 1)
def whE (us1 us2 : List RuR) (w : List Nat) : List (List Nat × Nat) → List (List Nat)
  | [] => []
  | r :: l => whP us1 us2 w r (us1.length + 1) 0 ++ whE us1 us2 w l
set_option maxRecDepth 20000 in
set_option maxHeartbeats 4000000 in
theorem c_Md_why (l : Launch) (G : GG) {ds es2 : List (List Nat × Nat)} {us1 us2 : List RuR} {tx ws : List Nat} {f : Nat} {g : GH} {B : Nat → Nat} {cd ty fr tt ap fi en wr mk wd : Nat} {F : Nat → Nat → Int32} {o : List Nat × Nat} (h : Md G g B (mS cd ty ds.length fr tt ap fi en wr mk wd) F o) (ht : TxA F tx) (hto : tt ≤ tx.length) (hat : ap ≤ tt) (hfa : fr ≤ ap) (hD : DcA F ds) (hR1 : RlA F 0 us1) (hR2 : RlA F 1 us2) (hR : DsR ds es2) (hw : sA (F 1) f ws) (hwl : f + ws.length ≤ 2048) : gMet l G y_Md_why b_Md_why 7 none (rmk 2 0 0 55) [.ref (B 0), .int (nI f), .int (nI ws.length)] g (fun v g' => v = none ∧ ∃ mk' F', Md G g' B (mS cd ty ds.length fr tt (nxE tx tt ap) (nxS tx tt ap) (nxE tx tt ap) (if (nxS tx tt ap) < (nxE tx tt ap) then (nxS tx tt ap) - fr + 1 else wr) mk' wd) F' (if (nxS tx tt ap) < (nxE tx tt ap) then o else prs o (jnI (whE us1 us2 ws es2))) ∧ FmZ F F' ∧ gh_M MDT g g') := by
  refine gMet.of [some (.ref (B 0)), some (.int (nI f)), some (.int (nI ws.length)), none, none, none, none] (by decide +kernel) rfl (Nat.le_of_ble_eq_true rfl) rfl (fun X hK hI hE => ?_)
  have mm : gh_M MDT g g := gh_M.rf
  have hdl := hD.1
  have hr1 := hR1.1
  have hr2 := hR2.1
  have ec0 := hR1.2.1
  have ec1 := hR2.2.1
  refine gh_aload_n hK d_Md_why_0 rfl ?_
  refine gh_callV (rest := []) [] hK (c_Md_mustEnd l G h ht hto hat hfa) Y_Md_mustEnd V_Md_mustEnd km_Md_184 h.1 rfl rfl d_Md_why_1 rfl rfl (Nat.le_of_ble_eq_true rfl) ⟨(Nat.le_of_ble_eq_true rfl), (Nat.le_of_ble_eq_true rfl)⟩ ⟨(Nat.le_of_ble_eq_true rfl), (Nat.le_of_ble_eq_true rfl)⟩ (fun v g_1 hp => ?_)
  obtain ⟨rfl, h_1, mx⟩ := hp
  have mm := mm.tr mx
  show gh_W l G _ X g_1 0 0 [some (.ref (B 0)), some (.int (nI f)), some (.int (nI ws.length)), none, none, none, none] 4 [.int (nI (bn (decide ((nxE tx tt ap) ≤ (nxS tx tt ap)))))]
  refine gh_if_neB hK d_Md_why_4 (tgt := 8) (by decide) (fun z => ?_) (fun z => ?_)
  rotate_left
  · have zz := of_decide_eq_false z
    have zy : (nxS tx tt ap) < (nxE tx tt ap) := by omega
    have h := h_1
    rw [if_pos zy] at h
    simp only [if_pos zy] at hE
    exact gh_vret hK hE d_Md_why_7 (Nat.le_of_ble_eq_true rfl) (Nat.le_of_ble_eq_true rfl) ⟨rfl, _, _, h, fun _ _ => rfl, mm⟩
  have zz := of_decide_eq_true z
  have zn : ¬ (nxS tx tt ap) < (nxE tx tt ap) := by omega
  simp only [if_neg zn] at hE
  have h := h_1
  rw [if_neg zn] at h
  have lpS : ∀ (r : List Nat × Nat) (b p : Nat) (R1 : List (List Nat)) (hb : ds[b]? = some r) (hp : p ≤ us1.length) (kz : ∀ (g1 : GH) (F1 : Nat → Nat → Int32) (mk1 : Nat) (o1 : List Nat × Nat) (h : Md G g1 B (mS cd ty ds.length fr tt (nxE tx tt ap) (nxS tx tt ap) (nxE tx tt ap) wr mk1 wd) F1 o1) (hF : FmZ F F1) (mm : gh_M MDT g g1) (sm : Bool) (v6 : Option Value), prs o1 (jnB sm R1) = prs o (jnI (whE us1 us2 ws es2)) → gh_W l G (rmk 2 0 0 55) X g1 0 0 [some (.ref (B 0)), some (.int (nI f)), some (.int (nI ws.length)), some (.int (nI (bn sm))), some (.int (nI b)), some (.int (nI p)), v6] 161 []) (m s : Nat) (g1 : GH) (F1 : Nat → Nat → Int32) (mk1 : Nat) (o1 : List Nat × Nat) (h : Md G g1 B (mS cd ty ds.length fr tt (nxE tx tt ap) (nxS tx tt ap) (nxE tx tt ap) wr mk1 wd) F1 o1) (hF : FmZ F F1) (mm : gh_M MDT g g1) (sm : Bool), s + m = us2.length + 1 → prs o1 (jnB sm (whS us1 us2 ws r p m s ++ R1)) = prs o (jnI (whE us1 us2 ws es2)) → gh_W l G (rmk 2 0 0 55) X g1 0 0 [some (.ref (B 0)), some (.int (nI f)), some (.int (nI ws.length)), some (.int (nI (bn sm))), some (.int (nI b)), some (.int (nI p)), some (.int (nI s))] 40 [] := by
    intro r b p R1 hb hp kz m
    have hbl : b < ds.length := (List.getElem?_eq_some_iff.mp hb).1
    have he := hb
    induction m with
    | zero =>
      intro s g1 F1 mk1 o1 h hF mm sm hs ho
      refine gh_iload hK d_Md_why_40 rfl ?_
      refine gh_aload_n hK d_Md_why_42 rfl ?_
      refine gh_get (v := .ref (B 6)) hK d_Md_why_43 in_Md rfl h.1 10 (by decide) kf_Md_25 rfl rfl ?_
      refine gh_iconst (v := nI 1) hK d_Md_why_46 (by decide) ?_
      refine gh_mald hK d_Md_why_47 h 6 (by decide) (i := 1) (x := (nI us2.length)) (by show 1 < 2; omega) (by rw [hF 6 (by decide)]; exact ec1) ?_
      refine gh_icmp_gtN hK d_Md_why_48 (tgt := 161) (by decide) (by omega) (by omega) (fun _ => kz g1 F1 mk1 o1 h hF mm sm _ ho) (fun q => by omega)
    | succ m ih =>
      intro s g1 F1 mk1 o1 h hF mm sm hs ho
      rw [whS, List.append_assoc] at ho
      have t155 : ∀ (g1 : GH) (F1 : Nat → Nat → Int32) (mk1 : Nat) (o1 : List Nat × Nat) (h : Md G g1 B (mS cd ty ds.length fr tt (nxE tx tt ap) (nxS tx tt ap) (nxE tx tt ap) wr mk1 wd) F1 o1) (hF : FmZ F F1) (mm : gh_M MDT g g1) (sm : Bool), prs o1 (jnB sm (whS us1 us2 ws r p m (s + 1) ++ R1)) = prs o (jnI (whE us1 us2 ws es2)) → gh_W l G (rmk 2 0 0 55) X g1 0 0 [some (.ref (B 0)), some (.int (nI f)), some (.int (nI ws.length)), some (.int (nI (bn sm))), some (.int (nI b)), some (.int (nI p)), some (.int (nI s))] 155 [] := by
        intro g1 F1 mk1 o1 h hF mm sm ho
        refine gh_incN (lv' := [some (.ref (B 0)), some (.int (nI f)), some (.int (nI ws.length)), some (.int (nI (bn sm))), some (.int (nI b)), some (.int (nI p)), some (.int (nI (s + 1)))]) hK d_Md_why_155 rfl rfl ?_
        refine gh_goto (tgt := 40) hK d_Md_why_158 (by decide) ?_
        exact ih (s + 1) g1 F1 mk1 o1 h hF mm sm (by omega) ho
      have t132 : ∀ (g1 : GH) (F1 : Nat → Nat → Int32) (mk1 : Nat) (o1 : List Nat × Nat) (h : Md G g1 B (mS cd ty ds.length fr tt (nxE tx tt ap) (nxS tx tt ap) (nxE tx tt ap) wr mk1 wd) F1 o1) (hF : FmZ F F1) (mm : gh_M MDT g g1), prs o1 ((if 0 < s then 43 :: 115 :: decL s else []) ++ (jnB true (whS us1 us2 ws r p m (s + 1) ++ R1))) = prs o (jnI (whE us1 us2 ws es2)) → gh_W l G (rmk 2 0 0 55) X g1 0 0 [some (.ref (B 0)), some (.int (nI f)), some (.int (nI ws.length)), some (.int (nI (bn true))), some (.int (nI b)), some (.int (nI p)), some (.int (nI s))] 132 [] := by
        intro g1 F1 mk1 o1 h hF mm ho
        refine gh_iload hK d_Md_why_132 rfl ?_
        refine gh_if_leN hK d_Md_why_134 (tgt := 155) (by decide) (by omega) (fun z => ?_) (fun z => ?_)
        · exact t155 g1 F1 mk1 o1 h hF mm true (by rw [if_neg (by omega), List.nil_append] at ho; exact ho)
        rw [if_pos z] at ho
        refine gh_aload_n hK d_Md_why_137 rfl ?_
        refine gh_bipush (v := nI 43) hK d_Md_why_138 (by decide) ?_
        refine gh_callV (rest := []) [.int (nI 43)] hK (c_Md_put l G h (c := 43) (by decide)) Y_Md_put V_Md_put km_Md_66 h.1 rfl rfl d_Md_why_140 rfl rfl (Nat.le_of_ble_eq_true rfl) ⟨(Nat.le_of_ble_eq_true rfl), (Nat.le_of_ble_eq_true rfl)⟩ ⟨(Nat.le_of_ble_eq_true rfl), (Nat.le_of_ble_eq_true rfl)⟩ (fun v g_1 hp => ?_)
        obtain ⟨rfl, h_1, mx⟩ := hp
        have mm := mm.tr mx
        show gh_W l G _ X g_1 0 0 [some (.ref (B 0)), some (.int (nI f)), some (.int (nI ws.length)), some (.int (nI (bn true))), some (.int (nI b)), some (.int (nI p)), some (.int (nI s))] 143 []
        refine gh_aload_n hK d_Md_why_143 rfl ?_
        refine gh_bipush (v := nI 115) hK d_Md_why_144 (by decide) ?_
        refine gh_callV (rest := []) [.int (nI 115)] hK (c_Md_put l G h_1 (c := 115) (by decide)) Y_Md_put V_Md_put km_Md_66 h_1.1 rfl rfl d_Md_why_146 rfl rfl (Nat.le_of_ble_eq_true rfl) ⟨(Nat.le_of_ble_eq_true rfl), (Nat.le_of_ble_eq_true rfl)⟩ ⟨(Nat.le_of_ble_eq_true rfl), (Nat.le_of_ble_eq_true rfl)⟩ (fun v g_2 hp => ?_)
        obtain ⟨rfl, h_2, mx⟩ := hp
        have mm := mm.tr mx
        show gh_W l G _ X g_2 0 0 [some (.ref (B 0)), some (.int (nI f)), some (.int (nI ws.length)), some (.int (nI (bn true))), some (.int (nI b)), some (.int (nI p)), some (.int (nI s))] 149 []
        refine gh_aload_n hK d_Md_why_149 rfl ?_
        refine gh_iload hK d_Md_why_150 rfl ?_
        refine gh_callV (rest := []) [.int (nI s)] hK (c_Md_putNumber l G h_2 (x := s) (by omega)) Y_Md_putNumber V_Md_putNumber km_Md_134 h_2.1 rfl rfl d_Md_why_152 rfl rfl (Nat.le_of_ble_eq_true rfl) ⟨(Nat.le_of_ble_eq_true rfl), (Nat.le_of_ble_eq_true rfl)⟩ ⟨(Nat.le_of_ble_eq_true rfl), (Nat.le_of_ble_eq_true rfl)⟩ (fun v g_3 hp => ?_)
        obtain ⟨rfl, h_3, mx⟩ := hp
        have mm := mm.tr mx
        show gh_W l G _ X g_3 0 0 [some (.ref (B 0)), some (.int (nI f)), some (.int (nI ws.length)), some (.int (nI (bn true))), some (.int (nI b)), some (.int (nI p)), some (.int (nI s))] 155 []
        exact t155 g_3 F1 mk1 _ h_3 hF mm true (by rw [List.cons_append, List.cons_append, prs_cons, prs_cons, prs_app] at ho; exact ho)
      have t126 : ∀ (g1 : GH) (F1 : Nat → Nat → Int32) (mk1 : Nat) (o1 : List Nat × Nat) (h : Md G g1 B (mS cd ty ds.length fr tt (nxE tx tt ap) (nxS tx tt ap) (nxE tx tt ap) wr mk1 wd) F1 o1) (hF : FmZ F F1) (mm : gh_M MDT g g1), prs o1 (r.1 ++ ((if 0 < s then 43 :: 115 :: decL s else []) ++ (jnB true (whS us1 us2 ws r p m (s + 1) ++ R1)))) = prs o (jnI (whE us1 us2 ws es2)) → gh_W l G (rmk 2 0 0 55) X g1 0 0 [some (.ref (B 0)), some (.int (nI f)), some (.int (nI ws.length)), some (.int (nI (bn true))), some (.int (nI b)), some (.int (nI p)), some (.int (nI s))] 126 [] := by
        intro g1 F1 mk1 o1 h hF mm ho
        refine gh_aload_n hK d_Md_why_126 rfl ?_
        refine gh_iload hK d_Md_why_127 rfl ?_
        refine gh_callV (rest := []) [.int (nI b)] hK (c_Md_putEntry l G h (hF.dc hD) hbl (wsD_get hb)) Y_Md_putEntry V_Md_putEntry km_Md_218 h.1 rfl rfl d_Md_why_129 rfl rfl (Nat.le_of_ble_eq_true rfl) ⟨(Nat.le_of_ble_eq_true rfl), (Nat.le_of_ble_eq_true rfl)⟩ ⟨(Nat.le_of_ble_eq_true rfl), (Nat.le_of_ble_eq_true rfl)⟩ (fun v g_1 hp => ?_)
        obtain ⟨rfl, h_1, mx⟩ := hp
        have mm := mm.tr mx
        show gh_W l G _ X g_1 0 0 [some (.ref (B 0)), some (.int (nI f)), some (.int (nI ws.length)), some (.int (nI (bn true))), some (.int (nI b)), some (.int (nI p)), some (.int (nI s))] 132 []
        exact t132 g_1 F1 mk1 _ h_1 hF mm (by rw [prs_app] at ho; exact ho)
      have t101 : ∀ (g1 : GH) (F1 : Nat → Nat → Int32) (mk1 : Nat) (o1 : List Nat × Nat) (h : Md G g1 B (mS cd ty ds.length fr tt (nxE tx tt ap) (nxS tx tt ap) (nxE tx tt ap) wr mk1 wd) F1 o1) (hF : FmZ F F1) (mm : gh_M MDT g g1) (v3 : Option Value), prs o1 (wyT r.1 p s ++ (jnB true (whS us1 us2 ws r p m (s + 1) ++ R1))) = prs o (jnI (whE us1 us2 ws es2)) → gh_W l G (rmk 2 0 0 55) X g1 0 0 [some (.ref (B 0)), some (.int (nI f)), some (.int (nI ws.length)), v3, some (.int (nI b)), some (.int (nI p)), some (.int (nI s))] 101 [] := by
        intro g1 F1 mk1 o1 h hF mm v3 ho
        rw [wyT, List.append_assoc, List.append_assoc] at ho
        refine gh_iconst (v := nI 1) hK d_Md_why_101 (by decide) ?_
        refine gh_istore_n (lv' := [some (.ref (B 0)), some (.int (nI f)), some (.int (nI ws.length)), some (.int (nI 1)), some (.int (nI b)), some (.int (nI p)), some (.int (nI s))]) hK d_Md_why_102 (Nat.le_of_ble_eq_true rfl) rfl ?_
        refine gh_iload hK d_Md_why_103 rfl ?_
        refine gh_if_leN hK d_Md_why_105 (tgt := 126) (by decide) (by omega) (fun z => ?_) (fun z => ?_)
        · exact t126 g1 F1 mk1 o1 h hF mm (by rw [if_neg (show ¬ 0 < p by omega), List.nil_append] at ho; exact ho)
        rw [if_pos (show 0 < p by omega)] at ho
        refine gh_aload_n hK d_Md_why_108 rfl ?_
        refine gh_bipush (v := nI 112) hK d_Md_why_109 (by decide) ?_
        refine gh_callV (rest := []) [.int (nI 112)] hK (c_Md_put l G h (c := 112) (by decide)) Y_Md_put V_Md_put km_Md_66 h.1 rfl rfl d_Md_why_111 rfl rfl (Nat.le_of_ble_eq_true rfl) ⟨(Nat.le_of_ble_eq_true rfl), (Nat.le_of_ble_eq_true rfl)⟩ ⟨(Nat.le_of_ble_eq_true rfl), (Nat.le_of_ble_eq_true rfl)⟩ (fun v g_1 hp => ?_)
        obtain ⟨rfl, h_1, mx⟩ := hp
        have mm := mm.tr mx
        show gh_W l G _ X g_1 0 0 [some (.ref (B 0)), some (.int (nI f)), some (.int (nI ws.length)), some (.int (nI 1)), some (.int (nI b)), some (.int (nI p)), some (.int (nI s))] 114 []
        refine gh_aload_n hK d_Md_why_114 rfl ?_
        refine gh_iload hK d_Md_why_115 rfl ?_
        refine gh_callV (rest := []) [.int (nI p)] hK (c_Md_putNumber l G h_1 (x := p) (by omega)) Y_Md_putNumber V_Md_putNumber km_Md_134 h_1.1 rfl rfl d_Md_why_117 rfl rfl (Nat.le_of_ble_eq_true rfl) ⟨(Nat.le_of_ble_eq_true rfl), (Nat.le_of_ble_eq_true rfl)⟩ ⟨(Nat.le_of_ble_eq_true rfl), (Nat.le_of_ble_eq_true rfl)⟩ (fun v g_2 hp => ?_)
        obtain ⟨rfl, h_2, mx⟩ := hp
        have mm := mm.tr mx
        show gh_W l G _ X g_2 0 0 [some (.ref (B 0)), some (.int (nI f)), some (.int (nI ws.length)), some (.int (nI 1)), some (.int (nI b)), some (.int (nI p)), some (.int (nI s))] 120 []
        refine gh_aload_n hK d_Md_why_120 rfl ?_
        refine gh_bipush (v := nI 43) hK d_Md_why_121 (by decide) ?_
        refine gh_callV (rest := []) [.int (nI 43)] hK (c_Md_put l G h_2 (c := 43) (by decide)) Y_Md_put V_Md_put km_Md_66 h_2.1 rfl rfl d_Md_why_123 rfl rfl (Nat.le_of_ble_eq_true rfl) ⟨(Nat.le_of_ble_eq_true rfl), (Nat.le_of_ble_eq_true rfl)⟩ ⟨(Nat.le_of_ble_eq_true rfl), (Nat.le_of_ble_eq_true rfl)⟩ (fun v g_3 hp => ?_)
        obtain ⟨rfl, h_3, mx⟩ := hp
        have mm := mm.tr mx
        show gh_W l G _ X g_3 0 0 [some (.ref (B 0)), some (.int (nI f)), some (.int (nI ws.length)), some (.int (nI 1)), some (.int (nI b)), some (.int (nI p)), some (.int (nI s))] 126 []
        exact t126 g_3 F1 mk1 _ h_3 hF mm (by rw [List.cons_append, prs_cons, List.append_assoc, prs_app] at ho; exact ho)
      refine gh_iload hK d_Md_why_40 rfl ?_
      refine gh_aload_n hK d_Md_why_42 rfl ?_
      refine gh_get (v := .ref (B 6)) hK d_Md_why_43 in_Md rfl h.1 10 (by decide) kf_Md_25 rfl rfl ?_
      refine gh_iconst (v := nI 1) hK d_Md_why_46 (by decide) ?_
      refine gh_mald hK d_Md_why_47 h 6 (by decide) (i := 1) (x := (nI us2.length)) (by show 1 < 2; omega) (by rw [hF 6 (by decide)]; exact ec1) ?_
      refine gh_icmp_gtN hK d_Md_why_48 (tgt := 161) (by decide) (by omega) (by omega) (fun q => by omega) (fun _ => ?_)
      refine gh_aload_n hK d_Md_why_51 rfl ?_
      refine gh_iload hK d_Md_why_52 rfl ?_
      refine gh_iload hK d_Md_why_54 rfl ?_
      refine gh_callS (rest := [.int (nI b), .ref (B 0)]) [.int (nI p)] hK (c_Md_prefix l G (g := g1) (p := p) (by omega)) Y_Md_prefix V_Md_prefix km_Md_120 rfl d_Md_why_56 rfl rfl (Nat.le_of_ble_eq_true rfl) ⟨(Nat.le_of_ble_eq_true rfl), (Nat.le_of_ble_eq_true rfl)⟩ ⟨(Nat.le_of_ble_eq_true rfl), (Nat.le_of_ble_eq_true rfl)⟩ (fun v gp_1 hp => ?_)
      obtain ⟨rfl, hgp⟩ := hp
      rw [hgp]
      show gh_W l G _ X g1 0 0 [some (.ref (B 0)), some (.int (nI f)), some (.int (nI ws.length)), some (.int (nI (bn sm))), some (.int (nI b)), some (.int (nI p)), some (.int (nI s))] 59 [.int (oI (pO 0 p)), .int (nI b), .ref (B 0)]
      refine gh_iload hK d_Md_why_59 rfl ?_
      refine gh_callS (rest := [.int (oI (pO 0 p)), .int (nI b), .ref (B 0)]) [.int (nI s)] hK (c_Md_suffix l G (g := g1) (p := s) (by omega)) Y_Md_suffix V_Md_suffix km_Md_124 rfl d_Md_why_61 rfl rfl (Nat.le_of_ble_eq_true rfl) ⟨(Nat.le_of_ble_eq_true rfl), (Nat.le_of_ble_eq_true rfl)⟩ ⟨(Nat.le_of_ble_eq_true rfl), (Nat.le_of_ble_eq_true rfl)⟩ (fun v gp_2 hp => ?_)
      obtain ⟨rfl, hgp⟩ := hp
      rw [hgp]
      show gh_W l G _ X g1 0 0 [some (.ref (B 0)), some (.int (nI f)), some (.int (nI ws.length)), some (.int (nI (bn sm))), some (.int (nI b)), some (.int (nI p)), some (.int (nI s))] 64 [.int (oI (pO 1 s)), .int (oI (pO 0 p)), .int (nI b), .ref (B 0)]
      refine gh_callV (rest := []) [.int (nI b), .int (oI (pO 0 p)), .int (oI (pO 1 s))] hK (c_Md_make l G h (hF.dc hD) he (hF.ro (hR1.ro0 (p := p) (by omega))) (hF.ro (hR2.ro1 (p := s) (by omega)))) Y_Md_make V_Md_make km_Md_127 h.1 rfl rfl d_Md_why_64 rfl rfl (Nat.le_of_ble_eq_true rfl) ⟨(Nat.le_of_ble_eq_true rfl), (Nat.le_of_ble_eq_true rfl)⟩ ⟨(Nat.le_of_ble_eq_true rfl), (Nat.le_of_ble_eq_true rfl)⟩ (fun v g_3 hp => ?_)
      obtain ⟨mk3, F3, rfl, h_3, hz3, hw3, mx⟩ := hp
      have mm := mm.tr mx
      have hF := hF.tr hz3
      show gh_W l G _ X g_3 0 0 [some (.ref (B 0)), some (.int (nI f)), some (.int (nI ws.length)), some (.int (nI (bn sm))), some (.int (nI b)), some (.int (nI p)), some (.int (nI s))] 67 [.int (nI (bn (mkO (rl2 us1 p) (rl2 us2 s) r).isSome))]
      refine gh_if_eqB hK d_Md_why_67 (tgt := 155) (by decide) (fun z => ?_) (fun z => ?_)
      · exact t155 g_3 F3 mk3 o1 h_3 hF mm sm (by rw [wyI1, if_neg (fun q => by rw [q] at z; cases z), List.nil_append] at ho; exact ho)
      obtain ⟨wd, hwd⟩ := Option.isSome_iff_exists.mp z
      obtain ⟨ew, hsa, hl28⟩ := hw3 wd hwd
      subst ew
      show gh_W l G _ X g_3 0 0 [some (.ref (B 0)), some (.int (nI f)), some (.int (nI ws.length)), some (.int (nI (bn sm))), some (.int (nI b)), some (.int (nI p)), some (.int (nI s))] 70 []
      refine gh_aload_n hK d_Md_why_70 rfl ?_
      refine gh_get (v := .ref (B 10)) hK d_Md_why_71 in_Md rfl h_3.1 21 (by decide) kf_Md_37 rfl rfl ?_
      refine gh_iconst (v := nI 0) hK d_Md_why_74 (by decide) ?_
      refine gh_aload_n hK d_Md_why_75 rfl ?_
      refine gh_get (v := .int (nI wd.length)) hK d_Md_why_76 in_Md rfl h_3.1 20 (by decide) kf_Md_117 rfl rfl ?_
      refine gh_aload_n hK d_Md_why_79 rfl ?_
      refine gh_get (v := .ref (B 1)) hK d_Md_why_80 in_Md rfl h_3.1 2 (by decide) kf_Md_7 rfl rfl ?_
      refine gh_iload_n hK d_Md_why_83 rfl ?_
      refine gh_iload_n hK d_Md_why_84 rfl ?_
      refine gh_callS (rest := []) [.ref (B 10), .int (nI 0), .int (nI wd.length), .ref (B 1), .int (nI f), .int (nI ws.length)] hK (c_Md_compare l G h_3 (ja := 10) (jb := 1) (by decide) (by decide) hsa (by rw [hF 1 (by decide)]; exact hw) (by show 0 + _ ≤ 64; omega) hwl) Y_Md_compare V_Md_compare km_Md_109 rfl d_Md_why_85 rfl rfl (Nat.le_of_ble_eq_true rfl) ⟨(Nat.le_of_ble_eq_true rfl), (Nat.le_of_ble_eq_true rfl)⟩ ⟨(Nat.le_of_ble_eq_true rfl), (Nat.le_of_ble_eq_true rfl)⟩ (fun v gp_4 hp => ?_)
      obtain ⟨r4, rfl, hr4, hgp⟩ := hp
      rw [hgp]
      show gh_W l G _ X g_3 0 0 [some (.ref (B 0)), some (.int (nI f)), some (.int (nI ws.length)), some (.int (nI (bn sm))), some (.int (nI b)), some (.int (nI p)), some (.int (nI s))] 88 [.int r4]
      refine gh_if_neC hr4 hK d_Md_why_88 (tgt := 155) (by decide) (fun z2 => ?_) (fun z2 => ?_)
      · exact t155 g_3 F3 _ o1 h_3 hF mm sm (by rw [wyI1, if_neg (fun q => by rw [hwd] at q; cases q; exact z2 (cmpL_self _)), List.nil_append] at ho; exact ho)
      rw [wyI1, if_pos (by rw [hwd, (cmpL_zero _ _).mp z2]), List.singleton_append, jnB_cons, prs_app] at ho
      refine gh_iload_n hK d_Md_why_91 rfl ?_
      refine gh_if_eqB hK d_Md_why_92 (tgt := 101) (by decide) (fun z3 => ?_) (fun z3 => ?_)
      · exact t101 g_3 F3 _ o1 h_3 hF mm _ (by rw [z3] at ho; exact ho)
      rw [z3, if_pos rfl] at ho
      refine gh_aload_n hK d_Md_why_95 rfl ?_
      refine gh_bipush (v := nI 32) hK d_Md_why_96 (by decide) ?_
      refine gh_callV (rest := []) [.int (nI 32)] hK (c_Md_put l G h_3 (c := 32) (by decide)) Y_Md_put V_Md_put km_Md_66 h_3.1 rfl rfl d_Md_why_98 rfl rfl (Nat.le_of_ble_eq_true rfl) ⟨(Nat.le_of_ble_eq_true rfl), (Nat.le_of_ble_eq_true rfl)⟩ ⟨(Nat.le_of_ble_eq_true rfl), (Nat.le_of_ble_eq_true rfl)⟩ (fun v g_5 hp => ?_)
      obtain ⟨rfl, h_5, mx⟩ := hp
      have mm := mm.tr mx
      show gh_W l G _ X g_5 0 0 [some (.ref (B 0)), some (.int (nI f)), some (.int (nI ws.length)), some (.int (nI (bn sm))), some (.int (nI b)), some (.int (nI p)), some (.int (nI s))] 101 []
      exact t101 g_5 F3 _ _ h_5 hF mm _ ho
  have lpP : ∀ (r : List Nat × Nat) (b : Nat) (R1 : List (List Nat)) (hb : ds[b]? = some r) (kz : ∀ (g1 : GH) (F1 : Nat → Nat → Int32) (mk1 : Nat) (o1 : List Nat × Nat) (h : Md G g1 B (mS cd ty ds.length fr tt (nxE tx tt ap) (nxS tx tt ap) (nxE tx tt ap) wr mk1 wd) F1 o1) (hF : FmZ F F1) (mm : gh_M MDT g g1) (sm : Bool) (v5 v6 : Option Value), prs o1 (jnB sm R1) = prs o (jnI (whE us1 us2 ws es2)) → gh_W l G (rmk 2 0 0 55) X g1 0 0 [some (.ref (B 0)), some (.int (nI f)), some (.int (nI ws.length)), some (.int (nI (bn sm))), some (.int (nI b)), v5, v6] 167 []) (m p : Nat) (g1 : GH) (F1 : Nat → Nat → Int32) (mk1 : Nat) (o1 : List Nat × Nat) (h : Md G g1 B (mS cd ty ds.length fr tt (nxE tx tt ap) (nxS tx tt ap) (nxE tx tt ap) wr mk1 wd) F1 o1) (hF : FmZ F F1) (mm : gh_M MDT g g1) (sm : Bool) (v6 : Option Value), p + m = us1.length + 1 → prs o1 (jnB sm (whP us1 us2 ws r m p ++ R1)) = prs o (jnI (whE us1 us2 ws es2)) → gh_W l G (rmk 2 0 0 55) X g1 0 0 [some (.ref (B 0)), some (.int (nI f)), some (.int (nI ws.length)), some (.int (nI (bn sm))), some (.int (nI b)), some (.int (nI p)), v6] 26 [] := by
    intro r b R1 hb kz m
    have hbl : b < ds.length := (List.getElem?_eq_some_iff.mp hb).1
    induction m with
    | zero =>
      intro p g1 F1 mk1 o1 h hF mm sm v6 hs ho
      refine gh_iload hK d_Md_why_26 rfl ?_
      refine gh_aload_n hK d_Md_why_28 rfl ?_
      refine gh_get (v := .ref (B 6)) hK d_Md_why_29 in_Md rfl h.1 10 (by decide) kf_Md_25 rfl rfl ?_
      refine gh_iconst (v := nI 0) hK d_Md_why_32 (by decide) ?_
      refine gh_mald hK d_Md_why_33 h 6 (by decide) (i := 0) (x := (nI us1.length)) (by show 0 < 2; omega) (by rw [hF 6 (by decide)]; exact ec0) ?_
      refine gh_icmp_gtN hK d_Md_why_34 (tgt := 167) (by decide) (by omega) (by omega) (fun _ => kz g1 F1 mk1 o1 h hF mm sm _ _ ho) (fun q => by omega)
    | succ m ih =>
      intro p g1 F1 mk1 o1 h hF mm sm v6 hs ho
      rw [whP, List.append_assoc] at ho
      refine gh_iload hK d_Md_why_26 rfl ?_
      refine gh_aload_n hK d_Md_why_28 rfl ?_
      refine gh_get (v := .ref (B 6)) hK d_Md_why_29 in_Md rfl h.1 10 (by decide) kf_Md_25 rfl rfl ?_
      refine gh_iconst (v := nI 0) hK d_Md_why_32 (by decide) ?_
      refine gh_mald hK d_Md_why_33 h 6 (by decide) (i := 0) (x := (nI us1.length)) (by show 0 < 2; omega) (by rw [hF 6 (by decide)]; exact ec0) ?_
      refine gh_icmp_gtN hK d_Md_why_34 (tgt := 167) (by decide) (by omega) (by omega) (fun q => by omega) (fun _ => ?_)
      refine gh_iconst (v := nI 0) hK d_Md_why_37 (by decide) ?_
      refine gh_istore (lv' := [some (.ref (B 0)), some (.int (nI f)), some (.int (nI ws.length)), some (.int (nI (bn sm))), some (.int (nI b)), some (.int (nI p)), some (.int (nI 0))]) hK d_Md_why_38 (Nat.le_of_ble_eq_true rfl) rfl ?_
      refine lpS r b p _ hb (by omega) (fun g1 F1 mk1 o1 h hF mm sm v6 ho => ?_) (us2.length + 1) 0 g1 F1 mk1 o1 h hF mm sm (by omega) ho
      refine gh_incN (lv' := [some (.ref (B 0)), some (.int (nI f)), some (.int (nI ws.length)), some (.int (nI (bn sm))), some (.int (nI b)), some (.int (nI (p + 1))), v6]) hK d_Md_why_161 rfl rfl ?_
      refine gh_goto (tgt := 26) hK d_Md_why_164 (by decide) ?_
      exact ih (p + 1) g1 F1 mk1 o1 h hF mm sm _ (by omega) ho
  have lpE : ∀ (rest done : List (List Nat × Nat)) (g1 : GH) (F1 : Nat → Nat → Int32) (mk1 : Nat) (o1 : List Nat × Nat) (h : Md G g1 B (mS cd ty ds.length fr tt (nxE tx tt ap) (nxS tx tt ap) (nxE tx tt ap) wr mk1 wd) F1 o1) (hF : FmZ F F1) (mm : gh_M MDT g g1) (sm : Bool) (cur : Option Nat) (v5 v6 : Option Value), es2 = done ++ rest → CurO ds rest cur → prs o1 (jnB sm (whE us1 us2 ws rest)) = prs o (jnI (whE us1 us2 ws es2)) → gh_W l G (rmk 2 0 0 55) X g1 0 0 [some (.ref (B 0)), some (.int (nI f)), some (.int (nI ws.length)), some (.int (nI (bn sm))), some (.int (oI cur)), v5, v6] 17 [] := by
    intro rest
    induction rest with
    | nil =>
      intro done g1 F1 mk1 o1 h hF mm sm cur v5 v6 hd hc ho
      have hc : cur = none := hc
      subst hc
      rw [whE, jnB_nil] at ho
      refine gh_iload hK d_Md_why_17 rfl ?_
      refine gh_iconst (v := (-1)) hK d_Md_why_19 (by decide) ?_
      refine gh_icmp_eqO (b := none) hK d_Md_why_20 (tgt := 178) (by decide) (fun i hi => by cases hi) (fun _ => ?_) (fun i q => by cases q)
      refine gh_iload_n hK d_Md_why_178 rfl ?_
      refine gh_if_neB hK d_Md_why_179 (tgt := 188) (by decide) (fun z => ?_) (fun z => ?_)
      · rw [z, if_pos rfl, prs_nil] at ho
        exact gh_vret hK hE d_Md_why_188 (Nat.le_of_ble_eq_true rfl) (Nat.le_of_ble_eq_true rfl) ⟨rfl, _, _, by rw [← ho]; exact h, hF, mm⟩
      rw [z, if_neg (by decide), prs_one] at ho
      refine gh_aload_n hK d_Md_why_182 rfl ?_
      refine gh_bipush (v := nI 45) hK d_Md_why_183 (by decide) ?_
      refine gh_callV (rest := []) [.int (nI 45)] hK (c_Md_put l G h (c := 45) (by decide)) Y_Md_put V_Md_put km_Md_66 h.1 rfl rfl d_Md_why_185 rfl rfl (Nat.le_of_ble_eq_true rfl) ⟨(Nat.le_of_ble_eq_true rfl), (Nat.le_of_ble_eq_true rfl)⟩ ⟨(Nat.le_of_ble_eq_true rfl), (Nat.le_of_ble_eq_true rfl)⟩ (fun v g_1 hp => ?_)
      obtain ⟨rfl, h_1, mx⟩ := hp
      have mm := mm.tr mx
      show gh_W l G _ X g_1 0 0 [some (.ref (B 0)), some (.int (nI f)), some (.int (nI ws.length)), some (.int (nI (bn sm))), some (.int (oI none)), v5, v6] 188 []
      exact gh_vret hK hE d_Md_why_188 (Nat.le_of_ble_eq_true rfl) (Nat.le_of_ble_eq_true rfl) ⟨rfl, _, _, by rw [← ho]; exact h_1, hF, mm⟩
    | cons r rest ih =>
      intro done g1 F1 mk1 o1 h hF mm sm cur v5 v6 hd hc ho
      obtain ⟨b, hcb, hb⟩ := hc
      subst hcb
      have hbl : b < ds.length := (List.getElem?_eq_some_iff.mp hb).1
      have hd2 : es2 = (done ++ [r]) ++ rest := by rw [List.append_assoc]; exact hd
      have hnx := cur_of (hd2 ▸ hR)
      have e9 : (wsD (done ++ [r])).getLast? = some ((wsD ds).getD b []) := by rw [wsD_get hb, show wsD (done ++ [r]) = wsD done ++ [r.1] from List.map_append, List.getLast?_append]; rfl
      rw [e9] at hnx
      rw [whE] at ho
      show gh_W l G _ X g1 0 0 [some (.ref (B 0)), some (.int (nI f)), some (.int (nI ws.length)), some (.int (nI (bn sm))), some (.int (nI b)), v5, v6] 17 []
      refine gh_iload hK d_Md_why_17 rfl ?_
      refine gh_iconst (v := (-1)) hK d_Md_why_19 (by decide) ?_
      refine gh_icmp_eqO (b := some b) hK d_Md_why_20 (tgt := 178) (by decide) (fun i hi => by cases hi; omega) (fun q => by cases q) (fun i _ => ?_)
      refine gh_iconst (v := nI 0) hK d_Md_why_23 (by decide) ?_
      refine gh_istore (lv' := [some (.ref (B 0)), some (.int (nI f)), some (.int (nI ws.length)), some (.int (nI (bn sm))), some (.int (nI b)), some (.int (nI 0)), v6]) hK d_Md_why_24 (Nat.le_of_ble_eq_true rfl) rfl ?_
      refine lpP r b _ hb (fun g1 F1 mk1 o1 h hF mm sm v5 v6 ho => ?_) (us1.length + 1) 0 g1 F1 mk1 o1 h hF mm sm _ (by omega) ho
      refine gh_aload_n hK d_Md_why_167 rfl ?_
      refine gh_iload hK d_Md_why_168 rfl ?_
      refine gh_callV (rest := []) [.int (nI b)] hK (c_Md_behind l G h (la := some b) (hF.dc hD) (fun i hi => by cases hi; exact hbl)) Y_Md_behind V_Md_behind km_Md_215 h.1 rfl rfl d_Md_why_170 rfl rfl (Nat.le_of_ble_eq_true rfl) ⟨(Nat.le_of_ble_eq_true rfl), (Nat.le_of_ble_eq_true rfl)⟩ ⟨(Nat.le_of_ble_eq_true rfl), (Nat.le_of_ble_eq_true rfl)⟩ (fun v gp_1 hp => ?_)
      obtain ⟨rfl, hgp⟩ := hp
      rw [hgp]
      show gh_W l G _ X g1 0 0 [some (.ref (B 0)), some (.int (nI f)), some (.int (nI ws.length)), some (.int (nI (bn sm))), some (.int (nI b)), v5, v6] 173 [.int (oI (selN (wsD ds) ((some b).map fun i => (wsD ds).getD i []) ds.length))]
      refine gh_istore (lv' := [some (.ref (B 0)), some (.int (nI f)), some (.int (nI ws.length)), some (.int (nI (bn sm))), some (.int (oI (selN (wsD ds) ((some b).map fun i => (wsD ds).getD i []) ds.length))), v5, v6]) hK d_Md_why_173 (Nat.le_of_ble_eq_true rfl) rfl ?_
      refine gh_goto (tgt := 17) hK d_Md_why_175 (by decide) ?_
      exact ih (done ++ [r]) g1 F1 mk1 o1 h hF mm sm _ _ _ hd2 hnx ho
  refine gh_iconst (v := nI 0) hK d_Md_why_8 (by decide) ?_
  refine gh_istore_n (lv' := [some (.ref (B 0)), some (.int (nI f)), some (.int (nI ws.length)), some (.int (nI 0)), none, none, none]) hK d_Md_why_9 (Nat.le_of_ble_eq_true rfl) rfl ?_
  refine gh_aload_n hK d_Md_why_10 rfl ?_
  refine gh_iconst (v := (-1)) hK d_Md_why_11 (by decide) ?_
  refine gh_callV (rest := []) [.int (-1)] hK (c_Md_behind l G h (la := none) hD (fun i hi => by cases hi)) Y_Md_behind V_Md_behind km_Md_215 h.1 rfl rfl d_Md_why_12 rfl rfl (Nat.le_of_ble_eq_true rfl) ⟨(Nat.le_of_ble_eq_true rfl), (Nat.le_of_ble_eq_true rfl)⟩ ⟨(Nat.le_of_ble_eq_true rfl), (Nat.le_of_ble_eq_true rfl)⟩ (fun v gp_1 hp => ?_)
  obtain ⟨rfl, hgp⟩ := hp
  rw [hgp]
  show gh_W l G _ X g_1 0 0 [some (.ref (B 0)), some (.int (nI f)), some (.int (nI ws.length)), some (.int (nI 0)), none, none, none] 15 [.int (oI (selN (wsD ds) ((none : Option Nat).map fun i => (wsD ds).getD i []) ds.length))]
  refine gh_istore (lv' := [some (.ref (B 0)), some (.int (nI f)), some (.int (nI ws.length)), some (.int (nI 0)), some (.int (oI (selN (wsD ds) ((none : Option Nat).map fun i => (wsD ds).getD i []) ds.length))), none, none]) hK d_Md_why_15 (Nat.le_of_ble_eq_true rfl) rfl ?_
  exact lpE es2 [] g_1 F mk o h (fun _ _ => rfl) mm false _ _ _ rfl (cur_of (done := []) hR) rfl
