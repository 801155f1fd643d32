/-! THE ENTRIES IN ORDER: es2 sorted, ds as they lie in the reference -/
def DsR (ds es2 : List (List Nat × Nat)) : Prop := srtL (wsD es2) ∧ ds.Perm es2
theorem wsD_mem {ds : List (List Nat × Nat)} {x : List Nat × Nat} (h : x ∈ ds) : x.1 ∈ wsD ds := List.mem_map.mpr ⟨x, h, rfl⟩
theorem srt_uniq : ∀ {l : List (List Nat × Nat)}, srtL (wsD l) → ∀ x y, x ∈ l → y ∈ l → x.1 = y.1 → x = y
  | [], _, _, _, h, _, _ => by cases h
  | a :: l, hs, x, y, hx, hy, e => by
    rcases List.mem_cons.mp hx with h1 | h1
    · rcases List.mem_cons.mp hy with h2 | h2
      · rw [h1, h2]
      · have : cmpL a.1 y.1 < 0 := hs.1 y.1 (wsD_mem h2)
        rw [← h1, e, cmpL_self] at this
        omega
    · rcases List.mem_cons.mp hy with h2 | h2
      · have : cmpL a.1 x.1 < 0 := hs.1 x.1 (wsD_mem h1)
        rw [← h2, ← e, cmpL_self] at this
        omega
      · exact srt_uniq hs.2 x y h1 h2 e
def CurO (ds : List (List Nat × Nat)) (rest : List (List Nat × Nat)) (cur : Option Nat) : Prop := match rest with
  | [] => cur = none
  | r :: _ => ∃ b, cur = some b ∧ ds[b]? = some r
theorem cur_of {ds done rest : List (List Nat × Nat)} (h : DsR ds (done ++ rest)) : CurO ds rest (selN (wsD ds) (wsD done).getLast? ds.length) := by
  have hm : ∀ w, w ∈ wsD (done ++ rest) ↔ w ∈ wsD ds := fun w => by
    unfold wsD
    rw [List.mem_map, List.mem_map]
    exact ⟨fun ⟨x, h1, h2⟩ => ⟨x, h.2.mem_iff.mpr h1, h2⟩, fun ⟨x, h1, h2⟩ => ⟨x, h.2.mem_iff.mp h1, h2⟩⟩
  have hs := h.1
  have hl : (wsD ds).length = ds.length := List.length_map ..
  cases rest with
  | nil =>
    rw [List.append_nil] at hm hs
    have := sel_nil hs hm
    rw [hl] at this
    exact this
  | cons r rest =>
    rw [show wsD (done ++ r :: rest) = wsD done ++ r.1 :: wsD rest from List.map_append] at hs hm
    obtain ⟨b, h1, h2, h3⟩ := sel_cons hs hm
    rw [hl] at h1 h2
    refine ⟨b, h1, ?_⟩
    rw [List.getElem?_eq_getElem h2]
    rw [wsD_get (List.getElem?_eq_getElem h2)] at h3
    congr 1
    exact srt_uniq h.1 _ _ (h.2.mem_iff.mp (List.getElem_mem h2)) (List.mem_append.mpr (Or.inr List.mem_cons_self)) h3
theorem CurO.lt {ds rest : List (List Nat × Nat)} {cur : Option Nat} (h : CurO ds rest cur) : ∀ e, cur = some e → e < ds.length := fun e he => by
  cases rest with
  | nil => rw [show cur = none from h] at he; cases he
  | cons r rest =>
    obtain ⟨b, h1, h2⟩ := h
    rw [h1] at he
    cases he
    exact (List.getElem?_eq_some_iff.mp h2).1
/-- what is printed when items follow, some having been printed or not -/
def jnB (b : Bool) (ws : List (List Nat)) : List Nat := if b = true then jnT ws else jnI ws
theorem jnB_nil (b : Bool) : jnB b [] = if b = true then [] else [45] := by cases b <;> rfl
theorem jnB_cons (b : Bool) (w : List Nat) (ws : List (List Nat)) : jnB b (w :: ws) = (if b = true then [32] else []) ++ (w ++ jnB true ws) := by cases b <;> rfl
set_option maxRecDepth 20000 in
set_option maxHeartbeats 4000000 in
theorem c_Md_look (l : Launch) (G : GG) {ds es2 : List (List Nat × Nat)} {tx ws : List Nat} {f : Nat} {g : GH} {B : Nat → Nat} {cd ty fr tt ap fi en wr mk wd : Nat} {F : Nat → Nat → Int32} {o : List Nat × Nat} (h : Md G g B (mS cd ty ds.length fr tt ap fi en wr mk wd) F o) (ht : TxA F tx) (hto : tt ≤ tx.length) (hat : ap ≤ tt) (hfa : fr ≤ ap) (hD : DcA F ds) (hR : DsR ds es2) (hw : sA (F 1) f ws) (hwl : f + ws.length ≤ 2048) : gMet l G y_Md_look b_Md_look 5 none (rmk 2 0 0 50) [.ref (B 0), .int (nI f), .int (nI ws.length)] g (fun v g' => v = none ∧ Md G g' B (mS cd ty ds.length fr tt (nxE tx tt ap) (nxS tx tt ap) (nxE tx tt ap) (if (nxS tx tt ap) < (nxE tx tt ap) then (nxS tx tt ap) - fr + 1 else wr) mk wd) F (if (nxS tx tt ap) < (nxE tx tt ap) then o else prs o (jnI ((wsD es2).filter fun v => bgO v ws))) ∧ gh_M MDT g g') := by
  refine gMet.of [some (.ref (B 0)), some (.int (nI f)), some (.int (nI ws.length)), none, none] (by decide +kernel) rfl (Nat.le_of_ble_eq_true rfl) rfl (fun X hK hI hE => ?_)
  have mm : gh_M MDT g g := gh_M.rf
  have hdl := hD.1
  refine gh_aload_n hK d_Md_look_0 rfl ?_
  refine gh_callV (rest := []) [] hK (c_Md_mustEnd l G h ht hto hat hfa) Y_Md_mustEnd V_Md_mustEnd km_Md_184 h.1 rfl rfl d_Md_look_1 rfl rfl (Nat.le_of_ble_eq_true rfl) ⟨(Nat.le_of_ble_eq_true rfl), (Nat.le_of_ble_eq_true rfl)⟩ ⟨(Nat.le_of_ble_eq_true rfl), (Nat.le_of_ble_eq_true rfl)⟩ (fun v g_1 hp => ?_)
  obtain ⟨rfl, h_1, mx⟩ := hp
  have mm := mm.tr mx
  show gh_W l G _ X g_1 0 0 [some (.ref (B 0)), some (.int (nI f)), some (.int (nI ws.length)), none, none] 4 [.int (nI (bn (decide ((nxE tx tt ap) ≤ (nxS tx tt ap)))))]
  refine gh_if_neB hK d_Md_look_4 (tgt := 8) (by decide) (fun z => ?_) (fun z => ?_)
  rotate_left
  · have zz := of_decide_eq_false z
    have zy : (nxS tx tt ap) < (nxE tx tt ap) := by omega
    have h := h_1
    rw [if_pos zy] at h
    rw [if_pos zy, if_pos zy] at hE
    exact gh_vret hK hE d_Md_look_7 (Nat.le_of_ble_eq_true rfl) (Nat.le_of_ble_eq_true rfl) ⟨rfl, h, mm⟩
  have zz := of_decide_eq_true z
  have zn : ¬ (nxS tx tt ap) < (nxE tx tt ap) := by omega
  rw [if_neg zn, if_neg zn] at hE
  have h := h_1
  rw [if_neg zn] at h
  have lp : ∀ (rest done : List (List Nat × Nat)) (sm : Bool) (cur : Option Nat) (g1 : GH) (o1 : List Nat × Nat) (h : Md G g1 B (mS cd ty ds.length fr tt (nxE tx tt ap) (nxS tx tt ap) (nxE tx tt ap) wr mk wd) F o1) (mm : gh_M MDT g g1), es2 = done ++ rest → CurO ds rest cur → prs o1 (jnB sm ((wsD rest).filter fun v => bgO v ws)) = prs o (jnI ((wsD es2).filter fun v => bgO v ws)) → gh_W l G (rmk 2 0 0 50) X g1 0 0 [some (.ref (B 0)), some (.int (nI f)), some (.int (nI ws.length)), some (.int (nI (bn sm))), some (.int (oI cur))] 17 [] := by
    intro rest
    induction rest with
    | nil =>
      intro done sm cur g1 o1 h mm hd hc ho
      have hc : cur = none := hc
      subst hc
      rw [show ((wsD ([])).filter fun v => bgO v ws) = [] from rfl, jnB_nil] at ho
      refine gh_iload hK d_Md_look_17 rfl ?_
      refine gh_iconst (v := (-1)) hK d_Md_look_19 (by decide) ?_
      refine gh_icmp_eqO (b := none) hK d_Md_look_20 (tgt := 85) (by decide) (fun i hi => by cases hi) (fun _ => ?_) (fun i q => by cases q)
      refine gh_iload_n hK d_Md_look_85 rfl ?_
      refine gh_if_neB hK d_Md_look_86 (tgt := 95) (by decide) (fun z => ?_) (fun z => ?_)
      · rw [z, if_pos rfl, prs_nil] at ho
        exact gh_vret hK hE d_Md_look_95 (Nat.le_of_ble_eq_true rfl) (Nat.le_of_ble_eq_true rfl) ⟨rfl, by rw [← ho]; exact h, mm⟩
      rw [z, if_neg (by decide), prs_one] at ho
      refine gh_aload_n hK d_Md_look_89 rfl ?_
      refine gh_bipush (v := nI 45) hK d_Md_look_90 (by decide) ?_
      refine gh_callV (rest := []) [.int (nI 45)] hK (c_Md_put l G h (c := 45) (by decide)) Y_Md_put V_Md_put km_Md_66 h.1 rfl rfl d_Md_look_92 rfl rfl (Nat.le_of_ble_eq_true rfl) ⟨(Nat.le_of_ble_eq_true rfl), (Nat.le_of_ble_eq_true rfl)⟩ ⟨(Nat.le_of_ble_eq_true rfl), (Nat.le_of_ble_eq_true rfl)⟩ (fun v g_1 hp => ?_)
      obtain ⟨rfl, h_1, mx⟩ := hp
      have mm := mm.tr mx
      show gh_W l G _ X g_1 0 0 [some (.ref (B 0)), some (.int (nI f)), some (.int (nI ws.length)), some (.int (nI (bn sm))), some (.int (oI none))] 95 []
      exact gh_vret hK hE d_Md_look_95 (Nat.le_of_ble_eq_true rfl) (Nat.le_of_ble_eq_true rfl) ⟨rfl, by rw [← ho]; exact h_1, mm⟩
    | cons r rest ih =>
      intro done sm cur g1 o1 h mm hd hc ho
      obtain ⟨b, hcb, hb⟩ := hc
      subst hcb
      have hbl : b < ds.length := (List.getElem?_eq_some_iff.mp hb).1
      obtain ⟨e1, e2, e3, e4, e5⟩ := hD.2 b r hb
      have hd2 : es2 = (done ++ [r]) ++ rest := by rw [List.append_assoc]; exact hd
      have hnx := cur_of (hd2 ▸ hR)
      have fin : ∀ (sm : Bool) (g2 : GH) (o2 : List Nat × Nat) (h : Md G g2 B (mS cd ty ds.length fr tt (nxE tx tt ap) (nxS tx tt ap) (nxE tx tt ap) wr mk wd) F o2) (mm : gh_M MDT g g2), prs o2 (jnB sm ((wsD rest).filter fun v => bgO v ws)) = prs o (jnI ((wsD es2).filter fun v => bgO v ws)) → gh_W l G (rmk 2 0 0 50) X g2 0 0 [some (.ref (B 0)), some (.int (nI f)), some (.int (nI ws.length)), some (.int (nI (bn sm))), some (.int (nI b))] 74 [] := by
        intro sm g2 o2 h mm ho
        refine gh_aload_n hK d_Md_look_74 rfl ?_
        refine gh_iload hK d_Md_look_75 rfl ?_
        refine gh_callV (rest := []) [.int (nI b)] hK (c_Md_behind l G h (la := some b) hD (fun i hi => by cases hi; exact hbl)) Y_Md_behind V_Md_behind km_Md_215 h.1 rfl rfl d_Md_look_77 rfl rfl (Nat.le_of_ble_eq_true rfl) ⟨(Nat.le_of_ble_eq_true rfl), (Nat.le_of_ble_eq_true rfl)⟩ ⟨(Nat.le_of_ble_eq_true rfl), (Nat.le_of_ble_eq_true rfl)⟩ (fun v gp_1 hp => ?_)
        obtain ⟨rfl, hgp⟩ := hp
        rw [hgp]
        show gh_W l G _ X g2 0 0 [some (.ref (B 0)), some (.int (nI f)), some (.int (nI ws.length)), some (.int (nI (bn sm))), some (.int (nI b))] 80 [.int (oI (selN (wsD ds) ((some b).map fun i => (wsD ds).getD i []) ds.length))]
        refine gh_istore (lv' := [some (.ref (B 0)), some (.int (nI f)), some (.int (nI ws.length)), some (.int (nI (bn sm))), some (.int (oI (selN (wsD ds) ((some b).map fun i => (wsD ds).getD i []) ds.length)))]) hK d_Md_look_80 (Nat.le_of_ble_eq_true rfl) rfl ?_
        refine gh_goto (tgt := 17) hK d_Md_look_82 (by decide) ?_
        refine ih (done ++ [r]) sm _ g2 o2 h mm hd2 ?_ ho
        have e9 : (wsD (done ++ [r])).getLast? = some ((wsD ds).getD b []) := by rw [wsD_get hb, show wsD (done ++ [r]) = wsD done ++ [r.1] from List.map_append, List.getLast?_append]; rfl
        rw [e9] at hnx
        exact hnx
      show gh_W l G _ X g1 0 0 [some (.ref (B 0)), some (.int (nI f)), some (.int (nI ws.length)), some (.int (nI (bn sm))), some (.int (nI b))] 17 []
      refine gh_iload hK d_Md_look_17 rfl ?_
      refine gh_iconst (v := (-1)) hK d_Md_look_19 (by decide) ?_
      refine gh_icmp_eqO (b := some b) hK d_Md_look_20 (tgt := 85) (by decide) (fun i hi => by cases hi; omega) (fun q => by cases q) (fun i _ => ?_)
      refine gh_aload_n hK d_Md_look_23 rfl ?_
      refine gh_get (v := .ref (B 3)) hK d_Md_look_24 in_Md rfl h.1 7 (by decide) kf_Md_16 rfl rfl ?_
      refine gh_iload hK d_Md_look_27 rfl ?_
      refine gh_mald hK d_Md_look_29 h 3 (by decide) (i := b) (x := (nI r.1.length)) (by show b < 300; omega) e2 ?_
      refine gh_iload_n hK d_Md_look_30 rfl ?_
      refine gh_icmp_ltN hK d_Md_look_31 (tgt := 74) (by decide) (by omega) (by omega) (fun q => ?_) (fun q => ?_)
      · exact fin sm g1 o1 h mm (by rw [← ho, show wsD (r :: rest) = r.1 :: wsD rest from rfl, List.filter_cons_of_neg (fun z => by have := (of_decide_eq_true z).1; omega)])
      refine gh_aload_n hK d_Md_look_34 rfl ?_
      refine gh_get (v := .ref (B 5)) hK d_Md_look_35 in_Md rfl h.1 9 (by decide) kf_Md_22 rfl rfl ?_
      refine gh_bipush (v := nI 16) hK d_Md_look_38 (by decide) ?_
      refine gh_iload hK d_Md_look_40 rfl ?_
      refine gh_mulN hK d_Md_look_42 ?_
      refine gh_iload_n hK d_Md_look_43 rfl ?_
      refine gh_aload_n hK d_Md_look_44 rfl ?_
      refine gh_get (v := .ref (B 1)) hK d_Md_look_45 in_Md rfl h.1 2 (by decide) kf_Md_7 rfl rfl ?_
      refine gh_iload_n hK d_Md_look_48 rfl ?_
      refine gh_iload_n hK d_Md_look_49 rfl ?_
      have ht5 := e4.take ws.length
      have hlt : (r.1.take ws.length).length = ws.length := by rw [List.length_take]; omega
      have cc := c_Md_compare l G h (ja := 5) (jb := 1) (by decide) (by decide) ht5 hw (by rw [hlt]; show 16 * b + _ ≤ 4800; omega) hwl
      rw [hlt] at cc
      refine gh_callS (rest := []) [.ref (B 5), .int (nI (16 * b)), .int (nI ws.length), .ref (B 1), .int (nI f), .int (nI ws.length)] hK (cc) Y_Md_compare V_Md_compare km_Md_109 rfl d_Md_look_50 rfl rfl (Nat.le_of_ble_eq_true rfl) ⟨(Nat.le_of_ble_eq_true rfl), (Nat.le_of_ble_eq_true rfl)⟩ ⟨(Nat.le_of_ble_eq_true rfl), (Nat.le_of_ble_eq_true rfl)⟩ (fun v gp_1 hp => ?_)
      obtain ⟨r1, rfl, hr1, hgp⟩ := hp
      rw [hgp]
      show gh_W l G _ X g1 0 0 [some (.ref (B 0)), some (.int (nI f)), some (.int (nI ws.length)), some (.int (nI (bn sm))), some (.int (nI b))] 53 [.int r1]
      refine gh_if_neC hr1 hK d_Md_look_53 (tgt := 74) (by decide) (fun z2 => ?_) (fun z2 => ?_)
      · exact fin sm g1 o1 h mm (by rw [← ho, show wsD (r :: rest) = r.1 :: wsD rest from rfl, List.filter_cons_of_neg (fun z => z2 ((cmpL_zero _ _).mpr (of_decide_eq_true z).2))])
      have hbg : bgO r.1 ws = true := decide_eq_true ⟨q, (cmpL_zero _ _).mp z2⟩
      rw [show wsD (r :: rest) = r.1 :: wsD rest from rfl, List.filter_cons_of_pos (p := fun v => bgO v ws) hbg, jnB_cons, prs_app] at ho
      have tl : ∀ (g2 : GH) (o2 : List Nat × Nat) (h : Md G g2 B (mS cd ty ds.length fr tt (nxE tx tt ap) (nxS tx tt ap) (nxE tx tt ap) wr mk wd) F o2) (mm : gh_M MDT g g2), o2 = prs o1 (if sm = true then [32] else []) → gh_W l G (rmk 2 0 0 50) X g2 0 0 [some (.ref (B 0)), some (.int (nI f)), some (.int (nI ws.length)), some (.int (nI (bn sm))), some (.int (nI b))] 66 [] := by
        intro g2 o2 h mm e8
        refine gh_aload_n hK d_Md_look_66 rfl ?_
        refine gh_iload hK d_Md_look_67 rfl ?_
        refine gh_callV (rest := []) [.int (nI b)] hK (c_Md_putEntry l G h hD hbl (wsD_get hb)) Y_Md_putEntry V_Md_putEntry km_Md_218 h.1 rfl rfl d_Md_look_69 rfl rfl (Nat.le_of_ble_eq_true rfl) ⟨(Nat.le_of_ble_eq_true rfl), (Nat.le_of_ble_eq_true rfl)⟩ ⟨(Nat.le_of_ble_eq_true rfl), (Nat.le_of_ble_eq_true rfl)⟩ (fun v g_2 hp => ?_)
        obtain ⟨rfl, h_2, mx⟩ := hp
        have mm := mm.tr mx
        show gh_W l G _ X g_2 0 0 [some (.ref (B 0)), some (.int (nI f)), some (.int (nI ws.length)), some (.int (nI (bn sm))), some (.int (nI b))] 72 []
        refine gh_iconst (v := nI 1) hK d_Md_look_72 (by decide) ?_
        refine gh_istore_n (lv' := [some (.ref (B 0)), some (.int (nI f)), some (.int (nI ws.length)), some (.int (nI 1)), some (.int (nI b))]) hK d_Md_look_73 (Nat.le_of_ble_eq_true rfl) rfl ?_
        exact fin true g_2 _ h_2 mm (by rw [← ho, ← e8, ← prs_app])
      refine gh_iload_n hK d_Md_look_56 rfl ?_
      refine gh_if_eqB hK d_Md_look_57 (tgt := 66) (by decide) (fun z => ?_) (fun z => ?_)
      · exact tl g1 o1 h mm (by rw [z]; rfl)
      refine gh_aload_n hK d_Md_look_60 rfl ?_
      refine gh_bipush (v := nI 32) hK d_Md_look_61 (by decide) ?_
      refine gh_callV (rest := []) [.int (nI 32)] hK (c_Md_put l G h (c := 32) (by decide)) Y_Md_put V_Md_put km_Md_66 h.1 rfl rfl d_Md_look_63 rfl rfl (Nat.le_of_ble_eq_true rfl) ⟨(Nat.le_of_ble_eq_true rfl), (Nat.le_of_ble_eq_true rfl)⟩ ⟨(Nat.le_of_ble_eq_true rfl), (Nat.le_of_ble_eq_true rfl)⟩ (fun v g_3 hp => ?_)
      obtain ⟨rfl, h_3, mx⟩ := hp
      have mm := mm.tr mx
      show gh_W l G _ X g_3 0 0 [some (.ref (B 0)), some (.int (nI f)), some (.int (nI ws.length)), some (.int (nI (bn sm))), some (.int (nI b))] 66 []
      exact tl g_3 _ h_3 mm (by rw [z]; rfl)
  refine gh_iconst (v := nI 0) hK d_Md_look_8 (by decide) ?_
  refine gh_istore_n (lv' := [some (.ref (B 0)), some (.int (nI f)), some (.int (nI ws.length)), some (.int (nI 0)), none]) hK d_Md_look_9 (Nat.le_of_ble_eq_true rfl) rfl ?_
  refine gh_aload_n hK d_Md_look_10 rfl ?_
  refine gh_iconst (v := (-1)) hK d_Md_look_11 (by decide) ?_
  refine gh_callV (rest := []) [.int (-1)] hK (c_Md_behind l G h (la := none) hD (fun i hi => by cases hi)) Y_Md_behind V_Md_behind km_Md_215 h.1 rfl rfl d_Md_look_12 rfl rfl (Nat.le_of_ble_eq_true rfl) ⟨(Nat.le_of_ble_eq_true rfl), (Nat.le_of_ble_eq_true rfl)⟩ ⟨(Nat.le_of_ble_eq_true rfl), (Nat.le_of_ble_eq_true rfl)⟩ (fun v gp_1 hp => ?_)
  obtain ⟨rfl, hgp⟩ := hp
  rw [hgp]
  show gh_W l G _ X g_1 0 0 [some (.ref (B 0)), some (.int (nI f)), some (.int (nI ws.length)), some (.int (nI 0)), none] 15 [.int (oI (selN (wsD ds) ((none : Option Nat).map fun i => (wsD ds).getD i []) ds.length))]
  refine gh_istore (lv' := [some (.ref (B 0)), some (.int (nI f)), some (.int (nI ws.length)), some (.int (nI 0)), some (.int (oI (selN (wsD ds) ((none : Option Nat).map fun i => (wsD ds).getD i []) ds.length)))]) hK d_Md_look_15 (Nat.le_of_ble_eq_true rfl) rfl ?_
  exact lp es2 [] false _ g_1 o h mm rfl (cur_of (done := []) hR) rfl
