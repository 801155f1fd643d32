/-! the forms of an entry -/
def fS (us1 us2 : List RuR) (x : List Nat × Nat) (p : Nat) : Nat → Nat → List (List Nat)
  | 0, _ => []
  | k + 1, s => (mkO (rl2 us1 p) (rl2 us2 s) x).toList ++ fS us1 us2 x p k (s + 1)
def fP (us1 us2 : List RuR) (x : List Nat × Nat) : Nat → Nat → List (List Nat)
  | 0, _ => []
  | k + 1, p => fS us1 us2 x p (us2.length + 1) 0 ++ fP us1 us2 x k (p + 1)
def FmY (F F1 : Nat → Nat → Int32) : Prop := ∀ j, j < 10 → F1 j = F j
theorem FmY.tr {F F1 F2 : Nat → Nat → Int32} (h : FmY F F1) (h2 : FmZ F1 F2) : FmY F F2 := fun j hj => (h2 j (by omega)).trans (h j hj)
theorem FmY.tr2 {F F1 F2 : Nat → Nat → Int32} (h : FmY F F1) (h2 : FmY F1 F2) : FmY F F2 := fun j hj => (h2 j hj).trans (h j hj)
theorem FmY.up {F F1 : Nat → Nat → Int32} {j : Nat} {f : Nat → Int32} (h : FmY F F1) (hj : 10 ≤ j) : FmY F (upF F1 j f) := fun i hi => by rw [upF_n (by omega)]; exact h i hi
theorem FmY.dc {F F1 : Nat → Nat → Int32} {ds : List (List Nat × Nat)} (h : FmY F F1) (hD : DcA F ds) : DcA F1 ds := hD.eq (h 3 (by decide)) (h 4 (by decide)) (h 5 (by decide))
theorem FmY.ro {F F1 : Nat → Nat → Int32} {fr : Bool} {op : Option Nat} {u : RuR} (h : FmY F F1) (hU : RoA F fr op u) : RoA F1 fr op u := hU.eq (h 7 (by decide)) (h 8 (by decide)) (h 9 (by decide))
theorem FmY.tx {F F1 : Nat → Nat → Int32} {tx : List Nat} (h : FmY F F1) (ht : TxA F tx) : TxA F1 tx := ht.eq (h 1 (by decide))
theorem FmY.rl {F F1 : Nat → Nat → Int32} {b : Nat} {us : List RuR} (h : FmY F F1) (hR : RlA F b us) : RlA F1 b us := hR.eq (h 6 (by decide)) (h 7 (by decide)) (h 8 (by decide)) (h 9 (by decide))
/-- the words made so far end at a place -/
def PlA (F : Nat → Nat → Int32) (ml : List (List Nat)) (pl : Nat) : Prop := ∃ ps, WdA F 13 ml ps ∧ ∀ k, k < ml.length → ps k + (ml.getD k []).length ≤ pl
theorem PlA.eq {F F' : Nat → Nat → Int32} {ml : List (List Nat)} {pl : Nat} (h : PlA F ml pl) (e : FmZ F F') : PlA F' ml pl := by
  obtain ⟨ps, ⟨h1, h2⟩, h3⟩ := h
  refine ⟨ps, ⟨h1, fun k hk => ?_⟩, h3⟩
  rw [e 11 (by decide), e 12 (by decide), e 13 (by decide)]
  exact h2 k hk
theorem PlA.add {F F' : Nat → Nat → Int32} {ml : List (List Nat)} {pl : Nat} {wd : List Nat} (h : PlA F ml pl) (e11 : F' 11 = upd (F 11) ml.length (nI pl)) (e12 : F' 12 = upd (F 12) ml.length (nI wd.length)) (e13 : ∀ i, i < pl → F' 13 i = F 13 i) (hs : sA (F' 13) pl wd) (hl : pl + wd.length ≤ 4096) (hm : ml.length < 1024) : PlA F' (ml ++ [wd]) (pl + wd.length) := by
  obtain ⟨ps, ⟨h1, h2⟩, h3⟩ := h
  have g1 : ∀ k, k < ml.length → (ml ++ [wd]).getD k [] = ml.getD k [] := fun k hk => by
    rw [List.getD_eq_getElem?_getD, List.getElem?_append_left hk, ← List.getD_eq_getElem?_getD]
  have g2 : (ml ++ [wd]).getD ml.length [] = wd := by
    rw [List.getD_eq_getElem?_getD, List.getElem?_append_right (Nat.le_refl _), Nat.sub_self]
    rfl
  refine ⟨fun k => if k = ml.length then pl else ps k, ⟨by rw [List.length_append]; show ml.length + 1 ≤ _; omega, fun k hk => ?_⟩, fun k hk => ?_⟩
  · rw [List.length_append, List.length_singleton] at hk
    by_cases z : k = ml.length
    · subst z
      dsimp only
      rw [if_pos rfl, g2, e11, e12, pk_us, pk_us]
      exact ⟨rfl, rfl, hs, hl⟩
    · dsimp only
      rw [if_neg z, g1 k (by omega), e11, e12, pk_un z, pk_un z]
      obtain ⟨k1, k2, k3, k4⟩ := h2 k (by omega)
      have k5 := h3 k (by omega)
      refine ⟨k1, k2, fun i hi => ?_, k4⟩
      rw [e13 _ (by omega)]
      exact k3 i hi
  · rw [List.length_append, List.length_singleton] at hk
    by_cases z : k = ml.length
    · subst z
      dsimp only
      rw [if_pos rfl, g2]
      exact Nat.le_refl _
    · dsimp only
      rw [if_neg z, g1 k (by omega)]
      have := h3 k (by omega)
      omega
set_option maxRecDepth 20000 in
set_option maxHeartbeats 4000000 in
theorem c_Md_formsOf (l : Launch) (G : GG) {ds : List (List Nat × Nat)} {us1 us2 : List RuR} {tx ws : List Nat} {ss : List (List Nat)} {f : Nat} {g : GH} {B : Nat → Nat} {cd ty fr tt ap fi en wr mk wd : Nat} {F : Nat → Nat → Int32} {o : List Nat × Nat} (h : Md G g B (mS cd ty ds.length fr tt ap fi en wr mk wd) F o) (ht : TxA F tx) (hto : tt ≤ tx.length) (hat : ap ≤ tt) (hfa : fr ≤ ap) (hD : DcA F ds) (hR1 : RlA F 0 us1) (hR2 : RlA F 1 us2) (hw : sA (F 1) f ws) (hwl : f + ws.length ≤ 2048) (hs : srtL ss) (hm1 : (∀ x, x ∈ ds → x.1 = ws → ∀ w, w ∈ ss ↔ w ∈ fP us1 us2 x (us1.length + 1) 0)) (hm2 : ws ∉ wsD ds → ss = []) : gMet l G y_Md_formsOf b_Md_formsOf 8 none (rmk 2 0 0 55) [.ref (B 0), .int (nI f), .int (nI ws.length)] g (fun v g' => v = none ∧ ∃ mk' wd' F', Md G g' B (mS cd ty ds.length fr tt (nxE tx tt ap) (nxS tx tt ap) (nxE tx tt ap) (if (nxS tx tt ap) < (nxE tx tt ap) then (nxS tx tt ap) - fr + 1 else wr) mk' wd') F' (if (nxS tx tt ap) < (nxE tx tt ap) then o else prs o (jnI ss)) ∧ FmY F F' ∧ gh_M MDT g g') := by
  refine gMet.of [some (.ref (B 0)), some (.int (nI f)), some (.int (nI ws.length)), none, none, none, none, none] (by decide +kernel) rfl (Nat.le_of_ble_eq_true rfl) rfl (fun X hK hI hE => ?_)
  have mm : gh_M MDT g g := gh_M.rf
  have hdl := hD.1
  have hr1 := hR1.1
  have hr2 := hR2.1
  have ec0 := hR1.2.1
  have ec1 := hR2.2.1
  refine gh_aload_n hK d_Md_formsOf_0 rfl ?_
  refine gh_callV (rest := []) [] hK (c_Md_mustEnd l G h ht hto hat hfa) Y_Md_mustEnd V_Md_mustEnd km_Md_184 h.1 rfl rfl d_Md_formsOf_1 rfl rfl (Nat.le_of_ble_eq_true rfl) ⟨(Nat.le_of_ble_eq_true rfl), (Nat.le_of_ble_eq_true rfl)⟩ ⟨(Nat.le_of_ble_eq_true rfl), (Nat.le_of_ble_eq_true rfl)⟩ (fun v g_1 hp => ?_)
  obtain ⟨rfl, h_1, mx⟩ := hp
  have mm := mm.tr mx
  show gh_W l G _ X g_1 0 0 [some (.ref (B 0)), some (.int (nI f)), some (.int (nI ws.length)), none, none, none, none, none] 4 [.int (nI (bn (decide ((nxE tx tt ap) ≤ (nxS tx tt ap)))))]
  refine gh_if_neB hK d_Md_formsOf_4 (tgt := 8) (by decide) (fun z => ?_) (fun z => ?_)
  rotate_left
  · have zz := of_decide_eq_false z
    have zy : (nxS tx tt ap) < (nxE tx tt ap) := by omega
    have h := h_1
    rw [if_pos zy] at h
    simp only [if_pos zy] at hE
    exact gh_vret hK hE d_Md_formsOf_7 (Nat.le_of_ble_eq_true rfl) (Nat.le_of_ble_eq_true rfl) ⟨rfl, _, _, _, h, fun _ _ => rfl, mm⟩
  have zz := of_decide_eq_true z
  have zn : ¬ (nxS tx tt ap) < (nxE tx tt ap) := by omega
  simp only [if_neg zn] at hE
  have h := h_1
  rw [if_neg zn] at h
  have t159 : ∀ (g1 : GH) (F1 : Nat → Nat → Int32) (mk1 : Nat) (ml : List (List Nat)) (pl : Nat) (h : Md G g1 B (mS cd ty ds.length fr tt (nxE tx tt ap) (nxS tx tt ap) (nxE tx tt ap) wr mk1 ml.length) F1 o) (hF : FmY F F1) (hP : PlA F1 ml pl) (mm : gh_M MDT g g1) (v3 v4 v5 v6 v7 : Option Value), (∀ w, w ∈ ss ↔ w ∈ ml) → gh_W l G (rmk 2 0 0 55) X g1 0 0 [some (.ref (B 0)), some (.int (nI f)), some (.int (nI ws.length)), v3, v4, v5, v6, v7] 159 [] := by
    intro g1 F1 mk1 ml pl h hF hP mm v3 v4 v5 v6 v7 hmm
    obtain ⟨ps, hW, -⟩ := hP
    refine gh_aload_n hK d_Md_formsOf_159 rfl ?_
    refine gh_aload_n hK d_Md_formsOf_160 rfl ?_
    refine gh_get (v := .ref (B 13)) hK d_Md_formsOf_161 in_Md rfl h.1 25 (by decide) kf_Md_46 rfl rfl ?_
    refine gh_callV (rest := []) [.ref (B 13)] hK (c_Md_putWords l G h (jw := 13) (by decide) hW hs hmm) Y_Md_putWords V_Md_putWords km_Md_211 h.1 rfl rfl d_Md_formsOf_164 rfl rfl (Nat.le_of_ble_eq_true rfl) ⟨(Nat.le_of_ble_eq_true rfl), (Nat.le_of_ble_eq_true rfl)⟩ ⟨(Nat.le_of_ble_eq_true rfl), (Nat.le_of_ble_eq_true rfl)⟩ (fun v g_1 hp => ?_)
    obtain ⟨rfl, h_1, mx⟩ := hp
    have mm := mm.tr mx
    show gh_W l G _ X g_1 0 0 [some (.ref (B 0)), some (.int (nI f)), some (.int (nI ws.length)), v3, v4, v5, v6, v7] 167 []
    exact gh_vret hK hE d_Md_formsOf_167 (Nat.le_of_ble_eq_true rfl) (Nat.le_of_ble_eq_true rfl) ⟨rfl, _, _, _, h_1, hF, mm⟩
  have lpS : ∀ (e p : Nat) (x : List Nat × Nat) (R1 T : List (List Nat)) (he : ds[e]? = some x) (hp : p ≤ us1.length) (kz : ∀ (g1 : GH) (F1 : Nat → Nat → Int32) (mk1 : Nat) (ml : List (List Nat)) (pl : Nat) (h : Md G g1 B (mS cd ty ds.length fr tt (nxE tx tt ap) (nxS tx tt ap) (nxE tx tt ap) wr mk1 ml.length) F1 o) (hF : FmY F F1) (hP : PlA F1 ml pl) (mm : gh_M MDT g g1) (v6 v7 : Option Value), ml.length ≤ 9 * (p + 1) → pl ≤ 28 * ml.length → ml ++ R1 = T → gh_W l G (rmk 2 0 0 55) X g1 0 0 [some (.ref (B 0)), some (.int (nI f)), some (.int (nI ws.length)), some (.int (nI e)), some (.int (nI pl)), some (.int (nI p)), v6, v7] 153 []) (m s : Nat) (g1 : GH) (F1 : Nat → Nat → Int32) (mk1 : Nat) (ml : List (List Nat)) (pl : Nat) (h : Md G g1 B (mS cd ty ds.length fr tt (nxE tx tt ap) (nxS tx tt ap) (nxE tx tt ap) wr mk1 ml.length) F1 o) (hF : FmY F F1) (hP : PlA F1 ml pl) (mm : gh_M MDT g g1) (v7 : Option Value), s + m = us2.length + 1 → ml.length ≤ 9 * p + s → pl ≤ 28 * ml.length → ml ++ (fS us1 us2 x p m s ++ R1) = T → gh_W l G (rmk 2 0 0 55) X g1 0 0 [some (.ref (B 0)), some (.int (nI f)), some (.int (nI ws.length)), some (.int (nI e)), some (.int (nI pl)), some (.int (nI p)), some (.int (nI s)), v7] 49 [] := by
    intro e p x R1 T he hp kz m
    have hel : e < ds.length := (List.getElem?_eq_some_iff.mp he).1
    induction m with
    | zero =>
      intro s g1 F1 mk1 ml pl h hF hP mm v7 hs2 hb1 hb2 ho
      refine gh_iload hK d_Md_formsOf_49 rfl ?_
      refine gh_aload_n hK d_Md_formsOf_51 rfl ?_
      refine gh_get (v := .ref (B 6)) hK d_Md_formsOf_52 in_Md rfl h.1 10 (by decide) kf_Md_25 rfl rfl ?_
      refine gh_iconst (v := nI 1) hK d_Md_formsOf_55 (by decide) ?_
      refine gh_mald hK d_Md_formsOf_56 h 6 (by decide) (i := 1) (x := (nI us2.length)) (by show 1 < 2; omega) (by rw [hF 6 (by decide)]; exact ec1) ?_
      refine gh_icmp_gtN hK d_Md_formsOf_57 (tgt := 153) (by decide) (by omega) (by omega) (fun _ => kz g1 F1 mk1 ml pl h hF hP mm _ _ (by omega) hb2 ho) (fun q => by omega)
    | succ m ih =>
      intro s g1 F1 mk1 ml pl h hF hP mm v7 hs2 hb1 hb2 ho
      rw [fS, List.append_assoc] at ho
      have t147 : ∀ (g1 : GH) (F1 : Nat → Nat → Int32) (mk1 : Nat) (ml : List (List Nat)) (pl : Nat) (h : Md G g1 B (mS cd ty ds.length fr tt (nxE tx tt ap) (nxS tx tt ap) (nxE tx tt ap) wr mk1 ml.length) F1 o) (hF : FmY F F1) (hP : PlA F1 ml pl) (mm : gh_M MDT g g1) (v7 : Option Value), ml.length ≤ 9 * p + (s + 1) → pl ≤ 28 * ml.length → ml ++ (fS us1 us2 x p m (s + 1) ++ R1) = T → gh_W l G (rmk 2 0 0 55) X g1 0 0 [some (.ref (B 0)), some (.int (nI f)), some (.int (nI ws.length)), some (.int (nI e)), some (.int (nI pl)), some (.int (nI p)), some (.int (nI s)), v7] 147 [] := by
        intro g1 F1 mk1 ml pl h hF hP mm v7 hb1 hb2 ho
        refine gh_incN (lv' := [some (.ref (B 0)), some (.int (nI f)), some (.int (nI ws.length)), some (.int (nI e)), some (.int (nI pl)), some (.int (nI p)), some (.int (nI (s + 1))), v7]) hK d_Md_formsOf_147 rfl rfl ?_
        refine gh_goto (tgt := 49) hK d_Md_formsOf_150 (by decide) ?_
        exact ih (s + 1) g1 F1 mk1 ml pl h hF hP mm _ (by omega) hb1 hb2 ho
      refine gh_iload hK d_Md_formsOf_49 rfl ?_
      refine gh_aload_n hK d_Md_formsOf_51 rfl ?_
      refine gh_get (v := .ref (B 6)) hK d_Md_formsOf_52 in_Md rfl h.1 10 (by decide) kf_Md_25 rfl rfl ?_
      refine gh_iconst (v := nI 1) hK d_Md_formsOf_55 (by decide) ?_
      refine gh_mald hK d_Md_formsOf_56 h 6 (by decide) (i := 1) (x := (nI us2.length)) (by show 1 < 2; omega) (by rw [hF 6 (by decide)]; exact ec1) ?_
      refine gh_icmp_gtN hK d_Md_formsOf_57 (tgt := 153) (by decide) (by omega) (by omega) (fun q => by omega) (fun _ => ?_)
      refine gh_aload_n hK d_Md_formsOf_60 rfl ?_
      refine gh_iload_n hK d_Md_formsOf_61 rfl ?_
      refine gh_iload hK d_Md_formsOf_62 rfl ?_
      refine gh_callS (rest := [.int (nI e), .ref (B 0)]) [.int (nI p)] hK (c_Md_prefix l G (g := g1) (p := p) (by omega)) Y_Md_prefix V_Md_prefix km_Md_120 rfl d_Md_formsOf_64 rfl rfl (Nat.le_of_ble_eq_true rfl) ⟨(Nat.le_of_ble_eq_true rfl), (Nat.le_of_ble_eq_true rfl)⟩ ⟨(Nat.le_of_ble_eq_true rfl), (Nat.le_of_ble_eq_true rfl)⟩ (fun v gp_1 hp => ?_)
      obtain ⟨rfl, hgp⟩ := hp
      rw [hgp]
      show gh_W l G _ X g1 0 0 [some (.ref (B 0)), some (.int (nI f)), some (.int (nI ws.length)), some (.int (nI e)), some (.int (nI pl)), some (.int (nI p)), some (.int (nI s)), v7] 67 [.int (oI (pO 0 p)), .int (nI e), .ref (B 0)]
      refine gh_iload hK d_Md_formsOf_67 rfl ?_
      refine gh_callS (rest := [.int (oI (pO 0 p)), .int (nI e), .ref (B 0)]) [.int (nI s)] hK (c_Md_suffix l G (g := g1) (p := s) (by omega)) Y_Md_suffix V_Md_suffix km_Md_124 rfl d_Md_formsOf_69 rfl rfl (Nat.le_of_ble_eq_true rfl) ⟨(Nat.le_of_ble_eq_true rfl), (Nat.le_of_ble_eq_true rfl)⟩ ⟨(Nat.le_of_ble_eq_true rfl), (Nat.le_of_ble_eq_true rfl)⟩ (fun v gp_2 hp => ?_)
      obtain ⟨rfl, hgp⟩ := hp
      rw [hgp]
      show gh_W l G _ X g1 0 0 [some (.ref (B 0)), some (.int (nI f)), some (.int (nI ws.length)), some (.int (nI e)), some (.int (nI pl)), some (.int (nI p)), some (.int (nI s)), v7] 72 [.int (oI (pO 1 s)), .int (oI (pO 0 p)), .int (nI e), .ref (B 0)]
      refine gh_callV (rest := []) [.int (nI e), .int (oI (pO 0 p)), .int (oI (pO 1 s))] hK (c_Md_make l G h (hF.dc hD) he (hF.ro (hR1.ro0 (p := p) (by omega))) (hF.ro (hR2.ro1 (p := s) (by omega)))) Y_Md_make V_Md_make km_Md_127 h.1 rfl rfl d_Md_formsOf_72 rfl rfl (Nat.le_of_ble_eq_true rfl) ⟨(Nat.le_of_ble_eq_true rfl), (Nat.le_of_ble_eq_true rfl)⟩ ⟨(Nat.le_of_ble_eq_true rfl), (Nat.le_of_ble_eq_true rfl)⟩ (fun v g_3 hp => ?_)
      obtain ⟨mk3, F3, rfl, h_3, hz3, hw3, mx⟩ := hp
      have mm := mm.tr mx
      have hF := hF.tr hz3
      show gh_W l G _ X g_3 0 0 [some (.ref (B 0)), some (.int (nI f)), some (.int (nI ws.length)), some (.int (nI e)), some (.int (nI pl)), some (.int (nI p)), some (.int (nI s)), v7] 75 [.int (nI (bn (mkO (rl2 us1 p) (rl2 us2 s) x).isSome))]
      have hP := hP.eq hz3
      refine gh_if_eqB hK d_Md_formsOf_75 (tgt := 147) (by decide) (fun z => ?_) (fun z => ?_)
      · exact t147 g_3 F3 mk3 ml pl h_3 hF hP mm _ (by omega) hb2 (by rw [show (mkO (rl2 us1 p) (rl2 us2 s) x) = none from (by cases q : (mkO (rl2 us1 p) (rl2 us2 s) x) with | none => rfl | some _ => (rw [q] at z; cases z))] at ho; exact ho)
      obtain ⟨wd, hwd⟩ := Option.isSome_iff_exists.mp z
      obtain ⟨ew, hsa, hl28⟩ := hw3 wd hwd
      subst ew
      rw [hwd] at ho
      show gh_W l G _ X g_3 0 0 [some (.ref (B 0)), some (.int (nI f)), some (.int (nI ws.length)), some (.int (nI e)), some (.int (nI pl)), some (.int (nI p)), some (.int (nI s)), v7] 78 []
      refine gh_aload_n hK d_Md_formsOf_78 rfl ?_
      refine gh_get (v := .ref (B 11)) hK d_Md_formsOf_79 in_Md rfl h_3.1 23 (by decide) kf_Md_40 rfl rfl ?_
      refine gh_aload_n hK d_Md_formsOf_82 rfl ?_
      refine gh_get (v := .int (nI ml.length)) hK d_Md_formsOf_83 in_Md rfl h_3.1 22 (by decide) kf_Md_205 rfl rfl ?_
      refine gh_iload hK d_Md_formsOf_86 rfl ?_
      refine gh_mast hK d_Md_formsOf_88 h_3 11 (by decide) (i := ml.length) (by show ml.length < 1024; omega) (fun g_4 h_4 mx => ?_)
      have mm := mm.tr mx
      show gh_W l G _ X g_4 0 0 [some (.ref (B 0)), some (.int (nI f)), some (.int (nI ws.length)), some (.int (nI e)), some (.int (nI pl)), some (.int (nI p)), some (.int (nI s)), v7] 89 []
      refine gh_aload_n hK d_Md_formsOf_89 rfl ?_
      refine gh_get (v := .ref (B 12)) hK d_Md_formsOf_90 in_Md rfl h_4.1 24 (by decide) kf_Md_43 rfl rfl ?_
      refine gh_aload_n hK d_Md_formsOf_93 rfl ?_
      refine gh_get (v := .int (nI ml.length)) hK d_Md_formsOf_94 in_Md rfl h_4.1 22 (by decide) kf_Md_205 rfl rfl ?_
      refine gh_aload_n hK d_Md_formsOf_97 rfl ?_
      refine gh_get (v := .int (nI wd.length)) hK d_Md_formsOf_98 in_Md rfl h_4.1 20 (by decide) kf_Md_117 rfl rfl ?_
      refine gh_mast hK d_Md_formsOf_101 h_4 12 (by decide) (i := ml.length) (by show ml.length < 1024; omega) (fun g_5 h_5 mx => ?_)
      have mm := mm.tr mx
      show gh_W l G _ X g_5 0 0 [some (.ref (B 0)), some (.int (nI f)), some (.int (nI ws.length)), some (.int (nI e)), some (.int (nI pl)), some (.int (nI p)), some (.int (nI s)), v7] 102 []
      refine gh_aload_n hK d_Md_formsOf_102 rfl ?_
      refine gh_dup hK d_Md_formsOf_103 rfl ?_
      refine gh_get (v := .int (nI ml.length)) hK d_Md_formsOf_104 in_Md rfl h_5.1 22 (by decide) kf_Md_205 rfl rfl ?_
      refine gh_iconst (v := nI 1) hK d_Md_formsOf_107 (by decide) ?_
      refine gh_addN hK d_Md_formsOf_108 ?_
      refine gh_mput hK d_Md_formsOf_109 h_5 22 (mS cd ty ds.length fr tt (nxE tx tt ap) (nxS tx tt ap) (nxE tx tt ap) wr wd.length (ml.length + 1)) rfl (by decide) kf_Md_205 rfl rfl rfl rfl (by decide) (fun g_6 h_6 mx => ?_)
      have mm := mm.tr mx
      show gh_W l G _ X g_6 0 0 [some (.ref (B 0)), some (.int (nI f)), some (.int (nI ws.length)), some (.int (nI e)), some (.int (nI pl)), some (.int (nI p)), some (.int (nI s)), v7] 112 []
      refine gh_iconst (v := nI 0) hK d_Md_formsOf_112 (by decide) ?_
      refine gh_istore (lv' := [some (.ref (B 0)), some (.int (nI f)), some (.int (nI ws.length)), some (.int (nI e)), some (.int (nI pl)), some (.int (nI p)), some (.int (nI s)), some (.int (nI 0))]) hK d_Md_formsOf_113 (Nat.le_of_ble_eq_true rfl) rfl ?_
      have cp : ∀ (m k : Nat) (g2 : GH) (F2 : Nat → Nat → Int32) (h : Md G g2 B (mS cd ty ds.length fr tt (nxE tx tt ap) (nxS tx tt ap) (nxE tx tt ap) wr wd.length (ml.length + 1)) F2 o) (mm : gh_M MDT g g2), k + m = wd.length → (∀ j, j ≠ 13 → F2 j = (upF (upF F3 11 (upd (F3 11) ml.length (nI pl))) 12 (upd ((upF F3 11 (upd (F3 11) ml.length (nI pl))) 12) ml.length (nI wd.length))) j) → (∀ i, i < pl → F2 13 i = (upF (upF F3 11 (upd (F3 11) ml.length (nI pl))) 12 (upd ((upF F3 11 (upd (F3 11) ml.length (nI pl))) 12) ml.length (nI wd.length))) 13 i) → sA (F2 13) pl (wd.take k) → gh_W l G (rmk 2 0 0 55) X g2 0 0 [some (.ref (B 0)), some (.int (nI f)), some (.int (nI ws.length)), some (.int (nI e)), some (.int (nI (pl + k))), some (.int (nI p)), some (.int (nI s)), some (.int (nI k))] 115 [] := by
        intro m
        induction m with
        | zero =>
          intro k g2 F2 h mm hk h13 hlow hs13
          have hk : k = wd.length := by omega
          subst hk
          refine gh_iload hK d_Md_formsOf_115 rfl ?_
          refine gh_aload_n hK d_Md_formsOf_117 rfl ?_
          refine gh_get (v := .int (nI wd.length)) hK d_Md_formsOf_118 in_Md rfl h.1 20 (by decide) kf_Md_117 rfl rfl ?_
          refine gh_icmp_geN hK d_Md_formsOf_121 (tgt := 147) (by decide) (by omega) (by omega) (fun _ => ?_) (fun q => by omega)
          rw [List.take_length] at hs13
          refine t147 g2 F2 _ (ml ++ [wd]) (pl + wd.length) (by rw [List.length_append]; exact h) (fun j hj => ?_) (hP.add ?_ ?_ (fun i hi => ?_) hs13 (by omega) (by omega)) mm _ (by rw [List.length_append]; show ml.length + 1 ≤ _; omega) (by rw [List.length_append]; show _ ≤ 28 * (ml.length + 1); omega) (by rw [List.append_assoc]; exact ho)
          · rw [h13 j (by omega), upF_n (by omega), upF_n (by omega)]; exact hF j hj
          · rw [h13 11 (by decide), upF_n (by decide), upF_s]
          · rw [h13 12 (by decide), upF_s, upF_n (by decide)]
          · rw [hlow i hi, upF_n (by decide), upF_n (by decide)]
        | succ m ihc =>
          intro k g2 F2 h mm hk h13 hlow hs13
          have hc10 : F2 10 k = nI (wd.getD k 0) := by
            rw [h13 10 (by decide), upF_n (by decide), upF_n (by decide)]
            have := (hsa k (by omega)).1
            rw [Nat.zero_add] at this
            exact this
          refine gh_iload hK d_Md_formsOf_115 rfl ?_
          refine gh_aload_n hK d_Md_formsOf_117 rfl ?_
          refine gh_get (v := .int (nI wd.length)) hK d_Md_formsOf_118 in_Md rfl h.1 20 (by decide) kf_Md_117 rfl rfl ?_
          refine gh_icmp_geN hK d_Md_formsOf_121 (tgt := 147) (by decide) (by omega) (by omega) (fun q => by omega) (fun _ => ?_)
          refine gh_aload_n hK d_Md_formsOf_124 rfl ?_
          refine gh_get (v := .ref (B 13)) hK d_Md_formsOf_125 in_Md rfl h.1 25 (by decide) kf_Md_46 rfl rfl ?_
          refine gh_iload hK d_Md_formsOf_128 rfl ?_
          refine gh_aload_n hK d_Md_formsOf_130 rfl ?_
          refine gh_get (v := .ref (B 10)) hK d_Md_formsOf_131 in_Md rfl h.1 21 (by decide) kf_Md_37 rfl rfl ?_
          refine gh_iload hK d_Md_formsOf_134 rfl ?_
          refine gh_mald hK d_Md_formsOf_136 h 10 (by decide) (i := k) (x := (nI (wd.getD k 0))) (by show k < 64; omega) hc10 ?_
          refine gh_mast hK d_Md_formsOf_137 h 13 (by decide) (i := pl + k) (by show pl + k < 4096; omega) (fun g_7 h_7 mx => ?_)
          have mm := mm.tr mx
          show gh_W l G _ X g_7 0 0 [some (.ref (B 0)), some (.int (nI f)), some (.int (nI ws.length)), some (.int (nI e)), some (.int (nI (pl + k))), some (.int (nI p)), some (.int (nI s)), some (.int (nI k))] 138 []
          refine gh_incN (lv' := [some (.ref (B 0)), some (.int (nI f)), some (.int (nI ws.length)), some (.int (nI e)), some (.int (nI (pl + k + 1))), some (.int (nI p)), some (.int (nI s)), some (.int (nI k))]) hK d_Md_formsOf_138 rfl rfl ?_
          refine gh_incN (lv' := [some (.ref (B 0)), some (.int (nI f)), some (.int (nI ws.length)), some (.int (nI e)), some (.int (nI (pl + k + 1))), some (.int (nI p)), some (.int (nI s)), some (.int (nI (k + 1)))]) hK d_Md_formsOf_141 rfl rfl ?_
          refine gh_goto (tgt := 115) hK d_Md_formsOf_144 (by decide) ?_
          refine ihc (k + 1) g_7 _ h_7 mm (by omega) (fun j hj => by rw [upF_n hj]; exact h13 j hj) (fun i hi => by rw [upF_s, pk_un (by omega)]; exact hlow i hi) ?_
          rw [upF_s, take_succD (by omega)]
          exact sA_app hs13 (by rw [List.length_take]; omega) (hsa k (by omega)).2
      exact cp wd.length 0 g_6 _ h_6 mm (by omega) (fun _ _ => rfl) (fun _ _ => rfl) (by rw [List.take_zero]; exact sA_nil)
  have lpP : ∀ (e : Nat) (x : List Nat × Nat) (T : List (List Nat)) (he : ds[e]? = some x) (hT : ∀ w, w ∈ ss ↔ w ∈ T) (m p : Nat) (g1 : GH) (F1 : Nat → Nat → Int32) (mk1 : Nat) (ml : List (List Nat)) (pl : Nat) (h : Md G g1 B (mS cd ty ds.length fr tt (nxE tx tt ap) (nxS tx tt ap) (nxE tx tt ap) wr mk1 ml.length) F1 o) (hF : FmY F F1) (hP : PlA F1 ml pl) (mm : gh_M MDT g g1) (v6 v7 : Option Value), p + m = us1.length + 1 → ml.length ≤ 9 * p → pl ≤ 28 * ml.length → ml ++ fP us1 us2 x m p = T → gh_W l G (rmk 2 0 0 55) X g1 0 0 [some (.ref (B 0)), some (.int (nI f)), some (.int (nI ws.length)), some (.int (nI e)), some (.int (nI pl)), some (.int (nI p)), v6, v7] 30 [] := by
    intro e x T he hT m
    have hel : e < ds.length := (List.getElem?_eq_some_iff.mp he).1
    induction m with
    | zero =>
      intro p g1 F1 mk1 ml pl h hF hP mm v6 v7 hs2 hb1 hb2 ho
      rw [fP, List.append_nil] at ho
      refine gh_iload hK d_Md_formsOf_30 rfl ?_
      refine gh_aload_n hK d_Md_formsOf_32 rfl ?_
      refine gh_get (v := .ref (B 6)) hK d_Md_formsOf_33 in_Md rfl h.1 10 (by decide) kf_Md_25 rfl rfl ?_
      refine gh_iconst (v := nI 0) hK d_Md_formsOf_36 (by decide) ?_
      refine gh_mald hK d_Md_formsOf_37 h 6 (by decide) (i := 0) (x := (nI us1.length)) (by show 0 < 2; omega) (by rw [hF 6 (by decide)]; exact ec0) ?_
      refine gh_icmp_gtN hK d_Md_formsOf_38 (tgt := 159) (by decide) (by omega) (by omega) (fun _ => ?_) (fun q => by omega)
      exact t159 g1 F1 mk1 ml pl h hF hP mm _ _ _ _ _ (by rw [ho]; exact hT)
    | succ m ih =>
      intro p g1 F1 mk1 ml pl h hF hP mm v6 v7 hs2 hb1 hb2 ho
      rw [fP] at ho
      refine gh_iload hK d_Md_formsOf_30 rfl ?_
      refine gh_aload_n hK d_Md_formsOf_32 rfl ?_
      refine gh_get (v := .ref (B 6)) hK d_Md_formsOf_33 in_Md rfl h.1 10 (by decide) kf_Md_25 rfl rfl ?_
      refine gh_iconst (v := nI 0) hK d_Md_formsOf_36 (by decide) ?_
      refine gh_mald hK d_Md_formsOf_37 h 6 (by decide) (i := 0) (x := (nI us1.length)) (by show 0 < 2; omega) (by rw [hF 6 (by decide)]; exact ec0) ?_
      refine gh_icmp_gtN hK d_Md_formsOf_38 (tgt := 159) (by decide) (by omega) (by omega) (fun q => by omega) (fun _ => ?_)
      refine gh_iload_n hK d_Md_formsOf_41 rfl ?_
      refine gh_iconst (v := (-1)) hK d_Md_formsOf_42 (by decide) ?_
      refine gh_icmp_eqO (b := some e) hK d_Md_formsOf_43 (tgt := 159) (by decide) (fun i hi => by cases hi; omega) (fun q => by cases q) (fun i _ => ?_)
      refine gh_iconst (v := nI 0) hK d_Md_formsOf_46 (by decide) ?_
      refine gh_istore (lv' := [some (.ref (B 0)), some (.int (nI f)), some (.int (nI ws.length)), some (.int (nI e)), some (.int (nI pl)), some (.int (nI p)), some (.int (nI 0)), v7]) hK d_Md_formsOf_47 (Nat.le_of_ble_eq_true rfl) rfl ?_
      refine lpS e p x _ T he (by omega) (fun g1 F1 mk1 ml pl h hF hP mm v6 v7 hb1 hb2 ho => ?_) (us2.length + 1) 0 g1 F1 mk1 ml pl h hF hP mm _ (by omega) (by omega) hb2 ho
      refine gh_incN (lv' := [some (.ref (B 0)), some (.int (nI f)), some (.int (nI ws.length)), some (.int (nI e)), some (.int (nI pl)), some (.int (nI (p + 1))), v6, v7]) hK d_Md_formsOf_153 rfl rfl ?_
      refine gh_goto (tgt := 30) hK d_Md_formsOf_156 (by decide) ?_
      exact ih (p + 1) g1 F1 mk1 ml pl h hF hP mm _ _ (by omega) hb1 hb2 ho
  refine gh_aload_n hK d_Md_formsOf_8 rfl ?_
  refine gh_aload_n hK d_Md_formsOf_9 rfl ?_
  refine gh_get (v := .ref (B 1)) hK d_Md_formsOf_10 in_Md rfl h.1 2 (by decide) kf_Md_7 rfl rfl ?_
  refine gh_iload_n hK d_Md_formsOf_13 rfl ?_
  refine gh_iload_n hK d_Md_formsOf_14 rfl ?_
  refine gh_callV (rest := []) [.ref (B 1), .int (nI f), .int (nI ws.length)] hK (c_Md_find l G h hD hw hwl) Y_Md_find V_Md_find km_Md_195 h.1 rfl rfl d_Md_formsOf_15 rfl rfl (Nat.le_of_ble_eq_true rfl) ⟨(Nat.le_of_ble_eq_true rfl), (Nat.le_of_ble_eq_true rfl)⟩ ⟨(Nat.le_of_ble_eq_true rfl), (Nat.le_of_ble_eq_true rfl)⟩ (fun vr gp_1 hp => ?_)
  obtain ⟨hp, hgp⟩ := hp
  rw [hgp]
  rcases hp with ⟨e, x, rfl, he, hx⟩ | ⟨rfl, hno⟩
  · show gh_W l G _ X g_1 0 0 [some (.ref (B 0)), some (.int (nI f)), some (.int (nI ws.length)), none, none, none, none, none] 18 [.int (nI e)]
    have hel : e < ds.length := (List.getElem?_eq_some_iff.mp he).1
    refine gh_istore_n (lv' := [some (.ref (B 0)), some (.int (nI f)), some (.int (nI ws.length)), some (.int (nI e)), none, none, none, none]) hK d_Md_formsOf_18 (Nat.le_of_ble_eq_true rfl) rfl ?_
    refine gh_aload_n hK d_Md_formsOf_19 rfl ?_
    refine gh_iconst (v := nI 0) hK d_Md_formsOf_20 (by decide) ?_
    refine gh_mput hK d_Md_formsOf_21 h 22 (mS cd ty ds.length fr tt (nxE tx tt ap) (nxS tx tt ap) (nxE tx tt ap) wr mk 0) rfl (by decide) kf_Md_205 rfl rfl rfl rfl (by decide) (fun g_2 h_2 mx => ?_)
    have mm := mm.tr mx
    show gh_W l G _ X g_2 0 0 [some (.ref (B 0)), some (.int (nI f)), some (.int (nI ws.length)), some (.int (nI e)), none, none, none, none] 24 []
    refine gh_iconst (v := nI 0) hK d_Md_formsOf_24 (by decide) ?_
    refine gh_istore (lv' := [some (.ref (B 0)), some (.int (nI f)), some (.int (nI ws.length)), some (.int (nI e)), some (.int (nI 0)), none, none, none]) hK d_Md_formsOf_25 (Nat.le_of_ble_eq_true rfl) rfl ?_
    refine gh_iconst (v := nI 0) hK d_Md_formsOf_27 (by decide) ?_
    refine gh_istore (lv' := [some (.ref (B 0)), some (.int (nI f)), some (.int (nI ws.length)), some (.int (nI e)), some (.int (nI 0)), some (.int (nI 0)), none, none]) hK d_Md_formsOf_28 (Nat.le_of_ble_eq_true rfl) rfl ?_
    exact lpP e x _ he (hm1 x (List.mem_of_getElem? he) hx) (us1.length + 1) 0 g_2 F mk [] 0 h_2 (fun _ _ => rfl) ⟨fun _ => 0, ⟨Nat.zero_le _, fun k hk => absurd hk (Nat.not_lt_zero _)⟩, fun k hk => absurd hk (Nat.not_lt_zero _)⟩ mm _ _ (by omega) (Nat.zero_le _) (Nat.zero_le _) rfl
  · show gh_W l G _ X g_1 0 0 [some (.ref (B 0)), some (.int (nI f)), some (.int (nI ws.length)), none, none, none, none, none] 18 [.int (-1)]
    refine gh_istore_n (lv' := [some (.ref (B 0)), some (.int (nI f)), some (.int (nI ws.length)), some (.int (-1)), none, none, none, none]) hK d_Md_formsOf_18 (Nat.le_of_ble_eq_true rfl) rfl ?_
    refine gh_aload_n hK d_Md_formsOf_19 rfl ?_
    refine gh_iconst (v := nI 0) hK d_Md_formsOf_20 (by decide) ?_
    refine gh_mput hK d_Md_formsOf_21 h 22 (mS cd ty ds.length fr tt (nxE tx tt ap) (nxS tx tt ap) (nxE tx tt ap) wr mk 0) rfl (by decide) kf_Md_205 rfl rfl rfl rfl (by decide) (fun g_3 h_3 mx => ?_)
    have mm := mm.tr mx
    show gh_W l G _ X g_3 0 0 [some (.ref (B 0)), some (.int (nI f)), some (.int (nI ws.length)), some (.int (-1)), none, none, none, none] 24 []
    refine gh_iconst (v := nI 0) hK d_Md_formsOf_24 (by decide) ?_
    refine gh_istore (lv' := [some (.ref (B 0)), some (.int (nI f)), some (.int (nI ws.length)), some (.int (-1)), some (.int (nI 0)), none, none, none]) hK d_Md_formsOf_25 (Nat.le_of_ble_eq_true rfl) rfl ?_
    refine gh_iconst (v := nI 0) hK d_Md_formsOf_27 (by decide) ?_
    refine gh_istore (lv' := [some (.ref (B 0)), some (.int (nI f)), some (.int (nI ws.length)), some (.int (-1)), some (.int (nI 0)), some (.int (nI 0)), none, none]) hK d_Md_formsOf_28 (Nat.le_of_ble_eq_true rfl) rfl ?_
    refine gh_iload hK d_Md_formsOf_30 rfl ?_
    refine gh_aload_n hK d_Md_formsOf_32 rfl ?_
    refine gh_get (v := .ref (B 6)) hK d_Md_formsOf_33 in_Md rfl h_3.1 10 (by decide) kf_Md_25 rfl rfl ?_
    refine gh_iconst (v := nI 0) hK d_Md_formsOf_36 (by decide) ?_
    refine gh_mald hK d_Md_formsOf_37 h_3 6 (by decide) (i := 0) (x := (nI us1.length)) (by show 0 < 2; omega) ec0 ?_
    refine gh_icmp_gtN hK d_Md_formsOf_38 (tgt := 159) (by decide) (by omega) (by omega) (fun q => by omega) (fun _ => ?_)
    refine gh_iload_n hK d_Md_formsOf_41 rfl ?_
    refine gh_iconst (v := (-1)) hK d_Md_formsOf_42 (by decide) ?_
    refine gh_icmp_eqO (b := none) hK d_Md_formsOf_43 (tgt := 159) (by decide) (fun i hi => by cases hi) (fun _ => ?_) (fun i q => by cases q)
    exact t159 g_3 F mk [] 0 h_3 (fun _ _ => rfl) ⟨fun _ => 0, ⟨Nat.zero_le _, fun k hk => absurd hk (Nat.not_lt_zero _)⟩, fun k hk => absurd hk (Nat.not_lt_zero _)⟩ mm _ _ _ _ _ (by rw [hm2 hno]; exact fun _ => Iff.rfl)
