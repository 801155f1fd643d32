def FmZ (F F1 : Nat → Nat → Int32) : Prop := ∀ j, j ≠ 10 → F1 j = F j
theorem FmZ.tr {F F1 F2 : Nat → Nat → Int32} (h : FmZ F F1) (h2 : FmZ F1 F2) : FmZ F F2 := fun j hj => (h2 j hj).trans (h j hj)
theorem FmZ.dc {F F1 : Nat → Nat → Int32} {ds : List (List Nat × Nat)} (h : FmZ F F1) (hD : DcA F ds) : DcA F1 ds := hD.eq (h 3 (by decide)) (h 4 (by decide)) (h 5 (by decide))
theorem FmZ.ro {F F1 : Nat → Nat → Int32} {fr : Bool} {op : Option Nat} {u : RuR} (h : FmZ F F1) (hU : RoA F fr op u) : RoA F1 fr op u := hU.eq (h 7 (by decide)) (h 8 (by decide)) (h 9 (by decide))
theorem FmZ.tx {F F1 : Nat → Nat → Int32} {tx : List Nat} (h : FmZ F F1) (ht : TxA F tx) : TxA F1 tx := ht.eq (h 1 (by decide))
theorem FmZ.rl {F F1 : Nat → Nat → Int32} {b : Nat} {us : List RuR} (h : FmZ F F1) (hR : RlA F b us) : RlA F1 b us := hR.eq (h 6 (by decide)) (h 7 (by decide)) (h 8 (by decide)) (h 9 (by decide))
/-- a word is right: an entry and two rules make it -/
def rgt (ds : List (List Nat × Nat)) (us1 us2 : List RuR) (w : List Nat) : Prop := ∃ x, x ∈ ds ∧ ∃ p, p ≤ us1.length ∧ ∃ s, s ≤ us2.length ∧ mkO (rl2 us1 p) (rl2 us2 s) x = some w
set_option maxRecDepth 20000 in
set_option maxHeartbeats 4000000 in
theorem c_Md_isRight (l : Launch) (G : GG) {ds : List (List Nat × Nat)} {us1 us2 : List RuR} {ws : List Nat} {f : Nat} {g : GH} {B : Nat → Nat} {cd ty fr tt ap fi en wr mk wd : Nat} {F : Nat → Nat → Int32} {o : List Nat × Nat} (h : Md G g B (mS cd ty ds.length fr tt ap fi en wr mk wd) F o) (hD : DcA F ds) (hR1 : RlA F 0 us1) (hR2 : RlA F 1 us2) (hw : sA (F 1) f ws) (hwl : f + ws.length ≤ 2048) : gMet l G y_Md_isRight b_Md_isRight 6 (some .boolean) (rmk 2 0 0 55) [.ref (B 0), .int (nI f), .int (nI ws.length)] g (fun v g' => ∃ (b : Bool) (mk' : Nat) (F' : Nat → Nat → Int32), v = some (.int (nI (bn b))) ∧ Md G g' B (mS cd ty ds.length fr tt ap fi en wr mk' wd) F' o ∧ FmZ F F' ∧ (b = true ↔ rgt ds us1 us2 ws) ∧ gh_M MDT g g') := by
  refine gMet.of [some (.ref (B 0)), some (.int (nI f)), some (.int (nI ws.length)), none, none, none] (by decide +kernel) rfl (Nat.le_of_ble_eq_true rfl) rfl (fun X hK hI hE => ?_)
  have mm : gh_M MDT g g := gh_M.rf
  have hdl := hD.1
  have hr1 := hR1.1
  have hr2 := hR2.1
  have ec0 := hR1.2.1
  have ec1 := hR2.2.1
  have lpS : ∀ (e p : Nat) (x : List Nat × Nat) (he : ds[e]? = some x) (hp : p ≤ us1.length) (kz : ∀ (g1 : GH) (F1 : Nat → Nat → Int32) (mk1 : Nat) (h : Md G g1 B (mS cd ty ds.length fr tt ap fi en wr mk1 wd) F1 o) (hF : FmZ F F1) (mm : gh_M MDT g g1) (v5 : Option Value), (∀ s, s ≤ us2.length → mkO (rl2 us1 p) (rl2 us2 s) x ≠ some ws) → gh_W l G (rmk 2 0 0 55) X g1 0 0 [some (.ref (B 0)), some (.int (nI f)), some (.int (nI ws.length)), some (.int (nI e)), some (.int (nI p)), v5] 85 []) (m s : Nat) (g1 : GH) (F1 : Nat → Nat → Int32) (mk1 : Nat) (h : Md G g1 B (mS cd ty ds.length fr tt ap fi en wr mk1 wd) F1 o) (hF : FmZ F F1) (mm : gh_M MDT g g1), s + m = us2.length + 1 → (∀ s', s' < s → mkO (rl2 us1 p) (rl2 us2 s') x ≠ some ws) → gh_W l G (rmk 2 0 0 55) X g1 0 0 [some (.ref (B 0)), some (.int (nI f)), some (.int (nI ws.length)), some (.int (nI e)), some (.int (nI p)), some (.int (nI s))] 27 [] := by
    intro e p x he hp kz m
    have hel : e < ds.length := (List.getElem?_eq_some_iff.mp he).1
    induction m with
    | zero =>
      intro s g1 F1 mk1 h hF mm hs hn
      refine gh_iload hK d_Md_isRight_27 rfl ?_
      refine gh_aload_n hK d_Md_isRight_29 rfl ?_
      refine gh_get (v := .ref (B 6)) hK d_Md_isRight_30 in_Md rfl h.1 10 (by decide) kf_Md_25 rfl rfl ?_
      refine gh_iconst (v := nI 1) hK d_Md_isRight_33 (by decide) ?_
      refine gh_mald hK d_Md_isRight_34 h 6 (by decide) (i := 1) (x := (nI us2.length)) (by show 1 < 2; omega) (by rw [hF 6 (by decide)]; exact ec1) ?_
      refine gh_icmp_gtN hK d_Md_isRight_35 (tgt := 85) (by decide) (by omega) (by omega) (fun _ => kz g1 F1 mk1 h hF mm _ (fun s' hs' => hn s' (by omega))) (fun q => by omega)
    | succ m ih =>
      intro s g1 F1 mk1 h hF mm hs hn
      refine gh_iload hK d_Md_isRight_27 rfl ?_
      refine gh_aload_n hK d_Md_isRight_29 rfl ?_
      refine gh_get (v := .ref (B 6)) hK d_Md_isRight_30 in_Md rfl h.1 10 (by decide) kf_Md_25 rfl rfl ?_
      refine gh_iconst (v := nI 1) hK d_Md_isRight_33 (by decide) ?_
      refine gh_mald hK d_Md_isRight_34 h 6 (by decide) (i := 1) (x := (nI us2.length)) (by show 1 < 2; omega) (by rw [hF 6 (by decide)]; exact ec1) ?_
      refine gh_icmp_gtN hK d_Md_isRight_35 (tgt := 85) (by decide) (by omega) (by omega) (fun q => by omega) (fun _ => ?_)
      refine gh_aload_n hK d_Md_isRight_38 rfl ?_
      refine gh_iload_n hK d_Md_isRight_39 rfl ?_
      refine gh_iload hK d_Md_isRight_40 rfl ?_
      refine gh_callS (rest := [.int (nI e), .ref (B 0)]) [.int (nI p)] hK (c_Md_prefix l G (g := g1) (p := p) (by omega)) Y_Md_prefix V_Md_prefix km_Md_120 rfl d_Md_isRight_42 rfl rfl (Nat.le_of_ble_eq_true rfl) ⟨(Nat.le_of_ble_eq_true rfl), (Nat.le_of_ble_eq_true rfl)⟩ ⟨(Nat.le_of_ble_eq_true rfl), (Nat.le_of_ble_eq_true rfl)⟩ (fun v gp_1 hp => ?_)
      obtain ⟨rfl, hgp⟩ := hp
      rw [hgp]
      show gh_W l G _ X g1 0 0 [some (.ref (B 0)), some (.int (nI f)), some (.int (nI ws.length)), some (.int (nI e)), some (.int (nI p)), some (.int (nI s))] 45 [.int (oI (pO 0 p)), .int (nI e), .ref (B 0)]
      refine gh_iload hK d_Md_isRight_45 rfl ?_
      refine gh_callS (rest := [.int (oI (pO 0 p)), .int (nI e), .ref (B 0)]) [.int (nI s)] hK (c_Md_suffix l G (g := g1) (p := s) (by omega)) Y_Md_suffix V_Md_suffix km_Md_124 rfl d_Md_isRight_47 rfl rfl (Nat.le_of_ble_eq_true rfl) ⟨(Nat.le_of_ble_eq_true rfl), (Nat.le_of_ble_eq_true rfl)⟩ ⟨(Nat.le_of_ble_eq_true rfl), (Nat.le_of_ble_eq_true rfl)⟩ (fun v gp_2 hp => ?_)
      obtain ⟨rfl, hgp⟩ := hp
      rw [hgp]
      show gh_W l G _ X g1 0 0 [some (.ref (B 0)), some (.int (nI f)), some (.int (nI ws.length)), some (.int (nI e)), some (.int (nI p)), some (.int (nI s))] 50 [.int (oI (pO 1 s)), .int (oI (pO 0 p)), .int (nI e), .ref (B 0)]
      refine gh_callV (rest := []) [.int (nI e), .int (oI (pO 0 p)), .int (oI (pO 1 s))] hK (c_Md_make l G h (hF.dc hD) he (hF.ro (hR1.ro0 (p := p) (by omega))) (hF.ro (hR2.ro1 (p := s) (by omega)))) Y_Md_make V_Md_make km_Md_127 h.1 rfl rfl d_Md_isRight_50 rfl rfl (Nat.le_of_ble_eq_true rfl) ⟨(Nat.le_of_ble_eq_true rfl), (Nat.le_of_ble_eq_true rfl)⟩ ⟨(Nat.le_of_ble_eq_true rfl), (Nat.le_of_ble_eq_true rfl)⟩ (fun v g_3 hp => ?_)
      obtain ⟨mk3, F3, rfl, h_3, hz3, hw3, mx⟩ := hp
      have mm := mm.tr mx
      have hF := hF.tr hz3
      show gh_W l G _ X g_3 0 0 [some (.ref (B 0)), some (.int (nI f)), some (.int (nI ws.length)), some (.int (nI e)), some (.int (nI p)), some (.int (nI s))] 53 [.int (nI (bn (mkO (rl2 us1 p) (rl2 us2 s) x).isSome))]
      refine gh_if_eqB hK d_Md_isRight_53 (tgt := 79) (by decide) (fun z => ?_) (fun z => ?_)
      · refine gh_incN (lv' := [some (.ref (B 0)), some (.int (nI f)), some (.int (nI ws.length)), some (.int (nI e)), some (.int (nI p)), some (.int (nI (s + 1)))]) hK d_Md_isRight_79 rfl rfl ?_
        refine gh_goto (tgt := 27) hK d_Md_isRight_82 (by decide) ?_
        exact ih (s + 1) g_3 F3 mk3 h_3 hF mm (by omega) (fun s' hs' => by
          by_cases q : s' = s
          · rw [q]; intro q2; rw [q2] at z; cases z
          · exact hn s' (by omega))
      obtain ⟨wd, hwd⟩ := Option.isSome_iff_exists.mp z
      obtain ⟨ew, hsa, hl28⟩ := hw3 wd hwd
      subst ew
      show gh_W l G _ X g_3 0 0 [some (.ref (B 0)), some (.int (nI f)), some (.int (nI ws.length)), some (.int (nI e)), some (.int (nI p)), some (.int (nI s))] 56 []
      refine gh_aload_n hK d_Md_isRight_56 rfl ?_
      refine gh_get (v := .ref (B 10)) hK d_Md_isRight_57 in_Md rfl h_3.1 21 (by decide) kf_Md_37 rfl rfl ?_
      refine gh_iconst (v := nI 0) hK d_Md_isRight_60 (by decide) ?_
      refine gh_aload_n hK d_Md_isRight_61 rfl ?_
      refine gh_get (v := .int (nI wd.length)) hK d_Md_isRight_62 in_Md rfl h_3.1 20 (by decide) kf_Md_117 rfl rfl ?_
      refine gh_aload_n hK d_Md_isRight_65 rfl ?_
      refine gh_get (v := .ref (B 1)) hK d_Md_isRight_66 in_Md rfl h_3.1 2 (by decide) kf_Md_7 rfl rfl ?_
      refine gh_iload_n hK d_Md_isRight_69 rfl ?_
      refine gh_iload_n hK d_Md_isRight_70 rfl ?_
      refine gh_callS (rest := []) [.ref (B 10), .int (nI 0), .int (nI wd.length), .ref (B 1), .int (nI f), .int (nI ws.length)] hK (c_Md_compare l G h_3 (ja := 10) (jb := 1) (by decide) (by decide) hsa (by rw [hF 1 (by decide)]; exact hw) (by show 0 + _ ≤ 64; omega) hwl) Y_Md_compare V_Md_compare km_Md_109 rfl d_Md_isRight_71 rfl rfl (Nat.le_of_ble_eq_true rfl) ⟨(Nat.le_of_ble_eq_true rfl), (Nat.le_of_ble_eq_true rfl)⟩ ⟨(Nat.le_of_ble_eq_true rfl), (Nat.le_of_ble_eq_true rfl)⟩ (fun v gp_4 hp => ?_)
      obtain ⟨r4, rfl, hr4, hgp⟩ := hp
      rw [hgp]
      show gh_W l G _ X g_3 0 0 [some (.ref (B 0)), some (.int (nI f)), some (.int (nI ws.length)), some (.int (nI e)), some (.int (nI p)), some (.int (nI s))] 74 [.int r4]
      refine gh_if_neC hr4 hK d_Md_isRight_74 (tgt := 79) (by decide) (fun z2 => ?_) (fun z2 => ?_)
      · refine gh_incN (lv' := [some (.ref (B 0)), some (.int (nI f)), some (.int (nI ws.length)), some (.int (nI e)), some (.int (nI p)), some (.int (nI (s + 1)))]) hK d_Md_isRight_79 rfl rfl ?_
        refine gh_goto (tgt := 27) hK d_Md_isRight_82 (by decide) ?_
        exact ih (s + 1) g_3 F3 wd.length h_3 hF mm (by omega) (fun s' hs' => by
          by_cases q : s' = s
          · rw [q]; rw [hwd]; intro q2; cases q2; exact z2 (cmpL_self _)
          · exact hn s' (by omega))
      refine gh_iconst (v := nI 1) hK d_Md_isRight_77 (by decide) ?_
      exact gh_zret (by decide) hK hE d_Md_isRight_78 (Nat.le_of_ble_eq_true rfl) (Nat.le_of_ble_eq_true rfl) ⟨true, _, _, rfl, h_3, hF, ⟨fun _ => ⟨x, List.mem_of_getElem? he, p, hp, s, by omega, by rw [hwd, (cmpL_zero _ _).mp z2]⟩, fun _ => rfl⟩, mm⟩
  have lpP : ∀ (e : Nat) (x : List Nat × Nat) (he : ds[e]? = some x) (kz : ∀ (g1 : GH) (F1 : Nat → Nat → Int32) (mk1 : Nat) (h : Md G g1 B (mS cd ty ds.length fr tt ap fi en wr mk1 wd) F1 o) (hF : FmZ F F1) (mm : gh_M MDT g g1) (v4 v5 : Option Value), (∀ p, p ≤ us1.length → ∀ s, s ≤ us2.length → mkO (rl2 us1 p) (rl2 us2 s) x ≠ some ws) → gh_W l G (rmk 2 0 0 55) X g1 0 0 [some (.ref (B 0)), some (.int (nI f)), some (.int (nI ws.length)), some (.int (nI e)), v4, v5] 91 []) (m p : Nat) (g1 : GH) (F1 : Nat → Nat → Int32) (mk1 : Nat) (h : Md G g1 B (mS cd ty ds.length fr tt ap fi en wr mk1 wd) F1 o) (hF : FmZ F F1) (mm : gh_M MDT g g1) (v5 : Option Value), p + m = us1.length + 1 → (∀ p', p' < p → ∀ s, s ≤ us2.length → mkO (rl2 us1 p') (rl2 us2 s) x ≠ some ws) → gh_W l G (rmk 2 0 0 55) X g1 0 0 [some (.ref (B 0)), some (.int (nI f)), some (.int (nI ws.length)), some (.int (nI e)), some (.int (nI p)), v5] 13 [] := by
    intro e x he kz m
    induction m with
    | zero =>
      intro p g1 F1 mk1 h hF mm v5 hs hn
      refine gh_iload hK d_Md_isRight_13 rfl ?_
      refine gh_aload_n hK d_Md_isRight_15 rfl ?_
      refine gh_get (v := .ref (B 6)) hK d_Md_isRight_16 in_Md rfl h.1 10 (by decide) kf_Md_25 rfl rfl ?_
      refine gh_iconst (v := nI 0) hK d_Md_isRight_19 (by decide) ?_
      refine gh_mald hK d_Md_isRight_20 h 6 (by decide) (i := 0) (x := (nI us1.length)) (by show 0 < 2; omega) (by rw [hF 6 (by decide)]; exact ec0) ?_
      refine gh_icmp_gtN hK d_Md_isRight_21 (tgt := 91) (by decide) (by omega) (by omega) (fun _ => kz g1 F1 mk1 h hF mm _ _ (fun p' hp' => hn p' (by omega))) (fun q => by omega)
    | succ m ih =>
      intro p g1 F1 mk1 h hF mm v5 hs hn
      refine gh_iload hK d_Md_isRight_13 rfl ?_
      refine gh_aload_n hK d_Md_isRight_15 rfl ?_
      refine gh_get (v := .ref (B 6)) hK d_Md_isRight_16 in_Md rfl h.1 10 (by decide) kf_Md_25 rfl rfl ?_
      refine gh_iconst (v := nI 0) hK d_Md_isRight_19 (by decide) ?_
      refine gh_mald hK d_Md_isRight_20 h 6 (by decide) (i := 0) (x := (nI us1.length)) (by show 0 < 2; omega) (by rw [hF 6 (by decide)]; exact ec0) ?_
      refine gh_icmp_gtN hK d_Md_isRight_21 (tgt := 91) (by decide) (by omega) (by omega) (fun q => by omega) (fun _ => ?_)
      refine gh_iconst (v := nI 0) hK d_Md_isRight_24 (by decide) ?_
      refine gh_istore (lv' := [some (.ref (B 0)), some (.int (nI f)), some (.int (nI ws.length)), some (.int (nI e)), some (.int (nI p)), some (.int (nI 0))]) hK d_Md_isRight_25 (Nat.le_of_ble_eq_true rfl) rfl ?_
      refine lpS e p x he (by omega) (fun g1 F1 mk1 h hF mm v5 hno => ?_) (us2.length + 1) 0 g1 F1 mk1 h hF mm (by omega) (fun s' hs' => absurd hs' (Nat.not_lt_zero _))
      refine gh_incN (lv' := [some (.ref (B 0)), some (.int (nI f)), some (.int (nI ws.length)), some (.int (nI e)), some (.int (nI (p + 1))), v5]) hK d_Md_isRight_85 rfl rfl ?_
      refine gh_goto (tgt := 13) hK d_Md_isRight_88 (by decide) ?_
      exact ih (p + 1) g1 F1 mk1 h hF mm _ (by omega) (fun p' hp' => by
        by_cases q : p' = p
        · rw [q]; exact hno
        · exact hn p' (by omega))
  have lpE : ∀ (m e : Nat) (g1 : GH) (F1 : Nat → Nat → Int32) (mk1 : Nat) (h : Md G g1 B (mS cd ty ds.length fr tt ap fi en wr mk1 wd) F1 o) (hF : FmZ F F1) (mm : gh_M MDT g g1) (v4 v5 : Option Value), e + m = ds.length → (∀ i x, i < e → ds[i]? = some x → ∀ p, p ≤ us1.length → ∀ s, s ≤ us2.length → mkO (rl2 us1 p) (rl2 us2 s) x ≠ some ws) → gh_W l G (rmk 2 0 0 55) X g1 0 0 [some (.ref (B 0)), some (.int (nI f)), some (.int (nI ws.length)), some (.int (nI e)), v4, v5] 2 [] := by
    intro m
    induction m with
    | zero =>
      intro e g1 F1 mk1 h hF mm v4 v5 hs hn
      refine gh_iload_n hK d_Md_isRight_2 rfl ?_
      refine gh_aload_n hK d_Md_isRight_3 rfl ?_
      refine gh_get (v := .int (nI ds.length)) hK d_Md_isRight_4 in_Md rfl h.1 6 (by decide) kf_Md_106 rfl rfl ?_
      refine gh_icmp_geN hK d_Md_isRight_7 (tgt := 97) (by decide) (by omega) (by omega) (fun _ => ?_) (fun q => by omega)
      refine gh_iconst (v := nI 0) hK d_Md_isRight_97 (by decide) ?_
      refine gh_zret (by decide) hK hE d_Md_isRight_98 (Nat.le_of_ble_eq_true rfl) (Nat.le_of_ble_eq_true rfl) ⟨false, _, _, rfl, h, hF, ⟨fun q => (by cases q), fun q => ?_⟩, mm⟩
      obtain ⟨x, hx, p, hp, s, hs2, q⟩ := q
      obtain ⟨i, hi, e2⟩ := List.getElem_of_mem hx
      exact absurd q (hn i x (by omega) (by rw [List.getElem?_eq_getElem hi, e2]) p hp s hs2)
    | succ m ih =>
      intro e g1 F1 mk1 h hF mm v4 v5 hs hn
      refine gh_iload_n hK d_Md_isRight_2 rfl ?_
      refine gh_aload_n hK d_Md_isRight_3 rfl ?_
      refine gh_get (v := .int (nI ds.length)) hK d_Md_isRight_4 in_Md rfl h.1 6 (by decide) kf_Md_106 rfl rfl ?_
      refine gh_icmp_geN hK d_Md_isRight_7 (tgt := 97) (by decide) (by omega) (by omega) (fun q => by omega) (fun _ => ?_)
      refine gh_iconst (v := nI 0) hK d_Md_isRight_10 (by decide) ?_
      refine gh_istore (lv' := [some (.ref (B 0)), some (.int (nI f)), some (.int (nI ws.length)), some (.int (nI e)), some (.int (nI 0)), v5]) hK d_Md_isRight_11 (Nat.le_of_ble_eq_true rfl) rfl ?_
      refine lpP e _ (List.getElem?_eq_getElem (show e < ds.length by omega)) (fun g1 F1 mk1 h hF mm v4 v5 hno => ?_) (us1.length + 1) 0 g1 F1 mk1 h hF mm _ (by omega) (fun s' hs' => absurd hs' (Nat.not_lt_zero _))
      refine gh_incN (lv' := [some (.ref (B 0)), some (.int (nI f)), some (.int (nI ws.length)), some (.int (nI (e + 1))), v4, v5]) hK d_Md_isRight_91 rfl rfl ?_
      refine gh_goto (tgt := 2) hK d_Md_isRight_94 (by decide) ?_
      exact ih (e + 1) g1 F1 mk1 h hF mm _ _ (by omega) (fun i x hi hx => by
        by_cases q : i = e
        · rw [q, List.getElem?_eq_getElem (show e < ds.length by omega)] at hx; cases hx; exact hno
        · exact hn i x (by omega) hx)
  refine gh_iconst (v := nI 0) hK d_Md_isRight_0 (by decide) ?_
  refine gh_istore_n (lv' := [some (.ref (B 0)), some (.int (nI f)), some (.int (nI ws.length)), some (.int (nI 0)), none, none]) hK d_Md_isRight_1 (Nat.le_of_ble_eq_true rfl) rfl ?_
  exact lpE ds.length 0 g F mk h (fun _ _ => rfl) mm _ _ (by omega) (fun i x hi => absurd hi (Nat.not_lt_zero _))
