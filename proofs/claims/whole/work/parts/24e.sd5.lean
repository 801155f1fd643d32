theorem SDr.fm {G : GG} {g g' : GH} {A : Nat → Nat} {es : List (Nat × List Nat × Nat)} {us1 us2 : List (Nat × RuR)} {tx fx : List Nat} {fp : List (Nat × Nat)} (h : SDr G g A es us1 us2 tx) (hM : gh_M [34, 35, 36, 37, 38] g g') (hm : FmI G g' A fx fp) : SDr G g' A es us1 us2 tx := by
  obtain ⟨⟨k1, ⟨ws, k2⟩, -, ⟨ps, k4⟩⟩, h2, h3⟩ := h
  exact ⟨⟨hM _ 0 _ k1 (by decide), ⟨ws, k2.M hM (by decide)⟩, ⟨fx, fp, hm⟩, ⟨ps, k4.M hM (by decide) (by decide) (by decide)⟩⟩, h2.M hM (by decide), h3⟩
def frW (es : List (Nat × List Nat × Nat)) (us1 us2 : List (Nat × RuR)) (w : List Nat) : List (List Nat) := match es[rnkL w (dws es)]? with
  | some x => if x.2.1 = w then fmO us1 us2 w x.2.2 (us1.length + 1) 0 [] else []
  | none => []
theorem frW_no {es : List (Nat × List Nat × Nat)} {us1 us2 : List (Nat × RuR)} {w : List Nat} (hs : srtL (dws es)) (h : w ∉ dws es) : frW es us1 us2 w = [] := by
  have k := fnd_no hs h
  unfold frW
  cases hx : es[rnkL w (dws es)]? with
  | none => rfl
  | some x => exact if_neg (k x hx)
theorem frW_yes {es : List (Nat × List Nat × Nat)} {us1 us2 : List (Nat × RuR)} {w : List Nat} {x : Nat × List Nat × Nat} (hx : es[rnkL w (dws es)]? = some x) (h : x.2.1 = w) : frW es us1 us2 w = fmO us1 us2 x.2.1 x.2.2 (us1.length + 1) 0 [] := by
  unfold frW
  rw [hx, h]
  exact if_pos h
set_option maxRecDepth 20000 in
set_option maxHeartbeats 4000000 in
theorem c_SD_doForms (l : Launch) (G : GG) {g : GH} {A : Nat → Nat} {es : List (Nat × List Nat × Nat)} {us1 us2 : List (Nat × RuR)} {tx : List Nat} {o : List Nat × Nat} {ls le s e wf wl : Nat} (h : SDr G g A es us1 us2 tx) (hP : Pr G g (A 4) (A 5) (A 6) o 0) (hL : Ln g (A 3) (A 1) ls le s e wf wl) (he : e ≤ le) (hle : le ≤ tx.length) : gMet l G y_SD_doForms b_SD_doForms 5 (some .boolean) (rmk 5 0 0 141) [.ref (A 0)] g (DoP G A tx ls le g (owO tx 16 le e) (owS tx 16 le e) es us1 us2 (if (owO tx 16 le e) = true then prs o (jnI (frW es us1 us2 (nxW tx le e))) else o)) := by
  refine gMet.of [some (.ref (A 0)), none, none, none, none] (by decide +kernel) rfl (Nat.le_of_ble_eq_true rfl) rfl (fun X hK hI hE => ?_)
  refine gh_aload_n hK d_SD_doForms_0 rfl ?_
  refine gh_get hK d_SD_doForms_1 in_SD rfl h.1.1 1 (by decide) kf_SD_23 rfl rfl ?_
  refine gh_bipush (v := nI 16) hK d_SD_doForms_4 (by decide) ?_
  refine gh_callV (rest := []) [.int (nI 16)] hK (c_Ln_nextIsOnlyWord l G hL h.2.1.2.2.2 (k := 16) he hle (by decide)) Y_Ln_nextIsOnlyWord V_Ln_nextIsOnlyWord km_SD_228 hL rfl rfl d_SD_doForms_6 rfl rfl (Nat.le_of_ble_eq_true rfl) ⟨(Nat.le_of_ble_eq_true rfl), (Nat.le_of_ble_eq_true rfl)⟩ ⟨(Nat.le_of_ble_eq_true rfl), (Nat.le_of_ble_eq_true rfl)⟩ (fun v g1 hp => ?_)
  obtain ⟨rfl, hl1, hlN⟩ := hp
  show gh_W l G _ X g1 _ _ [some (.ref (A 0)), none, none, none, none] 9 [.int (nI (bn (owO tx 16 le e)))]
  have hM1 := hL.toM hlN
  have h1 := h.M hM1 (by decide)
  have hP1 := hP.M hM1 (by decide) (by decide) (by decide)
  obtain ⟨b1, b2⟩ := nxS_le (tx := tx) he
  obtain ⟨b3, b4⟩ := nxE_le (tx := tx) he
  refine gh_if_neB hK d_SD_doForms_9 (tgt := 14) (by decide) (fun z => ?_) (fun z => ?_)
  · simp only [z, ↓reduceIte] at hE
    obtain ⟨w1, w2, w3, w4, w5⟩ := ow_true (wf := wf) (wl := wl) z
    rw [w2, w3] at hl1
    have hfl : nxS tx le e + (nxE tx le e - nxS tx le e) ≤ tx.length := by omega
    refine gh_aload_n hK d_SD_doForms_14 rfl ?_
    refine gh_get hK d_SD_doForms_15 in_SD rfl h1.1.1 3 (by decide) kf_SD_37 rfl rfl ?_
    refine gh_aload_n hK d_SD_doForms_18 rfl ?_
    refine gh_get hK d_SD_doForms_19 in_SD rfl h1.1.1 0 (by decide) kf_SD_14 rfl rfl ?_
    refine gh_aload_n hK d_SD_doForms_22 rfl ?_
    refine gh_get hK d_SD_doForms_23 in_SD rfl h1.1.1 1 (by decide) kf_SD_23 rfl rfl ?_
    refine gh_callV (rest := [.ref (A 1), .ref (A 7)]) [] hK (c_Ln_wordFrom l G hl1) Y_Ln_wordFrom V_Ln_wordFrom km_SD_232 hl1 rfl rfl d_SD_doForms_26 rfl rfl (Nat.le_of_ble_eq_true rfl) ⟨(Nat.le_of_ble_eq_true rfl), (Nat.le_of_ble_eq_true rfl)⟩ ⟨(Nat.le_of_ble_eq_true rfl), (Nat.le_of_ble_eq_true rfl)⟩ (fun v g' hp => ?_)
    rw [hp.1, hp.2]
    show gh_W l G _ X g1 _ _ [some (.ref (A 0)), none, none, none, none] 29 [.int (nI (nxS tx le e)), .ref (A 1), .ref (A 7)]
    refine gh_aload_n hK d_SD_doForms_29 rfl ?_
    refine gh_get hK d_SD_doForms_30 in_SD rfl h1.1.1 1 (by decide) kf_SD_23 rfl rfl ?_
    refine gh_callV (rest := [.int (nI (nxS tx le e)), .ref (A 1), .ref (A 7)]) [] hK (c_Ln_wordLength l G hl1) Y_Ln_wordLength V_Ln_wordLength km_SD_235 hl1 rfl rfl d_SD_doForms_33 rfl rfl (Nat.le_of_ble_eq_true rfl) ⟨(Nat.le_of_ble_eq_true rfl), (Nat.le_of_ble_eq_true rfl)⟩ ⟨(Nat.le_of_ble_eq_true rfl), (Nat.le_of_ble_eq_true rfl)⟩ (fun v g' hp => ?_)
    rw [hp.1, hp.2]
    show gh_W l G _ X g1 _ _ [some (.ref (A 0)), none, none, none, none] 36 [.int (nI (nxE tx le e - nxS tx le e)), .int (nI (nxS tx le e)), .ref (A 1), .ref (A 7)]
    refine gh_callV (rest := []) [.ref (A 1), .int (nI (nxS tx le e)), .int (nI (nxE tx le e - nxS tx le e))] hK (c_Dc_rankOf l G h1.2.1.1 h1.2.2.1.1 h1.2.1.2.2.2 (fr := nxS tx le e) (len := nxE tx le e - nxS tx le e) hfl) Y_Dc_rankOf V_Dc_rankOf km_SD_200 h1.2.1.1.1 rfl rfl d_SD_doForms_36 rfl rfl (Nat.le_of_ble_eq_true rfl) ⟨(Nat.le_of_ble_eq_true rfl), (Nat.le_of_ble_eq_true rfl)⟩ ⟨(Nat.le_of_ble_eq_true rfl), (Nat.le_of_ble_eq_true rfl)⟩ (fun v g' hp => ?_)
    rw [hp.1, hp.2]
    show gh_W l G _ X g1 _ _ [some (.ref (A 0)), none, none, none, none] 39 [.int (nI (rnkL (nxW tx le e) (dws es)))]
    refine gh_istore_n (lv' := [some (.ref (A 0)), some (.int (nI (rnkL (nxW tx le e) (dws es)))), none, none, none]) hK d_SD_doForms_39 (Nat.le_of_ble_eq_true rfl) rfl ?_
    refine gh_aload_n hK d_SD_doForms_40 rfl ?_
    refine gh_get hK d_SD_doForms_41 in_SD rfl h1.1.1 3 (by decide) kf_SD_37 rfl rfl ?_
    refine gh_iload_n hK d_SD_doForms_44 rfl ?_
    refine gh_aload_n hK d_SD_doForms_45 rfl ?_
    refine gh_get hK d_SD_doForms_46 in_SD rfl h1.1.1 0 (by decide) kf_SD_14 rfl rfl ?_
    refine gh_aload_n hK d_SD_doForms_49 rfl ?_
    refine gh_get hK d_SD_doForms_50 in_SD rfl h1.1.1 1 (by decide) kf_SD_23 rfl rfl ?_
    refine gh_callV (rest := [.ref (A 1), .int (nI (rnkL (nxW tx le e) (dws es))), .ref (A 7)]) [] hK (c_Ln_wordFrom l G hl1) Y_Ln_wordFrom V_Ln_wordFrom km_SD_232 hl1 rfl rfl d_SD_doForms_53 rfl rfl (Nat.le_of_ble_eq_true rfl) ⟨(Nat.le_of_ble_eq_true rfl), (Nat.le_of_ble_eq_true rfl)⟩ ⟨(Nat.le_of_ble_eq_true rfl), (Nat.le_of_ble_eq_true rfl)⟩ (fun v g' hp => ?_)
    rw [hp.1, hp.2]
    show gh_W l G _ X g1 _ _ [some (.ref (A 0)), some (.int (nI (rnkL (nxW tx le e) (dws es)))), none, none, none] 56 [.int (nI (nxS tx le e)), .ref (A 1), .int (nI (rnkL (nxW tx le e) (dws es))), .ref (A 7)]
    refine gh_aload_n hK d_SD_doForms_56 rfl ?_
    refine gh_get hK d_SD_doForms_57 in_SD rfl h1.1.1 1 (by decide) kf_SD_23 rfl rfl ?_
    refine gh_callV (rest := [.int (nI (nxS tx le e)), .ref (A 1), .int (nI (rnkL (nxW tx le e) (dws es))), .ref (A 7)]) [] hK (c_Ln_wordLength l G hl1) Y_Ln_wordLength V_Ln_wordLength km_SD_235 hl1 rfl rfl d_SD_doForms_60 rfl rfl (Nat.le_of_ble_eq_true rfl) ⟨(Nat.le_of_ble_eq_true rfl), (Nat.le_of_ble_eq_true rfl)⟩ ⟨(Nat.le_of_ble_eq_true rfl), (Nat.le_of_ble_eq_true rfl)⟩ (fun v g' hp => ?_)
    rw [hp.1, hp.2]
    show gh_W l G _ X g1 _ _ [some (.ref (A 0)), some (.int (nI (rnkL (nxW tx le e) (dws es)))), none, none, none] 63 [.int (nI (nxE tx le e - nxS tx le e)), .int (nI (nxS tx le e)), .ref (A 1), .int (nI (rnkL (nxW tx le e) (dws es))), .ref (A 7)]
    have hrk := rnkd_le es (nxW tx le e)
    have hes := h1.2.2.1.2.1
    have fin : ∀ (it2 : Nat) (g2 : GH) (o2 : List Nat × Nat) (v2 v3 v4 : Option Value), it2 ≤ 300 → SDr G g2 A es us1 us2 tx → Pr G g2 (A 4) (A 5) (A 6) o2 it2 → gh_M [4, 5, 6, 34, 35, 36, 37, 38] g1 g2 → (if it2 = 0 then prt o2 45 else o2) = prs o (jnI (frW es us1 us2 (nxW tx le e))) → gh_W l G (rmk 5 0 0 141) X g2 0 0 [some (.ref (A 0)), some (.int (nI (rnkL (nxW tx le e) (dws es)))), v2, v3, v4] 121 [] := by
      intro it2 g2 o2 v2 v3 v4 hit h2 hP2 m2 hF
      refine gh_aload_n hK d_SD_doForms_121 rfl ?_
      refine gh_get hK d_SD_doForms_122 in_SD rfl h2.1.1 2 (by decide) kf_SD_30 rfl rfl ?_
      refine gh_callV (rest := []) [] hK (c_Pr_endItems l G hP2 (by omega)) Y_Pr_endItems V_Pr_endItems km_SD_294 hP2.1 rfl rfl d_SD_doForms_125 rfl rfl (Nat.le_of_ble_eq_true rfl) ⟨(Nat.le_of_ble_eq_true rfl), (Nat.le_of_ble_eq_true rfl)⟩ ⟨(Nat.le_of_ble_eq_true rfl), (Nat.le_of_ble_eq_true rfl)⟩ (fun v g3 hp => ?_)
      obtain ⟨rfl, hq1, hq2⟩ := hp
      show gh_W l G _ X g3 _ _ [some (.ref (A 0)), some (.int (nI (rnkL (nxW tx le e) (dws es)))), v2, v3, v4] 128 []
      refine gh_iconst (v := nI 1) hK d_SD_doForms_128 (by decide) ?_
      have m3 := hP2.toM hq2
      rw [hF] at hq1
      exact gh_zret rfl hK hE d_SD_doForms_129 (Nat.le_of_ble_eq_true rfl) (Nat.le_of_ble_eq_true rfl) ⟨rfl, ⟨_, _, _, _, (hl1.M m2 (by decide)).M m3 (by decide), fun q => by cases q⟩, h2.M m3 (by decide), ⟨_, hq1⟩, ((hM1.wd (by decide)).tr (m2.wd (by decide))).tr (m3.wd (by decide))⟩
    by_cases hq : (nxW tx le e) ∈ dws es
    · obtain ⟨x, x1, x2⟩ := fnd_yes h1.2.2.1.1 hq
      rw [frW_yes x1 x2] at fin
      refine gh_callV (rest := []) [.int (nI (rnkL (nxW tx le e) (dws es))), .ref (A 1), .int (nI (nxS tx le e)), .int (nI (nxE tx le e - nxS tx le e))] hK (c_Dc_atW l G h1.2.1.1 (j := rnkL (nxW tx le e) (dws es)) (by omega) h1.2.1.2.2.2 (fr := nxS tx le e) (len := nxE tx le e - nxS tx le e) hfl) Y_Dc_at V_Dc_at km_SD_204 h1.2.1.1.1 rfl rfl d_SD_doForms_63 rfl rfl (Nat.le_of_ble_eq_true rfl) ⟨(Nat.le_of_ble_eq_true rfl), (Nat.le_of_ble_eq_true rfl)⟩ ⟨(Nat.le_of_ble_eq_true rfl), (Nat.le_of_ble_eq_true rfl)⟩ (fun v g' hp => ?_)
      rw [hp.1 x x1 x2, hp.2.2]
      show gh_W l G _ X g1 _ _ [some (.ref (A 0)), some (.int (nI (rnkL (nxW tx le e) (dws es)))), none, none, none] 66 [.ref x.1]
      refine gh_astore_n (lv' := [some (.ref (A 0)), some (.int (nI (rnkL (nxW tx le e) (dws es)))), some (.ref x.1), none, none]) hK d_SD_doForms_66 (Nat.le_of_ble_eq_true rfl) rfl ?_
      refine gh_aload_n hK d_SD_doForms_67 rfl ?_
      refine gh_ifnull hK d_SD_doForms_68 ?_
      refine gh_aload_n hK d_SD_doForms_71 rfl ?_
      refine gh_get hK d_SD_doForms_72 in_SD rfl h1.1.1 6 (by decide) kf_SD_58 rfl rfl ?_
      refine gh_aload_n hK d_SD_doForms_75 rfl ?_
      have hxm := List.mem_of_getElem? x1
      have hen := h1.2.1.1.2.2 x hxm
      obtain ⟨ws0, hws0⟩ := h1.1.2.1
      obtain ⟨fx0, fp0, hfm0⟩ := h1.1.2.2.1
      refine gh_callV (rest := []) [.ref x.1] hK (c_Sp_formsOf l G hws0.1 hfm0 h1.2.1 h1.2.2.1 h1.2.2.2.1 h1.2.2.2.2.1 hen (h1.2.2.2.2.2 x hxm) (h1.2.2.1.2.2.2.2.1 x hxm)) Y_Sp_formsOf V_Sp_formsOf km_SD_332 hws0.1 rfl rfl d_SD_doForms_76 rfl rfl (Nat.le_of_ble_eq_true rfl) ⟨(Nat.le_of_ble_eq_true rfl), (Nat.le_of_ble_eq_true rfl)⟩ ⟨(Nat.le_of_ble_eq_true rfl), (Nat.le_of_ble_eq_true rfl)⟩ (fun v g2 hp => ?_)
      obtain ⟨rfl, fx, fp, f1, f2, f3, f4, f5⟩ := hp
      show gh_W l G _ X g2 _ _ [some (.ref (A 0)), some (.int (nI (rnkL (nxW tx le e) (dws es)))), some (.ref x.1), none, none] 79 [.ref (A 36)]
      refine gh_astore_n (lv' := [some (.ref (A 0)), some (.int (nI (rnkL (nxW tx le e) (dws es)))), some (.ref x.1), some (.ref (A 36)), none]) hK d_SD_doForms_79 (Nat.le_of_ble_eq_true rfl) rfl ?_
      refine gh_iconst (v := nI 0) hK d_SD_doForms_80 (by decide) ?_
      refine gh_istore (lv' := [some (.ref (A 0)), some (.int (nI (rnkL (nxW tx le e) (dws es)))), some (.ref x.1), some (.ref (A 36)), some (.int (nI 0))]) hK d_SD_doForms_81 (Nat.le_of_ble_eq_true rfl) rfl ?_
      rw [← f4] at fin
      have h2 := h1.fm f5 f1
      have hP2 := hP1.M f5 (by decide) (by decide) (by decide)
      have loop : ∀ (m i : Nat) (g3 : GH) (o2 : List Nat × Nat), i + m = fp.length → Pr G g3 (A 4) (A 5) (A 6) o2 i → gh_M [4, 5, 6] g2 g3 → (if i + (wls fx (fp.drop i)).length = 0 then prt (itL o2 i (wls fx (fp.drop i))) 45 else itL o2 i (wls fx (fp.drop i))) = prs o (jnI (wls fx fp)) → gh_W l G (rmk 5 0 0 141) X g3 0 0 [some (.ref (A 0)), some (.int (nI (rnkL (nxW tx le e) (dws es)))), some (.ref x.1), some (.ref (A 36)), some (.int (nI i))] 83 [] := by
        intro m
        induction m with
        | zero =>
          intro i g3 o2 hi hP3 m3 hF
          have k1 := f1.M m3 (by decide)
          have hdr : fp.drop i = [] := List.drop_eq_nil_of_le (by omega)
          rw [hdr] at hF
          refine gh_iload hK d_SD_doForms_83 rfl ?_
          refine gh_aload_n hK d_SD_doForms_85 rfl ?_
          refine gh_callV (rest := [.int (nI i)]) [] hK (c_Wl_count l G k1.2.1) Y_Wl_count V_Wl_count km_SD_279 k1.2.1.ob rfl rfl d_SD_doForms_86 rfl rfl (Nat.le_of_ble_eq_true rfl) ⟨(Nat.le_of_ble_eq_true rfl), (Nat.le_of_ble_eq_true rfl)⟩ ⟨(Nat.le_of_ble_eq_true rfl), (Nat.le_of_ble_eq_true rfl)⟩ (fun v g' hp => ?_)
          rw [hp.1, hp.2]
          show gh_W l G _ X g3 _ _ [some (.ref (A 0)), some (.int (nI (rnkL (nxW tx le e) (dws es)))), some (.ref x.1), some (.ref (A 36)), some (.int (nI i))] 89 [.int (nI fp.length), .int (nI i)]
          refine gh_icmp_geN hK d_SD_doForms_89 (tgt := 121) (by decide) (by omega) (by omega) (fun z => ?_) (fun z => absurd z (by omega))
          exact fin i g3 o2 _ _ _ (by omega) (h2.M m3 (by decide)) hP3 ((f5.wd (by decide)).tr (m3.wd (by decide))) hF
        | succ m ih =>
          intro i g3 o2 hi hP3 m3 hF
          have k1 := f1.M m3 (by decide)
          have h3 := h2.M m3 (by decide)
          obtain ⟨p, hpx⟩ : ∃ p, fp[i]? = some p := ⟨fp[i], List.getElem?_eq_getElem (by omega)⟩
          have hdr : fp.drop i = p :: fp.drop (i + 1) := by
            rw [List.drop_eq_getElem_cons (by omega)]
            rw [List.getElem?_eq_getElem (by omega)] at hpx
            rw [Option.some.inj hpx]
          have hpl := k1.2.2.1 p (List.mem_of_getElem? hpx)
          rw [hdr, show wls fx (p :: fp.drop (i + 1)) = (fx.drop p.1).take p.2 :: wls fx (fp.drop (i + 1)) from rfl, List.length_cons, itL] at hF
          refine gh_iload hK d_SD_doForms_83 rfl ?_
          refine gh_aload_n hK d_SD_doForms_85 rfl ?_
          refine gh_callV (rest := [.int (nI i)]) [] hK (c_Wl_count l G k1.2.1) Y_Wl_count V_Wl_count km_SD_279 k1.2.1.ob rfl rfl d_SD_doForms_86 rfl rfl (Nat.le_of_ble_eq_true rfl) ⟨(Nat.le_of_ble_eq_true rfl), (Nat.le_of_ble_eq_true rfl)⟩ ⟨(Nat.le_of_ble_eq_true rfl), (Nat.le_of_ble_eq_true rfl)⟩ (fun v g' hp => ?_)
          rw [hp.1, hp.2]
          show gh_W l G _ X g3 _ _ [some (.ref (A 0)), some (.int (nI (rnkL (nxW tx le e) (dws es)))), some (.ref x.1), some (.ref (A 36)), some (.int (nI i))] 89 [.int (nI fp.length), .int (nI i)]
          refine gh_icmp_geN hK d_SD_doForms_89 (tgt := 121) (by decide) (by omega) (by omega) (fun z => absurd z (by omega)) (fun z => ?_)
          refine gh_aload_n hK d_SD_doForms_92 rfl ?_
          refine gh_get hK d_SD_doForms_93 in_SD rfl h3.1.1 2 (by decide) kf_SD_30 rfl rfl ?_
          refine gh_aload_n hK d_SD_doForms_96 rfl ?_
          refine gh_callV (rest := [.ref (A 4)]) [] hK (c_Wl_row l G k1.2.1) Y_Wl_row V_Wl_row km_SD_336 k1.2.1.ob rfl rfl d_SD_doForms_97 rfl rfl (Nat.le_of_ble_eq_true rfl) ⟨(Nat.le_of_ble_eq_true rfl), (Nat.le_of_ble_eq_true rfl)⟩ ⟨(Nat.le_of_ble_eq_true rfl), (Nat.le_of_ble_eq_true rfl)⟩ (fun v g' hp => ?_)
          rw [hp.1, hp.2]
          show gh_W l G _ X g3 _ _ [some (.ref (A 0)), some (.int (nI (rnkL (nxW tx le e) (dws es)))), some (.ref x.1), some (.ref (A 36)), some (.int (nI i))] 100 [.ref (A 34), .ref (A 4)]
          refine gh_aload_n hK d_SD_doForms_100 rfl ?_
          refine gh_iload hK d_SD_doForms_101 rfl ?_
          refine gh_callV (rest := [.ref (A 34), .ref (A 4)]) [.int (nI i)] hK (c_Wl_from l G k1.2.1 hpx) Y_Wl_from V_Wl_from km_SD_280 k1.2.1.ob rfl rfl d_SD_doForms_103 rfl rfl (Nat.le_of_ble_eq_true rfl) ⟨(Nat.le_of_ble_eq_true rfl), (Nat.le_of_ble_eq_true rfl)⟩ ⟨(Nat.le_of_ble_eq_true rfl), (Nat.le_of_ble_eq_true rfl)⟩ (fun v g' hp => ?_)
          rw [hp.1, hp.2]
          show gh_W l G _ X g3 _ _ [some (.ref (A 0)), some (.int (nI (rnkL (nxW tx le e) (dws es)))), some (.ref x.1), some (.ref (A 36)), some (.int (nI i))] 106 [.int (nI p.1), .ref (A 34), .ref (A 4)]
          refine gh_aload_n hK d_SD_doForms_106 rfl ?_
          refine gh_iload hK d_SD_doForms_107 rfl ?_
          refine gh_callV (rest := [.int (nI p.1), .ref (A 34), .ref (A 4)]) [.int (nI i)] hK (c_Wl_length l G k1.2.1 hpx) Y_Wl_length V_Wl_length km_SD_283 k1.2.1.ob rfl rfl d_SD_doForms_109 rfl rfl (Nat.le_of_ble_eq_true rfl) ⟨(Nat.le_of_ble_eq_true rfl), (Nat.le_of_ble_eq_true rfl)⟩ ⟨(Nat.le_of_ble_eq_true rfl), (Nat.le_of_ble_eq_true rfl)⟩ (fun v g' hp => ?_)
          rw [hp.1, hp.2]
          show gh_W l G _ X g3 _ _ [some (.ref (A 0)), some (.int (nI (rnkL (nxW tx le e) (dws es)))), some (.ref x.1), some (.ref (A 36)), some (.int (nI i))] 112 [.int (nI p.2), .int (nI p.1), .ref (A 34), .ref (A 4)]
          obtain ⟨a1, a2⟩ := hP3.ap k1.1 (by decide) (by decide)
          refine gh_callV (rest := []) [.ref (A 34), .int (nI p.1), .int (nI p.2)] hK (c_Pr_printItem l G hP3 (by omega) k1.1 a1 a2 (fr := p.1) (len := p.2) hpl) Y_Pr_printItem V_Pr_printItem km_SD_290 hP3.1 rfl rfl d_SD_doForms_112 rfl rfl (Nat.le_of_ble_eq_true rfl) ⟨(Nat.le_of_ble_eq_true rfl), (Nat.le_of_ble_eq_true rfl)⟩ ⟨(Nat.le_of_ble_eq_true rfl), (Nat.le_of_ble_eq_true rfl)⟩ (fun v g4 hp => ?_)
          obtain ⟨rfl, hq1, hq2⟩ := hp
          show gh_W l G _ X g4 _ _ [some (.ref (A 0)), some (.int (nI (rnkL (nxW tx le e) (dws es)))), some (.ref x.1), some (.ref (A 36)), some (.int (nI i))] 115 []
          refine gh_incN (lv' := [some (.ref (A 0)), some (.int (nI (rnkL (nxW tx le e) (dws es)))), some (.ref x.1), some (.ref (A 36)), some (.int (nI (i + 1)))]) hK d_SD_doForms_115 rfl rfl ?_
          refine gh_goto (tgt := 83) hK d_SD_doForms_118 (by decide) ?_
          refine ih (i + 1) g4 _ (by omega) hq1 (m3.tr (hP3.toM hq2)) ?_
          rw [show i + 1 + (wls fx (fp.drop (i + 1))).length = i + ((wls fx (fp.drop (i + 1))).length + 1) by omega]
          exact hF
      exact loop fp.length 0 g2 o (by omega) hP2 gh_M.rf (by rw [Nat.zero_add]; exact itL_end o _)
    · rw [frW_no h1.2.2.1.1 hq] at fin
      refine gh_callV (rest := []) [.int (nI (rnkL (nxW tx le e) (dws es))), .ref (A 1), .int (nI (nxS tx le e)), .int (nI (nxE tx le e - nxS tx le e))] hK (c_Dc_atW l G h1.2.1.1 (j := rnkL (nxW tx le e) (dws es)) (by omega) h1.2.1.2.2.2 (fr := nxS tx le e) (len := nxE tx le e - nxS tx le e) hfl) Y_Dc_at V_Dc_at km_SD_204 h1.2.1.1.1 rfl rfl d_SD_doForms_63 rfl rfl (Nat.le_of_ble_eq_true rfl) ⟨(Nat.le_of_ble_eq_true rfl), (Nat.le_of_ble_eq_true rfl)⟩ ⟨(Nat.le_of_ble_eq_true rfl), (Nat.le_of_ble_eq_true rfl)⟩ (fun v g' hp => ?_)
      rw [hp.2.1 (fnd_no h1.2.2.1.1 hq), hp.2.2]
      show gh_W l G _ X g1 _ _ [some (.ref (A 0)), some (.int (nI (rnkL (nxW tx le e) (dws es)))), none, none, none] 66 [.null]
      refine gh_astore_nN (lv' := [some (.ref (A 0)), some (.int (nI (rnkL (nxW tx le e) (dws es)))), some (.null), none, none]) hK d_SD_doForms_66 (Nat.le_of_ble_eq_true rfl) rfl ?_
      refine gh_aload_nN hK d_SD_doForms_67 rfl ?_
      refine gh_ifnullN hK d_SD_doForms_68 (tgt := 121) (by decide) ?_
      exact fin 0 g1 o _ _ _ (by omega) h1 hP1 gh_M.rf rfl
  · refine gh_iconst (v := nI 0) hK d_SD_doForms_12 (by decide) ?_
    simp only [z, Bool.false_eq_true, ↓reduceIte] at hE
    exact gh_zret rfl hK hE d_SD_doForms_13 (Nat.le_of_ble_eq_true rfl) (Nat.le_of_ble_eq_true rfl) (DoP.no h hP hL hl1 hlN rfl)
