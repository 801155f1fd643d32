theorem dws_at2 {es : List (Nat × List Nat × Nat)} {j : Nat} : (dws es)[j]? = (es[j]?).map fun x => x.2.1 := by
  unfold dws
  rw [List.getElem?_map]
theorem fnd_yes {es : List (Nat × List Nat × Nat)} {w : List Nat} (hs : srtL (dws es)) (h : w ∈ dws es) : ∃ x, es[rnkL w (dws es)]? = some x ∧ x.2.1 = w := by
  have k := (rnkL_mem w hs).mp h
  rw [dws_at2] at k
  cases hx : es[rnkL w (dws es)]? with
  | none => rw [hx] at k; cases k
  | some x => rw [hx] at k; exact ⟨x, rfl, Option.some.inj k⟩
theorem fnd_no {es : List (Nat × List Nat × Nat)} {w : List Nat} (hs : srtL (dws es)) (h : w ∉ dws es) : ∀ x, es[rnkL w (dws es)]? = some x → x.2.1 ≠ w := fun x hx q => h ((rnkL_mem w hs).mpr (by rw [dws_at2, hx, Option.map_some, q]))
theorem rnkd_le (es : List (Nat × List Nat × Nat)) (w : List Nat) : rnkL w (dws es) ≤ es.length := by
  have := rnkL_le w (dws es)
  unfold dws at this ⊢
  rw [List.length_map] at this
  exact this
theorem SDb.er {es : List (Nat × List Nat × Nat)} {us1 us2 : List (Nat × RuR)} (h : SDb es us1 us2) (j : Nat) : SDb (es.eraseIdx j) us1 us2 := by
  obtain ⟨⟨k1, k2, k3, k4, k5, k6⟩, h2, h3, h4⟩ := h
  refine ⟨⟨?_, Nat.le_trans (by rw [List.length_eraseIdx]; split <;> omega) k2, k3, k4, fun x hx => k5 x (List.mem_of_mem_eraseIdx hx), k6⟩, h2, h3, fun x hx => h4 x (List.mem_of_mem_eraseIdx hx)⟩
  unfold dws
  rw [map_erI]
  exact srtL_erI j k1
theorem SDr.dc {G : GG} {g g' : GH} {A : Nat → Nat} {es es' : List (Nat × List Nat × Nat)} {us1 us2 : List (Nat × RuR)} {tx : List Nat} {S : List Nat} (h : SDr G g A es us1 us2 tx) (hM : gh_M S g g') (hS : ∀ t, t ∈ S → t ∈ [8, 9, 50, 51, 52]) (hd : Dc G g' (A 7) (A 8) es') (hb : SDb es' us1 us2) : SDr G g' A es' us1 us2 tx :=
  ⟨h.1.M hM (fun t ht q => by have := hS t q; simp at ht this; omega), ⟨hd, h.2.1.2.1.M hM (fun t ht q => by have := hS t q; simp at ht this; omega), h.2.1.2.2.1.M hM (fun t ht q => by have := hS t q; simp at ht this; omega), h.2.1.2.2.2.M hM (fun q => by have := hS _ q; simp at this) (fun q => by have := hS _ q; simp at this)⟩, hb⟩
set_option maxRecDepth 20000 in
set_option maxHeartbeats 4000000 in
theorem c_SD_doDrop (l : Launch) (G : GG) {g : GH} {A : Nat → Nat} {es : List (Nat × List Nat × Nat)} {us1 us2 : List (Nat × RuR)} {tx : List Nat} {o : List Nat × Nat} {it : Nat} {ls le s e wf wl : Nat} (h : SDr G g A es us1 us2 tx) (hP : Pr G g (A 4) (A 5) (A 6) o it) (hL : Ln g (A 3) (A 1) ls le s e wf wl) (he : e ≤ le) (hle : le ≤ tx.length) : gMet l G y_SD_doDrop b_SD_doDrop 2 (some .boolean) (rmk 5 0 0 131) [.ref (A 0)] g (DoP G A tx ls le g (owO tx 16 le e) (owS tx 16 le e) (if (owO tx 16 le e) = true then (if (nxW tx le e) ∈ dws es then es.eraseIdx (rnkL (nxW tx le e) (dws es)) else es) else es) us1 us2 (if (owO tx 16 le e) = true then prs o (if (nxW tx le e) ∈ dws es then st_txt.getD 3 [] else st_txt.getD 5 []) else o)) := by
  refine gMet.of [some (.ref (A 0)), none] (by decide +kernel) rfl (Nat.le_of_ble_eq_true rfl) rfl (fun X hK hI hE => ?_)
  refine gh_aload_n hK d_SD_doDrop_0 rfl ?_
  refine gh_get hK d_SD_doDrop_1 in_SD rfl h.1.1 1 (by decide) kf_SD_23 rfl rfl ?_
  refine gh_bipush (v := nI 16) hK d_SD_doDrop_4 (by decide) ?_
  refine gh_callV (rest := []) [.int (nI 16)] hK (c_Ln_nextIsOnlyWord l G hL h.2.1.2.2.2 (k := 16) he hle (by decide)) Y_Ln_nextIsOnlyWord V_Ln_nextIsOnlyWord km_SD_228 hL rfl rfl d_SD_doDrop_6 rfl rfl (Nat.le_of_ble_eq_true rfl) ⟨(Nat.le_of_ble_eq_true rfl), (Nat.le_of_ble_eq_true rfl)⟩ ⟨(Nat.le_of_ble_eq_true rfl), (Nat.le_of_ble_eq_true rfl)⟩ (fun v g1 hp => ?_)
  obtain ⟨rfl, hl1, hlN⟩ := hp
  show gh_W l G _ X g1 _ _ [some (.ref (A 0)), none] 9 [.int (nI (bn (owO tx 16 le e)))]
  have hM1 := hL.toM hlN
  have h1 := h.M hM1 (by decide)
  have hP1 := hP.M hM1 (by decide) (by decide) (by decide)
  obtain ⟨b1, b2⟩ := nxS_le (tx := tx) he
  obtain ⟨b3, b4⟩ := nxE_le (tx := tx) he
  refine gh_if_neB hK d_SD_doDrop_9 (tgt := 14) (by decide) (fun z => ?_) (fun z => ?_)
  · simp only [z, ↓reduceIte] at hE
    obtain ⟨w1, w2, w3, w4, w5⟩ := ow_true (wf := wf) (wl := wl) z
    rw [w2, w3] at hl1
    have hfl : nxS tx le e + (nxE tx le e - nxS tx le e) ≤ tx.length := by omega
    refine gh_aload_n hK d_SD_doDrop_14 rfl ?_
    refine gh_get hK d_SD_doDrop_15 in_SD rfl h1.1.1 3 (by decide) kf_SD_37 rfl rfl ?_
    refine gh_aload_n hK d_SD_doDrop_18 rfl ?_
    refine gh_get hK d_SD_doDrop_19 in_SD rfl h1.1.1 0 (by decide) kf_SD_14 rfl rfl ?_
    refine gh_aload_n hK d_SD_doDrop_22 rfl ?_
    refine gh_get hK d_SD_doDrop_23 in_SD rfl h1.1.1 1 (by decide) kf_SD_23 rfl rfl ?_
    refine gh_callV (rest := [.ref (A 1), .ref (A 7)]) [] hK (c_Ln_wordFrom l G hl1) Y_Ln_wordFrom V_Ln_wordFrom km_SD_232 hl1 rfl rfl d_SD_doDrop_26 rfl rfl (Nat.le_of_ble_eq_true rfl) ⟨(Nat.le_of_ble_eq_true rfl), (Nat.le_of_ble_eq_true rfl)⟩ ⟨(Nat.le_of_ble_eq_true rfl), (Nat.le_of_ble_eq_true rfl)⟩ (fun v g' hp => ?_)
    rw [hp.1, hp.2]
    show gh_W l G _ X g1 _ _ [some (.ref (A 0)), none] 29 [.int (nI (nxS tx le e)), .ref (A 1), .ref (A 7)]
    refine gh_aload_n hK d_SD_doDrop_29 rfl ?_
    refine gh_get hK d_SD_doDrop_30 in_SD rfl h1.1.1 1 (by decide) kf_SD_23 rfl rfl ?_
    refine gh_callV (rest := [.int (nI (nxS tx le e)), .ref (A 1), .ref (A 7)]) [] hK (c_Ln_wordLength l G hl1) Y_Ln_wordLength V_Ln_wordLength km_SD_235 hl1 rfl rfl d_SD_doDrop_33 rfl rfl (Nat.le_of_ble_eq_true rfl) ⟨(Nat.le_of_ble_eq_true rfl), (Nat.le_of_ble_eq_true rfl)⟩ ⟨(Nat.le_of_ble_eq_true rfl), (Nat.le_of_ble_eq_true rfl)⟩ (fun v g' hp => ?_)
    rw [hp.1, hp.2]
    show gh_W l G _ X g1 _ _ [some (.ref (A 0)), none] 36 [.int (nI (nxE tx le e - nxS tx le e)), .int (nI (nxS tx le e)), .ref (A 1), .ref (A 7)]
    refine gh_callV (rest := []) [.ref (A 1), .int (nI (nxS tx le e)), .int (nI (nxE tx le e - nxS tx le e))] hK (c_Dc_rankOf l G h1.2.1.1 h1.2.2.1.1 h1.2.1.2.2.2 (fr := nxS tx le e) (len := nxE tx le e - nxS tx le e) hfl) Y_Dc_rankOf V_Dc_rankOf km_SD_200 h1.2.1.1.1 rfl rfl d_SD_doDrop_36 rfl rfl (Nat.le_of_ble_eq_true rfl) ⟨(Nat.le_of_ble_eq_true rfl), (Nat.le_of_ble_eq_true rfl)⟩ ⟨(Nat.le_of_ble_eq_true rfl), (Nat.le_of_ble_eq_true rfl)⟩ (fun v g' hp => ?_)
    rw [hp.1, hp.2]
    show gh_W l G _ X g1 _ _ [some (.ref (A 0)), none] 39 [.int (nI (rnkL (nxW tx le e) (dws es)))]
    refine gh_istore_n (lv' := [some (.ref (A 0)), some (.int (nI (rnkL (nxW tx le e) (dws es))))]) hK d_SD_doDrop_39 (Nat.le_of_ble_eq_true rfl) rfl ?_
    refine gh_aload_n hK d_SD_doDrop_40 rfl ?_
    refine gh_get hK d_SD_doDrop_41 in_SD rfl h1.1.1 3 (by decide) kf_SD_37 rfl rfl ?_
    refine gh_iload_n hK d_SD_doDrop_44 rfl ?_
    refine gh_aload_n hK d_SD_doDrop_45 rfl ?_
    refine gh_get hK d_SD_doDrop_46 in_SD rfl h1.1.1 0 (by decide) kf_SD_14 rfl rfl ?_
    refine gh_aload_n hK d_SD_doDrop_49 rfl ?_
    refine gh_get hK d_SD_doDrop_50 in_SD rfl h1.1.1 1 (by decide) kf_SD_23 rfl rfl ?_
    refine gh_callV (rest := [.ref (A 1), .int (nI (rnkL (nxW tx le e) (dws es))), .ref (A 7)]) [] hK (c_Ln_wordFrom l G hl1) Y_Ln_wordFrom V_Ln_wordFrom km_SD_232 hl1 rfl rfl d_SD_doDrop_53 rfl rfl (Nat.le_of_ble_eq_true rfl) ⟨(Nat.le_of_ble_eq_true rfl), (Nat.le_of_ble_eq_true rfl)⟩ ⟨(Nat.le_of_ble_eq_true rfl), (Nat.le_of_ble_eq_true rfl)⟩ (fun v g' hp => ?_)
    rw [hp.1, hp.2]
    show gh_W l G _ X g1 _ _ [some (.ref (A 0)), some (.int (nI (rnkL (nxW tx le e) (dws es))))] 56 [.int (nI (nxS tx le e)), .ref (A 1), .int (nI (rnkL (nxW tx le e) (dws es))), .ref (A 7)]
    refine gh_aload_n hK d_SD_doDrop_56 rfl ?_
    refine gh_get hK d_SD_doDrop_57 in_SD rfl h1.1.1 1 (by decide) kf_SD_23 rfl rfl ?_
    refine gh_callV (rest := [.int (nI (nxS tx le e)), .ref (A 1), .int (nI (rnkL (nxW tx le e) (dws es))), .ref (A 7)]) [] hK (c_Ln_wordLength l G hl1) Y_Ln_wordLength V_Ln_wordLength km_SD_235 hl1 rfl rfl d_SD_doDrop_60 rfl rfl (Nat.le_of_ble_eq_true rfl) ⟨(Nat.le_of_ble_eq_true rfl), (Nat.le_of_ble_eq_true rfl)⟩ ⟨(Nat.le_of_ble_eq_true rfl), (Nat.le_of_ble_eq_true rfl)⟩ (fun v g' hp => ?_)
    rw [hp.1, hp.2]
    show gh_W l G _ X g1 _ _ [some (.ref (A 0)), some (.int (nI (rnkL (nxW tx le e) (dws es))))] 63 [.int (nI (nxE tx le e - nxS tx le e)), .int (nI (nxS tx le e)), .ref (A 1), .int (nI (rnkL (nxW tx le e) (dws es))), .ref (A 7)]
    have hrk := rnkd_le es (nxW tx le e)
    have hes := h1.2.2.1.2.1
    by_cases hq : (nxW tx le e) ∈ dws es
    · obtain ⟨x, x1, x2⟩ := fnd_yes h1.2.2.1.1 hq
      simp only [hq, ↓reduceIte] at hE
      refine gh_callV (rest := []) [.int (nI (rnkL (nxW tx le e) (dws es))), .ref (A 1), .int (nI (nxS tx le e)), .int (nI (nxE tx le e - nxS tx le e))] hK (c_Dc_atW l G h1.2.1.1 (j := rnkL (nxW tx le e) (dws es)) (by omega) h1.2.1.2.2.2 (fr := nxS tx le e) (len := nxE tx le e - nxS tx le e) hfl) Y_Dc_at V_Dc_at km_SD_204 h1.2.1.1.1 rfl rfl d_SD_doDrop_63 rfl rfl (Nat.le_of_ble_eq_true rfl) ⟨(Nat.le_of_ble_eq_true rfl), (Nat.le_of_ble_eq_true rfl)⟩ ⟨(Nat.le_of_ble_eq_true rfl), (Nat.le_of_ble_eq_true rfl)⟩ (fun v g' hp => ?_)
      rw [hp.1 x x1 x2, hp.2.2]
      show gh_W l G _ X g1 _ _ [some (.ref (A 0)), some (.int (nI (rnkL (nxW tx le e) (dws es))))] 66 [.ref x.1]
      refine gh_ifnonnull hK d_SD_doDrop_66 (tgt := 81) (by decide) ?_
      refine gh_aload_n hK d_SD_doDrop_81 rfl ?_
      refine gh_get hK d_SD_doDrop_82 in_SD rfl h1.1.1 3 (by decide) kf_SD_37 rfl rfl ?_
      refine gh_iload_n hK d_SD_doDrop_85 rfl ?_
      have hlt := (List.getElem?_eq_some_iff.mp x1).1
      refine gh_callV (rest := []) [.int (nI (rnkL (nxW tx le e) (dws es)))] hK (c_Dc_remove l G h1.2.1.1 (j := rnkL (nxW tx le e) (dws es)) hlt) Y_Dc_remove V_Dc_remove km_SD_240 h1.2.1.1.1 rfl rfl d_SD_doDrop_86 rfl rfl (Nat.le_of_ble_eq_true rfl) ⟨(Nat.le_of_ble_eq_true rfl), (Nat.le_of_ble_eq_true rfl)⟩ ⟨(Nat.le_of_ble_eq_true rfl), (Nat.le_of_ble_eq_true rfl)⟩ (fun v g2 hp => ?_)
      obtain ⟨rfl, d2, m2⟩ := hp
      show gh_W l G _ X g2 _ _ [some (.ref (A 0)), some (.int (nI (rnkL (nxW tx le e) (dws es))))] 89 []
      have h2 := h1.dc m2 (by decide) d2 (h1.2.2.er _)
      have hP2 := hP1.M m2 (by decide) (by decide) (by decide)
      refine gh_aload_n hK d_SD_doDrop_89 rfl ?_
      refine gh_get hK d_SD_doDrop_90 in_SD rfl h2.1.1 2 (by decide) kf_SD_30 rfl rfl ?_
      refine gh_ldcS (i := 3) hK d_SD_doDrop_93 (by decide) rfl ?_
      refine gh_callV (rest := []) [.ref (G.2.2.1 3)] hK (c_Pr_printText l G hP2 (i := 3) (by decide)) Y_Pr_printText V_Pr_printText km_SD_176 hP2.1 rfl rfl d_SD_doDrop_95 rfl rfl (Nat.le_of_ble_eq_true rfl) ⟨(Nat.le_of_ble_eq_true rfl), (Nat.le_of_ble_eq_true rfl)⟩ ⟨(Nat.le_of_ble_eq_true rfl), (Nat.le_of_ble_eq_true rfl)⟩ (fun v g3 hp => ?_)
      obtain ⟨rfl, hq1, hq2⟩ := hp
      show gh_W l G _ X g3 _ _ [some (.ref (A 0)), some (.int (nI (rnkL (nxW tx le e) (dws es))))] 98 []
      refine gh_iconst (v := nI 1) hK d_SD_doDrop_98 (by decide) ?_
      have m3 := hP2.toM hq2
      exact gh_zret rfl hK hE d_SD_doDrop_99 (Nat.le_of_ble_eq_true rfl) (Nat.le_of_ble_eq_true rfl) ⟨rfl, ⟨_, _, _, _, (hl1.M m2 (by decide)).M m3 (by decide), fun q => by cases q⟩, h2.M m3 (by decide), ⟨_, hq1⟩, ((hM1.wd (by decide)).tr (m2.wd (by decide))).tr (m3.wd (by decide))⟩
    · simp only [hq, ↓reduceIte] at hE
      refine gh_callV (rest := []) [.int (nI (rnkL (nxW tx le e) (dws es))), .ref (A 1), .int (nI (nxS tx le e)), .int (nI (nxE tx le e - nxS tx le e))] hK (c_Dc_atW l G h1.2.1.1 (j := rnkL (nxW tx le e) (dws es)) (by omega) h1.2.1.2.2.2 (fr := nxS tx le e) (len := nxE tx le e - nxS tx le e) hfl) Y_Dc_at V_Dc_at km_SD_204 h1.2.1.1.1 rfl rfl d_SD_doDrop_63 rfl rfl (Nat.le_of_ble_eq_true rfl) ⟨(Nat.le_of_ble_eq_true rfl), (Nat.le_of_ble_eq_true rfl)⟩ ⟨(Nat.le_of_ble_eq_true rfl), (Nat.le_of_ble_eq_true rfl)⟩ (fun v g' hp => ?_)
      rw [hp.2.1 (fnd_no h1.2.2.1.1 hq), hp.2.2]
      show gh_W l G _ X g1 _ _ [some (.ref (A 0)), some (.int (nI (rnkL (nxW tx le e) (dws es))))] 66 [.null]
      refine gh_ifnonnullN hK d_SD_doDrop_66 ?_
      refine gh_aload_n hK d_SD_doDrop_69 rfl ?_
      refine gh_get hK d_SD_doDrop_70 in_SD rfl h1.1.1 2 (by decide) kf_SD_30 rfl rfl ?_
      refine gh_ldcS (i := 5) hK d_SD_doDrop_73 (by decide) rfl ?_
      refine gh_callV (rest := []) [.ref (G.2.2.1 5)] hK (c_Pr_printText l G hP1 (i := 5) (by decide)) Y_Pr_printText V_Pr_printText km_SD_176 hP1.1 rfl rfl d_SD_doDrop_75 rfl rfl (Nat.le_of_ble_eq_true rfl) ⟨(Nat.le_of_ble_eq_true rfl), (Nat.le_of_ble_eq_true rfl)⟩ ⟨(Nat.le_of_ble_eq_true rfl), (Nat.le_of_ble_eq_true rfl)⟩ (fun v g3 hp => ?_)
      obtain ⟨rfl, hq1, hq2⟩ := hp
      show gh_W l G _ X g3 _ _ [some (.ref (A 0)), some (.int (nI (rnkL (nxW tx le e) (dws es))))] 78 []
      refine gh_goto (tgt := 98) hK d_SD_doDrop_78 (by decide) ?_
      refine gh_iconst (v := nI 1) hK d_SD_doDrop_98 (by decide) ?_
      have m3 := hP1.toM hq2
      exact gh_zret rfl hK hE d_SD_doDrop_99 (Nat.le_of_ble_eq_true rfl) (Nat.le_of_ble_eq_true rfl) ⟨rfl, ⟨_, _, _, _, hl1.M m3 (by decide), fun q => by cases q⟩, h1.M m3 (by decide), ⟨_, hq1⟩, (hM1.wd (by decide)).tr (m3.wd (by decide))⟩
  · refine gh_iconst (v := nI 0) hK d_SD_doDrop_12 (by decide) ?_
    simp only [z, Bool.false_eq_true, ↓reduceIte] at hE
    exact gh_zret rfl hK hE d_SD_doDrop_13 (Nat.le_of_ble_eq_true rfl) (Nat.le_of_ble_eq_true rfl) (DoP.no h hP hL hl1 hlN rfl)
