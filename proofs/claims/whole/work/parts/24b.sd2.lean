theorem srtL_erI : ∀ {l : List (List Nat)} (j : Nat), srtL l → srtL (l.eraseIdx j)
  | [], _, h => h
  | _ :: _, 0, h => h.2
  | _ :: _, j + 1, h => ⟨fun b hb => h.1 b (List.mem_of_mem_eraseIdx hb), srtL_erI j h.2⟩
theorem ow_true {tx : List Nat} {k le e wf wl : Nat} (h : owO tx k le e = true) : nxS tx le e < nxE tx le e ∧ wkF tx (nxS tx le e) (nxE tx le e) wf = nxS tx le e ∧ wkL tx (nxS tx le e) (nxE tx le e) wl = nxE tx le e - nxS tx le e ∧ nxE tx le e - nxS tx le e ≤ k ∧ 1 ≤ nxE tx le e - nxS tx le e := by
  unfold owO wdO at h
  simp only [Bool.and_eq_true, decide_eq_true_eq] at h
  refine ⟨h.1.1, if_pos h.1.1, ?_, by omega, by omega⟩
  rw [wkL, if_pos h.1.1]
  omega
/-- the piece of the text from s to e -/
def pcW (tx : List Nat) (s e : Nat) : List Nat := (tx.drop s).take (e - s)
/-- the one word behind e -/
abbrev nxW (tx : List Nat) (le e : Nat) : List Nat := pcW tx (nxS tx le e) (nxE tx le e)
set_option maxRecDepth 20000 in
set_option maxHeartbeats 4000000 in
theorem c_SD_doCount (l : Launch) (G : GG) {g : GH} {A : Nat → Nat} {es : List (Nat × List Nat × Nat)} {us1 us2 : List (Nat × RuR)} {tx : List Nat} {o : List Nat × Nat} {ls le s e wf wl : Nat} (h : SDr G g A es us1 us2 tx) (hP : Pr G g (A 4) (A 5) (A 6) o 0) (hL : Ln g (A 3) (A 1) ls le s e wf wl) (he : e ≤ le) (hle : le ≤ tx.length) : gMet l G y_SD_doCount b_SD_doCount 1 (some .boolean) (rmk 3 0 0 65) [.ref (A 0)] g (DoP G A tx ls le g (decide (nxE tx le e ≤ nxS tx le e)) (nxS tx le e) es us1 us2 (if (decide (nxE tx le e ≤ nxS tx le e)) = true then prs o (decL es.length ++ 32 :: (decL us1.length ++ 32 :: decL us2.length)) else o)) := by
  refine gMet.of [some (.ref (A 0))] (by decide +kernel) rfl (Nat.le_of_ble_eq_true rfl) rfl (fun X hK hI hE => ?_)
  obtain ⟨b0, b1, b2, b3, b4⟩ := h.2.2.1
  refine gh_aload_n hK d_SD_doCount_0 rfl ?_
  refine gh_get hK d_SD_doCount_1 in_SD rfl h.1.1 1 (by decide) kf_SD_23 rfl rfl ?_
  refine gh_callV (rest := []) [] hK (c_Ln_ends l G hL h.2.1.2.2.2 he hle) Y_Ln_ends V_Ln_ends km_SD_197 hL rfl rfl d_SD_doCount_4 rfl rfl (Nat.le_of_ble_eq_true rfl) ⟨(Nat.le_of_ble_eq_true rfl), (Nat.le_of_ble_eq_true rfl)⟩ ⟨(Nat.le_of_ble_eq_true rfl), (Nat.le_of_ble_eq_true rfl)⟩ (fun v g1 hp => ?_)
  obtain ⟨rfl, hl1, hlN⟩ := hp
  show gh_W l G _ X g1 _ _ [some (.ref (A 0))] 7 [.int (nI (bn (decide (nxE tx le e ≤ nxS tx le e))))]
  have hM1 := hL.toM hlN
  have h1 := h.M hM1 (by decide)
  have hP1 := hP.M hM1 (by decide) (by decide) (by decide)
  refine gh_if_neB hK d_SD_doCount_7 (tgt := 12) (by decide) (fun z => ?_) (fun z => ?_)
  · refine gh_aload_n hK d_SD_doCount_12 rfl ?_
    refine gh_get hK d_SD_doCount_13 in_SD rfl h1.1.1 2 (by decide) kf_SD_30 rfl rfl ?_
    simp only [z, ↓reduceIte] at hE
    refine gh_callV (rest := []) [] hK (c_Pr_startItem l G hP1 (by omega)) Y_Pr_startItem V_Pr_startItem km_SD_320 hP1.1 rfl rfl d_SD_doCount_16 rfl rfl (Nat.le_of_ble_eq_true rfl) ⟨(Nat.le_of_ble_eq_true rfl), (Nat.le_of_ble_eq_true rfl)⟩ ⟨(Nat.le_of_ble_eq_true rfl), (Nat.le_of_ble_eq_true rfl)⟩ (fun v g2 hp => ?_)
    obtain ⟨rfl, ha1, hb1⟩ := hp
    show gh_W l G _ X g2 _ _ [some (.ref (A 0))] 19 []
    have hm2 := hP1.toM hb1
    have h2 := h1.M hm2 (by decide)
    refine gh_aload_n hK d_SD_doCount_19 rfl ?_
    refine gh_get hK d_SD_doCount_20 in_SD rfl h2.1.1 2 (by decide) kf_SD_30 rfl rfl ?_
    refine gh_aload_n hK d_SD_doCount_23 rfl ?_
    refine gh_get hK d_SD_doCount_24 in_SD rfl h2.1.1 3 (by decide) kf_SD_37 rfl rfl ?_
    refine gh_callV (rest := [.ref (A 4)]) [] hK (c_Dc_count l G h2.2.1.1) Y_Dc_count V_Dc_count km_SD_111 h2.2.1.1.1 rfl rfl d_SD_doCount_27 rfl rfl (Nat.le_of_ble_eq_true rfl) ⟨(Nat.le_of_ble_eq_true rfl), (Nat.le_of_ble_eq_true rfl)⟩ ⟨(Nat.le_of_ble_eq_true rfl), (Nat.le_of_ble_eq_true rfl)⟩ (fun v g' hp => ?_)
    rw [hp.1, hp.2]
    show gh_W l G _ X g2 _ _ [some (.ref (A 0))] 30 [.int (nI es.length), .ref (A 4)]
    refine gh_callV (rest := []) [.int (nI es.length)] hK (c_Pr_printNumber l G ha1 (x := es.length) (by omega)) Y_Pr_printNumber V_Pr_printNumber km_SD_182 ha1.1 rfl rfl d_SD_doCount_30 rfl rfl (Nat.le_of_ble_eq_true rfl) ⟨(Nat.le_of_ble_eq_true rfl), (Nat.le_of_ble_eq_true rfl)⟩ ⟨(Nat.le_of_ble_eq_true rfl), (Nat.le_of_ble_eq_true rfl)⟩ (fun v g3 hp => ?_)
    obtain ⟨rfl, ha2, hb2⟩ := hp
    show gh_W l G _ X g3 _ _ [some (.ref (A 0))] 33 []
    have hm3 := ha1.toM hb2
    have h3 := h2.M hm3 (by decide)
    refine gh_aload_n hK d_SD_doCount_33 rfl ?_
    refine gh_get hK d_SD_doCount_34 in_SD rfl h3.1.1 2 (by decide) kf_SD_30 rfl rfl ?_
    refine gh_callV (rest := []) [] hK (c_Pr_startItem l G ha2 (by omega)) Y_Pr_startItem V_Pr_startItem km_SD_320 ha2.1 rfl rfl d_SD_doCount_37 rfl rfl (Nat.le_of_ble_eq_true rfl) ⟨(Nat.le_of_ble_eq_true rfl), (Nat.le_of_ble_eq_true rfl)⟩ ⟨(Nat.le_of_ble_eq_true rfl), (Nat.le_of_ble_eq_true rfl)⟩ (fun v g4 hp => ?_)
    obtain ⟨rfl, ha3, hb3⟩ := hp
    show gh_W l G _ X g4 _ _ [some (.ref (A 0))] 40 []
    have hm4 := ha2.toM hb3
    have h4 := h3.M hm4 (by decide)
    refine gh_aload_n hK d_SD_doCount_40 rfl ?_
    refine gh_get hK d_SD_doCount_41 in_SD rfl h4.1.1 2 (by decide) kf_SD_30 rfl rfl ?_
    refine gh_aload_n hK d_SD_doCount_44 rfl ?_
    refine gh_get hK d_SD_doCount_45 in_SD rfl h4.1.1 4 (by decide) kf_SD_46 rfl rfl ?_
    refine gh_callV (rest := [.ref (A 4)]) [] hK (c_Rs_count l G h4.2.1.2.1) Y_Rs_count V_Rs_count km_SD_112 h4.2.1.2.1.1 rfl rfl d_SD_doCount_48 rfl rfl (Nat.le_of_ble_eq_true rfl) ⟨(Nat.le_of_ble_eq_true rfl), (Nat.le_of_ble_eq_true rfl)⟩ ⟨(Nat.le_of_ble_eq_true rfl), (Nat.le_of_ble_eq_true rfl)⟩ (fun v g' hp => ?_)
    rw [hp.1, hp.2]
    show gh_W l G _ X g4 _ _ [some (.ref (A 0))] 51 [.int (nI us1.length), .ref (A 4)]
    refine gh_callV (rest := []) [.int (nI us1.length)] hK (c_Pr_printNumber l G ha3 (x := us1.length) (by omega)) Y_Pr_printNumber V_Pr_printNumber km_SD_182 ha3.1 rfl rfl d_SD_doCount_51 rfl rfl (Nat.le_of_ble_eq_true rfl) ⟨(Nat.le_of_ble_eq_true rfl), (Nat.le_of_ble_eq_true rfl)⟩ ⟨(Nat.le_of_ble_eq_true rfl), (Nat.le_of_ble_eq_true rfl)⟩ (fun v g5 hp => ?_)
    obtain ⟨rfl, ha4, hb4⟩ := hp
    show gh_W l G _ X g5 _ _ [some (.ref (A 0))] 54 []
    have hm5 := ha3.toM hb4
    have h5 := h4.M hm5 (by decide)
    refine gh_aload_n hK d_SD_doCount_54 rfl ?_
    refine gh_get hK d_SD_doCount_55 in_SD rfl h5.1.1 2 (by decide) kf_SD_30 rfl rfl ?_
    refine gh_callV (rest := []) [] hK (c_Pr_startItem l G ha4 (by omega)) Y_Pr_startItem V_Pr_startItem km_SD_320 ha4.1 rfl rfl d_SD_doCount_58 rfl rfl (Nat.le_of_ble_eq_true rfl) ⟨(Nat.le_of_ble_eq_true rfl), (Nat.le_of_ble_eq_true rfl)⟩ ⟨(Nat.le_of_ble_eq_true rfl), (Nat.le_of_ble_eq_true rfl)⟩ (fun v g6 hp => ?_)
    obtain ⟨rfl, ha5, hb5⟩ := hp
    show gh_W l G _ X g6 _ _ [some (.ref (A 0))] 61 []
    have hm6 := ha4.toM hb5
    have h6 := h5.M hm6 (by decide)
    refine gh_aload_n hK d_SD_doCount_61 rfl ?_
    refine gh_get hK d_SD_doCount_62 in_SD rfl h6.1.1 2 (by decide) kf_SD_30 rfl rfl ?_
    refine gh_aload_n hK d_SD_doCount_65 rfl ?_
    refine gh_get hK d_SD_doCount_66 in_SD rfl h6.1.1 5 (by decide) kf_SD_50 rfl rfl ?_
    refine gh_callV (rest := [.ref (A 4)]) [] hK (c_Rs_count l G h6.2.1.2.2.1) Y_Rs_count V_Rs_count km_SD_112 h6.2.1.2.2.1.1 rfl rfl d_SD_doCount_69 rfl rfl (Nat.le_of_ble_eq_true rfl) ⟨(Nat.le_of_ble_eq_true rfl), (Nat.le_of_ble_eq_true rfl)⟩ ⟨(Nat.le_of_ble_eq_true rfl), (Nat.le_of_ble_eq_true rfl)⟩ (fun v g' hp => ?_)
    rw [hp.1, hp.2]
    show gh_W l G _ X g6 _ _ [some (.ref (A 0))] 72 [.int (nI us2.length), .ref (A 4)]
    refine gh_callV (rest := []) [.int (nI us2.length)] hK (c_Pr_printNumber l G ha5 (x := us2.length) (by omega)) Y_Pr_printNumber V_Pr_printNumber km_SD_182 ha5.1 rfl rfl d_SD_doCount_72 rfl rfl (Nat.le_of_ble_eq_true rfl) ⟨(Nat.le_of_ble_eq_true rfl), (Nat.le_of_ble_eq_true rfl)⟩ ⟨(Nat.le_of_ble_eq_true rfl), (Nat.le_of_ble_eq_true rfl)⟩ (fun v g7 hp => ?_)
    obtain ⟨rfl, ha6, hb6⟩ := hp
    show gh_W l G _ X g7 _ _ [some (.ref (A 0))] 75 []
    have hm7 := ha5.toM hb6
    have h7 := h6.M hm7 (by decide)
    refine gh_iconst (v := nI 1) hK d_SD_doCount_75 (by decide) ?_
    have hmm := ((((hm2.tr hm3).tr hm4).tr hm5).tr hm6).tr hm7
    refine gh_zret rfl hK hE d_SD_doCount_76 (Nat.le_of_ble_eq_true rfl) (Nat.le_of_ble_eq_true rfl) ⟨rfl, ⟨_, _, _, _, hl1.M hmm (by decide), fun q => by cases q⟩, h7, ⟨3, ?_⟩, (hM1.wd (by decide)).tr (hmm.wd (by decide))⟩
    rw [prs_app, prs_cons, prs_app, prs_cons]
    exact ha6
  · refine gh_iconst (v := nI 0) hK d_SD_doCount_10 (by decide) ?_
    simp only [z, Bool.false_eq_true, ↓reduceIte] at hE
    exact gh_zret rfl hK hE d_SD_doCount_11 (Nat.le_of_ble_eq_true rfl) (Nat.le_of_ble_eq_true rfl) (DoP.no h hP hL hl1 hlN rfl)
set_option maxRecDepth 20000 in
set_option maxHeartbeats 4000000 in
theorem c_SD_doClear (l : Launch) (G : GG) {g : GH} {A : Nat → Nat} {es : List (Nat × List Nat × Nat)} {us1 us2 : List (Nat × RuR)} {tx : List Nat} {o : List Nat × Nat} {it : Nat} {ls le s e wf wl : Nat} (h : SDr G g A es us1 us2 tx) (hP : Pr G g (A 4) (A 5) (A 6) o it) (hL : Ln g (A 3) (A 1) ls le s e wf wl) (he : e ≤ le) (hle : le ≤ tx.length) : gMet l G y_SD_doClear b_SD_doClear 1 (some .boolean) (rmk 5 0 0 107) [.ref (A 0)] g (DoP G A tx ls le g (decide (nxE tx le e ≤ nxS tx le e)) (nxS tx le e) (if (decide (nxE tx le e ≤ nxS tx le e)) = true then [] else es) (if (decide (nxE tx le e ≤ nxS tx le e)) = true then [] else us1) (if (decide (nxE tx le e ≤ nxS tx le e)) = true then [] else us2) (if (decide (nxE tx le e ≤ nxS tx le e)) = true then prs o (st_txt.getD 3 []) else o)) := by
  refine gMet.of [some (.ref (A 0))] (by decide +kernel) rfl (Nat.le_of_ble_eq_true rfl) rfl (fun X hK hI hE => ?_)
  refine gh_aload_n hK d_SD_doClear_0 rfl ?_
  refine gh_get hK d_SD_doClear_1 in_SD rfl h.1.1 1 (by decide) kf_SD_23 rfl rfl ?_
  refine gh_callV (rest := []) [] hK (c_Ln_ends l G hL h.2.1.2.2.2 he hle) Y_Ln_ends V_Ln_ends km_SD_197 hL rfl rfl d_SD_doClear_4 rfl rfl (Nat.le_of_ble_eq_true rfl) ⟨(Nat.le_of_ble_eq_true rfl), (Nat.le_of_ble_eq_true rfl)⟩ ⟨(Nat.le_of_ble_eq_true rfl), (Nat.le_of_ble_eq_true rfl)⟩ (fun v g1 hp => ?_)
  obtain ⟨rfl, hl1, hlN⟩ := hp
  show gh_W l G _ X g1 _ _ [some (.ref (A 0))] 7 [.int (nI (bn (decide (nxE tx le e ≤ nxS tx le e))))]
  have hM1 := hL.toM hlN
  have h1 := h.M hM1 (by decide)
  have hP1 := hP.M hM1 (by decide) (by decide) (by decide)
  refine gh_if_neB hK d_SD_doClear_7 (tgt := 12) (by decide) (fun z => ?_) (fun z => ?_)
  · simp only [z, ↓reduceIte] at hE
    refine gh_aload_n hK d_SD_doClear_12 rfl ?_
    refine gh_get hK d_SD_doClear_13 in_SD rfl h1.1.1 3 (by decide) kf_SD_37 rfl rfl ?_
    refine gh_callV (rest := []) [] hK (c_Dc_clear l G h1.2.1.1) Y_Dc_clear V_Dc_clear km_SD_339 h1.2.1.1.1 rfl rfl d_SD_doClear_16 rfl rfl (Nat.le_of_ble_eq_true rfl) ⟨(Nat.le_of_ble_eq_true rfl), (Nat.le_of_ble_eq_true rfl)⟩ ⟨(Nat.le_of_ble_eq_true rfl), (Nat.le_of_ble_eq_true rfl)⟩ (fun v g2 hp => ?_)
    obtain ⟨rfl, d2, m2⟩ := hp
    show gh_W l G _ X g2 _ _ [some (.ref (A 0))] 19 []
    have k2 : g2 (A 0) = _ := m2 _ 0 _ h1.1.1 (by decide)
    have r2 := h1.2.1.2.1.M m2 (by decide)
    refine gh_aload_n hK d_SD_doClear_19 rfl ?_
    refine gh_get hK d_SD_doClear_20 in_SD rfl k2 4 (by decide) kf_SD_46 rfl rfl ?_
    refine gh_callV (rest := []) [] hK (c_Rs_clear l G r2 (Or.inl rfl)) Y_Rs_clear V_Rs_clear km_SD_340 r2.1 rfl rfl d_SD_doClear_23 rfl rfl (Nat.le_of_ble_eq_true rfl) ⟨(Nat.le_of_ble_eq_true rfl), (Nat.le_of_ble_eq_true rfl)⟩ ⟨(Nat.le_of_ble_eq_true rfl), (Nat.le_of_ble_eq_true rfl)⟩ (fun v g3 hp => ?_)
    obtain ⟨rfl, d3, m3⟩ := hp
    show gh_W l G _ X g3 _ _ [some (.ref (A 0))] 26 []
    have k3 : g3 (A 0) = _ := m3 _ 0 _ k2 (by decide)
    have r3 := (h1.2.1.2.2.1.M m2 (by decide)).M m3 (by decide)
    refine gh_aload_n hK d_SD_doClear_26 rfl ?_
    refine gh_get hK d_SD_doClear_27 in_SD rfl k3 5 (by decide) kf_SD_50 rfl rfl ?_
    refine gh_callV (rest := []) [] hK (c_Rs_clear l G r3 (Or.inr rfl)) Y_Rs_clear V_Rs_clear km_SD_340 r3.1 rfl rfl d_SD_doClear_30 rfl rfl (Nat.le_of_ble_eq_true rfl) ⟨(Nat.le_of_ble_eq_true rfl), (Nat.le_of_ble_eq_true rfl)⟩ ⟨(Nat.le_of_ble_eq_true rfl), (Nat.le_of_ble_eq_true rfl)⟩ (fun v g4 hp => ?_)
    obtain ⟨rfl, d4, m4⟩ := hp
    show gh_W l G _ X g4 _ _ [some (.ref (A 0))] 33 []
    have k4 : g4 (A 0) = _ := m4 _ 0 _ k3 (by decide)
    have m5 : gh_M [8, 9, 11, 12, 21, 22] g1 g4 := ((m2.wd (by decide)).tr (m3.wd (by decide))).tr (m4.wd (by decide))
    have h5 : SDr G g4 A [] [] [] tx := ⟨h1.1.M m5 (by decide), ⟨(d2.M m3 (by decide)).M m4 (by decide), d3.M m4 (by decide), d4, h1.2.1.2.2.2.M m5 (by decide) (by decide)⟩, ⟨trivial, by simp, by simp, by simp, by simp, by simp, by simp⟩, by simp, by simp, by simp⟩
    have hP5 := hP1.M m5 (by decide) (by decide) (by decide)
    refine gh_aload_n hK d_SD_doClear_33 rfl ?_
    refine gh_get hK d_SD_doClear_34 in_SD rfl k4 2 (by decide) kf_SD_30 rfl rfl ?_
    refine gh_ldcS (i := 3) hK d_SD_doClear_37 (by decide) rfl ?_
    refine gh_callV (rest := []) [.ref (G.2.2.1 3)] hK (c_Pr_printText l G hP5 (i := 3) (by decide)) Y_Pr_printText V_Pr_printText km_SD_176 hP5.1 rfl rfl d_SD_doClear_39 rfl rfl (Nat.le_of_ble_eq_true rfl) ⟨(Nat.le_of_ble_eq_true rfl), (Nat.le_of_ble_eq_true rfl)⟩ ⟨(Nat.le_of_ble_eq_true rfl), (Nat.le_of_ble_eq_true rfl)⟩ (fun v g5 hp => ?_)
    obtain ⟨rfl, hq1, hq2⟩ := hp
    show gh_W l G _ X g5 _ _ [some (.ref (A 0))] 42 []
    refine gh_iconst (v := nI 1) hK d_SD_doClear_42 (by decide) ?_
    have m6 := hP5.toM hq2
    exact gh_zret rfl hK hE d_SD_doClear_43 (Nat.le_of_ble_eq_true rfl) (Nat.le_of_ble_eq_true rfl) ⟨rfl, ⟨_, _, _, _, (hl1.M m5 (by decide)).M m6 (by decide), fun q => by cases q⟩, h5.M m6 (by decide), ⟨_, hq1⟩, ((hM1.wd (by decide)).tr (m5.wd (by decide))).tr (m6.wd (by decide))⟩
  · refine gh_iconst (v := nI 0) hK d_SD_doClear_10 (by decide) ?_
    simp only [z, Bool.false_eq_true, ↓reduceIte] at hE
    exact gh_zret rfl hK hE d_SD_doClear_11 (Nat.le_of_ble_eq_true rfl) (Nat.le_of_ble_eq_true rfl) (DoP.no h hP hL hl1 hlN rfl)
