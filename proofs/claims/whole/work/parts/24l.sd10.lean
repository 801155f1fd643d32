set_option maxRecDepth 20000 in
set_option maxHeartbeats 4000000 in
theorem c_SD_doAdd (l : Launch) (G : GG) {g : GH} {A : Nat → Nat} {es : List (Nat × List Nat × Nat)} {us1 us2 : List (Nat × RuR)} {tx : List Nat} {o : List Nat × Nat} {it : Nat} {ls le s e wf wl : Nat} (h : SDr G g A es us1 us2 tx) (hP : Pr G g (A 4) (A 5) (A 6) o it) (hL : Ln g (A 3) (A 1) ls le s e wf wl) (he : e ≤ le) (hle : le ≤ tx.length) : gMet l G y_SD_doAdd b_SD_doAdd 6 (some .boolean) (rmk 7 4 470 197) [.ref (A 0)] g (fun v g' => ∃ a, DoP G A tx ls le g (adO tx le e) (adQ tx le e) (if (adO tx le e) = true then adE es a (adW tx le e) ((adF tx le e).getD 0) else es) us1 us2 (if (adO tx le e) = true then prs o (adT es (adW tx le e)) else o) v g') := by
  refine gMet.of [some (.ref (A 0)), none, none, none, none, none] (by decide +kernel) rfl (Nat.le_of_ble_eq_true rfl) rfl (fun X hK hI hE => ?_)
  obtain ⟨b1, b2⟩ := nxS_le (tx := tx) he
  obtain ⟨b3, b4⟩ := nxE_le (tx := tx) he
  obtain ⟨b5, b6⟩ := nxS_le (tx := tx) b4
  obtain ⟨b7, b8⟩ := nxE_le (tx := tx) b4
  have htl := h.2.1.2.2.2.len
  refine gh_aload_n hK d_SD_doAdd_0 rfl ?_
  refine gh_get hK d_SD_doAdd_1 in_SD rfl h.1.1 1 (by decide) kf_SD_23 rfl rfl ?_
  refine gh_callV (rest := []) [] hK (c_Ln_next l G hL h.2.1.2.2.2 he hle) Y_Ln_next V_Ln_next km_SD_120 hL rfl rfl d_SD_doAdd_4 rfl rfl (Nat.le_of_ble_eq_true rfl) ⟨(Nat.le_of_ble_eq_true rfl), (Nat.le_of_ble_eq_true rfl)⟩ ⟨(Nat.le_of_ble_eq_true rfl), (Nat.le_of_ble_eq_true rfl)⟩ (fun v g1 hp => ?_)
  obtain ⟨rfl, hl1, hlN⟩ := hp
  show gh_W l G _ X g1 _ _ [some (.ref (A 0)), none, none, none, none, none] 7 [.int (nI (bn (decide (nxS tx le e < nxE tx le e))))]
  have hM1 := hL.toM hlN
  have h1 := h.M hM1 (by decide)
  have hP1 := hP.M hM1 (by decide) (by decide) (by decide)
  refine gh_if_neB hK d_SD_doAdd_7 (tgt := 12) (by decide) (fun z => ?_) (fun z => ?_)
  · have zz := of_decide_eq_true z
    refine gh_aload_n hK d_SD_doAdd_12 rfl ?_
    refine gh_get hK d_SD_doAdd_13 in_SD rfl h1.1.1 1 (by decide) kf_SD_23 rfl rfl ?_
    refine gh_callV (rest := []) [] hK (c_Ln_start l G hl1) Y_Ln_start V_Ln_start km_SD_188 hl1 rfl rfl d_SD_doAdd_16 rfl rfl (Nat.le_of_ble_eq_true rfl) ⟨(Nat.le_of_ble_eq_true rfl), (Nat.le_of_ble_eq_true rfl)⟩ ⟨(Nat.le_of_ble_eq_true rfl), (Nat.le_of_ble_eq_true rfl)⟩ (fun v g' hp => ?_)
    rw [hp.1, hp.2]
    show gh_W l G _ X g1 _ _ [some (.ref (A 0)), none, none, none, none, none] 19 [.int (nI (nxS tx le e))]
    refine gh_istore_n (lv' := [some (.ref (A 0)), some (.int (nI (nxS tx le e))), none, none, none, none]) hK d_SD_doAdd_19 (Nat.le_of_ble_eq_true rfl) rfl ?_
    refine gh_aload_n hK d_SD_doAdd_20 rfl ?_
    refine gh_get hK d_SD_doAdd_21 in_SD rfl h1.1.1 1 (by decide) kf_SD_23 rfl rfl ?_
    refine gh_callV (rest := []) [] hK (c_Ln_leadingLetters l G hl1 h1.2.1.2.2.2 b3 (by omega)) Y_Ln_leadingLetters V_Ln_leadingLetters km_SD_191 hl1 rfl rfl d_SD_doAdd_24 rfl rfl (Nat.le_of_ble_eq_true rfl) ⟨(Nat.le_of_ble_eq_true rfl), (Nat.le_of_ble_eq_true rfl)⟩ ⟨(Nat.le_of_ble_eq_true rfl), (Nat.le_of_ble_eq_true rfl)⟩ (fun v g' hp => ?_)
    rw [hp.1, hp.2]
    show gh_W l G _ X g1 _ _ [some (.ref (A 0)), some (.int (nI (nxS tx le e))), none, none, none, none] 27 [.int (nI (adL tx le e))]
    refine gh_istore_n (lv' := [some (.ref (A 0)), some (.int (nI (nxS tx le e))), some (.int (nI (adL tx le e))), none, none, none]) hK d_SD_doAdd_27 (Nat.le_of_ble_eq_true rfl) rfl ?_
    refine gh_aload_n hK d_SD_doAdd_28 rfl ?_
    refine gh_get hK d_SD_doAdd_29 in_SD rfl h1.1.1 1 (by decide) kf_SD_23 rfl rfl ?_
    refine gh_iload_n hK d_SD_doAdd_32 rfl ?_
    have hT : nxS tx le e + adL tx le e ≤ nxE tx le e := by
      have q1 := sc_ge (fun i => isLet (tx.getD i 0)) (nxE tx le e) (nxS tx le e)
      have q2 := sc_le (p := fun i => isLet (tx.getD i 0)) b3
      unfold adL ldL
      omega
    refine gh_callV (rest := []) [.int (nI (adL tx le e))] hK (c_Ln_flagsBehind l G hl1 h1.2.1.2.2.2 (k := adL tx le e) hT (by omega)) Y_Ln_flagsBehind V_Ln_flagsBehind km_SD_194 hl1 rfl rfl d_SD_doAdd_33 rfl rfl (Nat.le_of_ble_eq_true rfl) ⟨(Nat.le_of_ble_eq_true rfl), (Nat.le_of_ble_eq_true rfl)⟩ ⟨(Nat.le_of_ble_eq_true rfl), (Nat.le_of_ble_eq_true rfl)⟩ (fun v g' hp => ?_)
    rw [hp.1, hp.2]
    show gh_W l G _ X g1 _ _ [some (.ref (A 0)), some (.int (nI (nxS tx le e))), some (.int (nI (adL tx le e))), none, none, none] 36 [.int (flV (adF tx le e))]
    refine gh_istore_n (lv' := [some (.ref (A 0)), some (.int (nI (nxS tx le e))), some (.int (nI (adL tx le e))), some (.int (flV (adF tx le e))), none, none]) hK d_SD_doAdd_36 (Nat.le_of_ble_eq_true rfl) rfl ?_
    refine gh_iload_n hK d_SD_doAdd_37 rfl ?_
    refine gh_iconst (v := nI 1) hK d_SD_doAdd_38 (by decide) ?_
    have bad : ∀ (g2 : GH) (s2 e2 q : Nat), adO tx le e = false → adQ tx le e = q → s2 = q → Ln g2 (A 3) (A 1) ls le s2 e2 wf wl → gh_N [A 3] g g2 → gh_W l G (rmk 7 4 470 197) X g2 0 0 [some (.ref (A 0)), some (.int (nI (nxS tx le e))), some (.int (nI (adL tx le e))), some (.int (flV (adF tx le e))), none, none] 62 [] := by
      intro g2 s2 e2 q hO hQ hs hL2 hN2
      simp only [hO, hQ, Bool.false_eq_true, ↓reduceIte] at hE
      refine gh_iconst (v := nI 0) hK d_SD_doAdd_62 (by decide) ?_
      exact gh_zret rfl hK hE d_SD_doAdd_63 (Nat.le_of_ble_eq_true rfl) (Nat.le_of_ble_eq_true rfl) ⟨0, DoP.no h hP hL hL2 hN2 hs⟩
    have bad1 : adG tx le e = false → gh_W l G (rmk 7 4 470 197) X g1 0 0 [some (.ref (A 0)), some (.int (nI (nxS tx le e))), some (.int (nI (adL tx le e))), some (.int (flV (adF tx le e))), none, none] 62 [] := fun hG => bad g1 _ _ _ (by unfold adO; rw [hG]; rfl) (by unfold adQ; rw [hG]; rfl) rfl hl1 hlN
    refine gh_icmp_ltN hK d_SD_doAdd_39 (tgt := 62) (by decide) (by omega) (by omega) (fun z1 => ?_) (fun z1 => ?_)
    · exact bad1 (by unfold adG; rw [decide_eq_false (by omega)]; rfl)
    refine gh_iload_n hK d_SD_doAdd_42 rfl ?_
    refine gh_bipush (v := nI 16) hK d_SD_doAdd_43 (by decide) ?_
    refine gh_icmp_gtN hK d_SD_doAdd_45 (tgt := 62) (by decide) (by omega) (by omega) (fun z2 => ?_) (fun z2 => ?_)
    · exact bad1 (by unfold adG; rw [decide_eq_false (by omega)]; rfl)
    refine gh_iload_n hK d_SD_doAdd_48 rfl ?_
    refine gh_if_lt hK d_SD_doAdd_49 (tgt := 62) (by decide) (fun z3 => ?_) (fun z3 => ?_)
    · refine bad1 ?_
      cases hF : adF tx le e with
      | none => unfold adG; rw [hF]; exact Bool.and_false _
      | some f =>
        rw [hF] at z3
        exact absurd z3 (nI_pos (by have := flB_lt hF; omega))
    obtain ⟨f, hF⟩ : ∃ f, adF tx le e = some f := by
      cases hF : adF tx le e with
      | some f => exact ⟨f, rfl⟩
      | none =>
        rw [hF] at z3
        exact absurd (by decide : (-1 : Int32) < 0) z3
    have hf26 := flB_lt hF
    have hG : adG tx le e = true := by
      unfold adG
      rw [hF, decide_eq_true ⟨zz, by omega, by omega⟩]
      rfl
    refine gh_aload_n hK d_SD_doAdd_52 rfl ?_
    refine gh_get hK d_SD_doAdd_53 in_SD rfl h1.1.1 1 (by decide) kf_SD_23 rfl rfl ?_
    refine gh_callV (rest := []) [] hK (c_Ln_ends l G hl1 h1.2.1.2.2.2 b4 hle) Y_Ln_ends V_Ln_ends km_SD_197 hl1 rfl rfl d_SD_doAdd_56 rfl rfl (Nat.le_of_ble_eq_true rfl) ⟨(Nat.le_of_ble_eq_true rfl), (Nat.le_of_ble_eq_true rfl)⟩ ⟨(Nat.le_of_ble_eq_true rfl), (Nat.le_of_ble_eq_true rfl)⟩ (fun v g2 hp => ?_)
    obtain ⟨rfl, hl2, hlN2⟩ := hp
    show gh_W l G _ X g2 _ _ [some (.ref (A 0)), some (.int (nI (nxS tx le e))), some (.int (nI (adL tx le e))), some (.int (flV (adF tx le e))), none, none] 59 [.int (nI (bn (decide (nxE tx le (nxE tx le e) ≤ nxS tx le (nxE tx le e)))))]
    have hN2 := hlN.tr hlN2
    refine gh_if_neB hK d_SD_doAdd_59 (tgt := 64) (by decide) (fun z4 => ?_) (fun z4 => ?_)
    · have hO : adO tx le e = true := by unfold adO; rw [hG, z4]; rfl
      simp only [hO, hF, Option.getD_some, ↓reduceIte] at hE
      rw [hF]
      show gh_W l G _ X g2 _ _ [some (.ref (A 0)), some (.int (nI (nxS tx le e))), some (.int (nI (adL tx le e))), some (.int (nI f)), none, none] 64 []
      have hM2 := hL.toM hN2
      have h2 := h.M hM2 (by decide)
      have hP2 := hP.M hM2 (by decide) (by decide) (by decide)
      have hfl : nxS tx le e + adL tx le e ≤ tx.length := by omega
      have hes := h.2.2.1.2.1
      have hwl := slice_len hfl
      have hrk := rnkd_le es (adW tx le e)
      refine gh_aload_n hK d_SD_doAdd_64 rfl ?_
      refine gh_get hK d_SD_doAdd_65 in_SD rfl h2.1.1 3 (by decide) kf_SD_37 rfl rfl ?_
      refine gh_aload_n hK d_SD_doAdd_68 rfl ?_
      refine gh_get hK d_SD_doAdd_69 in_SD rfl h2.1.1 0 (by decide) kf_SD_14 rfl rfl ?_
      refine gh_iload_n hK d_SD_doAdd_72 rfl ?_
      refine gh_iload_n hK d_SD_doAdd_73 rfl ?_
      refine gh_callV (rest := []) [.ref (A 1), .int (nI (nxS tx le e)), .int (nI (adL tx le e))] hK (c_Dc_rankOf l G h2.2.1.1 h2.2.2.1.1 h2.2.1.2.2.2 (fr := nxS tx le e) (len := adL tx le e) hfl) Y_Dc_rankOf V_Dc_rankOf km_SD_200 h2.2.1.1.1 rfl rfl d_SD_doAdd_74 rfl rfl (Nat.le_of_ble_eq_true rfl) ⟨(Nat.le_of_ble_eq_true rfl), (Nat.le_of_ble_eq_true rfl)⟩ ⟨(Nat.le_of_ble_eq_true rfl), (Nat.le_of_ble_eq_true rfl)⟩ (fun v g' hp => ?_)
      rw [hp.1, hp.2]
      show gh_W l G _ X g2 _ _ [some (.ref (A 0)), some (.int (nI (nxS tx le e))), some (.int (nI (adL tx le e))), some (.int (nI f)), none, none] 77 [.int (nI (rnkL (adW tx le e) (dws es)))]
      refine gh_istore (lv' := [some (.ref (A 0)), some (.int (nI (nxS tx le e))), some (.int (nI (adL tx le e))), some (.int (nI f)), some (.int (nI (rnkL (adW tx le e) (dws es)))), none]) hK d_SD_doAdd_77 (Nat.le_of_ble_eq_true rfl) rfl ?_
      refine gh_aload_n hK d_SD_doAdd_79 rfl ?_
      refine gh_get hK d_SD_doAdd_80 in_SD rfl h2.1.1 3 (by decide) kf_SD_37 rfl rfl ?_
      refine gh_iload hK d_SD_doAdd_83 rfl ?_
      refine gh_aload_n hK d_SD_doAdd_85 rfl ?_
      refine gh_get hK d_SD_doAdd_86 in_SD rfl h2.1.1 0 (by decide) kf_SD_14 rfl rfl ?_
      refine gh_iload_n hK d_SD_doAdd_89 rfl ?_
      refine gh_iload_n hK d_SD_doAdd_90 rfl ?_
      by_cases hq : (adW tx le e) ∈ dws es
      · obtain ⟨x, x1, x2⟩ := fnd_yes h2.2.2.1.1 hq
        simp only [adE, adT, hq, ↓reduceIte] at hE
        obtain ⟨wa, wb, e1, e2⟩ := h2.2.1.1.2.2 x (List.mem_of_getElem? x1)
        refine gh_callV (rest := []) [.int (nI (rnkL (adW tx le e) (dws es))), .ref (A 1), .int (nI (nxS tx le e)), .int (nI (adL tx le e))] hK (c_Dc_atW l G h2.2.1.1 (j := (rnkL (adW tx le e) (dws es))) (by omega) h2.2.1.2.2.2 (fr := nxS tx le e) (len := adL tx le e) hfl) Y_Dc_at V_Dc_at km_SD_204 h2.2.1.1.1 rfl rfl d_SD_doAdd_91 rfl rfl (Nat.le_of_ble_eq_true rfl) ⟨(Nat.le_of_ble_eq_true rfl), (Nat.le_of_ble_eq_true rfl)⟩ ⟨(Nat.le_of_ble_eq_true rfl), (Nat.le_of_ble_eq_true rfl)⟩ (fun v g' hp => ?_)
        rw [hp.1 x x1 x2, hp.2.2]
        show gh_W l G _ X g2 _ _ [some (.ref (A 0)), some (.int (nI (nxS tx le e))), some (.int (nI (adL tx le e))), some (.int (nI f)), some (.int (nI (rnkL (adW tx le e) (dws es)))), none] 94 [.ref x.1]
        refine gh_astore (lv' := [some (.ref (A 0)), some (.int (nI (nxS tx le e))), some (.int (nI (adL tx le e))), some (.int (nI f)), some (.int (nI (rnkL (adW tx le e) (dws es)))), some (.ref x.1)]) hK d_SD_doAdd_94 (Nat.le_of_ble_eq_true rfl) rfl ?_
        refine gh_aload hK d_SD_doAdd_96 rfl ?_
        refine gh_ifnull hK d_SD_doAdd_98 ?_
        refine gh_aload hK d_SD_doAdd_101 rfl ?_
        refine gh_iload_n hK d_SD_doAdd_103 rfl ?_
        refine gh_put (fs' := [.ref wa, .int (nI f)]) hK d_SD_doAdd_104 in_En t_En ty_En nm_En rfl e1 1 (by decide) kf_SD_207 rfl rfl rfl rfl (Nat.le_of_ble_eq_true rfl) rfl ?_
        have d3 := h2.2.1.1.st h2.2.2.1.1 x1 e1 e2 (f := f)
        have m3 : gh_M [50] g2 (gh_up g2 x.1 50 (.inr (2, [.ref wa, .int (nI f)]))) := gh_M.up e1 (by decide)
        generalize gh_up g2 x.1 50 (.inr (2, [.ref wa, .int (nI f)])) = g3 at d3 m3 ⊢
        have h3 := h2.dc m3 (by decide) d3 (h2.2.2.st x1 hf26)
        have hP3 := hP2.M m3 (by decide) (by decide) (by decide)
        refine gh_aload_n hK d_SD_doAdd_107 rfl ?_
        refine gh_get hK d_SD_doAdd_108 in_SD rfl h3.1.1 2 (by decide) kf_SD_30 rfl rfl ?_
        refine gh_ldcS (i := 1) hK d_SD_doAdd_111 (by decide) rfl ?_
        refine gh_callV (rest := []) [.ref (G.2.2.1 1)] hK (c_Pr_printText l G hP3 (i := 1) (by decide)) Y_Pr_printText V_Pr_printText km_SD_176 hP3.1 rfl rfl d_SD_doAdd_113 rfl rfl (Nat.le_of_ble_eq_true rfl) ⟨(Nat.le_of_ble_eq_true rfl), (Nat.le_of_ble_eq_true rfl)⟩ ⟨(Nat.le_of_ble_eq_true rfl), (Nat.le_of_ble_eq_true rfl)⟩ (fun v g4 hp => ?_)
        obtain ⟨rfl, hq1, hq2⟩ := hp
        show gh_W l G _ X g4 _ _ [some (.ref (A 0)), some (.int (nI (nxS tx le e))), some (.int (nI (adL tx le e))), some (.int (nI f)), some (.int (nI (rnkL (adW tx le e) (dws es)))), some (.ref x.1)] 116 []
        refine gh_goto (tgt := 179) hK d_SD_doAdd_116 (by decide) ?_
        refine gh_iconst (v := nI 1) hK d_SD_doAdd_179 (by decide) ?_
        have m4 := hP3.toM hq2
        exact gh_zret rfl hK hE d_SD_doAdd_180 (Nat.le_of_ble_eq_true rfl) (Nat.le_of_ble_eq_true rfl) ⟨0, rfl, ⟨_, _, _, _, (hl2.M m3 (by decide)).M m4 (by decide), fun q => by cases q⟩, h3.M m4 (by decide), ⟨_, hq1⟩, ((hM2.wd (by decide)).tr (m3.wd (by decide))).tr (m4.wd (by decide))⟩
      · simp only [adE, adT, hq, ↓reduceIte] at hE
        refine gh_callV (rest := []) [.int (nI (rnkL (adW tx le e) (dws es))), .ref (A 1), .int (nI (nxS tx le e)), .int (nI (adL tx le e))] hK (c_Dc_atW l G h2.2.1.1 (j := (rnkL (adW tx le e) (dws es))) (by omega) h2.2.1.2.2.2 (fr := nxS tx le e) (len := adL tx le e) hfl) Y_Dc_at V_Dc_at km_SD_204 h2.2.1.1.1 rfl rfl d_SD_doAdd_91 rfl rfl (Nat.le_of_ble_eq_true rfl) ⟨(Nat.le_of_ble_eq_true rfl), (Nat.le_of_ble_eq_true rfl)⟩ ⟨(Nat.le_of_ble_eq_true rfl), (Nat.le_of_ble_eq_true rfl)⟩ (fun v g' hp => ?_)
        rw [hp.2.1 (fnd_no h2.2.2.1.1 hq), hp.2.2]
        show gh_W l G _ X g2 _ _ [some (.ref (A 0)), some (.int (nI (nxS tx le e))), some (.int (nI (adL tx le e))), some (.int (nI f)), some (.int (nI (rnkL (adW tx le e) (dws es)))), none] 94 [.null]
        refine gh_astoreN (lv' := [some (.ref (A 0)), some (.int (nI (nxS tx le e))), some (.int (nI (adL tx le e))), some (.int (nI f)), some (.int (nI (rnkL (adW tx le e) (dws es)))), some (.null)]) hK d_SD_doAdd_94 (Nat.le_of_ble_eq_true rfl) rfl ?_
        refine gh_aloadN hK d_SD_doAdd_96 rfl ?_
        refine gh_ifnullN hK d_SD_doAdd_98 (tgt := 119) (by decide) ?_
        refine gh_aload_n hK d_SD_doAdd_119 rfl ?_
        refine gh_get hK d_SD_doAdd_120 in_SD rfl h2.1.1 3 (by decide) kf_SD_37 rfl rfl ?_
        refine gh_callV (rest := []) [] hK (c_Dc_count l G h2.2.1.1) Y_Dc_count V_Dc_count km_SD_111 h2.2.1.1.1 rfl rfl d_SD_doAdd_123 rfl rfl (Nat.le_of_ble_eq_true rfl) ⟨(Nat.le_of_ble_eq_true rfl), (Nat.le_of_ble_eq_true rfl)⟩ ⟨(Nat.le_of_ble_eq_true rfl), (Nat.le_of_ble_eq_true rfl)⟩ (fun v g' hp => ?_)
        rw [hp.1, hp.2]
        show gh_W l G _ X g2 _ _ [some (.ref (A 0)), some (.int (nI (nxS tx le e))), some (.int (nI (adL tx le e))), some (.int (nI f)), some (.int (nI (rnkL (adW tx le e) (dws es)))), some (.null)] 126 [.int (nI es.length)]
        refine gh_sipush (v := nI 300) hK d_SD_doAdd_126 (by decide) ?_
        refine gh_icmp_ltN hK d_SD_doAdd_129 (tgt := 144) (by decide) (by omega) (by omega) (fun z5 => ?_) (fun z5 => ?_)
        · simp only [z5, ↓reduceIte] at hE
          refine gh_aload_n hK d_SD_doAdd_144 rfl ?_
          refine gh_get hK d_SD_doAdd_145 in_SD rfl h2.1.1 3 (by decide) kf_SD_37 rfl rfl ?_
          refine gh_iload hK d_SD_doAdd_148 rfl ?_
          refine gh_new (ci := 2) (fs := [.null, .int 0]) 50 hK d_SD_doAdd_150 in_En t_En ty_En rfl kc_SD_208 wi_En wn_En df_En (Nat.le_of_ble_eq_true rfl) (Nat.le_of_ble_eq_true rfl) (fun ea hea => ?_)
          have hT3 : Lt G (gh_up g2 ea 50 (.inr (2, [.null, .int 0]))) (A 1) 1 (A 2) 2 2048 tx := h2.2.1.2.2.2.M (gh_M.nw (S := []) hea) (by decide) (by decide)
          have hO3 : gh_up g2 ea 50 (.inr (2, [.null, .int 0])) (A 0) = _ := gh_M.nw (S := []) hea _ 0 _ h2.1.1 (by decide)
          refine gh_dup hK d_SD_doAdd_153 rfl ?_
          refine gh_aload_n hK d_SD_doAdd_154 rfl ?_
          refine gh_get hK d_SD_doAdd_155 in_SD rfl hO3 0 (by decide) kf_SD_14 rfl rfl ?_
          refine gh_iload_n hK d_SD_doAdd_158 rfl ?_
          refine gh_iload_n hK d_SD_doAdd_159 rfl ?_
          refine gh_callV (rest := [.ref ea, .ref ea, .int (nI (rnkL (adW tx le e) (dws es))), .ref (A 7)]) [.int (nI (nxS tx le e)), .int (nI (adL tx le e))] hK (c_Lt_copy l G 51 52 hT3 (fr := nxS tx le e) (len := adL tx le e) hfl) Y_Lt_copy V_Lt_copy km_SD_217 hT3.ob rfl rfl d_SD_doAdd_160 rfl rfl (Nat.le_of_ble_eq_true rfl) ⟨(Nat.le_of_ble_eq_true rfl), (Nat.le_of_ble_eq_true rfl)⟩ ⟨(Nat.le_of_ble_eq_true rfl), (by show 0 + 2 + (2 + adL tx le e) ≤ 470; omega)⟩ (fun v g4 hp => ?_)
          obtain ⟨a1, y1, rfl, ha1, hy1, lt4, hN4⟩ := hp
          show gh_W l G _ X g4 3 (2 + (2 + adL tx le e)) [some (.ref (A 0)), some (.int (nI (nxS tx le e))), some (.int (nI (adL tx le e))), some (.int (nI f)), some (.int (nI (rnkL (adW tx le e) (dws es)))), some (.null)] 163 [.ref a1, .ref ea, .ref ea, .int (nI (rnkL (adW tx le e) (dws es))), .ref (A 7)]
          have e4 : g4 ea = some (50, .inr (2, [.null, .int 0])) := by
            rw [hN4 ea (by simp) (by rw [gh_us]; exact fun z => by cases z), gh_us]
          have hne : a1 ≠ ea := fun z => by rw [z, gh_us] at ha1; cases ha1
          have hne2 : y1 ≠ ea := fun z => by rw [z, gh_us] at hy1; cases hy1
          refine gh_iload_n hK d_SD_doAdd_163 rfl ?_
          refine gh_callI (rest := [.ref ea, .int (nI (rnkL (adW tx le e) (dws es))), .ref (A 7)]) [.ref a1, .int (nI f)] hK (c_En_init l G e4 (wa := a1) (fl := f)) Y_En_init rfl V_En_init km_SD_221 rfl d_SD_doAdd_164 rfl rfl (Nat.le_of_ble_eq_true rfl) ⟨(Nat.le_of_ble_eq_true rfl), (Nat.le_of_ble_eq_true rfl)⟩ ⟨(Nat.le_of_ble_eq_true rfl), (by show 2 + (2 + adL tx le e) + 0 ≤ 470; omega)⟩ (fun v g5 hp => ?_)
          obtain ⟨rfl, e5, hN5⟩ := hp
          show gh_W l G _ X g5 3 (2 + (2 + adL tx le e)) [some (.ref (A 0)), some (.int (nI (nxS tx le e))), some (.int (nI (adL tx le e))), some (.int (nI f)), some (.int (nI (rnkL (adW tx le e) (dws es)))), some (.null)] 167 [.ref ea, .int (nI (rnkL (adW tx le e) (dws es))), .ref (A 7)]
          have hN25 : gh_N [] g2 g5 := gh_N.fresh (gh_N.tr (gh_N.nw hea) hN4) hN5 (fun q hq => by rw [List.mem_singleton.mp hq]; exact Or.inr hea)
          have m5 : gh_M [] g2 g5 := hN25.M fun a ha => by cases ha
          have lt5 := lt4.N hN5 (by simpa using hne) (by simpa using hne2)
          have en5 : En G g5 ea (adW tx le e) f := ⟨a1, y1, e5, by rw [hwl]; exact lt5⟩
          have h5 := h2.M m5 (by decide)
          have hP5 := hP2.M m5 (by decide) (by decide) (by decide)
          refine gh_callV (rest := []) [.int (nI (rnkL (adW tx le e) (dws es))), .ref ea] hK (c_Dc_insert l G h5.2.1.1 (j := (rnkL (adW tx le e) (dws es))) hrk z5 en5) Y_Dc_insert V_Dc_insert km_SD_222 h5.2.1.1.1 rfl rfl d_SD_doAdd_167 rfl rfl (Nat.le_of_ble_eq_true rfl) ⟨(Nat.le_of_ble_eq_true rfl), (Nat.le_of_ble_eq_true rfl)⟩ ⟨(Nat.le_of_ble_eq_true rfl), (by show 2 + (2 + adL tx le e) + 450 ≤ 470; omega)⟩ (fun v g6 hp => ?_)
          obtain ⟨rfl, d6, m6⟩ := hp
          show gh_W l G _ X g6 4 (2 + (2 + adL tx le e) + 450) [some (.ref (A 0)), some (.int (nI (nxS tx le e))), some (.int (nI (adL tx le e))), some (.int (nI f)), some (.int (nI (rnkL (adW tx le e) (dws es)))), some (.null)] 170 []
          have h6 := h5.dc m6 (by decide) d6 (h5.2.2.ins hq z5 hf26 (by rw [show (adW tx le e).length = adL tx le e from hwl]; omega))
          have hP6 := hP5.M m6 (by decide) (by decide) (by decide)
          refine gh_aload_n hK d_SD_doAdd_170 rfl ?_
          refine gh_get hK d_SD_doAdd_171 in_SD rfl h6.1.1 2 (by decide) kf_SD_30 rfl rfl ?_
          refine gh_ldcS (i := 3) hK d_SD_doAdd_174 (by decide) rfl ?_
          refine gh_callV (rest := []) [.ref (G.2.2.1 3)] hK (c_Pr_printText l G hP6 (i := 3) (by decide)) Y_Pr_printText V_Pr_printText km_SD_176 hP6.1 rfl rfl d_SD_doAdd_176 rfl rfl (Nat.le_of_ble_eq_true rfl) ⟨(Nat.le_of_ble_eq_true rfl), (Nat.le_of_ble_eq_true rfl)⟩ ⟨(Nat.le_of_ble_eq_true rfl), (by show 2 + (2 + adL tx le e) + 450 + 0 ≤ 470; omega)⟩ (fun v g7 hp => ?_)
          obtain ⟨rfl, hq1, hq2⟩ := hp
          show gh_W l G _ X g7 4 (2 + (2 + adL tx le e) + 450) [some (.ref (A 0)), some (.int (nI (nxS tx le e))), some (.int (nI (adL tx le e))), some (.int (nI f)), some (.int (nI (rnkL (adW tx le e) (dws es)))), some (.null)] 179 []
          refine gh_iconst (v := nI 1) hK d_SD_doAdd_179 (by decide) ?_
          have m7 := hP6.toM hq2
          exact gh_zret rfl hK hE d_SD_doAdd_180 (Nat.le_of_ble_eq_true rfl) (by show 2 + (2 + adL tx le e) + 450 ≤ 470; omega) ⟨ea, rfl, ⟨_, _, _, _, ((hl2.M m5 (by decide)).M m6 (by decide)).M m7 (by decide), fun q => by cases q⟩, h6.M m7 (by decide), ⟨_, hq1⟩, (((hM2.wd (by decide)).tr (m5.wd (by decide))).tr (m6.wd (by decide))).tr (m7.wd (by decide))⟩
        · have z6 : ¬ es.length < 300 := by omega
          simp only [z6, ↓reduceIte] at hE
          refine gh_aload_n hK d_SD_doAdd_132 rfl ?_
          refine gh_get hK d_SD_doAdd_133 in_SD rfl h2.1.1 2 (by decide) kf_SD_30 rfl rfl ?_
          refine gh_ldcS (i := 2) hK d_SD_doAdd_136 (by decide) rfl ?_
          refine gh_callV (rest := []) [.ref (G.2.2.1 2)] hK (c_Pr_printText l G hP2 (i := 2) (by decide)) Y_Pr_printText V_Pr_printText km_SD_176 hP2.1 rfl rfl d_SD_doAdd_138 rfl rfl (Nat.le_of_ble_eq_true rfl) ⟨(Nat.le_of_ble_eq_true rfl), (Nat.le_of_ble_eq_true rfl)⟩ ⟨(Nat.le_of_ble_eq_true rfl), (Nat.le_of_ble_eq_true rfl)⟩ (fun v g4 hp => ?_)
          obtain ⟨rfl, hq1, hq2⟩ := hp
          show gh_W l G _ X g4 _ _ [some (.ref (A 0)), some (.int (nI (nxS tx le e))), some (.int (nI (adL tx le e))), some (.int (nI f)), some (.int (nI (rnkL (adW tx le e) (dws es)))), some (.null)] 141 []
          refine gh_goto (tgt := 179) hK d_SD_doAdd_141 (by decide) ?_
          refine gh_iconst (v := nI 1) hK d_SD_doAdd_179 (by decide) ?_
          have m4 := hP2.toM hq2
          exact gh_zret rfl hK hE d_SD_doAdd_180 (Nat.le_of_ble_eq_true rfl) (Nat.le_of_ble_eq_true rfl) ⟨0, rfl, ⟨_, _, _, _, hl2.M m4 (by decide), fun q => by cases q⟩, h2.M m4 (by decide), ⟨_, hq1⟩, (hM2.wd (by decide)).tr (m4.wd (by decide))⟩
    · exact bad g2 _ _ _ (by unfold adO; rw [hG, z4]; rfl) (by unfold adQ; rw [hG]; rfl) rfl hl2 hN2
  · have zz := of_decide_eq_false z
    have hG : adG tx le e = false := by unfold adG; rw [decide_eq_false (fun q => zz q.1)]; rfl
    have hO : adO tx le e = false := by unfold adO; rw [hG]; rfl
    have hQ : adQ tx le e = nxS tx le e := by unfold adQ; rw [hG]; rfl
    simp only [hO, hQ, Bool.false_eq_true, ↓reduceIte] at hE
    refine gh_iconst (v := nI 0) hK d_SD_doAdd_10 (by decide) ?_
    exact gh_zret rfl hK hE d_SD_doAdd_11 (Nat.le_of_ble_eq_true rfl) (Nat.le_of_ble_eq_true rfl) ⟨0, DoP.no h hP hL hl1 hlN rfl⟩
