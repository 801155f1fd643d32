/-! items, and a line of them -/
def itL : List Nat × Nat → Nat → List (List Nat) → List Nat × Nat
  | o, _, [] => o
  | o, it, w :: ws => itL (prs (if 0 < it then prt o 32 else o) w) (it + 1) ws
def jnT : List (List Nat) → List Nat
  | [] => []
  | w :: ws => 32 :: (w ++ jnT ws)
def jnI : List (List Nat) → List Nat
  | [] => [45]
  | w :: ws => w ++ jnT ws
theorem itL_pos : ∀ (o : List Nat × Nat) (it : Nat) (ws : List (List Nat)), itL o (it + 1) ws = prs o (jnT ws)
  | _, _, [] => rfl
  | o, it, w :: ws => by rw [itL, if_pos (Nat.succ_pos it), itL_pos, jnT, prs_cons, prs_app]
theorem itL_end (o : List Nat × Nat) (ws : List (List Nat)) : (if ws.length = 0 then prt (itL o 0 ws) 45 else itL o 0 ws) = prs o (jnI ws) := by
  cases ws with
  | nil => rfl
  | cons w ws => rw [if_neg (by simp), itL, if_neg (by omega), itL_pos, jnI, prs_app]
theorem Pr.ap {G : GG} {g : GH} {pa pl pb it a t b u cap : Nat} {o : List Nat × Nat} {xs : List Nat} (h : Pr G g pa pl pb o it) (hr : Lt G g a t b u cap xs) (ht : t ∉ [4, 5, 6]) (hu : u ∉ [4, 5, 6]) : a ∉ [pa, pl, pb] ∧ b ∉ [pa, pl, pb] := by
  obtain ⟨f, ⟨k1, k2, -⟩, -⟩ := hr
  obtain ⟨j0, f2, ⟨j1, j2, -⟩, -⟩ := h
  simp at ht hu
  have n1 := gh_ne k1 j0 (by omega)
  have n2 := gh_ne k1 j1 (by omega)
  have n3 := gh_ne k1 j2 (by omega)
  have n4 := gh_ne k2 j0 (by omega)
  have n5 := gh_ne k2 j1 (by omega)
  have n6 := gh_ne k2 j2 (by omega)
  exact ⟨by simp [n1, n2, n3], by simp [n4, n5, n6]⟩
/-- the words that begin with w, as long as they stand together -/
def lkW (w : List Nat) : List (Nat × List Nat × Nat) → List (List Nat)
  | [] => []
  | x :: l => if bgO x.2.1 w = true then x.2.1 :: lkW w l else []
set_option maxRecDepth 20000 in
set_option maxHeartbeats 4000000 in
theorem c_SD_doLook (l : Launch) (G : GG) {g : GH} {A : Nat → Nat} {es : List (Nat × List Nat × Nat)} {us1 us2 : List (Nat × RuR)} {tx : List Nat} {o : List Nat × Nat} {ls le s e wf wl : Nat} (h : SDr G g A es us1 us2 tx) (hP : Pr G g (A 4) (A 5) (A 6) o 0) (hL : Ln g (A 3) (A 1) ls le s e wf wl) (he : e ≤ le) (hle : le ≤ tx.length) : gMet l G y_SD_doLook b_SD_doLook 4 (some .boolean) (rmk 4 0 0 92) [.ref (A 0)] g (DoP G A tx ls le g (owO tx 16 le e) (owS tx 16 le e) es us1 us2 (if (owO tx 16 le e) = true then prs o (jnI (lkW (nxW tx le e) (es.drop (rnkL (nxW tx le e) (dws es))))) else o)) := by
  refine gMet.of [some (.ref (A 0)), none, none, none] (by decide +kernel) rfl (Nat.le_of_ble_eq_true rfl) rfl (fun X hK hI hE => ?_)
  refine gh_aload_n hK d_SD_doLook_0 rfl ?_
  refine gh_get hK d_SD_doLook_1 in_SD rfl h.1.1 1 (by decide) kf_SD_23 rfl rfl ?_
  refine gh_bipush (v := nI 16) hK d_SD_doLook_4 (by decide) ?_
  refine gh_callV (rest := []) [.int (nI 16)] hK (c_Ln_nextIsOnlyWord l G hL h.2.1.2.2.2 (k := 16) he hle (by decide)) Y_Ln_nextIsOnlyWord V_Ln_nextIsOnlyWord km_SD_228 hL rfl rfl d_SD_doLook_6 rfl rfl (Nat.le_of_ble_eq_true rfl) ⟨(Nat.le_of_ble_eq_true rfl), (Nat.le_of_ble_eq_true rfl)⟩ ⟨(Nat.le_of_ble_eq_true rfl), (Nat.le_of_ble_eq_true rfl)⟩ (fun v g1 hp => ?_)
  obtain ⟨rfl, hl1, hlN⟩ := hp
  show gh_W l G _ X g1 _ _ [some (.ref (A 0)), none, none, none] 9 [.int (nI (bn (owO tx 16 le e)))]
  have hM1 := hL.toM hlN
  have h1 := h.M hM1 (by decide)
  have hP1 := hP.M hM1 (by decide) (by decide) (by decide)
  obtain ⟨b1, b2⟩ := nxS_le (tx := tx) he
  obtain ⟨b3, b4⟩ := nxE_le (tx := tx) he
  refine gh_if_neB hK d_SD_doLook_9 (tgt := 14) (by decide) (fun z => ?_) (fun z => ?_)
  · simp only [z, ↓reduceIte] at hE
    obtain ⟨w1, w2, w3, w4, w5⟩ := ow_true (wf := wf) (wl := wl) z
    rw [w2, w3] at hl1
    have hfl : nxS tx le e + (nxE tx le e - nxS tx le e) ≤ tx.length := by omega
    refine gh_aload_n hK d_SD_doLook_14 rfl ?_
    refine gh_get hK d_SD_doLook_15 in_SD rfl h1.1.1 3 (by decide) kf_SD_37 rfl rfl ?_
    refine gh_aload_n hK d_SD_doLook_18 rfl ?_
    refine gh_get hK d_SD_doLook_19 in_SD rfl h1.1.1 0 (by decide) kf_SD_14 rfl rfl ?_
    refine gh_aload_n hK d_SD_doLook_22 rfl ?_
    refine gh_get hK d_SD_doLook_23 in_SD rfl h1.1.1 1 (by decide) kf_SD_23 rfl rfl ?_
    refine gh_callV (rest := [.ref (A 1), .ref (A 7)]) [] hK (c_Ln_wordFrom l G hl1) Y_Ln_wordFrom V_Ln_wordFrom km_SD_232 hl1 rfl rfl d_SD_doLook_26 rfl rfl (Nat.le_of_ble_eq_true rfl) ⟨(Nat.le_of_ble_eq_true rfl), (Nat.le_of_ble_eq_true rfl)⟩ ⟨(Nat.le_of_ble_eq_true rfl), (Nat.le_of_ble_eq_true rfl)⟩ (fun v g' hp => ?_)
    rw [hp.1, hp.2]
    show gh_W l G _ X g1 _ _ [some (.ref (A 0)), none, none, none] 29 [.int (nI (nxS tx le e)), .ref (A 1), .ref (A 7)]
    refine gh_aload_n hK d_SD_doLook_29 rfl ?_
    refine gh_get hK d_SD_doLook_30 in_SD rfl h1.1.1 1 (by decide) kf_SD_23 rfl rfl ?_
    refine gh_callV (rest := [.int (nI (nxS tx le e)), .ref (A 1), .ref (A 7)]) [] hK (c_Ln_wordLength l G hl1) Y_Ln_wordLength V_Ln_wordLength km_SD_235 hl1 rfl rfl d_SD_doLook_33 rfl rfl (Nat.le_of_ble_eq_true rfl) ⟨(Nat.le_of_ble_eq_true rfl), (Nat.le_of_ble_eq_true rfl)⟩ ⟨(Nat.le_of_ble_eq_true rfl), (Nat.le_of_ble_eq_true rfl)⟩ (fun v g' hp => ?_)
    rw [hp.1, hp.2]
    show gh_W l G _ X g1 _ _ [some (.ref (A 0)), none, none, none] 36 [.int (nI (nxE tx le e - nxS tx le e)), .int (nI (nxS tx le e)), .ref (A 1), .ref (A 7)]
    refine gh_callV (rest := []) [.ref (A 1), .int (nI (nxS tx le e)), .int (nI (nxE tx le e - nxS tx le e))] hK (c_Dc_rankOf l G h1.2.1.1 h1.2.2.1.1 h1.2.1.2.2.2 (fr := nxS tx le e) (len := nxE tx le e - nxS tx le e) hfl) Y_Dc_rankOf V_Dc_rankOf km_SD_200 h1.2.1.1.1 rfl rfl d_SD_doLook_36 rfl rfl (Nat.le_of_ble_eq_true rfl) ⟨(Nat.le_of_ble_eq_true rfl), (Nat.le_of_ble_eq_true rfl)⟩ ⟨(Nat.le_of_ble_eq_true rfl), (Nat.le_of_ble_eq_true rfl)⟩ (fun v g' hp => ?_)
    rw [hp.1, hp.2]
    show gh_W l G _ X g1 _ _ [some (.ref (A 0)), none, none, none] 39 [.int (nI (rnkL (nxW tx le e) (dws es)))]
    refine gh_istore_n (lv' := [some (.ref (A 0)), some (.int (nI (rnkL (nxW tx le e) (dws es)))), none, none]) hK d_SD_doLook_39 (Nat.le_of_ble_eq_true rfl) rfl ?_
    refine gh_iload_n hK d_SD_doLook_40 rfl ?_
    refine gh_istore_n (lv' := [some (.ref (A 0)), some (.int (nI (rnkL (nxW tx le e) (dws es)))), some (.int (nI (rnkL (nxW tx le e) (dws es)))), none]) hK d_SD_doLook_41 (Nat.le_of_ble_eq_true rfl) rfl ?_
    have hrk := rnkd_le es (nxW tx le e)
    have hes := h1.2.2.1.2.1
    have fin : ∀ (i it2 : Nat) (g2 : GH) (o2 : List Nat × Nat) (o3 : Option Value), it2 ≤ 300 → Pr G g2 (A 4) (A 5) (A 6) o2 it2 → gh_M [4, 5, 6] g1 g2 → (if it2 = 0 then prt o2 45 else o2) = prs o (jnI (lkW (nxW tx le e) (es.drop (rnkL (nxW tx le e) (dws es))))) → gh_W l G (rmk 4 0 0 92) X g2 0 0 [some (.ref (A 0)), some (.int (nI (rnkL (nxW tx le e) (dws es)))), some (.int (nI i)), o3] 119 [] := by
      intro i it2 g2 o2 o3 hit hP2 m2 hF
      have h2 := h1.M m2 (by decide)
      refine gh_aload_n hK d_SD_doLook_119 rfl ?_
      refine gh_get hK d_SD_doLook_120 in_SD rfl h2.1.1 2 (by decide) kf_SD_30 rfl rfl ?_
      refine gh_callV (rest := []) [] hK (c_Pr_endItems l G hP2 (by omega)) Y_Pr_endItems V_Pr_endItems km_SD_294 hP2.1 rfl rfl d_SD_doLook_123 rfl rfl (Nat.le_of_ble_eq_true rfl) ⟨(Nat.le_of_ble_eq_true rfl), (Nat.le_of_ble_eq_true rfl)⟩ ⟨(Nat.le_of_ble_eq_true rfl), (Nat.le_of_ble_eq_true rfl)⟩ (fun v g3 hp => ?_)
      obtain ⟨rfl, hq1, hq2⟩ := hp
      show gh_W l G _ X g3 _ _ [some (.ref (A 0)), some (.int (nI (rnkL (nxW tx le e) (dws es)))), some (.int (nI i)), o3] 126 []
      refine gh_iconst (v := nI 1) hK d_SD_doLook_126 (by decide) ?_
      have m3 := hP2.toM hq2
      rw [hF] at hq1
      exact gh_zret rfl hK hE d_SD_doLook_127 (Nat.le_of_ble_eq_true rfl) (Nat.le_of_ble_eq_true rfl) ⟨rfl, ⟨_, _, _, _, (hl1.M m2 (by decide)).M m3 (by decide), fun q => by cases q⟩, h2.M m3 (by decide), ⟨_, hq1⟩, ((hM1.wd (by decide)).tr (m2.wd (by decide))).tr (m3.wd (by decide))⟩
    have loop : ∀ (m i it2 : Nat) (g2 : GH) (o2 : List Nat × Nat) (o3 : Option Value), i + m = es.length → it2 ≤ i → Pr G g2 (A 4) (A 5) (A 6) o2 it2 → gh_M [4, 5, 6] g1 g2 → (if it2 + (lkW (nxW tx le e) (es.drop i)).length = 0 then prt (itL o2 it2 (lkW (nxW tx le e) (es.drop i))) 45 else itL o2 it2 (lkW (nxW tx le e) (es.drop i))) = prs o (jnI (lkW (nxW tx le e) (es.drop (rnkL (nxW tx le e) (dws es))))) → gh_W l G (rmk 4 0 0 92) X g2 0 0 [some (.ref (A 0)), some (.int (nI (rnkL (nxW tx le e) (dws es)))), some (.int (nI i)), o3] 42 [] := by
      intro m
      induction m with
      | zero =>
        intro i it2 g2 o2 o3 hi hit hP2 m2 hF
        have h2 := h1.M m2 (by decide)
        have hdr : es.drop i = [] := List.drop_eq_nil_of_le (by omega)
        rw [hdr] at hF
        refine gh_iload_n hK d_SD_doLook_42 rfl ?_
        refine gh_aload_n hK d_SD_doLook_43 rfl ?_
        refine gh_get hK d_SD_doLook_44 in_SD rfl h2.1.1 3 (by decide) kf_SD_37 rfl rfl ?_
        refine gh_callV (rest := [.int (nI i)]) [] hK (c_Dc_count l G h2.2.1.1) Y_Dc_count V_Dc_count km_SD_111 h2.2.1.1.1 rfl rfl d_SD_doLook_47 rfl rfl (Nat.le_of_ble_eq_true rfl) ⟨(Nat.le_of_ble_eq_true rfl), (Nat.le_of_ble_eq_true rfl)⟩ ⟨(Nat.le_of_ble_eq_true rfl), (Nat.le_of_ble_eq_true rfl)⟩ (fun v g' hp => ?_)
        rw [hp.1, hp.2]
        show gh_W l G _ X g2 _ _ [some (.ref (A 0)), some (.int (nI (rnkL (nxW tx le e) (dws es)))), some (.int (nI i)), o3] 50 [.int (nI es.length), .int (nI i)]
        refine gh_icmp_geN hK d_SD_doLook_50 (tgt := 119) (by decide) (by omega) (by omega) (fun z => ?_) (fun z => absurd z (by omega))
        exact fin i it2 g2 o2 o3 (by omega) hP2 m2 hF
      | succ m ih =>
        intro i it2 g2 o2 o3 hi hit hP2 m2 hF
        have h2 := h1.M m2 (by decide)
        have hL2 := hl1.M m2 (by decide)
        obtain ⟨x, hx⟩ : ∃ x, es[i]? = some x := ⟨es[i], List.getElem?_eq_getElem (by omega)⟩
        have hdr : es.drop i = x :: es.drop (i + 1) := by
          rw [List.drop_eq_getElem_cons (by omega)]
          rw [List.getElem?_eq_getElem (by omega)] at hx
          rw [Option.some.inj hx]
        rw [hdr, lkW] at hF
        have hen := h2.2.1.1.2.2 x (List.mem_of_getElem? hx)
        obtain ⟨wa, wb, e1, e2⟩ := id hen
        refine gh_iload_n hK d_SD_doLook_42 rfl ?_
        refine gh_aload_n hK d_SD_doLook_43 rfl ?_
        refine gh_get hK d_SD_doLook_44 in_SD rfl h2.1.1 3 (by decide) kf_SD_37 rfl rfl ?_
        refine gh_callV (rest := [.int (nI i)]) [] hK (c_Dc_count l G h2.2.1.1) Y_Dc_count V_Dc_count km_SD_111 h2.2.1.1.1 rfl rfl d_SD_doLook_47 rfl rfl (Nat.le_of_ble_eq_true rfl) ⟨(Nat.le_of_ble_eq_true rfl), (Nat.le_of_ble_eq_true rfl)⟩ ⟨(Nat.le_of_ble_eq_true rfl), (Nat.le_of_ble_eq_true rfl)⟩ (fun v g' hp => ?_)
        rw [hp.1, hp.2]
        show gh_W l G _ X g2 _ _ [some (.ref (A 0)), some (.int (nI (rnkL (nxW tx le e) (dws es)))), some (.int (nI i)), o3] 50 [.int (nI es.length), .int (nI i)]
        refine gh_icmp_geN hK d_SD_doLook_50 (tgt := 119) (by decide) (by omega) (by omega) (fun z => absurd z (by omega)) (fun z => ?_)
        refine gh_aload_n hK d_SD_doLook_53 rfl ?_
        refine gh_get hK d_SD_doLook_54 in_SD rfl h2.1.1 3 (by decide) kf_SD_37 rfl rfl ?_
        refine gh_iload_n hK d_SD_doLook_57 rfl ?_
        refine gh_callV (rest := []) [.int (nI i)] hK (c_Dc_at l G h2.2.1.1 (j := i) (by omega)) Y_Dc_at1 V_Dc_at1 km_SD_297 h2.2.1.1.1 rfl rfl d_SD_doLook_58 rfl rfl (Nat.le_of_ble_eq_true rfl) ⟨(Nat.le_of_ble_eq_true rfl), (Nat.le_of_ble_eq_true rfl)⟩ ⟨(Nat.le_of_ble_eq_true rfl), (Nat.le_of_ble_eq_true rfl)⟩ (fun v g' hp => ?_)
        rw [hp.1 x hx, hp.2.2]
        show gh_W l G _ X g2 _ _ [some (.ref (A 0)), some (.int (nI (rnkL (nxW tx le e) (dws es)))), some (.int (nI i)), o3] 61 [.ref x.1]
        refine gh_astore_n (lv' := [some (.ref (A 0)), some (.int (nI (rnkL (nxW tx le e) (dws es)))), some (.int (nI i)), some (.ref x.1)]) hK d_SD_doLook_61 (Nat.le_of_ble_eq_true rfl) rfl ?_
        refine gh_aload_n hK d_SD_doLook_62 rfl ?_
        refine gh_ifnull hK d_SD_doLook_63 ?_
        refine gh_aload_n hK d_SD_doLook_66 rfl ?_
        refine gh_aload_n hK d_SD_doLook_67 rfl ?_
        refine gh_get hK d_SD_doLook_68 in_SD rfl h2.1.1 0 (by decide) kf_SD_14 rfl rfl ?_
        refine gh_aload_n hK d_SD_doLook_71 rfl ?_
        refine gh_get hK d_SD_doLook_72 in_SD rfl h2.1.1 1 (by decide) kf_SD_23 rfl rfl ?_
        refine gh_callV (rest := [.ref (A 1), .ref x.1]) [] hK (c_Ln_wordFrom l G hL2) Y_Ln_wordFrom V_Ln_wordFrom km_SD_232 hL2 rfl rfl d_SD_doLook_75 rfl rfl (Nat.le_of_ble_eq_true rfl) ⟨(Nat.le_of_ble_eq_true rfl), (Nat.le_of_ble_eq_true rfl)⟩ ⟨(Nat.le_of_ble_eq_true rfl), (Nat.le_of_ble_eq_true rfl)⟩ (fun v g' hp => ?_)
        rw [hp.1, hp.2]
        show gh_W l G _ X g2 _ _ [some (.ref (A 0)), some (.int (nI (rnkL (nxW tx le e) (dws es)))), some (.int (nI i)), some (.ref x.1)] 78 [.int (nI (nxS tx le e)), .ref (A 1), .ref x.1]
        refine gh_aload_n hK d_SD_doLook_78 rfl ?_
        refine gh_get hK d_SD_doLook_79 in_SD rfl h2.1.1 1 (by decide) kf_SD_23 rfl rfl ?_
        refine gh_callV (rest := [.int (nI (nxS tx le e)), .ref (A 1), .ref x.1]) [] hK (c_Ln_wordLength l G hL2) Y_Ln_wordLength V_Ln_wordLength km_SD_235 hL2 rfl rfl d_SD_doLook_82 rfl rfl (Nat.le_of_ble_eq_true rfl) ⟨(Nat.le_of_ble_eq_true rfl), (Nat.le_of_ble_eq_true rfl)⟩ ⟨(Nat.le_of_ble_eq_true rfl), (Nat.le_of_ble_eq_true rfl)⟩ (fun v g' hp => ?_)
        rw [hp.1, hp.2]
        show gh_W l G _ X g2 _ _ [some (.ref (A 0)), some (.int (nI (rnkL (nxW tx le e) (dws es)))), some (.int (nI i)), some (.ref x.1)] 85 [.int (nI (nxE tx le e - nxS tx le e)), .int (nI (nxS tx le e)), .ref (A 1), .ref x.1]
        refine gh_callV (rest := []) [.ref (A 1), .int (nI (nxS tx le e)), .int (nI (nxE tx le e - nxS tx le e))] hK (c_En_beginsWith l G hen h2.2.1.2.2.2 (fr := nxS tx le e) (len := nxE tx le e - nxS tx le e) hfl) Y_En_beginsWith V_En_beginsWith km_SD_300 e1 rfl rfl d_SD_doLook_85 rfl rfl (Nat.le_of_ble_eq_true rfl) ⟨(Nat.le_of_ble_eq_true rfl), (Nat.le_of_ble_eq_true rfl)⟩ ⟨(Nat.le_of_ble_eq_true rfl), (Nat.le_of_ble_eq_true rfl)⟩ (fun v g' hp => ?_)
        rw [hp.1, hp.2]
        show gh_W l G _ X g2 _ _ [some (.ref (A 0)), some (.int (nI (rnkL (nxW tx le e) (dws es)))), some (.int (nI i)), some (.ref x.1)] 88 [.int (nI (bn (bgO x.2.1 (nxW tx le e))))]
        refine gh_if_neB hK d_SD_doLook_88 (tgt := 94) (by decide) (fun z3 => ?_) (fun z3 => ?_)
        · rw [if_pos z3, List.length_cons, itL] at hF
          refine gh_aload_n hK d_SD_doLook_94 rfl ?_
          refine gh_get hK d_SD_doLook_95 in_SD rfl h2.1.1 2 (by decide) kf_SD_30 rfl rfl ?_
          refine gh_aload_n hK d_SD_doLook_98 rfl ?_
          refine gh_get hK d_SD_doLook_99 in_En rfl e1 0 (by decide) kf_SD_304 rfl rfl ?_
          refine gh_iconst (v := nI 0) hK d_SD_doLook_102 (by decide) ?_
          refine gh_aload_n hK d_SD_doLook_103 rfl ?_
          refine gh_get hK d_SD_doLook_104 in_En rfl e1 0 (by decide) kf_SD_304 rfl rfl ?_
          refine gh_callV (rest := [.int (nI 0), .ref wa, .ref (A 4)]) [] hK (c_Lt_count l G e2) Y_Lt_count V_Lt_count km_SD_75 e2.ob rfl rfl d_SD_doLook_107 rfl rfl (Nat.le_of_ble_eq_true rfl) ⟨(Nat.le_of_ble_eq_true rfl), (Nat.le_of_ble_eq_true rfl)⟩ ⟨(Nat.le_of_ble_eq_true rfl), (Nat.le_of_ble_eq_true rfl)⟩ (fun v g' hp => ?_)
          rw [hp.1, hp.2]
          show gh_W l G _ X g2 _ _ [some (.ref (A 0)), some (.int (nI (rnkL (nxW tx le e) (dws es)))), some (.int (nI i)), some (.ref x.1)] 110 [.int (nI x.2.1.length), .int (nI 0), .ref wa, .ref (A 4)]
          obtain ⟨a1, a2⟩ := hP2.ap e2 (by decide) (by decide)
          refine gh_callV (rest := []) [.ref wa, .int (nI 0), .int (nI x.2.1.length)] hK (c_Pr_printItem l G hP2 (by omega) e2 a1 a2 (fr := 0) (len := x.2.1.length) (by omega)) Y_Pr_printItem V_Pr_printItem km_SD_290 hP2.1 rfl rfl d_SD_doLook_110 rfl rfl (Nat.le_of_ble_eq_true rfl) ⟨(Nat.le_of_ble_eq_true rfl), (Nat.le_of_ble_eq_true rfl)⟩ ⟨(Nat.le_of_ble_eq_true rfl), (Nat.le_of_ble_eq_true rfl)⟩ (fun v g3 hp => ?_)
          obtain ⟨rfl, hq1, hq2⟩ := hp
          show gh_W l G _ X g3 _ _ [some (.ref (A 0)), some (.int (nI (rnkL (nxW tx le e) (dws es)))), some (.int (nI i)), some (.ref x.1)] 113 []
          refine gh_incN (lv' := [some (.ref (A 0)), some (.int (nI (rnkL (nxW tx le e) (dws es)))), some (.int (nI (i + 1))), some (.ref x.1)]) hK d_SD_doLook_113 rfl rfl ?_
          refine gh_goto (tgt := 42) hK d_SD_doLook_116 (by decide) ?_
          rw [List.drop_zero, List.take_length] at hq1
          refine ih (i + 1) (it2 + 1) g3 _ _ (by omega) (by omega) hq1 (m2.tr (hP2.toM hq2)) ?_
          rw [show it2 + 1 + (lkW (nxW tx le e) (es.drop (i + 1))).length = it2 + ((lkW (nxW tx le e) (es.drop (i + 1))).length + 1) by omega]
          exact hF
        · simp only [z3, Bool.false_eq_true, ↓reduceIte, List.length_nil, Nat.add_zero, itL] at hF
          refine gh_goto (tgt := 119) hK d_SD_doLook_91 (by decide) ?_
          exact fin i it2 g2 o2 _ (by omega) hP2 m2 hF
    exact loop (es.length - (rnkL (nxW tx le e) (dws es))) (rnkL (nxW tx le e) (dws es)) 0 g1 o none (by omega) (by omega) hP1 gh_M.rf (by rw [Nat.zero_add]; exact itL_end o _)
  · refine gh_iconst (v := nI 0) hK d_SD_doLook_12 (by decide) ?_
    simp only [z, Bool.false_eq_true, ↓reduceIte] at hE
    exact gh_zret rfl hK hE d_SD_doLook_13 (Nat.le_of_ble_eq_true rfl) (Nat.le_of_ble_eq_true rfl) (DoP.no h hP hL hl1 hlN rfl)
