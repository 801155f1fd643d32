def ruA (us : List (Nat × RuR)) (a : Nat) (r : Option RuR) : List (Nat × RuR) := match r with
  | none => us
  | some u => if us.length < 8 then us ++ [(a, u)] else us
def ruT (us : List (Nat × RuR)) (r : Option RuR) (o : List Nat × Nat) : List Nat × Nat := match r with
  | none => o
  | some _ => prs o (if us.length < 8 then st_txt.getD 3 [] else st_txt.getD 2 [])
theorem rdR_some {tx : List Nat} {le e : Nat} {u : RuR} (he : e ≤ le) (hle : le ≤ tx.length) (h : (rdR tx le e).1 = some u) : u.1 < 2 ^ 26 ∧ RuB u := by
  have b1 := (nxE_le (tx := tx) he).2
  have b2 := (nxE_le (tx := tx) b1).2
  have b3 := (nxE_le (tx := tx) b2).2
  have b4 := (nxE_le (tx := tx) b3).2
  unfold rdR rdR2 rdR3 rdR4 rdR5 at h
  split at h
  · split at h
    · next q2 =>
      split at h
      · next q3 =>
        split at h
        · next q4 =>
          split at h
          · cases h
            exact ⟨rdF_lt _ _ _, (ptO_le (by omega) q2).2.2, (ptO_le (by omega) q3).2.2, (ptO_le (by omega) q4).2.2⟩
          · cases h
        · cases h
      · cases h
    · cases h
  · cases h
theorem SDr.r1 {G : GG} {g g' : GH} {A : Nat → Nat} {es : List (Nat × List Nat × Nat)} {us1 us2 us3 : List (Nat × RuR)} {tx : List Nat} (h : SDr G g A es us1 us2 tx) (hM : gh_M [11, 12] g g') (hd : Rs G g' (A 10) (A 11) (A 13) 10 true us3) (hb : SDb es us3 us2) : SDr G g' A es us3 us2 tx := ⟨h.1.M hM (by decide), ⟨h.2.1.1.M hM (by decide), hd, h.2.1.2.2.1.M hM (by decide), h.2.1.2.2.2.M hM (by decide) (by decide)⟩, hb⟩
theorem SDr.r2 {G : GG} {g g' : GH} {A : Nat → Nat} {es : List (Nat × List Nat × Nat)} {us1 us2 us3 : List (Nat × RuR)} {tx : List Nat} (h : SDr G g A es us1 us2 tx) (hM : gh_M [21, 22] g g') (hd : Rs G g' (A 20) (A 21) (A 23) 20 false us3) (hb : SDb es us1 us3) : SDr G g' A es us1 us3 tx := ⟨h.1.M hM (by decide), ⟨h.2.1.1.M hM (by decide), h.2.1.2.1.M hM (by decide), hd, h.2.1.2.2.2.M hM (by decide) (by decide)⟩, hb⟩
theorem ru_all {us : List (Nat × RuR)} {a : Nat} {u : RuR} {Q : RuR → Prop} (h : ∀ x, x ∈ us → Q x.2) (hu : Q u) : ∀ x, x ∈ us ++ [(a, u)] → Q x.2 := fun x hx => by
  rcases List.mem_append.mp hx with q | q
  · exact h x q
  · rw [List.mem_singleton.mp q]; exact hu
theorem SDb.r1 {es : List (Nat × List Nat × Nat)} {us1 us2 : List (Nat × RuR)} (h : SDb es us1 us2) {a : Nat} {u : RuR} (hl : us1.length < 8) (hf : u.1 < 2 ^ 26) (hB : RuB u) : SDb es (us1 ++ [(a, u)]) us2 := by
  obtain ⟨⟨k1, k2, k3, k4, k5, k6, k7⟩, h2, h3, h4⟩ := h
  exact ⟨⟨k1, k2, by rw [List.length_append, List.length_singleton]; omega, k4, k5, ru_all (Q := fun v => v.1 < 2 ^ 26) k6 hf, k7⟩, ru_all h2 hB, h3, h4⟩
theorem SDb.r2 {es : List (Nat × List Nat × Nat)} {us1 us2 : List (Nat × RuR)} (h : SDb es us1 us2) {a : Nat} {u : RuR} (hl : us2.length < 8) (hf : u.1 < 2 ^ 26) (hB : RuB u) : SDb es us1 (us2 ++ [(a, u)]) := by
  obtain ⟨⟨k1, k2, k3, k4, k5, k6, k7⟩, h2, h3, h4⟩ := h
  exact ⟨⟨k1, k2, k3, by rw [List.length_append, List.length_singleton]; omega, k5, k6, ru_all (Q := fun v => v.1 < 2 ^ 26) k7 hf⟩, h2, ru_all h3 hB, h4⟩
set_option maxRecDepth 20000 in
set_option maxHeartbeats 4000000 in
theorem c_SD_doPrefix (l : Launch) (G : GG) {g : GH} {A : Nat → Nat} {es : List (Nat × List Nat × Nat)} {us1 us2 : List (Nat × RuR)} {tx : List Nat} {o : List Nat × Nat} {it : Nat} {ls le s e wf wl : Nat} (h : SDr G g A es us1 us2 tx) (hP : Pr G g (A 4) (A 5) (A 6) o it) (hL : Ln g (A 3) (A 1) ls le s e wf wl) (he : e ≤ le) (hle : le ≤ tx.length) : gMet l G y_SD_doRule b_SD_doRule 3 (some .boolean) (rmk 8 8 479 216) [.ref (A 0), .ref (A 10)] g (fun v g' => ∃ a, DoP G A tx ls le g (rdR tx le e).1.isSome (rdR tx le e).2 es (ruA us1 a (rdR tx le e).1) us2 (ruT us1 (rdR tx le e).1 o) v g') := by
  refine gMet.of [some (.ref (A 0)), some (.ref (A 10)), none] (by decide +kernel) rfl (Nat.le_of_ble_eq_true rfl) rfl (fun X hK hI hE => ?_)
  have hsm := fun u => rdR_some (tx := tx) (le := le) (e := e) (u := u) he hle
  refine gh_aload_n hK d_SD_doRule_0 rfl ?_
  refine gh_aload_n hK d_SD_doRule_1 rfl ?_
  refine gh_callV (rest := [.ref (A 0)]) [] hK (c_Rs_atFront l G h.2.1.2.1) Y_Rs_atFront V_Rs_atFront km_SD_243 h.2.1.2.1.1 rfl rfl d_SD_doRule_2 rfl rfl (Nat.le_of_ble_eq_true rfl) ⟨(Nat.le_of_ble_eq_true rfl), (Nat.le_of_ble_eq_true rfl)⟩ ⟨(Nat.le_of_ble_eq_true rfl), (Nat.le_of_ble_eq_true rfl)⟩ (fun v g' hp => ?_)
  rw [hp.1, hp.2]
  show gh_W l G _ X g _ _ [some (.ref (A 0)), some (.ref (A 10)), none] 5 [.int (nI (bn true)), .ref (A 0)]
  have cr := c_SD_readRule l G h hL he hle (fr := true)
  generalize rdR tx le e = R at hE hsm cr
  obtain ⟨r, q⟩ := R
  cases r with
  | none =>
    refine gh_callV (rest := []) [.int (nI (bn true))] hK (cr) Y_SD_readRule V_SD_readRule km_SD_246 h.1.1 rfl rfl d_SD_doRule_5 rfl rfl (Nat.le_of_ble_eq_true rfl) ⟨(Nat.le_of_ble_eq_true rfl), (Nat.le_of_ble_eq_true rfl)⟩ ⟨(Nat.le_of_ble_eq_true rfl), (Nat.le_of_ble_eq_true rfl)⟩ (fun v g1 hp => ?_)
    obtain ⟨⟨s1, e1, wf1, wl1, hl1, hq⟩, m1, hv1, -⟩ := hp
    rw [hv1 rfl]
    show gh_W l G _ X g1 _ _ [some (.ref (A 0)), some (.ref (A 10)), none] 8 [.null]
    refine gh_astore_nN (lv' := [some (.ref (A 0)), some (.ref (A 10)), some (.null)]) hK d_SD_doRule_8 (Nat.le_of_ble_eq_true rfl) rfl ?_
    refine gh_aload_nN hK d_SD_doRule_9 rfl ?_
    refine gh_ifnonnullN hK d_SD_doRule_10 ?_
    refine gh_iconst (v := nI 0) hK d_SD_doRule_13 (by decide) ?_
    exact gh_zret rfl hK hE d_SD_doRule_14 (Nat.le_of_ble_eq_true rfl) (Nat.le_of_ble_eq_true rfl) ⟨0, rfl, ⟨_, _, _, _, hl1, fun _ => hq rfl⟩, h.M m1 (by decide), ⟨_, hP.M m1 (by decide) (by decide) (by decide)⟩, m1.wd (by decide)⟩
  | some u =>
    obtain ⟨f26, fB⟩ := hsm u rfl
    refine gh_callV (rest := []) [.int (nI (bn true))] hK (cr) Y_SD_readRule V_SD_readRule km_SD_246 h.1.1 rfl rfl d_SD_doRule_5 rfl rfl (Nat.le_of_ble_eq_true rfl) ⟨(Nat.le_of_ble_eq_true rfl), (Nat.le_of_ble_eq_true rfl)⟩ ⟨(Nat.le_of_ble_eq_true rfl), (Nat.le_of_ble_eq_true rfl)⟩ (fun v g1 hp => ?_)
    obtain ⟨⟨s1, e1, wf1, wl1, hl1, -⟩, m1, -, hv1⟩ := hp
    obtain ⟨ra, rfl, ru1⟩ := hv1 u rfl
    show gh_W l G _ X g1 _ _ [some (.ref (A 0)), some (.ref (A 10)), none] 8 [.ref ra]
    refine gh_astore_n (lv' := [some (.ref (A 0)), some (.ref (A 10)), some (.ref ra)]) hK d_SD_doRule_8 (Nat.le_of_ble_eq_true rfl) rfl ?_
    refine gh_aload_n hK d_SD_doRule_9 rfl ?_
    have h1 := h.M m1 (by decide)
    have hP1 := hP.M m1 (by decide) (by decide) (by decide)
    have hus := h1.2.1.2.1.len
    refine gh_ifnonnull hK d_SD_doRule_10 (tgt := 15) (by decide) ?_
    refine gh_aload_n hK d_SD_doRule_15 rfl ?_
    refine gh_callV (rest := []) [] hK (c_Rs_count l G h1.2.1.2.1) Y_Rs_count V_Rs_count km_SD_112 h1.2.1.2.1.1 rfl rfl d_SD_doRule_16 rfl rfl (Nat.le_of_ble_eq_true rfl) ⟨(Nat.le_of_ble_eq_true rfl), (Nat.le_of_ble_eq_true rfl)⟩ ⟨(Nat.le_of_ble_eq_true rfl), (Nat.le_of_ble_eq_true rfl)⟩ (fun v g' hp => ?_)
    rw [hp.1, hp.2]
    show gh_W l G _ X g1 _ _ [some (.ref (A 0)), some (.ref (A 10)), some (.ref ra)] 19 [.int (nI us1.length)]
    refine gh_bipush (v := nI 8) hK d_SD_doRule_19 (by decide) ?_
    refine gh_icmp_ltN hK d_SD_doRule_21 (tgt := 36) (by decide) (by omega) (by omega) (fun z => ?_) (fun z => ?_)
    · simp only [ruA, ruT, z, ↓reduceIte] at hE
      refine gh_aload_n hK d_SD_doRule_36 rfl ?_
      refine gh_aload_n hK d_SD_doRule_37 rfl ?_
      refine gh_callV (rest := []) [.ref ra] hK (c_Rs_append l G h1.2.1.2.1 (Or.inl rfl) (e := ra) (u := u) (by omega) ru1) Y_Rs_append V_Rs_append km_SD_250 h1.2.1.2.1.1 rfl rfl d_SD_doRule_38 rfl rfl (Nat.le_of_ble_eq_true rfl) ⟨(Nat.le_of_ble_eq_true rfl), (Nat.le_of_ble_eq_true rfl)⟩ ⟨(Nat.le_of_ble_eq_true rfl), (Nat.le_of_ble_eq_true rfl)⟩ (fun v g2 hp => ?_)
      obtain ⟨rfl, d2, m2⟩ := hp
      show gh_W l G _ X g2 _ _ [some (.ref (A 0)), some (.ref (A 10)), some (.ref ra)] 41 []
      have h2 := h1.r1 m2 d2 (h1.2.2.r1 z f26 fB)
      have hP2 := hP1.M m2 (by decide) (by decide) (by decide)
      refine gh_aload_n hK d_SD_doRule_41 rfl ?_
      refine gh_get hK d_SD_doRule_42 in_SD rfl h2.1.1 2 (by decide) kf_SD_30 rfl rfl ?_
      refine gh_ldcS (i := 3) hK d_SD_doRule_45 (by decide) rfl ?_
      refine gh_callV (rest := []) [.ref (G.2.2.1 3)] hK (c_Pr_printText l G hP2 (i := 3) (by decide)) Y_Pr_printText V_Pr_printText km_SD_176 hP2.1 rfl rfl d_SD_doRule_47 rfl rfl (Nat.le_of_ble_eq_true rfl) ⟨(Nat.le_of_ble_eq_true rfl), (Nat.le_of_ble_eq_true rfl)⟩ ⟨(Nat.le_of_ble_eq_true rfl), (Nat.le_of_ble_eq_true rfl)⟩ (fun v g3 hp => ?_)
      obtain ⟨rfl, hq1, hq2⟩ := hp
      show gh_W l G _ X g3 _ _ [some (.ref (A 0)), some (.ref (A 10)), some (.ref ra)] 50 []
      refine gh_iconst (v := nI 1) hK d_SD_doRule_50 (by decide) ?_
      have m3 := hP2.toM hq2
      exact gh_zret rfl hK hE d_SD_doRule_51 (Nat.le_of_ble_eq_true rfl) (Nat.le_of_ble_eq_true rfl) ⟨ra, rfl, ⟨_, _, _, _, (hl1.M m2 (by decide)).M m3 (by decide), fun q => by cases q⟩, h2.M m3 (by decide), ⟨_, hq1⟩, ((m1.wd (by decide)).tr (m2.wd (by decide))).tr (m3.wd (by decide))⟩
    · have z6 : ¬ us1.length < 8 := by omega
      simp only [ruA, ruT, z6, ↓reduceIte] at hE
      refine gh_aload_n hK d_SD_doRule_24 rfl ?_
      refine gh_get hK d_SD_doRule_25 in_SD rfl h1.1.1 2 (by decide) kf_SD_30 rfl rfl ?_
      refine gh_ldcS (i := 2) hK d_SD_doRule_28 (by decide) rfl ?_
      refine gh_callV (rest := []) [.ref (G.2.2.1 2)] hK (c_Pr_printText l G hP1 (i := 2) (by decide)) Y_Pr_printText V_Pr_printText km_SD_176 hP1.1 rfl rfl d_SD_doRule_30 rfl rfl (Nat.le_of_ble_eq_true rfl) ⟨(Nat.le_of_ble_eq_true rfl), (Nat.le_of_ble_eq_true rfl)⟩ ⟨(Nat.le_of_ble_eq_true rfl), (Nat.le_of_ble_eq_true rfl)⟩ (fun v g3 hp => ?_)
      obtain ⟨rfl, hq1, hq2⟩ := hp
      show gh_W l G _ X g3 _ _ [some (.ref (A 0)), some (.ref (A 10)), some (.ref ra)] 33 []
      refine gh_goto (tgt := 50) hK d_SD_doRule_33 (by decide) ?_
      refine gh_iconst (v := nI 1) hK d_SD_doRule_50 (by decide) ?_
      have m3 := hP1.toM hq2
      exact gh_zret rfl hK hE d_SD_doRule_51 (Nat.le_of_ble_eq_true rfl) (Nat.le_of_ble_eq_true rfl) ⟨ra, rfl, ⟨_, _, _, _, hl1.M m3 (by decide), fun q => by cases q⟩, h1.M m3 (by decide), ⟨_, hq1⟩, (m1.wd (by decide)).tr (m3.wd (by decide))⟩
set_option maxRecDepth 20000 in
set_option maxHeartbeats 4000000 in
theorem c_SD_doSuffix (l : Launch) (G : GG) {g : GH} {A : Nat → Nat} {es : List (Nat × List Nat × Nat)} {us1 us2 : List (Nat × RuR)} {tx : List Nat} {o : List Nat × Nat} {it : Nat} {ls le s e wf wl : Nat} (h : SDr G g A es us1 us2 tx) (hP : Pr G g (A 4) (A 5) (A 6) o it) (hL : Ln g (A 3) (A 1) ls le s e wf wl) (he : e ≤ le) (hle : le ≤ tx.length) : gMet l G y_SD_doRule b_SD_doRule 3 (some .boolean) (rmk 8 8 479 216) [.ref (A 0), .ref (A 20)] g (fun v g' => ∃ a, DoP G A tx ls le g (rdR tx le e).1.isSome (rdR tx le e).2 es us1 (ruA us2 a (rdR tx le e).1) (ruT us2 (rdR tx le e).1 o) v g') := by
  refine gMet.of [some (.ref (A 0)), some (.ref (A 20)), none] (by decide +kernel) rfl (Nat.le_of_ble_eq_true rfl) rfl (fun X hK hI hE => ?_)
  have hsm := fun u => rdR_some (tx := tx) (le := le) (e := e) (u := u) he hle
  refine gh_aload_n hK d_SD_doRule_0 rfl ?_
  refine gh_aload_n hK d_SD_doRule_1 rfl ?_
  refine gh_callV (rest := [.ref (A 0)]) [] hK (c_Rs_atFront l G h.2.1.2.2.1) Y_Rs_atFront V_Rs_atFront km_SD_243 h.2.1.2.2.1.1 rfl rfl d_SD_doRule_2 rfl rfl (Nat.le_of_ble_eq_true rfl) ⟨(Nat.le_of_ble_eq_true rfl), (Nat.le_of_ble_eq_true rfl)⟩ ⟨(Nat.le_of_ble_eq_true rfl), (Nat.le_of_ble_eq_true rfl)⟩ (fun v g' hp => ?_)
  rw [hp.1, hp.2]
  show gh_W l G _ X g _ _ [some (.ref (A 0)), some (.ref (A 20)), none] 5 [.int (nI (bn false)), .ref (A 0)]
  have cr := c_SD_readRule l G h hL he hle (fr := false)
  generalize rdR tx le e = R at hE hsm cr
  obtain ⟨r, q⟩ := R
  cases r with
  | none =>
    refine gh_callV (rest := []) [.int (nI (bn false))] hK (cr) Y_SD_readRule V_SD_readRule km_SD_246 h.1.1 rfl rfl d_SD_doRule_5 rfl rfl (Nat.le_of_ble_eq_true rfl) ⟨(Nat.le_of_ble_eq_true rfl), (Nat.le_of_ble_eq_true rfl)⟩ ⟨(Nat.le_of_ble_eq_true rfl), (Nat.le_of_ble_eq_true rfl)⟩ (fun v g1 hp => ?_)
    obtain ⟨⟨s1, e1, wf1, wl1, hl1, hq⟩, m1, hv1, -⟩ := hp
    rw [hv1 rfl]
    show gh_W l G _ X g1 _ _ [some (.ref (A 0)), some (.ref (A 20)), none] 8 [.null]
    refine gh_astore_nN (lv' := [some (.ref (A 0)), some (.ref (A 20)), some (.null)]) hK d_SD_doRule_8 (Nat.le_of_ble_eq_true rfl) rfl ?_
    refine gh_aload_nN hK d_SD_doRule_9 rfl ?_
    refine gh_ifnonnullN hK d_SD_doRule_10 ?_
    refine gh_iconst (v := nI 0) hK d_SD_doRule_13 (by decide) ?_
    exact gh_zret rfl hK hE d_SD_doRule_14 (Nat.le_of_ble_eq_true rfl) (Nat.le_of_ble_eq_true rfl) ⟨0, rfl, ⟨_, _, _, _, hl1, fun _ => hq rfl⟩, h.M m1 (by decide), ⟨_, hP.M m1 (by decide) (by decide) (by decide)⟩, m1.wd (by decide)⟩
  | some u =>
    obtain ⟨f26, fB⟩ := hsm u rfl
    refine gh_callV (rest := []) [.int (nI (bn false))] hK (cr) Y_SD_readRule V_SD_readRule km_SD_246 h.1.1 rfl rfl d_SD_doRule_5 rfl rfl (Nat.le_of_ble_eq_true rfl) ⟨(Nat.le_of_ble_eq_true rfl), (Nat.le_of_ble_eq_true rfl)⟩ ⟨(Nat.le_of_ble_eq_true rfl), (Nat.le_of_ble_eq_true rfl)⟩ (fun v g1 hp => ?_)
    obtain ⟨⟨s1, e1, wf1, wl1, hl1, -⟩, m1, -, hv1⟩ := hp
    obtain ⟨ra, rfl, ru1⟩ := hv1 u rfl
    show gh_W l G _ X g1 _ _ [some (.ref (A 0)), some (.ref (A 20)), none] 8 [.ref ra]
    refine gh_astore_n (lv' := [some (.ref (A 0)), some (.ref (A 20)), some (.ref ra)]) hK d_SD_doRule_8 (Nat.le_of_ble_eq_true rfl) rfl ?_
    refine gh_aload_n hK d_SD_doRule_9 rfl ?_
    have h1 := h.M m1 (by decide)
    have hP1 := hP.M m1 (by decide) (by decide) (by decide)
    have hus := h1.2.1.2.2.1.len
    refine gh_ifnonnull hK d_SD_doRule_10 (tgt := 15) (by decide) ?_
    refine gh_aload_n hK d_SD_doRule_15 rfl ?_
    refine gh_callV (rest := []) [] hK (c_Rs_count l G h1.2.1.2.2.1) Y_Rs_count V_Rs_count km_SD_112 h1.2.1.2.2.1.1 rfl rfl d_SD_doRule_16 rfl rfl (Nat.le_of_ble_eq_true rfl) ⟨(Nat.le_of_ble_eq_true rfl), (Nat.le_of_ble_eq_true rfl)⟩ ⟨(Nat.le_of_ble_eq_true rfl), (Nat.le_of_ble_eq_true rfl)⟩ (fun v g' hp => ?_)
    rw [hp.1, hp.2]
    show gh_W l G _ X g1 _ _ [some (.ref (A 0)), some (.ref (A 20)), some (.ref ra)] 19 [.int (nI us2.length)]
    refine gh_bipush (v := nI 8) hK d_SD_doRule_19 (by decide) ?_
    refine gh_icmp_ltN hK d_SD_doRule_21 (tgt := 36) (by decide) (by omega) (by omega) (fun z => ?_) (fun z => ?_)
    · simp only [ruA, ruT, z, ↓reduceIte] at hE
      refine gh_aload_n hK d_SD_doRule_36 rfl ?_
      refine gh_aload_n hK d_SD_doRule_37 rfl ?_
      refine gh_callV (rest := []) [.ref ra] hK (c_Rs_append l G h1.2.1.2.2.1 (Or.inr rfl) (e := ra) (u := u) (by omega) ru1) Y_Rs_append V_Rs_append km_SD_250 h1.2.1.2.2.1.1 rfl rfl d_SD_doRule_38 rfl rfl (Nat.le_of_ble_eq_true rfl) ⟨(Nat.le_of_ble_eq_true rfl), (Nat.le_of_ble_eq_true rfl)⟩ ⟨(Nat.le_of_ble_eq_true rfl), (Nat.le_of_ble_eq_true rfl)⟩ (fun v g2 hp => ?_)
      obtain ⟨rfl, d2, m2⟩ := hp
      show gh_W l G _ X g2 _ _ [some (.ref (A 0)), some (.ref (A 20)), some (.ref ra)] 41 []
      have h2 := h1.r2 m2 d2 (h1.2.2.r2 z f26 fB)
      have hP2 := hP1.M m2 (by decide) (by decide) (by decide)
      refine gh_aload_n hK d_SD_doRule_41 rfl ?_
      refine gh_get hK d_SD_doRule_42 in_SD rfl h2.1.1 2 (by decide) kf_SD_30 rfl rfl ?_
      refine gh_ldcS (i := 3) hK d_SD_doRule_45 (by decide) rfl ?_
      refine gh_callV (rest := []) [.ref (G.2.2.1 3)] hK (c_Pr_printText l G hP2 (i := 3) (by decide)) Y_Pr_printText V_Pr_printText km_SD_176 hP2.1 rfl rfl d_SD_doRule_47 rfl rfl (Nat.le_of_ble_eq_true rfl) ⟨(Nat.le_of_ble_eq_true rfl), (Nat.le_of_ble_eq_true rfl)⟩ ⟨(Nat.le_of_ble_eq_true rfl), (Nat.le_of_ble_eq_true rfl)⟩ (fun v g3 hp => ?_)
      obtain ⟨rfl, hq1, hq2⟩ := hp
      show gh_W l G _ X g3 _ _ [some (.ref (A 0)), some (.ref (A 20)), some (.ref ra)] 50 []
      refine gh_iconst (v := nI 1) hK d_SD_doRule_50 (by decide) ?_
      have m3 := hP2.toM hq2
      exact gh_zret rfl hK hE d_SD_doRule_51 (Nat.le_of_ble_eq_true rfl) (Nat.le_of_ble_eq_true rfl) ⟨ra, rfl, ⟨_, _, _, _, (hl1.M m2 (by decide)).M m3 (by decide), fun q => by cases q⟩, h2.M m3 (by decide), ⟨_, hq1⟩, ((m1.wd (by decide)).tr (m2.wd (by decide))).tr (m3.wd (by decide))⟩
    · have z6 : ¬ us2.length < 8 := by omega
      simp only [ruA, ruT, z6, ↓reduceIte] at hE
      refine gh_aload_n hK d_SD_doRule_24 rfl ?_
      refine gh_get hK d_SD_doRule_25 in_SD rfl h1.1.1 2 (by decide) kf_SD_30 rfl rfl ?_
      refine gh_ldcS (i := 2) hK d_SD_doRule_28 (by decide) rfl ?_
      refine gh_callV (rest := []) [.ref (G.2.2.1 2)] hK (c_Pr_printText l G hP1 (i := 2) (by decide)) Y_Pr_printText V_Pr_printText km_SD_176 hP1.1 rfl rfl d_SD_doRule_30 rfl rfl (Nat.le_of_ble_eq_true rfl) ⟨(Nat.le_of_ble_eq_true rfl), (Nat.le_of_ble_eq_true rfl)⟩ ⟨(Nat.le_of_ble_eq_true rfl), (Nat.le_of_ble_eq_true rfl)⟩ (fun v g3 hp => ?_)
      obtain ⟨rfl, hq1, hq2⟩ := hp
      show gh_W l G _ X g3 _ _ [some (.ref (A 0)), some (.ref (A 20)), some (.ref ra)] 33 []
      refine gh_goto (tgt := 50) hK d_SD_doRule_33 (by decide) ?_
      refine gh_iconst (v := nI 1) hK d_SD_doRule_50 (by decide) ?_
      have m3 := hP1.toM hq2
      exact gh_zret rfl hK hE d_SD_doRule_51 (Nat.le_of_ble_eq_true rfl) (Nat.le_of_ble_eq_true rfl) ⟨ra, rfl, ⟨_, _, _, _, hl1.M m3 (by decide), fun q => by cases q⟩, h1.M m3 (by decide), ⟨_, hq1⟩, (m1.wd (by decide)).tr (m3.wd (by decide))⟩
