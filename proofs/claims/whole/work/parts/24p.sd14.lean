def lnX (a : Nat) (es : List (Nat × List Nat × Nat)) (us1 us2 : List (Nat × RuR)) (tx : List Nat) (o : List Nat × Nat) (fr to : Nat) : List (Nat × List Nat × Nat) × List (Nat × RuR) × List (Nat × RuR) × (List Nat × Nat) := if nxS tx to fr < nxE tx to fr then ((lnC a es us1 us2 tx o to (nxS tx to fr) (nxE tx to fr)).2.2.1, (lnC a es us1 us2 tx o to (nxS tx to fr) (nxE tx to fr)).2.2.2.1, (lnC a es us1 us2 tx o to (nxS tx to fr) (nxE tx to fr)).2.2.2.2.1, lnO fr (lnC a es us1 us2 tx o to (nxS tx to fr) (nxE tx to fr))) else (es, us1, us2, o)
def LiP (G : GG) (A : Nat → Nat) (tx : List Nat) (g : GH) (t : List (Nat × List Nat × Nat) × List (Nat × RuR) × List (Nat × RuR) × (List Nat × Nat)) (g' : GH) : Prop := SDr G g' A t.1 t.2.1 t.2.2.1 tx ∧ Pr G g' (A 4) (A 5) (A 6) t.2.2.2 0 ∧ (∃ ls le s e wf wl, Ln g' (A 3) (A 1) ls le s e wf wl) ∧ gh_M SDT g g'
theorem pcI_ln2 {tx w : List Nat} {s e : Nat} (he : e ≤ tx.length) (hs : s ≤ e) (h : pcI tx s e w = true) : e - s = w.length := by
  have q := of_decide_eq_true h
  rw [← q, slice_len1 (by omega)]
set_option maxRecDepth 20000 in
set_option maxHeartbeats 4000000 in
theorem c_SD_doLine (l : Launch) (G : GG) {g : GH} {A : Nat → Nat} {es : List (Nat × List Nat × Nat)} {us1 us2 : List (Nat × RuR)} {tx : List Nat} {o : List Nat × Nat} {fr to ls0 le0 s0 e0 wf wl : Nat} (h : SDr G g A es us1 us2 tx) (hP : Pr G g (A 4) (A 5) (A 6) o 0) (hL : Ln g (A 3) (A 1) ls0 le0 s0 e0 wf wl) (hft : fr ≤ to) (hto : to ≤ tx.length) : gMet l G y_SD_doLine b_SD_doLine 4 none (rmk 9 (8 * (to - fr)) (500 * (to - fr)) 238) [.ref (A 0), .int (nI fr), .int (nI to)] g (fun v g' => v = none ∧ ∃ a, LiP G A tx g (lnX a es us1 us2 tx o fr to) g') := by
  refine gMet.of [some (.ref (A 0)), some (.int (nI fr)), some (.int (nI to)), none] (by decide +kernel) rfl (Nat.le_of_ble_eq_true rfl) rfl (fun X hK hI hE => ?_)
  have htl := h.2.1.2.2.2.len
  obtain ⟨b1, b2⟩ := nxS_le (tx := tx) hft
  obtain ⟨b3, b4⟩ := nxE_le (tx := tx) hft
  refine gh_aload_n hK d_SD_doLine_0 rfl ?_
  refine gh_get hK d_SD_doLine_1 in_SD rfl h.1.1 1 (by decide) kf_SD_23 rfl rfl ?_
  refine gh_iload_n hK d_SD_doLine_4 rfl ?_
  refine gh_iload_n hK d_SD_doLine_5 rfl ?_
  refine gh_callV (rest := []) [.int (nI fr), .int (nI to)] hK (c_Ln_open l G hL (fr := fr) (to := to)) Y_Ln_open V_Ln_open km_SD_117 hL rfl rfl d_SD_doLine_6 rfl rfl (Nat.le_of_ble_eq_true rfl) ⟨(Nat.le_of_ble_eq_true rfl), (Nat.le_of_ble_eq_true rfl)⟩ ⟨Nat.zero_le _, Nat.zero_le _⟩ (fun v g1 hp => ?_)
  obtain ⟨rfl, hl1, hn1⟩ := hp
  show gh_W l G _ X g1 0 0 [some (.ref (A 0)), some (.int (nI fr)), some (.int (nI to)), none] 9 []
  have m1 := hL.toM hn1
  have h1 := h.M m1 (by decide)
  refine gh_aload_n hK d_SD_doLine_9 rfl ?_
  refine gh_get hK d_SD_doLine_10 in_SD rfl h1.1.1 1 (by decide) kf_SD_23 rfl rfl ?_
  refine gh_callV (rest := []) [] hK (c_Ln_next l G hl1 h1.2.1.2.2.2 hft hto) Y_Ln_next V_Ln_next km_SD_120 hl1 rfl rfl d_SD_doLine_13 rfl rfl (Nat.le_of_ble_eq_true rfl) ⟨(Nat.le_of_ble_eq_true rfl), (Nat.le_of_ble_eq_true rfl)⟩ ⟨Nat.zero_le _, Nat.zero_le _⟩ (fun v g2 hp => ?_)
  obtain ⟨rfl, hl2, hn2⟩ := hp
  show gh_W l G _ X g2 0 0 [some (.ref (A 0)), some (.int (nI fr)), some (.int (nI to)), none] 16 [.int (nI (bn (decide ((nxS tx to fr) < (nxE tx to fr)))))]
  have m2 := m1.tr (hl1.toM hn2)
  have h2 := h.M m2 (by decide)
  have hP2 := hP.M m2 (by decide) (by decide) (by decide)
  refine gh_if_neB hK d_SD_doLine_16 (tgt := 20) (by decide) (fun z => ?_) (fun z => ?_)
  rotate_left
  · exact gh_vret hK hE d_SD_doLine_19 (Nat.zero_le _) (Nat.zero_le _) ⟨rfl, 0, by rw [lnX, if_neg (of_decide_eq_false z)]; exact ⟨h2, hP2, ⟨_, _, _, _, _, _, hl2⟩, m2.wd (by decide)⟩⟩
  have zz := of_decide_eq_true z
  have tail : ∀ (k n a : Nat) (t : LnT) (g4 : GH) (o4 : List Nat × Nat) (it4 : Nat) (v3 : Option Value), k ≤ 8 * (to - fr) → n ≤ 500 * (to - fr) → SDr G g4 A t.2.2.1 t.2.2.2.1 t.2.2.2.2.1 tx → Pr G g4 (A 4) (A 5) (A 6) o4 it4 → (∃ ls le s e wf wl, Ln g4 (A 3) (A 1) ls le s e wf wl) → gh_M SDT g g4 → lnC a es us1 us2 tx o to (nxS tx to fr) (nxE tx to fr) = t → prt o4 10 = lnO fr t → gh_W l G (rmk 9 (8 * (to - fr)) (500 * (to - fr)) 238) X g4 k n [some (.ref (A 0)), some (.int (nI fr)), some (.int (nI to)), v3] 254 [] := by
    intro k n a t g4 o4 it4 v3 hk hn h4 hP4 hL4 m4 ht hF
    refine gh_aload_n hK d_SD_doLine_254 rfl ?_
    refine gh_get hK d_SD_doLine_255 in_SD rfl h4.1.1 2 (by decide) kf_SD_30 rfl rfl ?_
    refine gh_callV (rest := []) [] hK (c_Pr_endLine l G hP4) Y_Pr_endLine V_Pr_endLine km_SD_185 hP4.1 rfl rfl d_SD_doLine_258 rfl rfl (Nat.le_of_ble_eq_true rfl) ⟨(Nat.le_of_ble_eq_true rfl), (Nat.le_of_ble_eq_true rfl)⟩ ⟨hk, hn⟩ (fun v g5 hp => ?_)
    obtain ⟨rfl, hq1, hq2⟩ := hp
    show gh_W l G _ X g5 k n [some (.ref (A 0)), some (.int (nI fr)), some (.int (nI to)), v3] 261 []
    have m5 := hP4.toM hq2
    obtain ⟨y1, y2, y3, y4, y5, y6, hy⟩ := hL4
    rw [hF] at hq1
    exact gh_vret hK hE d_SD_doLine_261 hk hn ⟨rfl, a, by rw [lnX, if_pos zz, ht]; exact ⟨h4.M m5 (by decide), hq1, ⟨_, _, _, _, _, _, hy.M m5 (by decide)⟩, m4.tr (m5.wd (by decide))⟩⟩
  have fin : ∀ (k n a : Nat) (t : LnT) (g3 : GH) (v : Option Value), k ≤ 8 * (to - fr) → n ≤ 500 * (to - fr) → DoP G A tx fr to g2 t.1 t.2.1 t.2.2.1 t.2.2.2.1 t.2.2.2.2.1 t.2.2.2.2.2 v g3 → (t.1 = false → fr ≤ t.2.1 ∧ t.2.1 ≤ to) → lnC a es us1 us2 tx o to (nxS tx to fr) (nxE tx to fr) = t → gh_W l G (rmk 9 (8 * (to - fr)) (500 * (to - fr)) 238) X g3 k n [some (.ref (A 0)), some (.int (nI fr)), some (.int (nI to)), some (.int (nI (bn t.1)))] 227 [] := by
    intro k n a t g3 v hk hn hD hq0 ht
    obtain ⟨-, ⟨s3, e3, wf3, wl3, hl3, hs3⟩, h3, ⟨it3, hP3⟩, m3⟩ := hD
    have m3 : gh_M SDT g g3 := (m2.wd (by decide)).tr m3
    refine gh_iload_n hK d_SD_doLine_227 rfl ?_
    refine gh_if_neB hK d_SD_doLine_228 (tgt := 254) (by decide) (fun z5 => ?_) (fun z5 => ?_)
    · exact tail k n a t g3 _ _ _ hk hn h3 hP3 ⟨_, _, _, _, _, _, hl3⟩ m3 ht (by rw [lnO, if_pos z5])
    · obtain ⟨c1, c2⟩ := hq0 z5
      have hs4 := hs3 z5
      subst hs4
      refine gh_aload_n hK d_SD_doLine_231 rfl ?_
      refine gh_get hK d_SD_doLine_232 in_SD rfl h3.1.1 2 (by decide) kf_SD_30 rfl rfl ?_
      refine gh_ldcS (i := 18) hK d_SD_doLine_235 (by decide) rfl ?_
      refine gh_callV (rest := []) [.ref (G.2.2.1 18)] hK (c_Pr_printText l G hP3 (i := 18) (by decide)) Y_Pr_printText V_Pr_printText km_SD_176 hP3.1 rfl rfl d_SD_doLine_237 rfl rfl (Nat.le_of_ble_eq_true rfl) ⟨(Nat.le_of_ble_eq_true rfl), (Nat.le_of_ble_eq_true rfl)⟩ ⟨hk, hn⟩ (fun v g4 hp => ?_)
      obtain ⟨rfl, hq1, hq2⟩ := hp
      show gh_W l G _ X g4 k n [some (.ref (A 0)), some (.int (nI fr)), some (.int (nI to)), some (.int (nI (bn t.1)))] 240 []
      have m4 := hP3.toM hq2
      have h4 := h3.M m4 (by decide)
      have hl4 := hl3.M m4 (by decide)
      refine gh_aload_n hK d_SD_doLine_240 rfl ?_
      refine gh_get hK d_SD_doLine_241 in_SD rfl h4.1.1 2 (by decide) kf_SD_30 rfl rfl ?_
      refine gh_aload_n hK d_SD_doLine_244 rfl ?_
      refine gh_get hK d_SD_doLine_245 in_SD rfl h4.1.1 1 (by decide) kf_SD_23 rfl rfl ?_
      refine gh_callV (rest := [.ref (A 4)]) [] hK (c_Ln_place l G hl4 c1) Y_Ln_place V_Ln_place km_SD_179 hl4 rfl rfl d_SD_doLine_248 rfl rfl (Nat.le_of_ble_eq_true rfl) ⟨(Nat.le_of_ble_eq_true rfl), (Nat.le_of_ble_eq_true rfl)⟩ ⟨hk, hn⟩ (fun v g' hp => ?_)
      rw [hp.1, hp.2]
      show gh_W l G _ X g4 k n [some (.ref (A 0)), some (.int (nI fr)), some (.int (nI to)), some (.int (nI (bn t.1)))] 251 [.int (nI (t.2.1 - fr + 1)), .ref (A 4)]
      refine gh_callV (rest := []) [.int (nI (t.2.1 - fr + 1))] hK (c_Pr_printNumber l G hq1 (x := t.2.1 - fr + 1) (by omega)) Y_Pr_printNumber V_Pr_printNumber km_SD_182 hq1.1 rfl rfl d_SD_doLine_251 rfl rfl (Nat.le_of_ble_eq_true rfl) ⟨(Nat.le_of_ble_eq_true rfl), (Nat.le_of_ble_eq_true rfl)⟩ ⟨hk, hn⟩ (fun v g5 hp => ?_)
      obtain ⟨rfl, hr1, hr2⟩ := hp
      show gh_W l G _ X g5 k n [some (.ref (A 0)), some (.int (nI fr)), some (.int (nI to)), some (.int (nI (bn t.1)))] 254 []
      have m5 := hq1.toM hr2
      exact tail k n a t g5 _ _ _ hk hn (h4.M m5 (by decide)) hr1 ⟨_, _, _, _, _, _, hl4.M m5 (by decide)⟩ ((m3.tr (m4.wd (by decide))).tr (m5.wd (by decide))) ht (by rw [lnO, if_neg (by rw [z5]; decide), prs_app])
  refine gh_iconst (v := nI 0) hK d_SD_doLine_20 (by decide) ?_
  refine gh_istore_n (lv' := [some (.ref (A 0)), some (.int (nI fr)), some (.int (nI to)), some (.int (nI 0))]) hK d_SD_doLine_21 (Nat.le_of_ble_eq_true rfl) rfl ?_
  refine gh_aload_n hK d_SD_doLine_22 rfl ?_
  refine gh_get hK d_SD_doLine_23 in_SD rfl h2.1.1 1 (by decide) kf_SD_23 rfl rfl ?_
  refine gh_ldcS (i := 0) hK d_SD_doLine_26 (by decide) rfl ?_
  refine gh_callV (rest := []) [.ref (G.2.2.1 0)] hK (c_Ln_is l G hl2 h2.2.1.2.2.2 (i := 0) b3 (by omega) (by decide)) Y_Ln_is V_Ln_is km_SD_126 hl2 rfl rfl d_SD_doLine_28 rfl rfl (Nat.le_of_ble_eq_true rfl) ⟨(Nat.le_of_ble_eq_true rfl), (Nat.le_of_ble_eq_true rfl)⟩ ⟨Nat.zero_le _, Nat.zero_le _⟩ (fun v g' hp => ?_)
  rw [hp.1, hp.2]
  show gh_W l G _ X g2 0 0 [some (.ref (A 0)), some (.int (nI fr)), some (.int (nI to)), some (.int (nI 0))] 31 [.int (nI (bn (pcI tx (nxS tx to fr) (nxE tx to fr) (st_txt.getD 0 []))))]
  refine gh_if_eqB hK d_SD_doLine_31 (tgt := 42) (by decide) (fun z0 => ?_) (fun z0 => ?_)
  rotate_left
  · refine gh_aload_n hK d_SD_doLine_34 rfl ?_
    have hln := pcI_ln2 (by omega) b3 z0
    have hl0 : (st_txt.getD 0 []).length = 3 := rfl
    refine gh_callV (rest := []) [] hK (c_SD_doAdd l G h2 hP2 hl2 b4 hto) Y_SD_doAdd V_SD_doAdd km_SD_130 h2.1.1 rfl rfl d_SD_doLine_35 rfl rfl (Nat.le_of_ble_eq_true rfl) ⟨(Nat.le_of_ble_eq_true rfl), (Nat.le_of_ble_eq_true rfl)⟩ ⟨(by show 0 + 4 ≤ 8 * (to - fr); omega), (by show 0 + 470 ≤ 500 * (to - fr); omega)⟩ (fun v g3 hp => ?_)
    obtain ⟨a, hD⟩ := hp
    rw [hD.1]
    show gh_W l G _ X g3 4 470 [some (.ref (A 0)), some (.int (nI fr)), some (.int (nI to)), some (.int (nI 0))] 38 [.int (nI (bn (adO tx to (nxE tx to fr))))]
    refine gh_istore_n (lv' := [some (.ref (A 0)), some (.int (nI fr)), some (.int (nI to)), some (.int (nI (bn (adO tx to (nxE tx to fr)))))]) hK d_SD_doLine_38 (Nat.le_of_ble_eq_true rfl) rfl ?_
    refine gh_goto (tgt := 227) hK d_SD_doLine_39 (by decide) ?_
    exact fin 4 470 a (adO tx to (nxE tx to fr), adQ tx to (nxE tx to fr), (if adO tx to (nxE tx to fr) = true then adE es a (adW tx to (nxE tx to fr)) ((adF tx to (nxE tx to fr)).getD 0) else es), us1, us2, (if adO tx to (nxE tx to fr) = true then prs o (adT es (adW tx to (nxE tx to fr))) else o)) g3 _ (by omega) (by omega) hD (fun _ => by have := adQ_in (tx := tx) b4; dsimp only; omega) (by unfold lnC; rw [if_pos z0])
  refine gh_aload_n hK d_SD_doLine_42 rfl ?_
  refine gh_get hK d_SD_doLine_43 in_SD rfl h2.1.1 1 (by decide) kf_SD_23 rfl rfl ?_
  refine gh_ldcS (i := 4) hK d_SD_doLine_46 (by decide) rfl ?_
  refine gh_callV (rest := []) [.ref (G.2.2.1 4)] hK (c_Ln_is l G hl2 h2.2.1.2.2.2 (i := 4) b3 (by omega) (by decide)) Y_Ln_is V_Ln_is km_SD_126 hl2 rfl rfl d_SD_doLine_48 rfl rfl (Nat.le_of_ble_eq_true rfl) ⟨(Nat.le_of_ble_eq_true rfl), (Nat.le_of_ble_eq_true rfl)⟩ ⟨Nat.zero_le _, Nat.zero_le _⟩ (fun v g' hp => ?_)
  rw [hp.1, hp.2]
  show gh_W l G _ X g2 0 0 [some (.ref (A 0)), some (.int (nI fr)), some (.int (nI to)), some (.int (nI 0))] 51 [.int (nI (bn (pcI tx (nxS tx to fr) (nxE tx to fr) (st_txt.getD 4 []))))]
  refine gh_if_eqB hK d_SD_doLine_51 (tgt := 62) (by decide) (fun z4 => ?_) (fun z4 => ?_)
  rotate_left
  · refine gh_aload_n hK d_SD_doLine_54 rfl ?_
    have hln := pcI_ln2 (by omega) b3 z4
    have hl0 : (st_txt.getD 4 []).length = 4 := rfl
    refine gh_callV (rest := []) [] hK (c_SD_doDrop l G h2 hP2 hl2 b4 hto) Y_SD_doDrop V_SD_doDrop km_SD_135 h2.1.1 rfl rfl d_SD_doLine_55 rfl rfl (Nat.le_of_ble_eq_true rfl) ⟨(Nat.le_of_ble_eq_true rfl), (Nat.le_of_ble_eq_true rfl)⟩ ⟨(by show 0 + 0 ≤ 8 * (to - fr); omega), (by show 0 + 0 ≤ 500 * (to - fr); omega)⟩ (fun v g3 hp => ?_)
    have hD := hp
    rw [hD.1]
    show gh_W l G _ X g3 0 0 [some (.ref (A 0)), some (.int (nI fr)), some (.int (nI to)), some (.int (nI 0))] 58 [.int (nI (bn (owO tx 16 to (nxE tx to fr))))]
    refine gh_istore_n (lv' := [some (.ref (A 0)), some (.int (nI fr)), some (.int (nI to)), some (.int (nI (bn (owO tx 16 to (nxE tx to fr)))))]) hK d_SD_doLine_58 (Nat.le_of_ble_eq_true rfl) rfl ?_
    refine gh_goto (tgt := 227) hK d_SD_doLine_59 (by decide) ?_
    exact fin 0 0 0 (owO tx 16 to (nxE tx to fr), owS tx 16 to (nxE tx to fr), (if owO tx 16 to (nxE tx to fr) = true then (if nxW tx to (nxE tx to fr) ∈ dws es then es.eraseIdx (rnkL (nxW tx to (nxE tx to fr)) (dws es)) else es) else es), us1, us2, (if owO tx 16 to (nxE tx to fr) = true then prs o (if nxW tx to (nxE tx to fr) ∈ dws es then st_txt.getD 3 [] else st_txt.getD 5 []) else o)) g3 _ (by omega) (by omega) hD (fun _ => by have := owS_in (tx := tx) (k := 16) b4; dsimp only; omega) (by unfold lnC; rw [if_neg (by rw [z0]; decide), if_pos z4])
  refine gh_aload_n hK d_SD_doLine_62 rfl ?_
  refine gh_get hK d_SD_doLine_63 in_SD rfl h2.1.1 1 (by decide) kf_SD_23 rfl rfl ?_
  refine gh_ldcS (i := 6) hK d_SD_doLine_66 (by decide) rfl ?_
  refine gh_callV (rest := []) [.ref (G.2.2.1 6)] hK (c_Ln_is l G hl2 h2.2.1.2.2.2 (i := 6) b3 (by omega) (by decide)) Y_Ln_is V_Ln_is km_SD_126 hl2 rfl rfl d_SD_doLine_68 rfl rfl (Nat.le_of_ble_eq_true rfl) ⟨(Nat.le_of_ble_eq_true rfl), (Nat.le_of_ble_eq_true rfl)⟩ ⟨Nat.zero_le _, Nat.zero_le _⟩ (fun v g' hp => ?_)
  rw [hp.1, hp.2]
  show gh_W l G _ X g2 0 0 [some (.ref (A 0)), some (.int (nI fr)), some (.int (nI to)), some (.int (nI 0))] 71 [.int (nI (bn (pcI tx (nxS tx to fr) (nxE tx to fr) (st_txt.getD 6 []))))]
  refine gh_if_eqB hK d_SD_doLine_71 (tgt := 86) (by decide) (fun z6 => ?_) (fun z6 => ?_)
  rotate_left
  · refine gh_aload_n hK d_SD_doLine_74 rfl ?_
    refine gh_aload_n hK d_SD_doLine_75 rfl ?_
    refine gh_get hK d_SD_doLine_76 in_SD rfl h2.1.1 4 (by decide) kf_SD_46 rfl rfl ?_
    have hln := pcI_ln2 (by omega) b3 z6
    have hl0 : (st_txt.getD 6 []).length = 6 := rfl
    refine gh_callV (rest := []) [.ref (A 10)] hK (c_SD_doPrefix l G h2 hP2 hl2 b4 hto) Y_SD_doRule V_SD_doRule km_SD_140 h2.1.1 rfl rfl d_SD_doLine_79 rfl rfl (Nat.le_of_ble_eq_true rfl) ⟨(Nat.le_of_ble_eq_true rfl), (Nat.le_of_ble_eq_true rfl)⟩ ⟨(by show 0 + 8 ≤ 8 * (to - fr); omega), (by show 0 + 479 ≤ 500 * (to - fr); omega)⟩ (fun v g3 hp => ?_)
    obtain ⟨a, hD⟩ := hp
    rw [hD.1]
    show gh_W l G _ X g3 8 479 [some (.ref (A 0)), some (.int (nI fr)), some (.int (nI to)), some (.int (nI 0))] 82 [.int (nI (bn ((rdR tx to (nxE tx to fr)).1.isSome)))]
    refine gh_istore_n (lv' := [some (.ref (A 0)), some (.int (nI fr)), some (.int (nI to)), some (.int (nI (bn ((rdR tx to (nxE tx to fr)).1.isSome))))]) hK d_SD_doLine_82 (Nat.le_of_ble_eq_true rfl) rfl ?_
    refine gh_goto (tgt := 227) hK d_SD_doLine_83 (by decide) ?_
    exact fin 8 479 a ((rdR tx to (nxE tx to fr)).1.isSome, (rdR tx to (nxE tx to fr)).2, es, (ruA us1 a (rdR tx to (nxE tx to fr)).1), us2, (ruT us1 (rdR tx to (nxE tx to fr)).1 o)) g3 _ (by omega) (by omega) hD (fun _ => by have := rdR_in (tx := tx) b4; dsimp only; omega) (by unfold lnC; rw [if_neg (by rw [z0]; decide), if_neg (by rw [z4]; decide), if_pos z6])
  refine gh_aload_n hK d_SD_doLine_86 rfl ?_
  refine gh_get hK d_SD_doLine_87 in_SD rfl h2.1.1 1 (by decide) kf_SD_23 rfl rfl ?_
  refine gh_ldcS (i := 8) hK d_SD_doLine_90 (by decide) rfl ?_
  refine gh_callV (rest := []) [.ref (G.2.2.1 8)] hK (c_Ln_is l G hl2 h2.2.1.2.2.2 (i := 8) b3 (by omega) (by decide)) Y_Ln_is V_Ln_is km_SD_126 hl2 rfl rfl d_SD_doLine_92 rfl rfl (Nat.le_of_ble_eq_true rfl) ⟨(Nat.le_of_ble_eq_true rfl), (Nat.le_of_ble_eq_true rfl)⟩ ⟨Nat.zero_le _, Nat.zero_le _⟩ (fun v g' hp => ?_)
  rw [hp.1, hp.2]
  show gh_W l G _ X g2 0 0 [some (.ref (A 0)), some (.int (nI fr)), some (.int (nI to)), some (.int (nI 0))] 95 [.int (nI (bn (pcI tx (nxS tx to fr) (nxE tx to fr) (st_txt.getD 8 []))))]
  refine gh_if_eqB hK d_SD_doLine_95 (tgt := 110) (by decide) (fun z8 => ?_) (fun z8 => ?_)
  rotate_left
  · refine gh_aload_n hK d_SD_doLine_98 rfl ?_
    refine gh_aload_n hK d_SD_doLine_99 rfl ?_
    refine gh_get hK d_SD_doLine_100 in_SD rfl h2.1.1 5 (by decide) kf_SD_50 rfl rfl ?_
    have hln := pcI_ln2 (by omega) b3 z8
    have hl0 : (st_txt.getD 8 []).length = 6 := rfl
    refine gh_callV (rest := []) [.ref (A 20)] hK (c_SD_doSuffix l G h2 hP2 hl2 b4 hto) Y_SD_doRule V_SD_doRule km_SD_140 h2.1.1 rfl rfl d_SD_doLine_103 rfl rfl (Nat.le_of_ble_eq_true rfl) ⟨(Nat.le_of_ble_eq_true rfl), (Nat.le_of_ble_eq_true rfl)⟩ ⟨(by show 0 + 8 ≤ 8 * (to - fr); omega), (by show 0 + 479 ≤ 500 * (to - fr); omega)⟩ (fun v g3 hp => ?_)
    obtain ⟨a, hD⟩ := hp
    rw [hD.1]
    show gh_W l G _ X g3 8 479 [some (.ref (A 0)), some (.int (nI fr)), some (.int (nI to)), some (.int (nI 0))] 106 [.int (nI (bn ((rdR tx to (nxE tx to fr)).1.isSome)))]
    refine gh_istore_n (lv' := [some (.ref (A 0)), some (.int (nI fr)), some (.int (nI to)), some (.int (nI (bn ((rdR tx to (nxE tx to fr)).1.isSome))))]) hK d_SD_doLine_106 (Nat.le_of_ble_eq_true rfl) rfl ?_
    refine gh_goto (tgt := 227) hK d_SD_doLine_107 (by decide) ?_
    exact fin 8 479 a ((rdR tx to (nxE tx to fr)).1.isSome, (rdR tx to (nxE tx to fr)).2, es, us1, (ruA us2 a (rdR tx to (nxE tx to fr)).1), (ruT us2 (rdR tx to (nxE tx to fr)).1 o)) g3 _ (by omega) (by omega) hD (fun _ => by have := rdR_in (tx := tx) b4; dsimp only; omega) (by unfold lnC; rw [if_neg (by rw [z0]; decide), if_neg (by rw [z4]; decide), if_neg (by rw [z6]; decide), if_pos z8])
  refine gh_aload_n hK d_SD_doLine_110 rfl ?_
  refine gh_get hK d_SD_doLine_111 in_SD rfl h2.1.1 1 (by decide) kf_SD_23 rfl rfl ?_
  refine gh_ldcS (i := 9) hK d_SD_doLine_114 (by decide) rfl ?_
  refine gh_callV (rest := []) [.ref (G.2.2.1 9)] hK (c_Ln_is l G hl2 h2.2.1.2.2.2 (i := 9) b3 (by omega) (by decide)) Y_Ln_is V_Ln_is km_SD_126 hl2 rfl rfl d_SD_doLine_116 rfl rfl (Nat.le_of_ble_eq_true rfl) ⟨(Nat.le_of_ble_eq_true rfl), (Nat.le_of_ble_eq_true rfl)⟩ ⟨Nat.zero_le _, Nat.zero_le _⟩ (fun v g' hp => ?_)
  rw [hp.1, hp.2]
  show gh_W l G _ X g2 0 0 [some (.ref (A 0)), some (.int (nI fr)), some (.int (nI to)), some (.int (nI 0))] 119 [.int (nI (bn (pcI tx (nxS tx to fr) (nxE tx to fr) (st_txt.getD 9 []))))]
  refine gh_if_eqB hK d_SD_doLine_119 (tgt := 130) (by decide) (fun z9 => ?_) (fun z9 => ?_)
  rotate_left
  · refine gh_aload_n hK d_SD_doLine_122 rfl ?_
    have hln := pcI_ln2 (by omega) b3 z9
    have hl0 : (st_txt.getD 9 []).length = 5 := rfl
    refine gh_callV (rest := []) [] hK (c_SD_doCheck l G h2 hP2 hl2 b4 hto (by omega)) Y_SD_doCheck V_SD_doCheck km_SD_148 h2.1.1 rfl rfl d_SD_doLine_123 rfl rfl (Nat.le_of_ble_eq_true rfl) ⟨(Nat.le_of_ble_eq_true rfl), (Nat.le_of_ble_eq_true rfl)⟩ ⟨(by show 0 + 0 ≤ 8 * (to - fr); omega), (by show 0 + 0 ≤ 500 * (to - fr); omega)⟩ (fun v g3 hp => ?_)
    have hD := hp
    rw [hD.1]
    show gh_W l G _ X g3 0 0 [some (.ref (A 0)), some (.int (nI fr)), some (.int (nI to)), some (.int (nI 0))] 126 [.int (nI (bn ((ckA tx to (nxE tx to fr)).1.isNone)))]
    refine gh_istore_n (lv' := [some (.ref (A 0)), some (.int (nI fr)), some (.int (nI to)), some (.int (nI (bn ((ckA tx to (nxE tx to fr)).1.isNone))))]) hK d_SD_doLine_126 (Nat.le_of_ble_eq_true rfl) rfl ?_
    refine gh_goto (tgt := 227) hK d_SD_doLine_127 (by decide) ?_
    exact fin 0 0 0 ((ckA tx to (nxE tx to fr)).1.isNone, ((ckA tx to (nxE tx to fr)).1.getD 0), es, us1, us2, (if (ckA tx to (nxE tx to fr)).1.isNone = true then prs o (jnI ((ckA tx to (nxE tx to fr)).2.filter (ckN es us1 us2))) else o)) g3 _ (by omega) (by omega) hD (fun hz => by cases hc : (ckA tx to (nxE tx to fr)).1 with | none => (dsimp only at hz; rw [hc] at hz; cases hz) | some q => (have := ckA_in b4 hc; show fr ≤ q ∧ q ≤ to; omega)) (by unfold lnC; rw [if_neg (by rw [z0]; decide), if_neg (by rw [z4]; decide), if_neg (by rw [z6]; decide), if_neg (by rw [z8]; decide), if_pos z9])
  refine gh_aload_n hK d_SD_doLine_130 rfl ?_
  refine gh_get hK d_SD_doLine_131 in_SD rfl h2.1.1 1 (by decide) kf_SD_23 rfl rfl ?_
  refine gh_ldcS (i := 10) hK d_SD_doLine_134 (by decide) rfl ?_
  refine gh_callV (rest := []) [.ref (G.2.2.1 10)] hK (c_Ln_is l G hl2 h2.2.1.2.2.2 (i := 10) b3 (by omega) (by decide)) Y_Ln_is V_Ln_is km_SD_126 hl2 rfl rfl d_SD_doLine_136 rfl rfl (Nat.le_of_ble_eq_true rfl) ⟨(Nat.le_of_ble_eq_true rfl), (Nat.le_of_ble_eq_true rfl)⟩ ⟨Nat.zero_le _, Nat.zero_le _⟩ (fun v g' hp => ?_)
  rw [hp.1, hp.2]
  show gh_W l G _ X g2 0 0 [some (.ref (A 0)), some (.int (nI fr)), some (.int (nI to)), some (.int (nI 0))] 139 [.int (nI (bn (pcI tx (nxS tx to fr) (nxE tx to fr) (st_txt.getD 10 []))))]
  refine gh_if_eqB hK d_SD_doLine_139 (tgt := 150) (by decide) (fun z10 => ?_) (fun z10 => ?_)
  rotate_left
  · refine gh_aload_n hK d_SD_doLine_142 rfl ?_
    have hln := pcI_ln2 (by omega) b3 z10
    have hl0 : (st_txt.getD 10 []).length = 4 := rfl
    refine gh_callV (rest := []) [] hK (c_SD_doLook l G h2 hP2 hl2 b4 hto) Y_SD_doLook V_SD_doLook km_SD_153 h2.1.1 rfl rfl d_SD_doLine_143 rfl rfl (Nat.le_of_ble_eq_true rfl) ⟨(Nat.le_of_ble_eq_true rfl), (Nat.le_of_ble_eq_true rfl)⟩ ⟨(by show 0 + 0 ≤ 8 * (to - fr); omega), (by show 0 + 0 ≤ 500 * (to - fr); omega)⟩ (fun v g3 hp => ?_)
    have hD := hp
    rw [hD.1]
    show gh_W l G _ X g3 0 0 [some (.ref (A 0)), some (.int (nI fr)), some (.int (nI to)), some (.int (nI 0))] 146 [.int (nI (bn (owO tx 16 to (nxE tx to fr))))]
    refine gh_istore_n (lv' := [some (.ref (A 0)), some (.int (nI fr)), some (.int (nI to)), some (.int (nI (bn (owO tx 16 to (nxE tx to fr)))))]) hK d_SD_doLine_146 (Nat.le_of_ble_eq_true rfl) rfl ?_
    refine gh_goto (tgt := 227) hK d_SD_doLine_147 (by decide) ?_
    exact fin 0 0 0 (owO tx 16 to (nxE tx to fr), owS tx 16 to (nxE tx to fr), es, us1, us2, (if owO tx 16 to (nxE tx to fr) = true then prs o (jnI (lkW (nxW tx to (nxE tx to fr)) (es.drop (rnkL (nxW tx to (nxE tx to fr)) (dws es))))) else o)) g3 _ (by omega) (by omega) hD (fun _ => by have := owS_in (tx := tx) (k := 16) b4; dsimp only; omega) (by unfold lnC; rw [if_neg (by rw [z0]; decide), if_neg (by rw [z4]; decide), if_neg (by rw [z6]; decide), if_neg (by rw [z8]; decide), if_neg (by rw [z9]; decide), if_pos z10])
  refine gh_aload_n hK d_SD_doLine_150 rfl ?_
  refine gh_get hK d_SD_doLine_151 in_SD rfl h2.1.1 1 (by decide) kf_SD_23 rfl rfl ?_
  refine gh_ldcS (i := 11) hK d_SD_doLine_154 (by decide) rfl ?_
  refine gh_callV (rest := []) [.ref (G.2.2.1 11)] hK (c_Ln_is l G hl2 h2.2.1.2.2.2 (i := 11) b3 (by omega) (by decide)) Y_Ln_is V_Ln_is km_SD_126 hl2 rfl rfl d_SD_doLine_156 rfl rfl (Nat.le_of_ble_eq_true rfl) ⟨(Nat.le_of_ble_eq_true rfl), (Nat.le_of_ble_eq_true rfl)⟩ ⟨Nat.zero_le _, Nat.zero_le _⟩ (fun v g' hp => ?_)
  rw [hp.1, hp.2]
  show gh_W l G _ X g2 0 0 [some (.ref (A 0)), some (.int (nI fr)), some (.int (nI to)), some (.int (nI 0))] 159 [.int (nI (bn (pcI tx (nxS tx to fr) (nxE tx to fr) (st_txt.getD 11 []))))]
  refine gh_if_eqB hK d_SD_doLine_159 (tgt := 170) (by decide) (fun z11 => ?_) (fun z11 => ?_)
  rotate_left
  · refine gh_aload_n hK d_SD_doLine_162 rfl ?_
    have hln := pcI_ln2 (by omega) b3 z11
    have hl0 : (st_txt.getD 11 []).length = 3 := rfl
    refine gh_callV (rest := []) [] hK (c_SD_doWhy l G h2 hP2 hl2 b4 hto) Y_SD_doWhy V_SD_doWhy km_SD_158 h2.1.1 rfl rfl d_SD_doLine_163 rfl rfl (Nat.le_of_ble_eq_true rfl) ⟨(Nat.le_of_ble_eq_true rfl), (Nat.le_of_ble_eq_true rfl)⟩ ⟨(by show 0 + 0 ≤ 8 * (to - fr); omega), (by show 0 + 0 ≤ 500 * (to - fr); omega)⟩ (fun v g3 hp => ?_)
    have hD := hp
    rw [hD.1]
    show gh_W l G _ X g3 0 0 [some (.ref (A 0)), some (.int (nI fr)), some (.int (nI to)), some (.int (nI 0))] 166 [.int (nI (bn (owO tx 28 to (nxE tx to fr))))]
    refine gh_istore_n (lv' := [some (.ref (A 0)), some (.int (nI fr)), some (.int (nI to)), some (.int (nI (bn (owO tx 28 to (nxE tx to fr)))))]) hK d_SD_doLine_166 (Nat.le_of_ble_eq_true rfl) rfl ?_
    refine gh_goto (tgt := 227) hK d_SD_doLine_167 (by decide) ?_
    exact fin 0 0 0 (owO tx 28 to (nxE tx to fr), owS tx 28 to (nxE tx to fr), es, us1, us2, (if owO tx 28 to (nxE tx to fr) = true then prs o (jnI ((wyA es us1 us2 81 (nxW tx to (nxE tx to fr))).map (wyX es))) else o)) g3 _ (by omega) (by omega) hD (fun _ => by have := owS_in (tx := tx) (k := 28) b4; dsimp only; omega) (by unfold lnC; rw [if_neg (by rw [z0]; decide), if_neg (by rw [z4]; decide), if_neg (by rw [z6]; decide), if_neg (by rw [z8]; decide), if_neg (by rw [z9]; decide), if_neg (by rw [z10]; decide), if_pos z11])
  refine gh_aload_n hK d_SD_doLine_170 rfl ?_
  refine gh_get hK d_SD_doLine_171 in_SD rfl h2.1.1 1 (by decide) kf_SD_23 rfl rfl ?_
  refine gh_ldcS (i := 15) hK d_SD_doLine_174 (by decide) rfl ?_
  refine gh_callV (rest := []) [.ref (G.2.2.1 15)] hK (c_Ln_is l G hl2 h2.2.1.2.2.2 (i := 15) b3 (by omega) (by decide)) Y_Ln_is V_Ln_is km_SD_126 hl2 rfl rfl d_SD_doLine_176 rfl rfl (Nat.le_of_ble_eq_true rfl) ⟨(Nat.le_of_ble_eq_true rfl), (Nat.le_of_ble_eq_true rfl)⟩ ⟨Nat.zero_le _, Nat.zero_le _⟩ (fun v g' hp => ?_)
  rw [hp.1, hp.2]
  show gh_W l G _ X g2 0 0 [some (.ref (A 0)), some (.int (nI fr)), some (.int (nI to)), some (.int (nI 0))] 179 [.int (nI (bn (pcI tx (nxS tx to fr) (nxE tx to fr) (st_txt.getD 15 []))))]
  refine gh_if_eqB hK d_SD_doLine_179 (tgt := 190) (by decide) (fun z15 => ?_) (fun z15 => ?_)
  rotate_left
  · refine gh_aload_n hK d_SD_doLine_182 rfl ?_
    have hln := pcI_ln2 (by omega) b3 z15
    have hl0 : (st_txt.getD 15 []).length = 5 := rfl
    refine gh_callV (rest := []) [] hK (c_SD_doForms l G h2 hP2 hl2 b4 hto) Y_SD_doForms V_SD_doForms km_SD_163 h2.1.1 rfl rfl d_SD_doLine_183 rfl rfl (Nat.le_of_ble_eq_true rfl) ⟨(Nat.le_of_ble_eq_true rfl), (Nat.le_of_ble_eq_true rfl)⟩ ⟨(by show 0 + 0 ≤ 8 * (to - fr); omega), (by show 0 + 0 ≤ 500 * (to - fr); omega)⟩ (fun v g3 hp => ?_)
    have hD := hp
    rw [hD.1]
    show gh_W l G _ X g3 0 0 [some (.ref (A 0)), some (.int (nI fr)), some (.int (nI to)), some (.int (nI 0))] 186 [.int (nI (bn (owO tx 16 to (nxE tx to fr))))]
    refine gh_istore_n (lv' := [some (.ref (A 0)), some (.int (nI fr)), some (.int (nI to)), some (.int (nI (bn (owO tx 16 to (nxE tx to fr)))))]) hK d_SD_doLine_186 (Nat.le_of_ble_eq_true rfl) rfl ?_
    refine gh_goto (tgt := 227) hK d_SD_doLine_187 (by decide) ?_
    exact fin 0 0 0 (owO tx 16 to (nxE tx to fr), owS tx 16 to (nxE tx to fr), es, us1, us2, (if owO tx 16 to (nxE tx to fr) = true then prs o (jnI (frW es us1 us2 (nxW tx to (nxE tx to fr)))) else o)) g3 _ (by omega) (by omega) hD (fun _ => by have := owS_in (tx := tx) (k := 16) b4; dsimp only; omega) (by unfold lnC; rw [if_neg (by rw [z0]; decide), if_neg (by rw [z4]; decide), if_neg (by rw [z6]; decide), if_neg (by rw [z8]; decide), if_neg (by rw [z9]; decide), if_neg (by rw [z10]; decide), if_neg (by rw [z11]; decide), if_pos z15])
  refine gh_aload_n hK d_SD_doLine_190 rfl ?_
  refine gh_get hK d_SD_doLine_191 in_SD rfl h2.1.1 1 (by decide) kf_SD_23 rfl rfl ?_
  refine gh_ldcS (i := 16) hK d_SD_doLine_194 (by decide) rfl ?_
  refine gh_callV (rest := []) [.ref (G.2.2.1 16)] hK (c_Ln_is l G hl2 h2.2.1.2.2.2 (i := 16) b3 (by omega) (by decide)) Y_Ln_is V_Ln_is km_SD_126 hl2 rfl rfl d_SD_doLine_196 rfl rfl (Nat.le_of_ble_eq_true rfl) ⟨(Nat.le_of_ble_eq_true rfl), (Nat.le_of_ble_eq_true rfl)⟩ ⟨Nat.zero_le _, Nat.zero_le _⟩ (fun v g' hp => ?_)
  rw [hp.1, hp.2]
  show gh_W l G _ X g2 0 0 [some (.ref (A 0)), some (.int (nI fr)), some (.int (nI to)), some (.int (nI 0))] 199 [.int (nI (bn (pcI tx (nxS tx to fr) (nxE tx to fr) (st_txt.getD 16 []))))]
  refine gh_if_eqB hK d_SD_doLine_199 (tgt := 210) (by decide) (fun z16 => ?_) (fun z16 => ?_)
  rotate_left
  · refine gh_aload_n hK d_SD_doLine_202 rfl ?_
    have hln := pcI_ln2 (by omega) b3 z16
    have hl0 : (st_txt.getD 16 []).length = 5 := rfl
    refine gh_callV (rest := []) [] hK (c_SD_doCount l G h2 hP2 hl2 b4 hto) Y_SD_doCount V_SD_doCount km_SD_167 h2.1.1 rfl rfl d_SD_doLine_203 rfl rfl (Nat.le_of_ble_eq_true rfl) ⟨(Nat.le_of_ble_eq_true rfl), (Nat.le_of_ble_eq_true rfl)⟩ ⟨(by show 0 + 0 ≤ 8 * (to - fr); omega), (by show 0 + 0 ≤ 500 * (to - fr); omega)⟩ (fun v g3 hp => ?_)
    have hD := hp
    rw [hD.1]
    show gh_W l G _ X g3 0 0 [some (.ref (A 0)), some (.int (nI fr)), some (.int (nI to)), some (.int (nI 0))] 206 [.int (nI (bn (decide (nxE tx to (nxE tx to fr) ≤ nxS tx to (nxE tx to fr)))))]
    refine gh_istore_n (lv' := [some (.ref (A 0)), some (.int (nI fr)), some (.int (nI to)), some (.int (nI (bn (decide (nxE tx to (nxE tx to fr) ≤ nxS tx to (nxE tx to fr))))))]) hK d_SD_doLine_206 (Nat.le_of_ble_eq_true rfl) rfl ?_
    refine gh_goto (tgt := 227) hK d_SD_doLine_207 (by decide) ?_
    exact fin 0 0 0 (decide (nxE tx to (nxE tx to fr) ≤ nxS tx to (nxE tx to fr)), nxS tx to (nxE tx to fr), es, us1, us2, (if decide (nxE tx to (nxE tx to fr) ≤ nxS tx to (nxE tx to fr)) = true then prs o (decL es.length ++ 32 :: (decL us1.length ++ 32 :: decL us2.length)) else o)) g3 _ (by omega) (by omega) hD (fun _ => by have := nxS_le (tx := tx) b4; dsimp only; omega) (by unfold lnC; rw [if_neg (by rw [z0]; decide), if_neg (by rw [z4]; decide), if_neg (by rw [z6]; decide), if_neg (by rw [z8]; decide), if_neg (by rw [z9]; decide), if_neg (by rw [z10]; decide), if_neg (by rw [z11]; decide), if_neg (by rw [z15]; decide), if_pos z16])
  refine gh_aload_n hK d_SD_doLine_210 rfl ?_
  refine gh_get hK d_SD_doLine_211 in_SD rfl h2.1.1 1 (by decide) kf_SD_23 rfl rfl ?_
  refine gh_ldcS (i := 17) hK d_SD_doLine_214 (by decide) rfl ?_
  refine gh_callV (rest := []) [.ref (G.2.2.1 17)] hK (c_Ln_is l G hl2 h2.2.1.2.2.2 (i := 17) b3 (by omega) (by decide)) Y_Ln_is V_Ln_is km_SD_126 hl2 rfl rfl d_SD_doLine_216 rfl rfl (Nat.le_of_ble_eq_true rfl) ⟨(Nat.le_of_ble_eq_true rfl), (Nat.le_of_ble_eq_true rfl)⟩ ⟨Nat.zero_le _, Nat.zero_le _⟩ (fun v g' hp => ?_)
  rw [hp.1, hp.2]
  show gh_W l G _ X g2 0 0 [some (.ref (A 0)), some (.int (nI fr)), some (.int (nI to)), some (.int (nI 0))] 219 [.int (nI (bn (pcI tx (nxS tx to fr) (nxE tx to fr) (st_txt.getD 17 []))))]
  refine gh_if_eqB hK d_SD_doLine_219 (tgt := 227) (by decide) (fun z17 => ?_) (fun z17 => ?_)
  rotate_left
  · refine gh_aload_n hK d_SD_doLine_222 rfl ?_
    have hln := pcI_ln2 (by omega) b3 z17
    have hl0 : (st_txt.getD 17 []).length = 5 := rfl
    refine gh_callV (rest := []) [] hK (c_SD_doClear l G h2 hP2 hl2 b4 hto) Y_SD_doClear V_SD_doClear km_SD_171 h2.1.1 rfl rfl d_SD_doLine_223 rfl rfl (Nat.le_of_ble_eq_true rfl) ⟨(Nat.le_of_ble_eq_true rfl), (Nat.le_of_ble_eq_true rfl)⟩ ⟨(by show 0 + 0 ≤ 8 * (to - fr); omega), (by show 0 + 0 ≤ 500 * (to - fr); omega)⟩ (fun v g3 hp => ?_)
    have hD := hp
    rw [hD.1]
    show gh_W l G _ X g3 0 0 [some (.ref (A 0)), some (.int (nI fr)), some (.int (nI to)), some (.int (nI 0))] 226 [.int (nI (bn (decide (nxE tx to (nxE tx to fr) ≤ nxS tx to (nxE tx to fr)))))]
    refine gh_istore_n (lv' := [some (.ref (A 0)), some (.int (nI fr)), some (.int (nI to)), some (.int (nI (bn (decide (nxE tx to (nxE tx to fr) ≤ nxS tx to (nxE tx to fr))))))]) hK d_SD_doLine_226 (Nat.le_of_ble_eq_true rfl) rfl ?_
    exact fin 0 0 0 (decide (nxE tx to (nxE tx to fr) ≤ nxS tx to (nxE tx to fr)), nxS tx to (nxE tx to fr), (if decide (nxE tx to (nxE tx to fr) ≤ nxS tx to (nxE tx to fr)) = true then [] else es), (if decide (nxE tx to (nxE tx to fr) ≤ nxS tx to (nxE tx to fr)) = true then [] else us1), (if decide (nxE tx to (nxE tx to fr) ≤ nxS tx to (nxE tx to fr)) = true then [] else us2), (if decide (nxE tx to (nxE tx to fr) ≤ nxS tx to (nxE tx to fr)) = true then prs o (st_txt.getD 3 []) else o)) g3 _ (by omega) (by omega) hD (fun _ => by have := nxS_le (tx := tx) b4; dsimp only; omega) (by unfold lnC; rw [if_neg (by rw [z0]; decide), if_neg (by rw [z4]; decide), if_neg (by rw [z6]; decide), if_neg (by rw [z8]; decide), if_neg (by rw [z9]; decide), if_neg (by rw [z10]; decide), if_neg (by rw [z11]; decide), if_neg (by rw [z15]; decide), if_neg (by rw [z16]; decide), if_pos z17])
  exact fin 0 0 0 (false, (nxS tx to fr), es, us1, us2, o) g2 (some (.int (nI 0))) (Nat.zero_le _) (Nat.zero_le _) ⟨rfl, ⟨_, _, _, _, hl2, fun _ => rfl⟩, h2, ⟨0, hP2⟩, gh_M.rf⟩ (fun _ => by dsimp only; omega) (by unfold lnC; rw [if_neg (by rw [z0]; decide), if_neg (by rw [z4]; decide), if_neg (by rw [z6]; decide), if_neg (by rw [z8]; decide), if_neg (by rw [z9]; decide), if_neg (by rw [z10]; decide), if_neg (by rw [z11]; decide), if_neg (by rw [z15]; decide), if_neg (by rw [z16]; decide), if_neg (by rw [z17]; decide)])
