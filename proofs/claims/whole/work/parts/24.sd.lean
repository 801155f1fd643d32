/-! THE DESK: its own object, the memory of its speller, the asked words; the dictionary, the rules, the text -/
def SDT : List Nat := [0, 1, 2, 3, 4, 5, 6, 7, 8, 9, 10, 11, 12, 13, 14, 15, 20, 21, 22, 23, 24, 25, 30, 31, 32, 33, 34, 35, 36, 37, 38, 40, 41, 42, 50, 51, 52, 60, 61, 62]
def SDo (g : GH) (A : Nat → Nat) : Prop := g (A 0) = some (0, .inr (0, [.ref (A 1), .ref (A 3), .ref (A 4), .ref (A 7), .ref (A 10), .ref (A 20), .ref (A 30), .ref (A 40)]))
def SDm (G : GG) (g : GH) (A : Nat → Nat) : Prop := SDo g A ∧ (∃ ws, WyI G g g A ws) ∧ (∃ fx fp, FmI G g A fx fp) ∧ ∃ ps, Wl G g (A 40) 40 (A 41) 41 (A 42) 42 (A 1) 1024 ps
def SDb (es : List (Nat × List Nat × Nat)) (us1 us2 : List (Nat × RuR)) : Prop := FXb es us1 us2 ∧ (∀ x, x ∈ us1 → RuB x.2) ∧ (∀ x, x ∈ us2 → RuB x.2) ∧ ∀ x, x ∈ es → x.2.1.length ≤ 16
def SDr (G : GG) (g : GH) (A : Nat → Nat) (es : List (Nat × List Nat × Nat)) (us1 us2 : List (Nat × RuR)) (tx : List Nat) : Prop := SDm G g A ∧ FX G g A es us1 us2 tx ∧ SDb es us1 us2
theorem WyI.M {G : GG} {g g' : GH} {A : Nat → Nat} {ws : List Nat} {S : List Nat} (h : WyI G g g A ws) (hM : gh_M S g g') (h1 : ∀ t, t ∈ [30, 31, 32, 33] → t ∉ S) : WyI G g' g' A ws := by
  obtain ⟨k1, k2, k3, k4, k5, ⟨bs, k6⟩, k7⟩ := h
  exact ⟨k1.M hM (h1 _ (by decide)), k2.M hM (h1 _ (by decide)), k3, k4, k5, ⟨bs, k6.M hM (h1 _ (by decide)) (h1 _ (by decide))⟩, gh_M.rf⟩
theorem SDm.M {G : GG} {g g' : GH} {A : Nat → Nat} {S : List Nat} (h : SDm G g A) (hM : gh_M S g g') (h1 : ∀ t, t ∈ [0, 30, 31, 32, 33, 34, 35, 36, 37, 38, 40, 41, 42] → t ∉ S) : SDm G g' A := by
  obtain ⟨k1, ⟨ws, k2⟩, ⟨fx, fp, k3⟩, ⟨ps, k4⟩⟩ := h
  exact ⟨hM _ 0 _ k1 (h1 _ (by decide)), ⟨ws, k2.M hM (fun t ht => h1 t (by simp at ht ⊢; omega))⟩, ⟨fx, fp, k3.M hM (fun t ht => h1 t (by simp at ht ⊢; omega))⟩, ⟨ps, k4.M hM (h1 _ (by decide)) (h1 _ (by decide)) (h1 _ (by decide))⟩⟩
theorem SDr.M {G : GG} {g g' : GH} {A : Nat → Nat} {es : List (Nat × List Nat × Nat)} {us1 us2 : List (Nat × RuR)} {tx : List Nat} {S : List Nat} (h : SDr G g A es us1 us2 tx) (hM : gh_M S g g') (hS : ∀ t, t ∈ S → t ∈ [3, 4, 5, 6]) : SDr G g' A es us1 us2 tx :=
  ⟨h.1.M hM (fun t ht q => by have := hS t q; simp at ht this; omega), h.2.1.M hM (fun t ht q => by have := hS t q; simp at ht this; omega), h.2.2⟩
/-- what a command leaves -/
def DoP (G : GG) (A : Nat → Nat) (tx : List Nat) (ls le : Nat) (g : GH) (ok : Bool) (q : Nat) (es : List (Nat × List Nat × Nat)) (us1 us2 : List (Nat × RuR)) (o : List Nat × Nat) (v : Option Value) (g' : GH) : Prop := v = some (.int (nI (bn ok))) ∧ (∃ s e wf wl, Ln g' (A 3) (A 1) ls le s e wf wl ∧ (ok = false → s = q)) ∧ SDr G g' A es us1 us2 tx ∧ (∃ it, Pr G g' (A 4) (A 5) (A 6) o it) ∧ gh_M SDT g g'
theorem DoP.no {G : GG} {A : Nat → Nat} {tx : List Nat} {ls le : Nat} {g : GH} {q : Nat} {es : List (Nat × List Nat × Nat)} {us1 us2 : List (Nat × RuR)} {o : List Nat × Nat} {it : Nat} {g' : GH} {s e wf wl wf2 wl2 s0 e0 : Nat} (h : SDr G g A es us1 us2 tx) (hP : Pr G g (A 4) (A 5) (A 6) o it) (hL0 : Ln g (A 3) (A 1) ls le s0 e0 wf wl) (hL : Ln g' (A 3) (A 1) ls le s e wf2 wl2) (hN : gh_N [A 3] g g') (hq : s = q) : DoP G A tx ls le g false q es us1 us2 o (some (.int (nI 0))) g' :=
  ⟨rfl, ⟨s, e, wf2, wl2, hL, fun _ => hq⟩, h.M (hL0.toM hN) (by decide), ⟨it, hP.M (hL0.toM hN) (by decide) (by decide) (by decide)⟩, (hL0.toM hN).wd (by decide)⟩
set_option maxRecDepth 20000 in
set_option maxHeartbeats 4000000 in
theorem c_SD_typed (l : Launch) (G : GG) {g : GH} {A : Nat → Nat} {es : List (Nat × List Nat × Nat)} {us1 us2 : List (Nat × RuR)} {tx : List Nat} (h : SDr G g A es us1 us2 tx) : gMet l G y_SD_typed b_SD_typed 1 (some .int) (rmk 1 0 0 20) [.ref (A 0)] g (fun v g' => v = some (.int (nI tx.length)) ∧ g' = g) := by
  refine gMet.of [some (.ref (A 0))] (by decide +kernel) rfl (Nat.le_of_ble_eq_true rfl) rfl (fun X hK hI hE => ?_)
  refine gh_aload_n hK d_SD_typed_0 rfl ?_
  refine gh_get hK d_SD_typed_1 in_SD rfl h.1.1 0 (by decide) kf_SD_14 rfl rfl ?_
  refine gh_callV (rest := []) [] hK (c_Lt_count l G h.2.1.2.2.2) Y_Lt_count V_Lt_count km_SD_75 h.2.1.2.2.2.ob rfl rfl d_SD_typed_4 rfl rfl (Nat.le_of_ble_eq_true rfl) ⟨(Nat.le_of_ble_eq_true rfl), (Nat.le_of_ble_eq_true rfl)⟩ ⟨(Nat.le_of_ble_eq_true rfl), (Nat.le_of_ble_eq_true rfl)⟩ (fun v g' hp => ?_)
  rw [hp.1, hp.2]
  show gh_W l G _ X g _ _ [some (.ref (A 0))] 7 [.int (nI tx.length)]
  exact gh_iret hK hE d_SD_typed_7 (Nat.le_of_ble_eq_true rfl) (Nat.le_of_ble_eq_true rfl) ⟨rfl, rfl⟩
set_option maxRecDepth 20000 in
set_option maxHeartbeats 4000000 in
theorem c_SD_size (l : Launch) (G : GG) {g : GH} {A : Nat → Nat} {es : List (Nat × List Nat × Nat)} {us1 us2 : List (Nat × RuR)} {tx : List Nat} {o : List Nat × Nat} {it : Nat} (h : SDr G g A es us1 us2 tx) (hP : Pr G g (A 4) (A 5) (A 6) o it) : gMet l G y_SD_size b_SD_size 1 (some .int) (rmk 2 0 0 40) [.ref (A 0)] g (fun v g' => v = some (.int (nI o.1.length)) ∧ g' = g) := by
  refine gMet.of [some (.ref (A 0))] (by decide +kernel) rfl (Nat.le_of_ble_eq_true rfl) rfl (fun X hK hI hE => ?_)
  refine gh_aload_n hK d_SD_size_0 rfl ?_
  refine gh_get hK d_SD_size_1 in_SD rfl h.1.1 2 (by decide) kf_SD_30 rfl rfl ?_
  refine gh_callV (rest := []) [] hK (c_Pr_count l G hP) Y_Pr_count V_Pr_count km_SD_100 hP.1 rfl rfl d_SD_size_4 rfl rfl (Nat.le_of_ble_eq_true rfl) ⟨(Nat.le_of_ble_eq_true rfl), (Nat.le_of_ble_eq_true rfl)⟩ ⟨(Nat.le_of_ble_eq_true rfl), (Nat.le_of_ble_eq_true rfl)⟩ (fun v g' hp => ?_)
  rw [hp.1, hp.2]
  show gh_W l G _ X g _ _ [some (.ref (A 0))] 7 [.int (nI o.1.length)]
  exact gh_iret hK hE d_SD_size_7 (Nat.le_of_ble_eq_true rfl) (Nat.le_of_ble_eq_true rfl) ⟨rfl, rfl⟩
set_option maxRecDepth 20000 in
set_option maxHeartbeats 4000000 in
theorem c_SD_lost (l : Launch) (G : GG) {g : GH} {A : Nat → Nat} {es : List (Nat × List Nat × Nat)} {us1 us2 : List (Nat × RuR)} {tx : List Nat} {o : List Nat × Nat} {it : Nat} (h : SDr G g A es us1 us2 tx) (hP : Pr G g (A 4) (A 5) (A 6) o it) : gMet l G y_SD_lost b_SD_lost 1 (some .int) (rmk 1 0 0 20) [.ref (A 0)] g (fun v g' => v = some (.int (nI o.2)) ∧ g' = g) := by
  refine gMet.of [some (.ref (A 0))] (by decide +kernel) rfl (Nat.le_of_ble_eq_true rfl) rfl (fun X hK hI hE => ?_)
  refine gh_aload_n hK d_SD_lost_0 rfl ?_
  refine gh_get hK d_SD_lost_1 in_SD rfl h.1.1 2 (by decide) kf_SD_30 rfl rfl ?_
  refine gh_callV (rest := []) [] hK (c_Pr_lostCount l G hP) Y_Pr_lostCount V_Pr_lostCount km_SD_107 hP.1 rfl rfl d_SD_lost_4 rfl rfl (Nat.le_of_ble_eq_true rfl) ⟨(Nat.le_of_ble_eq_true rfl), (Nat.le_of_ble_eq_true rfl)⟩ ⟨(Nat.le_of_ble_eq_true rfl), (Nat.le_of_ble_eq_true rfl)⟩ (fun v g' hp => ?_)
  rw [hp.1, hp.2]
  show gh_W l G _ X g _ _ [some (.ref (A 0))] 7 [.int (nI o.2)]
  exact gh_iret hK hE d_SD_lost_7 (Nat.le_of_ble_eq_true rfl) (Nat.le_of_ble_eq_true rfl) ⟨rfl, rfl⟩
set_option maxRecDepth 20000 in
set_option maxHeartbeats 4000000 in
theorem c_SD_entries (l : Launch) (G : GG) {g : GH} {A : Nat → Nat} {es : List (Nat × List Nat × Nat)} {us1 us2 : List (Nat × RuR)} {tx : List Nat} (h : SDr G g A es us1 us2 tx) : gMet l G y_SD_entries b_SD_entries 1 (some .int) (rmk 2 0 0 40) [.ref (A 0)] g (fun v g' => v = some (.int (nI es.length)) ∧ g' = g) := by
  refine gMet.of [some (.ref (A 0))] (by decide +kernel) rfl (Nat.le_of_ble_eq_true rfl) rfl (fun X hK hI hE => ?_)
  refine gh_aload_n hK d_SD_entries_0 rfl ?_
  refine gh_get hK d_SD_entries_1 in_SD rfl h.1.1 3 (by decide) kf_SD_37 rfl rfl ?_
  refine gh_callV (rest := []) [] hK (c_Dc_count l G h.2.1.1) Y_Dc_count V_Dc_count km_SD_111 h.2.1.1.1 rfl rfl d_SD_entries_4 rfl rfl (Nat.le_of_ble_eq_true rfl) ⟨(Nat.le_of_ble_eq_true rfl), (Nat.le_of_ble_eq_true rfl)⟩ ⟨(Nat.le_of_ble_eq_true rfl), (Nat.le_of_ble_eq_true rfl)⟩ (fun v g' hp => ?_)
  rw [hp.1, hp.2]
  show gh_W l G _ X g _ _ [some (.ref (A 0))] 7 [.int (nI es.length)]
  exact gh_iret hK hE d_SD_entries_7 (Nat.le_of_ble_eq_true rfl) (Nat.le_of_ble_eq_true rfl) ⟨rfl, rfl⟩
set_option maxRecDepth 20000 in
set_option maxHeartbeats 4000000 in
theorem c_SD_wipe (l : Launch) (G : GG) {g : GH} {A : Nat → Nat} {es : List (Nat × List Nat × Nat)} {us1 us2 : List (Nat × RuR)} {tx : List Nat} {o : List Nat × Nat} {it : Nat} (h : SDr G g A es us1 us2 tx) (hP : Pr G g (A 4) (A 5) (A 6) o it) : gMet l G y_SD_wipe b_SD_wipe 1 none (rmk 2 0 0 40) [.ref (A 0)] g (fun v g' => v = none ∧ SDr G g' A es us1 us2 tx ∧ Pr G g' (A 4) (A 5) (A 6) ([], 0) it ∧ gh_M [4, 5, 6] g g') := by
  refine gMet.of [some (.ref (A 0))] (by decide +kernel) rfl (Nat.le_of_ble_eq_true rfl) rfl (fun X hK hI hE => ?_)
  refine gh_aload_n hK d_SD_wipe_0 rfl ?_
  refine gh_get hK d_SD_wipe_1 in_SD rfl h.1.1 2 (by decide) kf_SD_30 rfl rfl ?_
  refine gh_callV (rest := []) [] hK (c_Pr_clear l G hP) Y_Pr_clear V_Pr_clear km_SD_110 hP.1 rfl rfl d_SD_wipe_4 rfl rfl (Nat.le_of_ble_eq_true rfl) ⟨(Nat.le_of_ble_eq_true rfl), (Nat.le_of_ble_eq_true rfl)⟩ ⟨(Nat.le_of_ble_eq_true rfl), (Nat.le_of_ble_eq_true rfl)⟩ (fun v g1 hp => ?_)
  obtain ⟨rfl, hp1, hp2⟩ := hp
  show gh_W l G _ X g1 _ _ [some (.ref (A 0))] 7 []
  exact gh_vret hK hE d_SD_wipe_7 (Nat.le_of_ble_eq_true rfl) (Nat.le_of_ble_eq_true rfl) ⟨rfl, h.M (hP.toM hp2) (by decide), hp1, hP.toM hp2⟩
set_option maxRecDepth 20000 in
set_option maxHeartbeats 4000000 in
theorem c_SD_rules (l : Launch) (G : GG) {g : GH} {A : Nat → Nat} {es : List (Nat × List Nat × Nat)} {us1 us2 : List (Nat × RuR)} {tx : List Nat} {b : Bool} (h : SDr G g A es us1 us2 tx) : gMet l G y_SD_rules b_SD_rules 2 (some .int) (rmk 2 0 0 40) [.ref (A 0), .int (nI (bn b))] g (fun v g' => v = some (.int (nI (if b = true then us1.length else us2.length))) ∧ g' = g) := by
  refine gMet.of [some (.ref (A 0)), some (.int (nI (bn b)))] (by decide +kernel) rfl (Nat.le_of_ble_eq_true rfl) rfl (fun X hK hI hE => ?_)
  refine gh_iload_n hK d_SD_rules_0 rfl ?_
  refine gh_if_eqB hK d_SD_rules_1 (tgt := 14) (by decide) (fun z => ?_) (fun z => ?_)
  · refine gh_aload_n hK d_SD_rules_14 rfl ?_
    refine gh_get hK d_SD_rules_15 in_SD rfl h.1.1 5 (by decide) kf_SD_50 rfl rfl ?_
    refine gh_callV (rest := []) [] hK (c_Rs_count l G h.2.1.2.2.1) Y_Rs_count V_Rs_count km_SD_112 h.2.1.2.2.1.1 rfl rfl d_SD_rules_18 rfl rfl (Nat.le_of_ble_eq_true rfl) ⟨(Nat.le_of_ble_eq_true rfl), (Nat.le_of_ble_eq_true rfl)⟩ ⟨(Nat.le_of_ble_eq_true rfl), (Nat.le_of_ble_eq_true rfl)⟩ (fun v g' hp => ?_)
    rw [hp.1, hp.2]
    show gh_W l G _ X g _ _ [some (.ref (A 0)), some (.int (nI (bn b)))] 21 [.int (nI us2.length)]
    exact gh_iret hK hE d_SD_rules_21 (Nat.le_of_ble_eq_true rfl) (Nat.le_of_ble_eq_true rfl) ⟨by rw [z]; rfl, rfl⟩
  · refine gh_aload_n hK d_SD_rules_4 rfl ?_
    refine gh_get hK d_SD_rules_5 in_SD rfl h.1.1 4 (by decide) kf_SD_46 rfl rfl ?_
    refine gh_callV (rest := []) [] hK (c_Rs_count l G h.2.1.2.1) Y_Rs_count V_Rs_count km_SD_112 h.2.1.2.1.1 rfl rfl d_SD_rules_8 rfl rfl (Nat.le_of_ble_eq_true rfl) ⟨(Nat.le_of_ble_eq_true rfl), (Nat.le_of_ble_eq_true rfl)⟩ ⟨(Nat.le_of_ble_eq_true rfl), (Nat.le_of_ble_eq_true rfl)⟩ (fun v g' hp => ?_)
    rw [hp.1, hp.2]
    show gh_W l G _ X g _ _ [some (.ref (A 0)), some (.int (nI (bn b)))] 11 [.int (nI us1.length)]
    refine gh_goto (tgt := 21) hK d_SD_rules_11 (by decide) ?_
    exact gh_iret hK hE d_SD_rules_21 (Nat.le_of_ble_eq_true rfl) (Nat.le_of_ble_eq_true rfl) ⟨by rw [z]; rfl, rfl⟩
