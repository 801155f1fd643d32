/-! the line of a rule -/
def rdF (tx : List Nat) (le e : Nat) : Nat := if nxE tx le e - nxS tx le e = 1 then capB (tx.getD (nxS tx le e) 0) else 0
abbrev npW (tx : List Nat) (le e : Nat) : List Nat := ptW tx (nxS tx le e) (nxE tx le e)
def rdR5 (tx : List Nat) (le : Nat) (u : RuR) (e : Nat) : Option RuR × Nat := if nxE tx le e ≤ nxS tx le e then (some u, nxS tx le e) else (none, nxS tx le e)
def rdR4 (tx : List Nat) (le f : Nat) (p q : List Nat) (e : Nat) : Option RuR × Nat := if ptO tx true (nxS tx le e) (nxE tx le e) = true then rdR5 tx le (f, p, q, npW tx le e) (nxE tx le e) else (none, nxS tx le e)
def rdR3 (tx : List Nat) (le f : Nat) (p : List Nat) (e : Nat) : Option RuR × Nat := if ptO tx false (nxS tx le e) (nxE tx le e) = true then rdR4 tx le f p (npW tx le e) (nxE tx le e) else (none, nxS tx le e)
def rdR2 (tx : List Nat) (le f : Nat) (e : Nat) : Option RuR × Nat := if ptO tx false (nxS tx le e) (nxE tx le e) = true then rdR3 tx le f (npW tx le e) (nxE tx le e) else (none, nxS tx le e)
def rdR (tx : List Nat) (le e : Nat) : Option RuR × Nat := if nxS tx le e < nxE tx le e ∧ 0 < rdF tx le e then rdR2 tx le (rdF tx le e) (nxE tx le e) else (none, nxS tx le e)
theorem rdF_lt (tx : List Nat) (le e : Nat) : rdF tx le e < 2 ^ 26 := by
  unfold rdF
  split
  · exact capB_lt _
  · exact Nat.pow_pos (by omega)
theorem slice_len1 {tx : List Nat} {s k : Nat} (h : s + k ≤ tx.length) : ((tx.drop s).take k).length = k := slice_len h
theorem ptO_le {tx : List Nat} {b : Bool} {s e : Nat} (he : e ≤ tx.length) (h : ptO tx b s e = true) : s < e ∧ e - s ≤ 6 ∧ (ptW tx s e).length ≤ 6 := by
  unfold ptO at h
  simp only [Bool.and_eq_true, Bool.or_eq_true, decide_eq_true_eq] at h
  have hl : ((tx.drop s).take (e - s)).length = e - s := slice_len1 (by omega)
  have h6 : e - s ≤ 6 := by
    rcases h.2 with q | q
    · unfold pcI at q
      rw [decide_eq_true_eq] at q
      rw [q] at hl
      have : e - s = 1 := hl.symm
      omega
    · exact q.2
  refine ⟨h.1, h6, ?_⟩
  unfold ptW
  split
  · exact Nat.zero_le _
  · omega
def RdP (G : GG) (A : Nat → Nat) (ls le : Nat) (fr : Bool) (g : GH) (r : Option RuR × Nat) (v : Option Value) (g' : GH) : Prop := (∃ s e wf wl, Ln g' (A 3) (A 1) ls le s e wf wl ∧ (r.1 = none → s = r.2)) ∧ gh_M [3] g g' ∧ (r.1 = none → v = some .null) ∧ ∀ u, r.1 = some u → ∃ a, v = some (.ref a) ∧ Ru G g' a 60 61 62 fr u.1 u.2.1 u.2.2.1 u.2.2.2
set_option maxRecDepth 20000 in
set_option maxHeartbeats 4000000 in
theorem c_SD_readRule (l : Launch) (G : GG) {g : GH} {A : Nat → Nat} {es : List (Nat × List Nat × Nat)} {us1 us2 : List (Nat × RuR)} {tx : List Nat} {ls le s e wf wl : Nat} {fr : Bool} (h : SDr G g A es us1 us2 tx) (hL : Ln g (A 3) (A 1) ls le s e wf wl) (he : e ≤ le) (hle : le ≤ tx.length) : gMet l G y_SD_readRule b_SD_readRule 6 (some (.object "SpellDesk$Rule")) (rmk 6 7 29 129) [.ref (A 0), .int (nI (bn fr))] g (RdP G A ls le fr g (rdR tx le e)) := by
  refine gMet.of [some (.ref (A 0)), some (.int (nI (bn fr))), none, none, none, none] (by decide +kernel) rfl (Nat.le_of_ble_eq_true rfl) rfl (fun X hK hI hE => ?_)
  have htl := h.2.1.2.2.2.len
  generalize hR : rdR tx le e = R at hE
  unfold rdR at hR
  obtain ⟨bs0, bS0⟩ := nxS_le (tx := tx) (le := le) (e := e) he
  obtain ⟨be0, bE0⟩ := nxE_le (tx := tx) (le := le) (e := e) he
  obtain ⟨bs1, bS1⟩ := nxS_le (tx := tx) (le := le) (e := (nxE tx le e)) bE0
  obtain ⟨be1, bE1⟩ := nxE_le (tx := tx) (le := le) (e := (nxE tx le e)) bE0
  obtain ⟨bs2, bS2⟩ := nxS_le (tx := tx) (le := le) (e := (nxE tx le (nxE tx le e))) bE1
  obtain ⟨be2, bE2⟩ := nxE_le (tx := tx) (le := le) (e := (nxE tx le (nxE tx le e))) bE1
  obtain ⟨bs3, bS3⟩ := nxS_le (tx := tx) (le := le) (e := (nxE tx le (nxE tx le (nxE tx le e)))) bE2
  obtain ⟨be3, bE3⟩ := nxE_le (tx := tx) (le := le) (e := (nxE tx le (nxE tx le (nxE tx le e)))) bE2
  obtain ⟨bs4, bS4⟩ := nxS_le (tx := tx) (le := le) (e := (nxE tx le (nxE tx le (nxE tx le (nxE tx le e))))) bE3
  obtain ⟨be4, bE4⟩ := nxE_le (tx := tx) (le := le) (e := (nxE tx le (nxE tx le (nxE tx le (nxE tx le e))))) bE3
  refine gh_aload_n hK d_SD_readRule_0 rfl ?_
  refine gh_get hK d_SD_readRule_1 in_SD rfl h.1.1 1 (by decide) kf_SD_23 rfl rfl ?_
  refine gh_callV (rest := []) [] hK (c_Ln_next l G hL h.2.1.2.2.2 he hle) Y_Ln_next V_Ln_next km_SD_120 hL rfl rfl d_SD_readRule_4 rfl rfl (Nat.le_of_ble_eq_true rfl) ⟨(Nat.le_of_ble_eq_true rfl), (Nat.le_of_ble_eq_true rfl)⟩ ⟨(Nat.le_of_ble_eq_true rfl), (Nat.le_of_ble_eq_true rfl)⟩ (fun v g1 hp => ?_)
  obtain ⟨rfl, hl1, hn1⟩ := hp
  show gh_W l G _ X g1 _ _ [some (.ref (A 0)), some (.int (nI (bn fr))), none, none, none, none] 7 [.int (nI (bn (decide ((nxS tx le e) < (nxE tx le e)))))]
  have m1 := hL.toM hn1
  have h1 := h.M m1 (by decide)
  refine gh_if_eqB hK d_SD_readRule_7 (tgt := 20) (by decide) (fun z => ?_) (fun z => ?_)
  · rw [if_neg (fun q => of_decide_eq_false z q.1)] at hR
    refine gh_null hK d_SD_readRule_20 ?_
    subst hR
    exact gh_aret (Or.inl ⟨_, rfl⟩) (Or.inl rfl) hK hE d_SD_readRule_21 (Nat.le_of_ble_eq_true rfl) (Nat.le_of_ble_eq_true rfl) ⟨⟨_, _, _, _, hl1, fun _ => rfl⟩, m1, fun _ => rfl, fun u hu => (by cases hu)⟩
  · have zz := of_decide_eq_true z
    refine gh_aload_n hK d_SD_readRule_10 rfl ?_
    refine gh_get hK d_SD_readRule_11 in_SD rfl h1.1.1 1 (by decide) kf_SD_23 rfl rfl ?_
    refine gh_callV (rest := []) [] hK (c_Ln_flag l G hl1 h1.2.1.2.2.2 be0 (by omega)) Y_Ln_flag V_Ln_flag km_SD_253 hl1 rfl rfl d_SD_readRule_14 rfl rfl (Nat.le_of_ble_eq_true rfl) ⟨(Nat.le_of_ble_eq_true rfl), (Nat.le_of_ble_eq_true rfl)⟩ ⟨(Nat.le_of_ble_eq_true rfl), (Nat.le_of_ble_eq_true rfl)⟩ (fun v g' hp => ?_)
    rw [hp.1, hp.2]
    show gh_W l G _ X g1 _ _ [some (.ref (A 0)), some (.int (nI (bn fr))), none, none, none, none] 17 [.int (nI (rdF tx le e))]
    have hf26 := rdF_lt tx le e
    refine gh_if_neN hK d_SD_readRule_17 (tgt := 22) (by decide) (by omega) (fun z1 => ?_) (fun z1 => ?_)
    · rw [if_pos ⟨zz, z1⟩] at hR
      refine gh_aload_n hK d_SD_readRule_22 rfl ?_
      refine gh_get hK d_SD_readRule_23 in_SD rfl h1.1.1 1 (by decide) kf_SD_23 rfl rfl ?_
      refine gh_callV (rest := []) [] hK (c_Ln_flag l G hl1 h1.2.1.2.2.2 be0 (by omega)) Y_Ln_flag V_Ln_flag km_SD_253 hl1 rfl rfl d_SD_readRule_26 rfl rfl (Nat.le_of_ble_eq_true rfl) ⟨(Nat.le_of_ble_eq_true rfl), (Nat.le_of_ble_eq_true rfl)⟩ ⟨(Nat.le_of_ble_eq_true rfl), (Nat.le_of_ble_eq_true rfl)⟩ (fun v g' hp => ?_)
      rw [hp.1, hp.2]
      show gh_W l G _ X g1 _ _ [some (.ref (A 0)), some (.int (nI (bn fr))), none, none, none, none] 29 [.int (nI (rdF tx le e))]
      refine gh_istore_n (lv' := [some (.ref (A 0)), some (.int (nI (bn fr))), some (.int (nI (rdF tx le e))), none, none, none]) hK d_SD_readRule_29 (Nat.le_of_ble_eq_true rfl) rfl ?_
      refine gh_aload_n hK d_SD_readRule_30 rfl ?_
      refine gh_get hK d_SD_readRule_31 in_SD rfl h1.1.1 1 (by decide) kf_SD_23 rfl rfl ?_
      refine gh_iconst (v := nI 0) hK d_SD_readRule_34 (by decide) ?_
      unfold rdR2 at hR
      refine gh_callV (rest := []) [.int (nI 0)] hK (c_Ln_nextIsPart l G hl1 h1.2.1.2.2.2 (b := false) bE0 hle) Y_Ln_nextIsPart V_Ln_nextIsPart km_SD_256 hl1 rfl rfl d_SD_readRule_35 rfl rfl (Nat.le_of_ble_eq_true rfl) ⟨(Nat.le_of_ble_eq_true rfl), (Nat.le_of_ble_eq_true rfl)⟩ ⟨(Nat.le_of_ble_eq_true rfl), (by show 0 + 0 ≤ 29; omega)⟩ (fun v ga1 hp => ?_)
      obtain ⟨rfl, hl2, hn2⟩ := hp
      show gh_W l G _ X ga1 0 0 [some (.ref (A 0)), some (.int (nI (bn fr))), some (.int (nI (rdF tx le e))), none, none, none] 38 [.int (nI (bn (ptO tx false (nxS tx le (nxE tx le e)) (nxE tx le (nxE tx le e)))))]
      have mx1 := hl1.toM hn2
      have hx1 := h1.M mx1 (by decide)
      have my1 := m1.tr mx1
      refine gh_if_neB hK d_SD_readRule_38 (tgt := 43) (by decide) (fun z1p => ?_) (fun z1p => ?_)
      · rw [if_pos z1p] at hR
        obtain ⟨pa1, pb1, pc1⟩ := ptO_le (by omega) z1p
        refine gh_aload_n hK d_SD_readRule_43 rfl ?_
        refine gh_get hK d_SD_readRule_44 in_SD rfl hx1.1.1 1 (by decide) kf_SD_23 rfl rfl ?_
        refine gh_callV (rest := []) [] hK (c_Ln_part l G 61 62 hl2 hx1.2.1.2.2.2 be1 (by omega)) Y_Ln_part V_Ln_part km_SD_260 hl2 rfl rfl d_SD_readRule_47 rfl rfl (Nat.le_of_ble_eq_true rfl) ⟨(Nat.le_of_ble_eq_true rfl), (Nat.le_of_ble_eq_true rfl)⟩ ⟨(Nat.le_of_ble_eq_true rfl), (by show 0 + (2 + ((nxE tx le (nxE tx le e)) - (nxS tx le (nxE tx le e)))) ≤ 29; omega)⟩ (fun v gb1 hp => ?_)
        obtain ⟨p1, p1b, rfl, -, -, lt1, hv1⟩ := hp
        show gh_W l G _ X gb1 2 (0 + (2 + ((nxE tx le (nxE tx le e)) - (nxS tx le (nxE tx le e))))) [some (.ref (A 0)), some (.int (nI (bn fr))), some (.int (nI (rdF tx le e))), none, none, none] 50 [.ref p1]
        have mv1 : gh_M [3] ga1 gb1 := hv1.M fun a ha => (by cases ha)
        have hw1 := hx1.M mv1 (by decide)
        have hk1 : Ln gb1 (A 3) (A 1) ls le (nxS tx le (nxE tx le e)) (nxE tx le (nxE tx le e)) wf wl := (hv1.M (T := []) fun a ha => (by cases ha)) _ _ _ hl2 (by decide)
        have mw1 := my1.tr mv1
        refine gh_astore_n (lv' := [some (.ref (A 0)), some (.int (nI (bn fr))), some (.int (nI (rdF tx le e))), some (.ref p1), none, none]) hK d_SD_readRule_50 (Nat.le_of_ble_eq_true rfl) rfl ?_
        refine gh_aload_n hK d_SD_readRule_51 rfl ?_
        refine gh_get hK d_SD_readRule_52 in_SD rfl hw1.1.1 1 (by decide) kf_SD_23 rfl rfl ?_
        refine gh_iconst (v := nI 0) hK d_SD_readRule_55 (by decide) ?_
        unfold rdR3 at hR
        refine gh_callV (rest := []) [.int (nI 0)] hK (c_Ln_nextIsPart l G hk1 hw1.2.1.2.2.2 (b := false) bE1 hle) Y_Ln_nextIsPart V_Ln_nextIsPart km_SD_256 hk1 rfl rfl d_SD_readRule_56 rfl rfl (Nat.le_of_ble_eq_true rfl) ⟨(Nat.le_of_ble_eq_true rfl), (Nat.le_of_ble_eq_true rfl)⟩ ⟨(Nat.le_of_ble_eq_true rfl), (by show (0 + (2 + ((nxE tx le (nxE tx le e)) - (nxS tx le (nxE tx le e))))) + 0 ≤ 29; omega)⟩ (fun v ga2 hp => ?_)
        obtain ⟨rfl, hl3, hn3⟩ := hp
        show gh_W l G _ X ga2 2 (0 + (2 + ((nxE tx le (nxE tx le e)) - (nxS tx le (nxE tx le e))))) [some (.ref (A 0)), some (.int (nI (bn fr))), some (.int (nI (rdF tx le e))), some (.ref p1), none, none] 59 [.int (nI (bn (ptO tx false (nxS tx le (nxE tx le (nxE tx le e))) (nxE tx le (nxE tx le (nxE tx le e))))))]
        have mx2 := hk1.toM hn3
        have hx2 := hw1.M mx2 (by decide)
        have my2 := mw1.tr mx2
        refine gh_if_neB hK d_SD_readRule_59 (tgt := 64) (by decide) (fun z2p => ?_) (fun z2p => ?_)
        · rw [if_pos z2p] at hR
          obtain ⟨pa2, pb2, pc2⟩ := ptO_le (by omega) z2p
          refine gh_aload_n hK d_SD_readRule_64 rfl ?_
          refine gh_get hK d_SD_readRule_65 in_SD rfl hx2.1.1 1 (by decide) kf_SD_23 rfl rfl ?_
          refine gh_callV (rest := []) [] hK (c_Ln_part l G 61 62 hl3 hx2.2.1.2.2.2 be2 (by omega)) Y_Ln_part V_Ln_part km_SD_260 hl3 rfl rfl d_SD_readRule_68 rfl rfl (Nat.le_of_ble_eq_true rfl) ⟨(Nat.le_of_ble_eq_true rfl), (Nat.le_of_ble_eq_true rfl)⟩ ⟨(Nat.le_of_ble_eq_true rfl), (by show (0 + (2 + ((nxE tx le (nxE tx le e)) - (nxS tx le (nxE tx le e))))) + (2 + ((nxE tx le (nxE tx le (nxE tx le e))) - (nxS tx le (nxE tx le (nxE tx le e))))) ≤ 29; omega)⟩ (fun v gb2 hp => ?_)
          obtain ⟨p2, p2b, rfl, -, -, lt2, hv2⟩ := hp
          show gh_W l G _ X gb2 4 ((0 + (2 + ((nxE tx le (nxE tx le e)) - (nxS tx le (nxE tx le e))))) + (2 + ((nxE tx le (nxE tx le (nxE tx le e))) - (nxS tx le (nxE tx le (nxE tx le e)))))) [some (.ref (A 0)), some (.int (nI (bn fr))), some (.int (nI (rdF tx le e))), some (.ref p1), none, none] 71 [.ref p2]
          have mv2 : gh_M [3] ga2 gb2 := hv2.M fun a ha => (by cases ha)
          have hw2 := hx2.M mv2 (by decide)
          have hk2 : Ln gb2 (A 3) (A 1) ls le (nxS tx le (nxE tx le (nxE tx le e))) (nxE tx le (nxE tx le (nxE tx le e))) wf wl := (hv2.M (T := []) fun a ha => (by cases ha)) _ _ _ hl3 (by decide)
          have mw2 := my2.tr mv2
          have lt1 := (lt1.M mx2 (by decide) (by decide)).M mv2 (by decide) (by decide)
          refine gh_astore (lv' := [some (.ref (A 0)), some (.int (nI (bn fr))), some (.int (nI (rdF tx le e))), some (.ref p1), some (.ref p2), none]) hK d_SD_readRule_71 (Nat.le_of_ble_eq_true rfl) rfl ?_
          refine gh_aload_n hK d_SD_readRule_73 rfl ?_
          refine gh_get hK d_SD_readRule_74 in_SD rfl hw2.1.1 1 (by decide) kf_SD_23 rfl rfl ?_
          refine gh_iconst (v := nI 1) hK d_SD_readRule_77 (by decide) ?_
          unfold rdR4 at hR
          refine gh_callV (rest := []) [.int (nI 1)] hK (c_Ln_nextIsPart l G hk2 hw2.2.1.2.2.2 (b := true) bE2 hle) Y_Ln_nextIsPart V_Ln_nextIsPart km_SD_256 hk2 rfl rfl d_SD_readRule_78 rfl rfl (Nat.le_of_ble_eq_true rfl) ⟨(Nat.le_of_ble_eq_true rfl), (Nat.le_of_ble_eq_true rfl)⟩ ⟨(Nat.le_of_ble_eq_true rfl), (by show ((0 + (2 + ((nxE tx le (nxE tx le e)) - (nxS tx le (nxE tx le e))))) + (2 + ((nxE tx le (nxE tx le (nxE tx le e))) - (nxS tx le (nxE tx le (nxE tx le e)))))) + 0 ≤ 29; omega)⟩ (fun v ga3 hp => ?_)
          obtain ⟨rfl, hl4, hn4⟩ := hp
          show gh_W l G _ X ga3 4 ((0 + (2 + ((nxE tx le (nxE tx le e)) - (nxS tx le (nxE tx le e))))) + (2 + ((nxE tx le (nxE tx le (nxE tx le e))) - (nxS tx le (nxE tx le (nxE tx le e)))))) [some (.ref (A 0)), some (.int (nI (bn fr))), some (.int (nI (rdF tx le e))), some (.ref p1), some (.ref p2), none] 81 [.int (nI (bn (ptO tx true (nxS tx le (nxE tx le (nxE tx le (nxE tx le e)))) (nxE tx le (nxE tx le (nxE tx le (nxE tx le e)))))))]
          have mx3 := hk2.toM hn4
          have hx3 := hw2.M mx3 (by decide)
          have my3 := mw2.tr mx3
          refine gh_if_neB hK d_SD_readRule_81 (tgt := 86) (by decide) (fun z3p => ?_) (fun z3p => ?_)
          · rw [if_pos z3p] at hR
            obtain ⟨pa3, pb3, pc3⟩ := ptO_le (by omega) z3p
            refine gh_aload_n hK d_SD_readRule_86 rfl ?_
            refine gh_get hK d_SD_readRule_87 in_SD rfl hx3.1.1 1 (by decide) kf_SD_23 rfl rfl ?_
            refine gh_callV (rest := []) [] hK (c_Ln_part l G 61 62 hl4 hx3.2.1.2.2.2 be3 (by omega)) Y_Ln_part V_Ln_part km_SD_260 hl4 rfl rfl d_SD_readRule_90 rfl rfl (Nat.le_of_ble_eq_true rfl) ⟨(Nat.le_of_ble_eq_true rfl), (Nat.le_of_ble_eq_true rfl)⟩ ⟨(Nat.le_of_ble_eq_true rfl), (by show ((0 + (2 + ((nxE tx le (nxE tx le e)) - (nxS tx le (nxE tx le e))))) + (2 + ((nxE tx le (nxE tx le (nxE tx le e))) - (nxS tx le (nxE tx le (nxE tx le e)))))) + (2 + ((nxE tx le (nxE tx le (nxE tx le (nxE tx le e)))) - (nxS tx le (nxE tx le (nxE tx le (nxE tx le e)))))) ≤ 29; omega)⟩ (fun v gb3 hp => ?_)
            obtain ⟨p3, p3b, rfl, -, -, lt3, hv3⟩ := hp
            show gh_W l G _ X gb3 6 (((0 + (2 + ((nxE tx le (nxE tx le e)) - (nxS tx le (nxE tx le e))))) + (2 + ((nxE tx le (nxE tx le (nxE tx le e))) - (nxS tx le (nxE tx le (nxE tx le e)))))) + (2 + ((nxE tx le (nxE tx le (nxE tx le (nxE tx le e)))) - (nxS tx le (nxE tx le (nxE tx le (nxE tx le e))))))) [some (.ref (A 0)), some (.int (nI (bn fr))), some (.int (nI (rdF tx le e))), some (.ref p1), some (.ref p2), none] 93 [.ref p3]
            have mv3 : gh_M [3] ga3 gb3 := hv3.M fun a ha => (by cases ha)
            have hw3 := hx3.M mv3 (by decide)
            have hk3 : Ln gb3 (A 3) (A 1) ls le (nxS tx le (nxE tx le (nxE tx le (nxE tx le e)))) (nxE tx le (nxE tx le (nxE tx le (nxE tx le e)))) wf wl := (hv3.M (T := []) fun a ha => (by cases ha)) _ _ _ hl4 (by decide)
            have mw3 := my3.tr mv3
            have lt1 := (lt1.M mx3 (by decide) (by decide)).M mv3 (by decide) (by decide)
            have lt2 := (lt2.M mx3 (by decide) (by decide)).M mv3 (by decide) (by decide)
            refine gh_astore (lv' := [some (.ref (A 0)), some (.int (nI (bn fr))), some (.int (nI (rdF tx le e))), some (.ref p1), some (.ref p2), some (.ref p3)]) hK d_SD_readRule_93 (Nat.le_of_ble_eq_true rfl) rfl ?_
            refine gh_aload_n hK d_SD_readRule_95 rfl ?_
            refine gh_get hK d_SD_readRule_96 in_SD rfl hw3.1.1 1 (by decide) kf_SD_23 rfl rfl ?_
            unfold rdR5 at hR
            refine gh_callV (rest := []) [] hK (c_Ln_ends l G hk3 hw3.2.1.2.2.2 bE3 hle) Y_Ln_ends V_Ln_ends km_SD_197 hk3 rfl rfl d_SD_readRule_99 rfl rfl (Nat.le_of_ble_eq_true rfl) ⟨(Nat.le_of_ble_eq_true rfl), (Nat.le_of_ble_eq_true rfl)⟩ ⟨(Nat.le_of_ble_eq_true rfl), (by show (((0 + (2 + ((nxE tx le (nxE tx le e)) - (nxS tx le (nxE tx le e))))) + (2 + ((nxE tx le (nxE tx le (nxE tx le e))) - (nxS tx le (nxE tx le (nxE tx le e)))))) + (2 + ((nxE tx le (nxE tx le (nxE tx le (nxE tx le e)))) - (nxS tx le (nxE tx le (nxE tx le (nxE tx le e))))))) + 0 ≤ 29; omega)⟩ (fun v gc hp => ?_)
            obtain ⟨rfl, hl5, hn5⟩ := hp
            show gh_W l G _ X gc 6 (((0 + (2 + ((nxE tx le (nxE tx le e)) - (nxS tx le (nxE tx le e))))) + (2 + ((nxE tx le (nxE tx le (nxE tx le e))) - (nxS tx le (nxE tx le (nxE tx le e)))))) + (2 + ((nxE tx le (nxE tx le (nxE tx le (nxE tx le e)))) - (nxS tx le (nxE tx le (nxE tx le (nxE tx le e))))))) [some (.ref (A 0)), some (.int (nI (bn fr))), some (.int (nI (rdF tx le e))), some (.ref p1), some (.ref p2), some (.ref p3)] 102 [.int (nI (bn (decide ((nxE tx le (nxE tx le (nxE tx le (nxE tx le (nxE tx le e))))) ≤ (nxS tx le (nxE tx le (nxE tx le (nxE tx le (nxE tx le e)))))))))]
            have mx5 := hk3.toM hn5
            have my5 := mw3.tr mx5
            have lt1 := lt1.M mx5 (by decide) (by decide)
            have lt2 := lt2.M mx5 (by decide) (by decide)
            have lt3 := lt3.M mx5 (by decide) (by decide)
            refine gh_if_neB hK d_SD_readRule_102 (tgt := 107) (by decide) (fun z5 => ?_) (fun z5 => ?_)
            · rw [if_pos (of_decide_eq_true z5)] at hR
              subst hR
              refine gh_new (ci := 6) (fs := [.int 0, .int 0, .null, .null, .null]) 60 hK d_SD_readRule_107 in_Ru t_Ru ty_Ru rfl kc_SD_264 wi_Ru wn_Ru df_Ru (Nat.le_of_ble_eq_true rfl) (by show (((0 + (2 + ((nxE tx le (nxE tx le e)) - (nxS tx le (nxE tx le e))))) + (2 + ((nxE tx le (nxE tx le (nxE tx le e))) - (nxS tx le (nxE tx le (nxE tx le e)))))) + (2 + ((nxE tx le (nxE tx le (nxE tx le (nxE tx le e)))) - (nxS tx le (nxE tx le (nxE tx le (nxE tx le e))))))) + 5 ≤ 29; omega) (fun ra hra => ?_)
              refine gh_dup hK d_SD_readRule_110 rfl ?_
              refine gh_iload_n hK d_SD_readRule_111 rfl ?_
              refine gh_iload_n hK d_SD_readRule_112 rfl ?_
              refine gh_aload_n hK d_SD_readRule_113 rfl ?_
              refine gh_aload hK d_SD_readRule_114 rfl ?_
              refine gh_aload hK d_SD_readRule_116 rfl ?_
              refine gh_callI (rest := [.ref ra]) [.int (nI (bn fr)), .int (nI (rdF tx le e)), .ref p1, .ref p2, .ref p3] hK (c_Ru_init l G (fr := fr) (fl := rdF tx le e) (sa := p1) (aa := p2) (ca := p3) gh_us) Y_Ru_init rfl V_Ru_init km_SD_266 rfl d_SD_readRule_118 rfl rfl (Nat.le_of_ble_eq_true rfl) ⟨(Nat.le_of_ble_eq_true rfl), (Nat.le_of_ble_eq_true rfl)⟩ ⟨(Nat.le_of_ble_eq_true rfl), (by show (((0 + (2 + ((nxE tx le (nxE tx le e)) - (nxS tx le (nxE tx le e))))) + (2 + ((nxE tx le (nxE tx le (nxE tx le e))) - (nxS tx le (nxE tx le (nxE tx le e)))))) + (2 + ((nxE tx le (nxE tx le (nxE tx le (nxE tx le e)))) - (nxS tx le (nxE tx le (nxE tx le (nxE tx le e))))))) + 5 + 0 ≤ 29; omega)⟩ (fun v gd hp => ?_)
              obtain ⟨rfl, e5, hN5⟩ := hp
              show gh_W l G _ X gd 7 ((((0 + (2 + ((nxE tx le (nxE tx le e)) - (nxS tx le (nxE tx le e))))) + (2 + ((nxE tx le (nxE tx le (nxE tx le e))) - (nxS tx le (nxE tx le (nxE tx le e)))))) + (2 + ((nxE tx le (nxE tx le (nxE tx le (nxE tx le e)))) - (nxS tx le (nxE tx le (nxE tx le (nxE tx le e))))))) + 5) [some (.ref (A 0)), some (.int (nI (bn fr))), some (.int (nI (rdF tx le e))), some (.ref p1), some (.ref p2), some (.ref p3)] 121 [.ref ra]
              have hN6 : gh_N [] gc gd := gh_N.fresh (gh_N.nw hra) hN5 (fun q hq => by rw [List.mem_singleton.mp hq]; exact Or.inr hra)
              have m6 : gh_M [3] gc gd := hN6.M fun a ha => (by cases ha)
              have hl6 : Ln gd (A 3) (A 1) ls le _ _ wf wl := (hN6.M (T := []) fun a ha => (by cases ha)) _ _ _ hl5 (by decide)
              have lt1 := lt1.M m6 (by decide) (by decide)
              have lt2 := lt2.M m6 (by decide) (by decide)
              have lt3 := lt3.M m6 (by decide) (by decide)
              exact gh_aret (Or.inl ⟨_, rfl⟩) (Or.inr ⟨_, rfl⟩) hK hE d_SD_readRule_121 (Nat.le_of_ble_eq_true rfl) (by show (((0 + (2 + ((nxE tx le (nxE tx le e)) - (nxS tx le (nxE tx le e))))) + (2 + ((nxE tx le (nxE tx le (nxE tx le e))) - (nxS tx le (nxE tx le (nxE tx le e)))))) + (2 + ((nxE tx le (nxE tx le (nxE tx le (nxE tx le e)))) - (nxS tx le (nxE tx le (nxE tx le (nxE tx le e))))))) + 5 ≤ 29; omega) ⟨⟨_, _, _, _, hl6, fun q => (by cases q)⟩, my5.tr m6, fun q => (by cases q), fun u hu => (by cases hu; exact ⟨ra, rfl, p1, p1b, p2, p2b, p3, p3b, e5, lt1, lt2, lt3⟩)⟩
            · rw [if_neg (of_decide_eq_false z5)] at hR
              refine gh_null hK d_SD_readRule_105 ?_
              subst hR
              exact gh_aret (Or.inl ⟨_, rfl⟩) (Or.inl rfl) hK hE d_SD_readRule_106 (Nat.le_of_ble_eq_true rfl) (by show (((0 + (2 + ((nxE tx le (nxE tx le e)) - (nxS tx le (nxE tx le e))))) + (2 + ((nxE tx le (nxE tx le (nxE tx le e))) - (nxS tx le (nxE tx le (nxE tx le e)))))) + (2 + ((nxE tx le (nxE tx le (nxE tx le (nxE tx le e)))) - (nxS tx le (nxE tx le (nxE tx le (nxE tx le e))))))) ≤ 29; omega) ⟨⟨_, _, _, _, hl5, fun _ => rfl⟩, my5, fun _ => rfl, fun u hu => (by cases hu)⟩
          · rw [if_neg (by rw [z3p]; decide)] at hR
            refine gh_null hK d_SD_readRule_84 ?_
            subst hR
            exact gh_aret (Or.inl ⟨_, rfl⟩) (Or.inl rfl) hK hE d_SD_readRule_85 (Nat.le_of_ble_eq_true rfl) (by show ((0 + (2 + ((nxE tx le (nxE tx le e)) - (nxS tx le (nxE tx le e))))) + (2 + ((nxE tx le (nxE tx le (nxE tx le e))) - (nxS tx le (nxE tx le (nxE tx le e)))))) ≤ 29; omega) ⟨⟨_, _, _, _, hl4, fun _ => rfl⟩, my3, fun _ => rfl, fun u hu => (by cases hu)⟩
        · rw [if_neg (by rw [z2p]; decide)] at hR
          refine gh_null hK d_SD_readRule_62 ?_
          subst hR
          exact gh_aret (Or.inl ⟨_, rfl⟩) (Or.inl rfl) hK hE d_SD_readRule_63 (Nat.le_of_ble_eq_true rfl) (by show (0 + (2 + ((nxE tx le (nxE tx le e)) - (nxS tx le (nxE tx le e))))) ≤ 29; omega) ⟨⟨_, _, _, _, hl3, fun _ => rfl⟩, my2, fun _ => rfl, fun u hu => (by cases hu)⟩
      · rw [if_neg (by rw [z1p]; decide)] at hR
        refine gh_null hK d_SD_readRule_41 ?_
        subst hR
        exact gh_aret (Or.inl ⟨_, rfl⟩) (Or.inl rfl) hK hE d_SD_readRule_42 (Nat.le_of_ble_eq_true rfl) (Nat.le_of_ble_eq_true rfl) ⟨⟨_, _, _, _, hl2, fun _ => rfl⟩, my1, fun _ => rfl, fun u hu => (by cases hu)⟩
    · rw [if_neg (fun q => by omega)] at hR
      refine gh_null hK d_SD_readRule_20 ?_
      subst hR
      exact gh_aret (Or.inl ⟨_, rfl⟩) (Or.inl rfl) hK hE d_SD_readRule_21 (Nat.le_of_ble_eq_true rfl) (Nat.le_of_ble_eq_true rfl) ⟨⟨_, _, _, _, hl1, fun _ => rfl⟩, m1, fun _ => rfl, fun u hu => (by cases hu)⟩
