/-- the words of a check behind e: the fault's place, or none, and the words -/
def ckG (tx : List Nat) (le : Nat) : Nat → Nat → List (List Nat) → Option Nat × List (List Nat)
  | 0, _, ws => (none, ws)
  | k + 1, e, ws => if nxE tx le e ≤ nxS tx le e then (none, ws) else if wdO tx 28 (nxS tx le e) (nxE tx le e) = true then ckG tx le k (nxE tx le e) (addW (nxW tx le e) ws) else (some (nxS tx le e), ws)
def ckA (tx : List Nat) (le e : Nat) : Option Nat × List (List Nat) := if nxS tx le e < nxE tx le e ∧ wdO tx 28 (nxS tx le e) (nxE tx le e) = true then ckG tx le 2048 (nxE tx le e) (addW (nxW tx le e) []) else (some (nxS tx le e), [])
def ckN (es : List (Nat × List Nat × Nat)) (us1 us2 : List (Nat × RuR)) (w : List Nat) : Bool := decide ((wyA es us1 us2 1 w).length = 0)
theorem nxE_sp {tx : List Nat} {le e : Nat} (he : e ≤ le) (h : nxE tx le e < le) : isSpc tx (nxE tx le e) = true := by
  have k := sc_stop (p := fun i => !isSpc tx i) h (nxS_le he).2
  unfold nxE
  simpa using k
theorem nx_adv {tx : List Nat} {le e : Nat} (h : e < le) (hs : isSpc tx e = true) : e + 1 ≤ nxS tx le e := by
  unfold nxS
  rw [sc_yes h hs]
  exact sc_ge _ _ _
theorem wd_true {tx : List Nat} {k s e : Nat} (h : wdO tx k s e = true) : ldL tx e s - s = e - s ∧ 1 ≤ e - s ∧ e - s ≤ k := by
  unfold wdO at h
  simp only [decide_eq_true_eq] at h
  omega
theorem SDr.wl {G : GG} {g g' : GH} {A : Nat → Nat} {es : List (Nat × List Nat × Nat)} {us1 us2 : List (Nat × RuR)} {tx : List Nat} {S : List Nat} {ps : List (Nat × Nat)} (h : SDr G g A es us1 us2 tx) (hM : gh_M S g g') (hS : ∀ t, t ∈ S → t ∈ [3, 4, 5, 6, 40, 41, 42]) (hw : Wl G g' (A 40) 40 (A 41) 41 (A 42) 42 (A 1) 1024 ps) : SDr G g' A es us1 us2 tx := by
  obtain ⟨⟨k1, ⟨ws, k2⟩, ⟨fx, fp, k3⟩, -⟩, h2, h3⟩ := h
  exact ⟨⟨hM _ 0 _ k1 (fun q => by have := hS _ q; simp at this), ⟨ws, k2.M hM (fun t ht q => by have := hS t q; simp at ht this; omega)⟩, ⟨fx, fp, k3.M hM (fun t ht q => by have := hS t q; simp at ht this; omega)⟩, ⟨ps, hw⟩⟩, h2.M hM (fun t ht q => by have := hS t q; simp at ht this; omega), h3⟩
/-- the asked words, as stretches of the text -/
def AsI (G : GG) (g : GH) (A : Nat → Nat) (tx : List Nat) (ps : List (Nat × Nat)) : Prop := Wl G g (A 40) 40 (A 41) 41 (A 42) 42 (A 1) 1024 ps ∧ (∀ p, p ∈ ps → p.1 + p.2 ≤ tx.length) ∧ srtL (wls tx ps)
theorem AsI.M {G : GG} {g g' : GH} {A : Nat → Nat} {tx : List Nat} {ps : List (Nat × Nat)} {S : List Nat} (h : AsI G g A tx ps) (hM : gh_M S g g') (h1 : ∀ t, t ∈ [40, 41, 42] → t ∉ S) : AsI G g' A tx ps := ⟨h.1.M hM (h1 _ (by decide)) (h1 _ (by decide)) (h1 _ (by decide)), h.2⟩
theorem AsI.toM {G : GG} {g g' : GH} {A : Nat → Nat} {tx : List Nat} {ps : List (Nat × Nat)} (h : AsI G g A tx ps) (hN : gh_N [A 40, A 41, A 42] g g') : gh_M [40, 41, 42] g g' := hN.M fun a ha => by
  obtain ⟨⟨f1, f2, k1, k2, k3, -⟩, -⟩ := h
  simp at ha
  rcases ha with rfl | rfl | rfl
  · exact ⟨_, _, k1, by decide⟩
  · exact ⟨_, _, k2, by decide⟩
  · exact ⟨_, _, k3, by decide⟩
theorem AsI.put {G : GG} {g : GH} {A : Nat → Nat} {tx : List Nat} {ps : List (Nat × Nat)} {fr len : Nat} (hv : ∀ p, p ∈ ps → p.1 + p.2 ≤ tx.length) (hs : srtL (wls tx ps)) (hf : fr + len ≤ tx.length) (hw : Wl G g (A 40) 40 (A 41) 41 (A 42) 42 (A 1) 1024 (if (tx.drop fr).take len ∈ wls tx ps then ps else insA ps (rnkL ((tx.drop fr).take len) (wls tx ps)) (fr, len))) : ∃ ps2, AsI G g A tx ps2 ∧ wls tx ps2 = addW ((tx.drop fr).take len) (wls tx ps) ∧ ps2.length ≤ ps.length + 1 := by
  have ew : wls tx (if (tx.drop fr).take len ∈ wls tx ps then ps else insA ps (rnkL ((tx.drop fr).take len) (wls tx ps)) (fr, len)) = addW ((tx.drop fr).take len) (wls tx ps) := by
    unfold addW
    split
    · rfl
    · unfold wls
      rw [insA_map]
      rfl
  refine ⟨_, ⟨hw, ?_, ?_⟩, ew, ?_⟩
  · intro p hp
    split at hp
    · exact hv p hp
    · rcases insA_mem hp with q | q
      · exact hv p q
      · rw [q]; exact hf
  · rw [ew]
    exact addW_srt hs
  · split
    · omega
    · rw [insA_len (by have := rnkL_le ((tx.drop fr).take len) (wls tx ps); rw [show (wls tx ps).length = ps.length from List.length_map ..] at this; exact this)]
      exact Nat.le_refl _
set_option maxRecDepth 20000 in
set_option maxHeartbeats 4000000 in
theorem c_SD_doCheck (l : Launch) (G : GG) {g : GH} {A : Nat → Nat} {es : List (Nat × List Nat × Nat)} {us1 us2 : List (Nat × RuR)} {tx : List Nat} {o : List Nat × Nat} {ls le s e wf wl : Nat} (h : SDr G g A es us1 us2 tx) (hP : Pr G g (A 4) (A 5) (A 6) o 0) (hL : Ln g (A 3) (A 1) ls le s e wf wl) (he : e ≤ le) (hle : le ≤ tx.length) (h5 : 5 ≤ e) : gMet l G y_SD_doCheck b_SD_doCheck 2 (some .boolean) (rmk 6 0 0 140) [.ref (A 0)] g (DoP G A tx ls le g (ckA tx le e).1.isNone ((ckA tx le e).1.getD 0) es us1 us2 (if (ckA tx le e).1.isNone = true then prs o (jnI ((ckA tx le e).2.filter (ckN es us1 us2))) else o)) := by
  refine gMet.of [some (.ref (A 0)), none] (by decide +kernel) rfl (Nat.le_of_ble_eq_true rfl) rfl (fun X hK hI hE => ?_)
  have htl := h.2.1.2.2.2.len
  generalize hR : ckA tx le e = R at hE
  have ph2 : ∀ (g2 : GH) (ps : List (Nat × Nat)) (s1 e1 wf1 wl1 : Nat) (o1 : Option Value), SDr G g2 A es us1 us2 tx → Pr G g2 (A 4) (A 5) (A 6) o 0 → AsI G g2 A tx ps → Ln g2 (A 3) (A 1) ls le s1 e1 wf1 wl1 → gh_M SDT g g2 → R = (none, wls tx ps) → gh_W l G (rmk 6 0 0 140) X g2 0 0 [some (.ref (A 0)), o1] 102 [] := by
    intro g2 ps s1 e1 wf1 wl1 o1 h2 hP2 hA2 hL2 m2 hR2
    rw [hR2] at hE
    have hpl : ps.length ≤ 1024 := by
      obtain ⟨f1, f2, -, -, -, q, -⟩ := hA2.1
      exact q
    have loop : ∀ (m i it : Nat) (g3 : GH) (o2 : List Nat × Nat), i + m = ps.length → it ≤ i → SDr G g3 A es us1 us2 tx → Pr G g3 (A 4) (A 5) (A 6) o2 it → gh_M [4, 5, 6, 30, 31, 32, 33] g2 g3 → (if it + ((wls tx (ps.drop i)).filter (ckN es us1 us2)).length = 0 then prt (itL o2 it ((wls tx (ps.drop i)).filter (ckN es us1 us2))) 45 else itL o2 it ((wls tx (ps.drop i)).filter (ckN es us1 us2))) = prs o (jnI ((wls tx ps).filter (ckN es us1 us2))) → gh_W l G (rmk 6 0 0 140) X g3 0 0 [some (.ref (A 0)), some (.int (nI i))] 104 [] := by
      intro m
      induction m with
      | zero =>
        intro i it g3 o2 hi hit h3 hP3 m3 hF
        have a3 := hA2.M m3 (by decide)
        have hdr : ps.drop i = [] := List.drop_eq_nil_of_le (by omega)
        rw [hdr] at hF
        refine gh_iload_n hK d_SD_doCheck_104 rfl ?_
        refine gh_aload_n hK d_SD_doCheck_105 rfl ?_
        refine gh_get hK d_SD_doCheck_106 in_SD rfl h3.1.1 7 (by decide) kf_SD_67 rfl rfl ?_
        refine gh_callV (rest := [.int (nI i)]) [] hK (c_Wl_count l G a3.1) Y_Wl_count V_Wl_count km_SD_279 a3.1.ob rfl rfl d_SD_doCheck_109 rfl rfl (Nat.le_of_ble_eq_true rfl) ⟨(Nat.le_of_ble_eq_true rfl), (Nat.le_of_ble_eq_true rfl)⟩ ⟨(Nat.le_of_ble_eq_true rfl), (Nat.le_of_ble_eq_true rfl)⟩ (fun v g' hp => ?_)
        rw [hp.1, hp.2]
        show gh_W l G _ X g3 _ _ [some (.ref (A 0)), some (.int (nI i))] 112 [.int (nI ps.length), .int (nI i)]
        refine gh_icmp_geN hK d_SD_doCheck_112 (tgt := 179) (by decide) (by omega) (by omega) (fun z => ?_) (fun z => absurd z (by omega))
        refine gh_aload_n hK d_SD_doCheck_179 rfl ?_
        refine gh_get hK d_SD_doCheck_180 in_SD rfl h3.1.1 2 (by decide) kf_SD_30 rfl rfl ?_
        refine gh_callV (rest := []) [] hK (c_Pr_endItems l G hP3 (by omega)) Y_Pr_endItems V_Pr_endItems km_SD_294 hP3.1 rfl rfl d_SD_doCheck_183 rfl rfl (Nat.le_of_ble_eq_true rfl) ⟨(Nat.le_of_ble_eq_true rfl), (Nat.le_of_ble_eq_true rfl)⟩ ⟨(Nat.le_of_ble_eq_true rfl), (Nat.le_of_ble_eq_true rfl)⟩ (fun v g4 hp => ?_)
        obtain ⟨rfl, hq1, hq2⟩ := hp
        show gh_W l G _ X g4 _ _ [some (.ref (A 0)), some (.int (nI i))] 186 []
        refine gh_iconst (v := nI 1) hK d_SD_doCheck_186 (by decide) ?_
        have m4 := hP3.toM hq2
        have hF2 : (if it = 0 then prt o2 45 else o2) = _ := hF
        rw [hF2] at hq1
        exact gh_zret rfl hK hE d_SD_doCheck_187 (Nat.le_of_ble_eq_true rfl) (Nat.le_of_ble_eq_true rfl) ⟨rfl, ⟨_, _, _, _, (hL2.M m3 (by decide)).M m4 (by decide), fun q => by cases q⟩, h3.M m4 (by decide), ⟨_, hq1⟩, (m2.tr (m3.wd (by decide))).tr (m4.wd (by decide))⟩
      | succ m ih =>
        intro i it g3 o2 hi hit h3 hP3 m3 hF
        have a3 := hA2.M m3 (by decide)
        obtain ⟨p, hpx⟩ : ∃ p, ps[i]? = some p := ⟨ps[i], List.getElem?_eq_getElem (by omega)⟩
        have hdr : ps.drop i = p :: ps.drop (i + 1) := by
          rw [List.drop_eq_getElem_cons (by omega)]
          rw [List.getElem?_eq_getElem (by omega)] at hpx
          rw [Option.some.inj hpx]
        have hpf := a3.2.1 p (List.mem_of_getElem? hpx)
        rw [hdr, show wls tx (p :: ps.drop (i + 1)) = (tx.drop p.1).take p.2 :: wls tx (ps.drop (i + 1)) from rfl, List.filter_cons] at hF
        obtain ⟨ws0, hws0⟩ := h3.1.2.1
        refine gh_iload_n hK d_SD_doCheck_104 rfl ?_
        refine gh_aload_n hK d_SD_doCheck_105 rfl ?_
        refine gh_get hK d_SD_doCheck_106 in_SD rfl h3.1.1 7 (by decide) kf_SD_67 rfl rfl ?_
        refine gh_callV (rest := [.int (nI i)]) [] hK (c_Wl_count l G a3.1) Y_Wl_count V_Wl_count km_SD_279 a3.1.ob rfl rfl d_SD_doCheck_109 rfl rfl (Nat.le_of_ble_eq_true rfl) ⟨(Nat.le_of_ble_eq_true rfl), (Nat.le_of_ble_eq_true rfl)⟩ ⟨(Nat.le_of_ble_eq_true rfl), (Nat.le_of_ble_eq_true rfl)⟩ (fun v g' hp => ?_)
        rw [hp.1, hp.2]
        show gh_W l G _ X g3 _ _ [some (.ref (A 0)), some (.int (nI i))] 112 [.int (nI ps.length), .int (nI i)]
        refine gh_icmp_geN hK d_SD_doCheck_112 (tgt := 179) (by decide) (by omega) (by omega) (fun z => absurd z (by omega)) (fun z => ?_)
        refine gh_aload_n hK d_SD_doCheck_115 rfl ?_
        refine gh_get hK d_SD_doCheck_116 in_SD rfl h3.1.1 6 (by decide) kf_SD_58 rfl rfl ?_
        refine gh_aload_n hK d_SD_doCheck_119 rfl ?_
        refine gh_get hK d_SD_doCheck_120 in_SD rfl h3.1.1 0 (by decide) kf_SD_14 rfl rfl ?_
        refine gh_aload_n hK d_SD_doCheck_123 rfl ?_
        refine gh_get hK d_SD_doCheck_124 in_SD rfl h3.1.1 7 (by decide) kf_SD_67 rfl rfl ?_
        refine gh_iload_n hK d_SD_doCheck_127 rfl ?_
        refine gh_callV (rest := [.ref (A 1), .ref (A 30)]) [.int (nI i)] hK (c_Wl_from l G a3.1 hpx) Y_Wl_from V_Wl_from km_SD_280 a3.1.ob rfl rfl d_SD_doCheck_128 rfl rfl (Nat.le_of_ble_eq_true rfl) ⟨(Nat.le_of_ble_eq_true rfl), (Nat.le_of_ble_eq_true rfl)⟩ ⟨(Nat.le_of_ble_eq_true rfl), (Nat.le_of_ble_eq_true rfl)⟩ (fun v g' hp => ?_)
        rw [hp.1, hp.2]
        show gh_W l G _ X g3 _ _ [some (.ref (A 0)), some (.int (nI i))] 131 [.int (nI p.1), .ref (A 1), .ref (A 30)]
        refine gh_aload_n hK d_SD_doCheck_131 rfl ?_
        refine gh_get hK d_SD_doCheck_132 in_SD rfl h3.1.1 7 (by decide) kf_SD_67 rfl rfl ?_
        refine gh_iload_n hK d_SD_doCheck_135 rfl ?_
        refine gh_callV (rest := [.int (nI p.1), .ref (A 1), .ref (A 30)]) [.int (nI i)] hK (c_Wl_length l G a3.1 hpx) Y_Wl_length V_Wl_length km_SD_283 a3.1.ob rfl rfl d_SD_doCheck_136 rfl rfl (Nat.le_of_ble_eq_true rfl) ⟨(Nat.le_of_ble_eq_true rfl), (Nat.le_of_ble_eq_true rfl)⟩ ⟨(Nat.le_of_ble_eq_true rfl), (Nat.le_of_ble_eq_true rfl)⟩ (fun v g' hp => ?_)
        rw [hp.1, hp.2]
        show gh_W l G _ X g3 _ _ [some (.ref (A 0)), some (.int (nI i))] 139 [.int (nI p.2), .int (nI p.1), .ref (A 1), .ref (A 30)]
        refine gh_iconst (v := nI 1) hK d_SD_doCheck_139 (by decide) ?_
        refine gh_callV (rest := []) [.ref (A 1), .int (nI p.1), .int (nI p.2), .int (nI 1)] hK (c_Sp_findWays l G hws0 h3.2.1 h3.2.2.1 (fo := p.1) (len := p.2) (lim := 1) hpf (by omega)) Y_Sp_findWays V_Sp_findWays km_SD_286 hws0.1 rfl rfl d_SD_doCheck_140 rfl rfl (Nat.le_of_ble_eq_true rfl) ⟨(Nat.le_of_ble_eq_true rfl), (Nat.le_of_ble_eq_true rfl)⟩ ⟨(Nat.le_of_ble_eq_true rfl), (Nat.le_of_ble_eq_true rfl)⟩ (fun v g4 hp => ?_)
        obtain ⟨rfl, hp2⟩ := hp
        show gh_W l G _ X g4 _ _ [some (.ref (A 0)), some (.int (nI i))] 143 [.int (nI ((wyA es us1 us2 1 ((tx.drop p.1).take p.2)).length))]
        have h4 := h3.wy hp2
        have mw := hp2.2.2.2.2.2.2
        have hP4 := hP3.M mw (by decide) (by decide) (by decide)
        have a4 := a3.M mw (by decide)
        have m4 := m3.tr (mw.wd (by decide))
        have hwl := hp2.2.2.2.1
        refine gh_if_neN hK d_SD_doCheck_143 (tgt := 173) (by decide) (by show (wyO _ _ _ _ _ _ _ _).length < _; omega) (fun z3 => ?_) (fun z3 => ?_)
        · have hck : ckN es us1 us2 ((tx.drop p.1).take p.2) = false := decide_eq_false (by omega)
          simp only [hck, Bool.false_eq_true, ↓reduceIte] at hF
          refine gh_incN (lv' := [some (.ref (A 0)), some (.int (nI (i + 1)))]) hK d_SD_doCheck_173 rfl rfl ?_
          refine gh_goto (tgt := 104) hK d_SD_doCheck_176 (by decide) ?_
          exact ih (i + 1) it g4 o2 (by omega) (by omega) h4 hP4 m4 hF
        · rw [if_pos (show ckN es us1 us2 _ = true from decide_eq_true z3), List.length_cons, itL] at hF
          refine gh_aload_n hK d_SD_doCheck_146 rfl ?_
          refine gh_get hK d_SD_doCheck_147 in_SD rfl h4.1.1 2 (by decide) kf_SD_30 rfl rfl ?_
          refine gh_aload_n hK d_SD_doCheck_150 rfl ?_
          refine gh_get hK d_SD_doCheck_151 in_SD rfl h4.1.1 0 (by decide) kf_SD_14 rfl rfl ?_
          refine gh_aload_n hK d_SD_doCheck_154 rfl ?_
          refine gh_get hK d_SD_doCheck_155 in_SD rfl h4.1.1 7 (by decide) kf_SD_67 rfl rfl ?_
          refine gh_iload_n hK d_SD_doCheck_158 rfl ?_
          refine gh_callV (rest := [.ref (A 1), .ref (A 4)]) [.int (nI i)] hK (c_Wl_from l G a4.1 hpx) Y_Wl_from V_Wl_from km_SD_280 a4.1.ob rfl rfl d_SD_doCheck_159 rfl rfl (Nat.le_of_ble_eq_true rfl) ⟨(Nat.le_of_ble_eq_true rfl), (Nat.le_of_ble_eq_true rfl)⟩ ⟨(Nat.le_of_ble_eq_true rfl), (Nat.le_of_ble_eq_true rfl)⟩ (fun v g' hp => ?_)
          rw [hp.1, hp.2]
          show gh_W l G _ X g4 _ _ [some (.ref (A 0)), some (.int (nI i))] 162 [.int (nI p.1), .ref (A 1), .ref (A 4)]
          refine gh_aload_n hK d_SD_doCheck_162 rfl ?_
          refine gh_get hK d_SD_doCheck_163 in_SD rfl h4.1.1 7 (by decide) kf_SD_67 rfl rfl ?_
          refine gh_iload_n hK d_SD_doCheck_166 rfl ?_
          refine gh_callV (rest := [.int (nI p.1), .ref (A 1), .ref (A 4)]) [.int (nI i)] hK (c_Wl_length l G a4.1 hpx) Y_Wl_length V_Wl_length km_SD_283 a4.1.ob rfl rfl d_SD_doCheck_167 rfl rfl (Nat.le_of_ble_eq_true rfl) ⟨(Nat.le_of_ble_eq_true rfl), (Nat.le_of_ble_eq_true rfl)⟩ ⟨(Nat.le_of_ble_eq_true rfl), (Nat.le_of_ble_eq_true rfl)⟩ (fun v g' hp => ?_)
          rw [hp.1, hp.2]
          show gh_W l G _ X g4 _ _ [some (.ref (A 0)), some (.int (nI i))] 170 [.int (nI p.2), .int (nI p.1), .ref (A 1), .ref (A 4)]
          obtain ⟨q1, q2⟩ := hP4.ap h4.2.1.2.2.2 (by decide) (by decide)
          refine gh_callV (rest := []) [.ref (A 1), .int (nI p.1), .int (nI p.2)] hK (c_Pr_printItem l G hP4 (by omega) h4.2.1.2.2.2 q1 q2 (fr := p.1) (len := p.2) hpf) Y_Pr_printItem V_Pr_printItem km_SD_290 hP4.1 rfl rfl d_SD_doCheck_170 rfl rfl (Nat.le_of_ble_eq_true rfl) ⟨(Nat.le_of_ble_eq_true rfl), (Nat.le_of_ble_eq_true rfl)⟩ ⟨(Nat.le_of_ble_eq_true rfl), (Nat.le_of_ble_eq_true rfl)⟩ (fun v g5 hp => ?_)
          obtain ⟨rfl, hq1, hq2⟩ := hp
          show gh_W l G _ X g5 _ _ [some (.ref (A 0)), some (.int (nI i))] 173 []
          refine gh_incN (lv' := [some (.ref (A 0)), some (.int (nI (i + 1)))]) hK d_SD_doCheck_173 rfl rfl ?_
          refine gh_goto (tgt := 104) hK d_SD_doCheck_176 (by decide) ?_
          have m5 := hP4.toM hq2
          refine ih (i + 1) (it + 1) g5 _ (by omega) (by omega) (h4.M m5 (by decide)) hq1 (m4.tr (m5.wd (by decide))) ?_
          rw [show it + 1 + ((wls tx (ps.drop (i + 1))).filter (ckN es us1 us2)).length = it + (((wls tx (ps.drop (i + 1))).filter (ckN es us1 us2)).length + 1) by omega]
          exact hF
    refine gh_iconst (v := nI 0) hK d_SD_doCheck_102 (by decide) ?_
    refine gh_istore_n (lv' := [some (.ref (A 0)), some (.int (nI 0))]) hK d_SD_doCheck_103 (Nat.le_of_ble_eq_true rfl) rfl ?_
    exact loop ps.length 0 0 g2 o (by omega) (by omega) h2 hP2 gh_M.rf (by rw [Nat.zero_add]; exact itL_end o _)
  have no : ∀ (g2 : GH) (q s1 e1 wf1 wl1 : Nat) (o1 : Option Value) (ws : List (List Nat)) (pc : Nat), (pc = 19 ∨ pc = 73) → SDr G g2 A es us1 us2 tx → Pr G g2 (A 4) (A 5) (A 6) o 0 → Ln g2 (A 3) (A 1) ls le s1 e1 wf1 wl1 → s1 = q → gh_M SDT g g2 → R = (some q, ws) → gh_W l G (rmk 6 0 0 140) X g2 0 0 [some (.ref (A 0)), o1] pc [] := by
    intro g2 q s1 e1 wf1 wl1 o1 ws pc hpc h2 hP2 hL2 hs1 m2 hR2
    rw [hR2] at hE
    rcases hpc with rfl | rfl
    · refine gh_iconst (v := nI 0) hK d_SD_doCheck_19 (by decide) ?_
      exact gh_zret rfl hK hE d_SD_doCheck_20 (Nat.le_of_ble_eq_true rfl) (Nat.le_of_ble_eq_true rfl) ⟨rfl, ⟨_, _, _, _, hL2, fun _ => hs1⟩, h2, ⟨_, hP2⟩, m2⟩
    · refine gh_iconst (v := nI 0) hK d_SD_doCheck_73 (by decide) ?_
      exact gh_zret rfl hK hE d_SD_doCheck_74 (Nat.le_of_ble_eq_true rfl) (Nat.le_of_ble_eq_true rfl) ⟨rfl, ⟨_, _, _, _, hL2, fun _ => hs1⟩, h2, ⟨_, hP2⟩, m2⟩
  have loop1 : ∀ (k i e1 s1 wf1 wl1 : Nat) (g2 : GH) (ps : List (Nat × Nat)), le - e1 ≤ k → e1 ≤ le → (e1 < le → isSpc tx e1 = true) → 6 + 2 * i ≤ e1 → ps.length ≤ i + 1 → SDr G g2 A es us1 us2 tx → Pr G g2 (A 4) (A 5) (A 6) o 0 → AsI G g2 A tx ps → Ln g2 (A 3) (A 1) ls le s1 e1 wf1 wl1 → gh_M SDT g g2 → R = ckG tx le k e1 (wls tx ps) → gh_W l G (rmk 6 0 0 140) X g2 0 0 [some (.ref (A 0)), some (.int (nI i))] 44 [] := by
    intro k
    induction k with
    | zero =>
      intro i e1 s1 wf1 wl1 g2 ps hk he1 hsp hi hpl h2 hP2 hA2 hL2 m2 hR2
      have hnx : nxE tx le e1 ≤ nxS tx le e1 := by
        have := nxS_le (tx := tx) he1
        have := nxE_le (tx := tx) he1
        omega
      refine gh_iload_n hK d_SD_doCheck_44 rfl ?_
      refine gh_sipush (v := nI 1024) hK d_SD_doCheck_45 (by decide) ?_
      refine gh_icmp_geN hK d_SD_doCheck_48 (tgt := 102) (by decide) (by omega) (by omega) (fun z => absurd z (by omega)) (fun z => ?_)
      refine gh_aload_n hK d_SD_doCheck_51 rfl ?_
      refine gh_get hK d_SD_doCheck_52 in_SD rfl h2.1.1 1 (by decide) kf_SD_23 rfl rfl ?_
      refine gh_callV (rest := []) [] hK (c_Ln_ends l G hL2 h2.2.1.2.2.2 he1 hle) Y_Ln_ends V_Ln_ends km_SD_197 hL2 rfl rfl d_SD_doCheck_55 rfl rfl (Nat.le_of_ble_eq_true rfl) ⟨(Nat.le_of_ble_eq_true rfl), (Nat.le_of_ble_eq_true rfl)⟩ ⟨(Nat.le_of_ble_eq_true rfl), (Nat.le_of_ble_eq_true rfl)⟩ (fun v g3 hp => ?_)
      obtain ⟨rfl, hl3, hlN⟩ := hp
      show gh_W l G _ X g3 _ _ [some (.ref (A 0)), some (.int (nI i))] 58 [.int (nI (bn (decide (nxE tx le e1 ≤ nxS tx le e1))))]
      have mm := hL2.toM hlN
      have h3 := h2.M mm (by decide)
      have hP3 := hP2.M mm (by decide) (by decide) (by decide)
      have hA3 := hA2.M mm (by decide)
      have m3 := m2.tr (mm.wd (by decide))
      refine gh_if_neB hK d_SD_doCheck_58 (tgt := 102) (by decide) (fun z2 => ?_) (fun z2 => ?_)
      · exact ph2 g3 ps _ _ _ _ _ h3 hP3 hA3 hl3 m3 hR2
      · exact absurd hnx (of_decide_eq_false z2)
    | succ k ih =>
      intro i e1 s1 wf1 wl1 g2 ps hk he1 hsp hi hpl h2 hP2 hA2 hL2 m2 hR2
      rw [ckG] at hR2
      have c1 := nxS_le (tx := tx) he1
      have c2 := nxE_le (tx := tx) he1
      refine gh_iload_n hK d_SD_doCheck_44 rfl ?_
      refine gh_sipush (v := nI 1024) hK d_SD_doCheck_45 (by decide) ?_
      refine gh_icmp_geN hK d_SD_doCheck_48 (tgt := 102) (by decide) (by omega) (by omega) (fun z => absurd z (by omega)) (fun z => ?_)
      refine gh_aload_n hK d_SD_doCheck_51 rfl ?_
      refine gh_get hK d_SD_doCheck_52 in_SD rfl h2.1.1 1 (by decide) kf_SD_23 rfl rfl ?_
      refine gh_callV (rest := []) [] hK (c_Ln_ends l G hL2 h2.2.1.2.2.2 he1 hle) Y_Ln_ends V_Ln_ends km_SD_197 hL2 rfl rfl d_SD_doCheck_55 rfl rfl (Nat.le_of_ble_eq_true rfl) ⟨(Nat.le_of_ble_eq_true rfl), (Nat.le_of_ble_eq_true rfl)⟩ ⟨(Nat.le_of_ble_eq_true rfl), (Nat.le_of_ble_eq_true rfl)⟩ (fun v g3 hp => ?_)
      obtain ⟨rfl, hl3, hlN⟩ := hp
      show gh_W l G _ X g3 _ _ [some (.ref (A 0)), some (.int (nI i))] 58 [.int (nI (bn (decide (nxE tx le e1 ≤ nxS tx le e1))))]
      have mm := hL2.toM hlN
      have h3 := h2.M mm (by decide)
      have hP3 := hP2.M mm (by decide) (by decide) (by decide)
      have hA3 := hA2.M mm (by decide)
      have m3 := m2.tr (mm.wd (by decide))
      refine gh_if_neB hK d_SD_doCheck_58 (tgt := 102) (by decide) (fun z2 => ?_) (fun z2 => ?_)
      · exact ph2 g3 ps _ _ _ _ _ h3 hP3 hA3 hl3 m3 (by rw [hR2, if_pos (of_decide_eq_true z2)])
      · have z4 := of_decide_eq_false z2
        rw [if_neg z4] at hR2
        have hlt : e1 < le := by omega
        have hadv := nx_adv hlt (hsp hlt)
        refine gh_aload_n hK d_SD_doCheck_61 rfl ?_
        refine gh_get hK d_SD_doCheck_62 in_SD rfl h3.1.1 1 (by decide) kf_SD_23 rfl rfl ?_
        refine gh_bipush (v := nI 28) hK d_SD_doCheck_65 (by decide) ?_
        refine gh_callV (rest := []) [.int (nI 28)] hK (c_Ln_isWord l G hl3 h3.2.1.2.2.2 (k := 28) (by omega) (by omega) (by decide)) Y_Ln_isWord V_Ln_isWord km_SD_276 hl3 rfl rfl d_SD_doCheck_67 rfl rfl (Nat.le_of_ble_eq_true rfl) ⟨(Nat.le_of_ble_eq_true rfl), (Nat.le_of_ble_eq_true rfl)⟩ ⟨(Nat.le_of_ble_eq_true rfl), (Nat.le_of_ble_eq_true rfl)⟩ (fun v g4 hp => ?_)
        obtain ⟨rfl, hl4, hlN4⟩ := hp
        show gh_W l G _ X g4 _ _ [some (.ref (A 0)), some (.int (nI i))] 70 [.int (nI (bn (wdO tx 28 (nxS tx le e1) (nxE tx le e1))))]
        have mm4 := hl3.toM hlN4
        have h4 := h3.M mm4 (by decide)
        have hP4 := hP3.M mm4 (by decide) (by decide) (by decide)
        have hA4 := hA3.M mm4 (by decide)
        have m4 := m3.tr (mm4.wd (by decide))
        refine gh_if_neB hK d_SD_doCheck_70 (tgt := 75) (by decide) (fun z5 => ?_) (fun z5 => ?_)
        · rw [if_pos z5] at hR2
          obtain ⟨y1, y2, y3⟩ := wd_true z5
          rw [y1] at hl4
          refine gh_aload_n hK d_SD_doCheck_75 rfl ?_
          refine gh_get hK d_SD_doCheck_76 in_SD rfl h4.1.1 7 (by decide) kf_SD_67 rfl rfl ?_
          refine gh_aload_n hK d_SD_doCheck_79 rfl ?_
          refine gh_get hK d_SD_doCheck_80 in_SD rfl h4.1.1 1 (by decide) kf_SD_23 rfl rfl ?_
          refine gh_callV (rest := [.ref (A 40)]) [] hK (c_Ln_wordFrom l G hl4) Y_Ln_wordFrom V_Ln_wordFrom km_SD_232 hl4 rfl rfl d_SD_doCheck_83 rfl rfl (Nat.le_of_ble_eq_true rfl) ⟨(Nat.le_of_ble_eq_true rfl), (Nat.le_of_ble_eq_true rfl)⟩ ⟨(Nat.le_of_ble_eq_true rfl), (Nat.le_of_ble_eq_true rfl)⟩ (fun v g' hp => ?_)
          rw [hp.1, hp.2]
          show gh_W l G _ X g4 _ _ [some (.ref (A 0)), some (.int (nI i))] 86 [.int (nI (nxS tx le e1)), .ref (A 40)]
          refine gh_aload_n hK d_SD_doCheck_86 rfl ?_
          refine gh_get hK d_SD_doCheck_87 in_SD rfl h4.1.1 1 (by decide) kf_SD_23 rfl rfl ?_
          refine gh_callV (rest := [.int (nI (nxS tx le e1)), .ref (A 40)]) [] hK (c_Ln_wordLength l G hl4) Y_Ln_wordLength V_Ln_wordLength km_SD_235 hl4 rfl rfl d_SD_doCheck_90 rfl rfl (Nat.le_of_ble_eq_true rfl) ⟨(Nat.le_of_ble_eq_true rfl), (Nat.le_of_ble_eq_true rfl)⟩ ⟨(Nat.le_of_ble_eq_true rfl), (Nat.le_of_ble_eq_true rfl)⟩ (fun v g' hp => ?_)
          rw [hp.1, hp.2]
          show gh_W l G _ X g4 _ _ [some (.ref (A 0)), some (.int (nI i))] 93 [.int (nI (nxE tx le e1 - nxS tx le e1)), .int (nI (nxS tx le e1)), .ref (A 40)]
          refine gh_callV (rest := []) [.int (nI (nxS tx le e1)), .int (nI (nxE tx le e1 - nxS tx le e1))] hK (c_Wl_put l G hA4.1 (by decide) h4.2.1.2.2.2 hA4.2.1 (fr := nxS tx le e1) (len := nxE tx le e1 - nxS tx le e1) (by omega) hA4.2.2 (by first | omega | exact Nat.zero_lt_succ _)) Y_Wl_put V_Wl_put km_SD_273 hA4.1.ob rfl rfl d_SD_doCheck_93 rfl rfl (Nat.le_of_ble_eq_true rfl) ⟨(Nat.le_of_ble_eq_true rfl), (Nat.le_of_ble_eq_true rfl)⟩ ⟨(Nat.le_of_ble_eq_true rfl), (Nat.le_of_ble_eq_true rfl)⟩ (fun v g5 hp => ?_)
          obtain ⟨rfl, hw5, hN5⟩ := hp
          show gh_W l G _ X g5 _ _ [some (.ref (A 0)), some (.int (nI i))] 96 []
          have mm5 := hA4.toM hN5
          obtain ⟨ps2, hA5, w5, l5⟩ := AsI.put hA4.2.1 hA4.2.2 (by omega) hw5
          have h5 := h4.wl mm5 (by decide) hA5.1
          refine gh_incN (lv' := [some (.ref (A 0)), some (.int (nI (i + 1)))]) hK d_SD_doCheck_96 rfl rfl ?_
          refine gh_goto (tgt := 44) hK d_SD_doCheck_99 (by decide) ?_
          exact ih (i + 1) (nxE tx le e1) _ _ _ g5 ps2 (by omega) c2.2 (nxE_sp he1) (by omega) (by omega) h5 (hP4.M mm5 (by decide) (by decide) (by decide)) hA5 (hl4.M mm5 (by decide)) (m4.tr (mm5.wd (by decide))) (by rw [hR2, w5]; rfl)
        · exact no g4 _ _ _ _ _ _ _ 73 (Or.inr rfl) h4 hP4 hl4 rfl m4 (by rw [hR2, if_neg (by rw [z5]; decide)])
  obtain ⟨ps0, hw0⟩ := h.1.2.2.2
  refine gh_aload_n hK d_SD_doCheck_0 rfl ?_
  refine gh_get hK d_SD_doCheck_1 in_SD rfl h.1.1 7 (by decide) kf_SD_67 rfl rfl ?_
  refine gh_callV (rest := []) [] hK (c_Wl_clear l G hw0) Y_Wl_clear V_Wl_clear km_SD_269 hw0.ob rfl rfl d_SD_doCheck_4 rfl rfl (Nat.le_of_ble_eq_true rfl) ⟨(Nat.le_of_ble_eq_true rfl), (Nat.le_of_ble_eq_true rfl)⟩ ⟨(Nat.le_of_ble_eq_true rfl), (Nat.le_of_ble_eq_true rfl)⟩ (fun v g1 hp => ?_)
  obtain ⟨rfl, hw1, hN1⟩ := hp
  show gh_W l G _ X g1 _ _ [some (.ref (A 0)), none] 7 []
  have mm1 : gh_M [40] g g1 := hN1.M fun a ha => by
    rw [List.mem_singleton.mp ha]
    exact ⟨_, _, hw0.ob, by decide⟩
  have h1 := h.wl mm1 (by decide) hw1
  have hL1 := hL.M mm1 (by decide)
  refine gh_aload_n hK d_SD_doCheck_7 rfl ?_
  refine gh_get hK d_SD_doCheck_8 in_SD rfl h1.1.1 1 (by decide) kf_SD_23 rfl rfl ?_
  refine gh_bipush (v := nI 28) hK d_SD_doCheck_11 (by decide) ?_
  refine gh_callV (rest := []) [.int (nI 28)] hK (c_Ln_nextIsWord l G hL1 h1.2.1.2.2.2 (k := 28) he hle (by decide)) Y_Ln_nextIsWord V_Ln_nextIsWord km_SD_270 hL1 rfl rfl d_SD_doCheck_13 rfl rfl (Nat.le_of_ble_eq_true rfl) ⟨(Nat.le_of_ble_eq_true rfl), (Nat.le_of_ble_eq_true rfl)⟩ ⟨(Nat.le_of_ble_eq_true rfl), (Nat.le_of_ble_eq_true rfl)⟩ (fun v g2 hp => ?_)
  obtain ⟨rfl, hl2, hlN⟩ := hp
  show gh_W l G _ X g2 _ _ [some (.ref (A 0)), none] 16 [.int (nI (bn (decide (nxS tx le e < nxE tx le e) && wdO tx 28 (nxS tx le e) (nxE tx le e))))]
  have mm2 := hL1.toM hlN
  have h2 := h1.M mm2 (by decide)
  have hP2 := (hP.M mm1 (by decide) (by decide) (by decide)).M mm2 (by decide) (by decide) (by decide)
  have hA2 : AsI G g2 A tx [] := ⟨hw1.M mm2 (by decide) (by decide) (by decide), by simp, trivial⟩
  have m2 : gh_M SDT g g2 := (mm1.wd (by decide)).tr (mm2.wd (by decide))
  have c1 := nxS_le (tx := tx) he
  have c2 := nxE_le (tx := tx) he
  refine gh_if_neB hK d_SD_doCheck_16 (tgt := 21) (by decide) (fun z => ?_) (fun z => ?_)
  · simp only [Bool.and_eq_true, decide_eq_true_eq] at z
    rw [ckA, if_pos z] at hR
    obtain ⟨y1, y2, y3⟩ := wd_true z.2
    rw [wkF, wkL, if_pos z.1, if_pos z.1, y1] at hl2
    refine gh_aload_n hK d_SD_doCheck_21 rfl ?_
    refine gh_get hK d_SD_doCheck_22 in_SD rfl h2.1.1 7 (by decide) kf_SD_67 rfl rfl ?_
    refine gh_aload_n hK d_SD_doCheck_25 rfl ?_
    refine gh_get hK d_SD_doCheck_26 in_SD rfl h2.1.1 1 (by decide) kf_SD_23 rfl rfl ?_
    refine gh_callV (rest := [.ref (A 40)]) [] hK (c_Ln_wordFrom l G hl2) Y_Ln_wordFrom V_Ln_wordFrom km_SD_232 hl2 rfl rfl d_SD_doCheck_29 rfl rfl (Nat.le_of_ble_eq_true rfl) ⟨(Nat.le_of_ble_eq_true rfl), (Nat.le_of_ble_eq_true rfl)⟩ ⟨(Nat.le_of_ble_eq_true rfl), (Nat.le_of_ble_eq_true rfl)⟩ (fun v g' hp => ?_)
    rw [hp.1, hp.2]
    show gh_W l G _ X g2 _ _ [some (.ref (A 0)), none] 32 [.int (nI (nxS tx le e)), .ref (A 40)]
    refine gh_aload_n hK d_SD_doCheck_32 rfl ?_
    refine gh_get hK d_SD_doCheck_33 in_SD rfl h2.1.1 1 (by decide) kf_SD_23 rfl rfl ?_
    refine gh_callV (rest := [.int (nI (nxS tx le e)), .ref (A 40)]) [] hK (c_Ln_wordLength l G hl2) Y_Ln_wordLength V_Ln_wordLength km_SD_235 hl2 rfl rfl d_SD_doCheck_36 rfl rfl (Nat.le_of_ble_eq_true rfl) ⟨(Nat.le_of_ble_eq_true rfl), (Nat.le_of_ble_eq_true rfl)⟩ ⟨(Nat.le_of_ble_eq_true rfl), (Nat.le_of_ble_eq_true rfl)⟩ (fun v g' hp => ?_)
    rw [hp.1, hp.2]
    show gh_W l G _ X g2 _ _ [some (.ref (A 0)), none] 39 [.int (nI (nxE tx le e - nxS tx le e)), .int (nI (nxS tx le e)), .ref (A 40)]
    refine gh_callV (rest := []) [.int (nI (nxS tx le e)), .int (nI (nxE tx le e - nxS tx le e))] hK (c_Wl_put l G hA2.1 (by decide) h2.2.1.2.2.2 hA2.2.1 (fr := nxS tx le e) (len := nxE tx le e - nxS tx le e) (by omega) hA2.2.2 (by first | omega | exact Nat.zero_lt_succ _)) Y_Wl_put V_Wl_put km_SD_273 hA2.1.ob rfl rfl d_SD_doCheck_39 rfl rfl (Nat.le_of_ble_eq_true rfl) ⟨(Nat.le_of_ble_eq_true rfl), (Nat.le_of_ble_eq_true rfl)⟩ ⟨(Nat.le_of_ble_eq_true rfl), (Nat.le_of_ble_eq_true rfl)⟩ (fun v g5 hp => ?_)
    obtain ⟨rfl, hw5, hN5⟩ := hp
    show gh_W l G _ X g5 _ _ [some (.ref (A 0)), none] 42 []
    have mm5 := hA2.toM hN5
    obtain ⟨ps2, hA5, w5, l5⟩ := AsI.put hA2.2.1 hA2.2.2 (by omega) hw5
    have h5 := h2.wl mm5 (by decide) hA5.1
    refine gh_iconst (v := nI 0) hK d_SD_doCheck_42 (by decide) ?_
    refine gh_istore_n (lv' := [some (.ref (A 0)), some (.int (nI 0))]) hK d_SD_doCheck_43 (Nat.le_of_ble_eq_true rfl) rfl ?_
    exact loop1 2048 0 (nxE tx le e) _ _ _ g5 ps2 (by omega) c2.2 (nxE_sp he) (by omega) (by omega) h5 (hP2.M mm5 (by decide) (by decide) (by decide)) hA5 (hl2.M mm5 (by decide)) (m2.tr (mm5.wd (by decide))) (by rw [← hR, w5]; rfl)
  · have z2 : ¬ (nxS tx le e < nxE tx le e ∧ wdO tx 28 (nxS tx le e) (nxE tx le e) = true) := fun q => by
      rw [q.2, decide_eq_true q.1] at z
      cases z
    rw [ckA, if_neg z2] at hR
    exact no g2 _ _ _ _ _ _ _ 19 (Or.inl rfl) h2 hP2 hl2 rfl m2 hR.symm
