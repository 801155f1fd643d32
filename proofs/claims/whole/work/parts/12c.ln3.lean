set_option maxRecDepth 20000 in
set_option maxHeartbeats 4000000 in
theorem c_Ln_flagsBehind (l : Launch) (G : GG) {g : GH} {la ta ls le s e wf wl : Nat} {tb : Nat} {tx : List Nat} {k : Nat} (h : Ln g la ta ls le s e wf wl) (hT : Lt G g ta 1 tb 2 2048 tx) (hk : s + k ≤ e) (he : e ≤ tx.length) : gMet l G y_Ln_flagsBehind b_Ln_flagsBehind 6 (some .int) (rmk 1 0 0 21) [.ref la, .int (nI k)] g (fun v g' => v = some (.int (flV (flB tx e (s + k)))) ∧ g' = g) := by
  refine gMet.of [some (.ref la), some (.int (nI k)), none, none, none, none] (by decide +kernel) rfl (Nat.le_of_ble_eq_true rfl) rfl (fun X hK hI hE => ?_)
  obtain ⟨ht1, ht2⟩ := hT.len
  have loop : ∀ (m i x : Nat) (o5 : Option Value), i + m = e → x < 2 ^ 26 → fgF tx (e - i) i x = flB tx e (s + k) → gh_W l G (rmk 1 0 0 21) X g 0 0 [some (.ref la), some (.int (nI k)), some (.int (nI (s + k))), some (.int (nI x)), some (.int (nI i)), o5] 49 [] := by
    intro m
    induction m with
    | zero =>
      intro i x o5 hi hx hq
      obtain rfl : i = e := by omega
      rw [Nat.sub_self] at hq
      refine gh_iload hK d_Ln_flagsBehind_49 rfl ?_
      refine gh_aload_n hK d_Ln_flagsBehind_51 rfl ?_
      refine gh_get hK d_Ln_flagsBehind_52 in_Ln rfl h 4 (by decide) kf_Ln_25 rfl rfl ?_
      refine gh_icmp_geN hK d_Ln_flagsBehind_55 (tgt := 97) (by decide) (by omega) (by omega) (fun z => ?_) (fun z => absurd z (by omega))
      refine gh_iload_n hK d_Ln_flagsBehind_97 rfl ?_
      exact gh_iret hK hE d_Ln_flagsBehind_98 (Nat.le_of_ble_eq_true rfl) (Nat.le_of_ble_eq_true rfl) ⟨by rw [← hq]; rfl, rfl⟩
    | succ m ih =>
      intro i x o5 hi hx hq
      rw [show e - i = (e - (i + 1)) + 1 by omega, fgF] at hq
      have hcl := capB_lt (tx.getD i 0)
      refine gh_iload hK d_Ln_flagsBehind_49 rfl ?_
      refine gh_aload_n hK d_Ln_flagsBehind_51 rfl ?_
      refine gh_get hK d_Ln_flagsBehind_52 in_Ln rfl h 4 (by decide) kf_Ln_25 rfl rfl ?_
      refine gh_icmp_geN hK d_Ln_flagsBehind_55 (tgt := 97) (by decide) (by omega) (by omega) (fun z => absurd z (by omega)) (fun z => ?_)
      refine gh_aload_n hK d_Ln_flagsBehind_58 rfl ?_
      refine gh_get hK d_Ln_flagsBehind_59 in_Ln rfl h 0 (by decide) kf_Ln_9 rfl rfl ?_
      refine gh_iload hK d_Ln_flagsBehind_62 rfl ?_
      refine gh_callV (rest := []) [.int (nI i)] hK (c_Lt_at l G hT (j := i) (by omega)) Y_Lt_at V_Lt_at km_Ln_28 hT.ob rfl rfl d_Ln_flagsBehind_64 rfl rfl (Nat.le_of_ble_eq_true rfl) ⟨(Nat.le_of_ble_eq_true rfl), (Nat.le_of_ble_eq_true rfl)⟩ ⟨(Nat.le_of_ble_eq_true rfl), (Nat.le_of_ble_eq_true rfl)⟩ (fun v g' hp => ?_)
      rw [hp.1, hp.2]
      show gh_W l G _ X g _ _ [some (.ref la), some (.int (nI k)), some (.int (nI (s + k))), some (.int (nI x)), some (.int (nI i)), o5] 67 [.int (nI (tx.getD i 0))]
      refine gh_callS (rest := []) [.int (nI (tx.getD i 0))] hK (c_Ln_flagBit l G (g := g) (hT.getD i)) Y_Ln_flagBit V_Ln_flagBit km_Ln_67 rfl d_Ln_flagsBehind_67 rfl rfl (Nat.le_of_ble_eq_true rfl) ⟨(Nat.le_of_ble_eq_true rfl), (Nat.le_of_ble_eq_true rfl)⟩ ⟨(Nat.le_of_ble_eq_true rfl), (Nat.le_of_ble_eq_true rfl)⟩ (fun v g' hp => ?_)
      rw [hp.1, hp.2]
      show gh_W l G _ X g _ _ [some (.ref la), some (.int (nI k)), some (.int (nI (s + k))), some (.int (nI x)), some (.int (nI i)), o5] 70 [.int (nI (capB (tx.getD i 0)))]
      refine gh_istore (lv' := [some (.ref la), some (.int (nI k)), some (.int (nI (s + k))), some (.int (nI x)), some (.int (nI i)), some (.int (nI (capB (tx.getD i 0))))]) hK d_Ln_flagsBehind_70 (Nat.le_of_ble_eq_true rfl) rfl ?_
      refine gh_iload hK d_Ln_flagsBehind_72 rfl ?_
      refine gh_if_eqN hK d_Ln_flagsBehind_74 (tgt := 84) (by decide) (by omega) (fun z2 => ?_) (fun z2 => ?_)
      · refine gh_iconst (v := (-1)) hK d_Ln_flagsBehind_84 (by decide) ?_
        rw [if_neg (fun q => by rw [capB, if_pos q.1] at z2; exact absurd z2 (Nat.ne_of_gt (Nat.pow_pos (by omega))))] at hq
        exact gh_iret hK hE d_Ln_flagsBehind_85 (Nat.le_of_ble_eq_true rfl) (Nat.le_of_ble_eq_true rfl) ⟨by rw [← hq]; rfl, rfl⟩
      · have hcap : isCap (tx.getD i 0) = true := by
          cases hc : isCap (tx.getD i 0) with
          | true => rfl
          | false => rw [capB, if_neg (by rw [hc]; decide)] at z2; omega
        have hcb : capB (tx.getD i 0) = 2 ^ (tx.getD i 0 - 65) := if_pos hcap
        refine gh_iload_n hK d_Ln_flagsBehind_77 rfl ?_
        refine gh_iload hK d_Ln_flagsBehind_78 rfl ?_
        refine gh_iand hK d_Ln_flagsBehind_80 ?_
        rw [nI_and]
        have hand : x &&& capB (tx.getD i 0) < 2 ^ 26 := Nat.lt_of_le_of_lt Nat.and_le_left hx
        refine gh_if_eqN hK d_Ln_flagsBehind_81 (tgt := 86) (by decide) (by omega) (fun z3 => ?_) (fun z3 => ?_)
        · refine gh_iload_n hK d_Ln_flagsBehind_86 rfl ?_
          refine gh_iload hK d_Ln_flagsBehind_87 rfl ?_
          refine gh_ior hK d_Ln_flagsBehind_89 ?_
          rw [nI_or]
          refine gh_istore_n (lv' := [some (.ref la), some (.int (nI k)), some (.int (nI (s + k))), some (.int (nI (x ||| capB (tx.getD i 0)))), some (.int (nI i)), some (.int (nI (capB (tx.getD i 0))))]) hK d_Ln_flagsBehind_90 (Nat.le_of_ble_eq_true rfl) rfl ?_
          refine gh_incN (lv' := [some (.ref la), some (.int (nI k)), some (.int (nI (s + k))), some (.int (nI (x ||| capB (tx.getD i 0)))), some (.int (nI (i + 1))), some (.int (nI (capB (tx.getD i 0))))]) hK d_Ln_flagsBehind_91 rfl rfl ?_
          refine gh_goto (tgt := 49) hK d_Ln_flagsBehind_94 (by decide) ?_
          refine ih (i + 1) _ _ (by omega) (Nat.or_lt_two_pow hx hcl) ?_
          rw [hcb] at z3 ⊢
          rw [if_pos ⟨hcap, (and_p2 _ _).mp z3⟩] at hq
          exact hq
        · refine gh_iconst (v := (-1)) hK d_Ln_flagsBehind_84 (by decide) ?_
          rw [if_neg (fun q => by rw [hcb, (and_p2 _ _).mpr q.2] at z3; omega)] at hq
          exact gh_iret hK hE d_Ln_flagsBehind_85 (Nat.le_of_ble_eq_true rfl) (Nat.le_of_ble_eq_true rfl) ⟨by rw [← hq]; rfl, rfl⟩
  refine gh_aload_n hK d_Ln_flagsBehind_0 rfl ?_
  refine gh_get hK d_Ln_flagsBehind_1 in_Ln rfl h 3 (by decide) kf_Ln_22 rfl rfl ?_
  refine gh_iload_n hK d_Ln_flagsBehind_4 rfl ?_
  refine gh_addN hK d_Ln_flagsBehind_5 ?_
  refine gh_istore_n (lv' := [some (.ref la), some (.int (nI k)), some (.int (nI (s + k))), none, none, none]) hK d_Ln_flagsBehind_6 (Nat.le_of_ble_eq_true rfl) rfl ?_
  refine gh_iload_n hK d_Ln_flagsBehind_7 rfl ?_
  refine gh_aload_n hK d_Ln_flagsBehind_8 rfl ?_
  refine gh_get hK d_Ln_flagsBehind_9 in_Ln rfl h 4 (by decide) kf_Ln_25 rfl rfl ?_
  refine gh_icmp_neN hK d_Ln_flagsBehind_12 (tgt := 17) (by decide) (by omega) (by omega) (fun z => ?_) (fun z => ?_)
  · refine gh_aload_n hK d_Ln_flagsBehind_17 rfl ?_
    refine gh_get hK d_Ln_flagsBehind_18 in_Ln rfl h 0 (by decide) kf_Ln_9 rfl rfl ?_
    refine gh_iload_n hK d_Ln_flagsBehind_21 rfl ?_
    refine gh_callV (rest := []) [.int (nI (s + k))] hK (c_Lt_at l G hT (j := s + k) (by omega)) Y_Lt_at V_Lt_at km_Ln_28 hT.ob rfl rfl d_Ln_flagsBehind_22 rfl rfl (Nat.le_of_ble_eq_true rfl) ⟨(Nat.le_of_ble_eq_true rfl), (Nat.le_of_ble_eq_true rfl)⟩ ⟨(Nat.le_of_ble_eq_true rfl), (Nat.le_of_ble_eq_true rfl)⟩ (fun v g' hp => ?_)
    rw [hp.1, hp.2]
    show gh_W l G _ X g _ _ [some (.ref la), some (.int (nI k)), some (.int (nI (s + k))), none, none, none] 25 [.int (nI (tx.getD (s + k) 0))]
    have hch := hT.getD (s + k)
    refine gh_bipush (v := nI 47) hK d_Ln_flagsBehind_25 (by decide) ?_
    refine gh_icmp_neN hK d_Ln_flagsBehind_27 (tgt := 40) (by decide) (by omega) (by decide) (fun z2 => ?_) (fun z2 => ?_)
    · refine gh_iconst (v := (-1)) hK d_Ln_flagsBehind_40 (by decide) ?_
      exact gh_iret hK hE d_Ln_flagsBehind_41 (Nat.le_of_ble_eq_true rfl) (Nat.le_of_ble_eq_true rfl) ⟨by rw [flB, if_neg z, if_neg (fun q => z2 q.1)]; rfl, rfl⟩
    · refine gh_iload_n hK d_Ln_flagsBehind_30 rfl ?_
      refine gh_iconst (v := nI 1) hK d_Ln_flagsBehind_31 (by decide) ?_
      refine gh_addN hK d_Ln_flagsBehind_32 ?_
      refine gh_aload_n hK d_Ln_flagsBehind_33 rfl ?_
      refine gh_get hK d_Ln_flagsBehind_34 in_Ln rfl h 4 (by decide) kf_Ln_25 rfl rfl ?_
      refine gh_icmp_neN hK d_Ln_flagsBehind_37 (tgt := 42) (by decide) (by omega) (by omega) (fun z3 => ?_) (fun z3 => ?_)
      · refine gh_iconst (v := nI 0) hK d_Ln_flagsBehind_42 (by decide) ?_
        refine gh_istore_n (lv' := [some (.ref la), some (.int (nI k)), some (.int (nI (s + k))), some (.int (nI 0)), none, none]) hK d_Ln_flagsBehind_43 (Nat.le_of_ble_eq_true rfl) rfl ?_
        refine gh_iload_n hK d_Ln_flagsBehind_44 rfl ?_
        refine gh_iconst (v := nI 1) hK d_Ln_flagsBehind_45 (by decide) ?_
        refine gh_addN hK d_Ln_flagsBehind_46 ?_
        refine gh_istore (lv' := [some (.ref la), some (.int (nI k)), some (.int (nI (s + k))), some (.int (nI 0)), some (.int (nI ((s + k) + 1))), none]) hK d_Ln_flagsBehind_47 (Nat.le_of_ble_eq_true rfl) rfl ?_
        exact loop (e - (s + k + 1)) (s + k + 1) 0 none (by omega) (by decide) (by rw [flB, if_neg z, if_pos ⟨z2, z3⟩])
      · refine gh_iconst (v := (-1)) hK d_Ln_flagsBehind_40 (by decide) ?_
        exact gh_iret hK hE d_Ln_flagsBehind_41 (Nat.le_of_ble_eq_true rfl) (Nat.le_of_ble_eq_true rfl) ⟨by rw [flB, if_neg z, if_neg (fun q => q.2 z3)]; rfl, rfl⟩
  · refine gh_iconst (v := nI 0) hK d_Ln_flagsBehind_15 (by decide) ?_
    exact gh_iret hK hE d_Ln_flagsBehind_16 (Nat.le_of_ble_eq_true rfl) (Nat.le_of_ble_eq_true rfl) ⟨by rw [flB, if_pos z]; rfl, rfl⟩
set_option maxRecDepth 20000 in
set_option maxHeartbeats 4000000 in
theorem c_Ln_nextIsPart (l : Launch) (G : GG) {g : GH} {la ta ls le s e wf wl : Nat} {tb : Nat} {tx : List Nat} {b : Bool} (h : Ln g la ta ls le s e wf wl) (hT : Lt G g ta 1 tb 2 2048 tx) (he : e ≤ le) (hle : le ≤ tx.length) : gMet l G y_Ln_nextIsPart b_Ln_nextIsPart 3 (some .boolean) (rmk 5 0 0 107) [.ref la, .int (nI (bn b))] g (fun v g' => v = some (.int (nI (bn (ptO tx b (nxS tx le e) (nxE tx le e))))) ∧ Ln g' la ta ls le (nxS tx le e) (nxE tx le e) wf wl ∧ gh_N [la] g g') := by
  refine gMet.of [some (.ref la), some (.int (nI (bn b))), none] (by decide +kernel) rfl (Nat.le_of_ble_eq_true rfl) rfl (fun X hK hI hE => ?_)
  obtain ⟨ht1, ht2⟩ := hT.len
  obtain ⟨b1, b2⟩ := nxS_le (tx := tx) he
  obtain ⟨b3, b4⟩ := nxE_le (tx := tx) he
  refine gh_aload_n hK d_Ln_nextIsPart_0 rfl ?_
  refine gh_callV (rest := []) [] hK (c_Ln_next l G h hT he hle) Y_Ln_next V_Ln_next km_Ln_34 h rfl rfl d_Ln_nextIsPart_1 rfl rfl (Nat.le_of_ble_eq_true rfl) ⟨(Nat.le_of_ble_eq_true rfl), (Nat.le_of_ble_eq_true rfl)⟩ ⟨(Nat.le_of_ble_eq_true rfl), (Nat.le_of_ble_eq_true rfl)⟩ (fun v g1 hp => ?_)
  obtain ⟨rfl, hp1, hpN⟩ := hp
  show gh_W l G _ X g1 _ _ [some (.ref la), some (.int (nI (bn b))), none] 4 [.int (nI (bn (decide (nxS tx le e < nxE tx le e))))]
  have hT1 := h.T hT hpN
  generalize nxS tx le e = s1 at b1 b2 b3 hp1 hE ⊢
  generalize nxE tx le e = e1 at b3 b4 hp1 hE ⊢
  refine gh_if_neB hK d_Ln_nextIsPart_4 (tgt := 9) (by decide) (fun z => ?_) (fun z => ?_)
  · refine gh_aload_n hK d_Ln_nextIsPart_9 rfl ?_
    refine gh_ldcS (i := 7) hK d_Ln_nextIsPart_10 (by decide) rfl ?_
    refine gh_callV (rest := []) [.ref (G.2.2.1 7)] hK (c_Ln_is l G hp1 hT1 b3 (by omega) (i := 7) (by decide)) Y_Ln_is V_Ln_is km_Ln_73 hp1 rfl rfl d_Ln_nextIsPart_12 rfl rfl (Nat.le_of_ble_eq_true rfl) ⟨(Nat.le_of_ble_eq_true rfl), (Nat.le_of_ble_eq_true rfl)⟩ ⟨(Nat.le_of_ble_eq_true rfl), (Nat.le_of_ble_eq_true rfl)⟩ (fun v g' hp => ?_)
    rw [hp.1, hp.2]
    show gh_W l G _ X g1 _ _ [some (.ref la), some (.int (nI (bn b))), none] 15 [.int (nI (bn (pcI tx s1 e1 [48])))]
    refine gh_if_eqB hK d_Ln_nextIsPart_15 (tgt := 20) (by decide) (fun z0 => ?_) (fun z0 => ?_)
    · have loop : ∀ (m i : Nat), i + m = e1 → sc (ptL tx b) e1 i = sc (ptL tx b) e1 s1 → gh_W l G (rmk 5 0 0 107) X g1 0 0 [some (.ref la), some (.int (nI (bn b))), some (.int (nI i))] 25 [] := by
        intro m
        induction m with
        | zero =>
          intro i hi hq
          obtain rfl : i = e1 := by omega
          rw [sc_out (Nat.le_refl _)] at hq
          refine gh_iload_n hK d_Ln_nextIsPart_25 rfl ?_
          refine gh_aload_n hK d_Ln_nextIsPart_26 rfl ?_
          refine gh_get hK d_Ln_nextIsPart_27 in_Ln rfl hp1 4 (by decide) kf_Ln_25 rfl rfl ?_
          refine gh_icmp_geN hK d_Ln_nextIsPart_30 (tgt := 72) (by decide) (by omega) (by omega) (fun z3 => ?_) (fun z3 => absurd z3 (by omega))
          refine gh_aload_n hK d_Ln_nextIsPart_72 rfl ?_
          refine gh_get hK d_Ln_nextIsPart_73 in_Ln rfl hp1 4 (by decide) kf_Ln_25 rfl rfl ?_
          refine gh_aload_n hK d_Ln_nextIsPart_76 rfl ?_
          refine gh_get hK d_Ln_nextIsPart_77 in_Ln rfl hp1 3 (by decide) kf_Ln_22 rfl rfl ?_
          refine gh_subN hK d_Ln_nextIsPart_80 (by omega) ?_
          refine gh_bipush (v := nI 6) hK d_Ln_nextIsPart_81 (by decide) ?_
          refine gh_icmp_gtN hK d_Ln_nextIsPart_83 (tgt := 90) (by decide) (by omega) (by decide) (fun z4 => ?_) (fun z4 => ?_)
          · refine gh_iconst (v := nI 0) hK d_Ln_nextIsPart_90 (by decide) ?_
            exact gh_zret rfl hK hE d_Ln_nextIsPart_91 (Nat.le_of_ble_eq_true rfl) (Nat.le_of_ble_eq_true rfl) ⟨by rw [ptO, z, z0, decide_eq_true hq.symm, decide_eq_false (by omega)]; rfl, hp1, hpN⟩
          · refine gh_iconst (v := nI 1) hK d_Ln_nextIsPart_86 (by decide) ?_
            refine gh_goto (tgt := 91) hK d_Ln_nextIsPart_87 (by decide) ?_
            exact gh_zret rfl hK hE d_Ln_nextIsPart_91 (Nat.le_of_ble_eq_true rfl) (Nat.le_of_ble_eq_true rfl) ⟨by rw [ptO, z, z0, decide_eq_true hq.symm, decide_eq_true z4]; rfl, hp1, hpN⟩
        | succ m ih =>
          intro i hi hq
          refine gh_iload_n hK d_Ln_nextIsPart_25 rfl ?_
          refine gh_aload_n hK d_Ln_nextIsPart_26 rfl ?_
          refine gh_get hK d_Ln_nextIsPart_27 in_Ln rfl hp1 4 (by decide) kf_Ln_25 rfl rfl ?_
          refine gh_icmp_geN hK d_Ln_nextIsPart_30 (tgt := 72) (by decide) (by omega) (by omega) (fun z3 => absurd z3 (by omega)) (fun z3 => ?_)
          refine gh_aload_n hK d_Ln_nextIsPart_33 rfl ?_
          refine gh_get hK d_Ln_nextIsPart_34 in_Ln rfl hp1 0 (by decide) kf_Ln_9 rfl rfl ?_
          refine gh_iload_n hK d_Ln_nextIsPart_37 rfl ?_
          refine gh_callV (rest := []) [.int (nI i)] hK (c_Lt_at l G hT1 (j := i) (by omega)) Y_Lt_at V_Lt_at km_Ln_28 hT1.ob rfl rfl d_Ln_nextIsPart_38 rfl rfl (Nat.le_of_ble_eq_true rfl) ⟨(Nat.le_of_ble_eq_true rfl), (Nat.le_of_ble_eq_true rfl)⟩ ⟨(Nat.le_of_ble_eq_true rfl), (Nat.le_of_ble_eq_true rfl)⟩ (fun v g' hp => ?_)
          rw [hp.1, hp.2]
          show gh_W l G _ X g1 _ _ [some (.ref la), some (.int (nI (bn b))), some (.int (nI i))] 41 [.int (nI (tx.getD i 0))]
          have hch := hT1.getD i
          refine gh_callS (rest := []) [.int (nI (tx.getD i 0))] hK (c_Ln_isLetter l G (g := g1) hch) Y_Ln_isLetter V_Ln_isLetter km_Ln_53 rfl d_Ln_nextIsPart_41 rfl rfl (Nat.le_of_ble_eq_true rfl) ⟨(Nat.le_of_ble_eq_true rfl), (Nat.le_of_ble_eq_true rfl)⟩ ⟨(Nat.le_of_ble_eq_true rfl), (Nat.le_of_ble_eq_true rfl)⟩ (fun v g' hp => ?_)
          rw [hp.1, hp.2]
          show gh_W l G _ X g1 _ _ [some (.ref la), some (.int (nI (bn b))), some (.int (nI i))] 44 [.int (nI (bn (isLet (tx.getD i 0))))]
          refine gh_if_neB hK d_Ln_nextIsPart_44 (tgt := 66) (by decide) (fun z4 => ?_) (fun z4 => ?_)
          · refine gh_incN (lv' := [some (.ref la), some (.int (nI (bn b))), some (.int (nI (i + 1)))]) hK d_Ln_nextIsPart_66 rfl rfl ?_
            refine gh_goto (tgt := 25) hK d_Ln_nextIsPart_69 (by decide) ?_
            exact ih (i + 1) (by omega) (by rw [← hq]; exact (sc_yes (i := i) (by omega) (by rw [ptL, z4]; rfl)).symm)
          · refine gh_iload_n hK d_Ln_nextIsPart_47 rfl ?_
            refine gh_if_eqB hK d_Ln_nextIsPart_48 (tgt := 64) (by decide) (fun z5 => ?_) (fun z5 => ?_)
            · refine gh_iconst (v := nI 0) hK d_Ln_nextIsPart_64 (by decide) ?_
              rw [sc_no (i := i) (by rw [ptL, z4, z5]; simp)] at hq
              exact gh_zret rfl hK hE d_Ln_nextIsPart_65 (Nat.le_of_ble_eq_true rfl) (Nat.le_of_ble_eq_true rfl) ⟨by rw [ptO, z, z0, decide_eq_false (by omega : ¬ sc (ptL tx b) e1 s1 = e1)]; rfl, hp1, hpN⟩
            · refine gh_aload_n hK d_Ln_nextIsPart_51 rfl ?_
              refine gh_get hK d_Ln_nextIsPart_52 in_Ln rfl hp1 0 (by decide) kf_Ln_9 rfl rfl ?_
              refine gh_iload_n hK d_Ln_nextIsPart_55 rfl ?_
              refine gh_callV (rest := []) [.int (nI i)] hK (c_Lt_at l G hT1 (j := i) (by omega)) Y_Lt_at V_Lt_at km_Ln_28 hT1.ob rfl rfl d_Ln_nextIsPart_56 rfl rfl (Nat.le_of_ble_eq_true rfl) ⟨(Nat.le_of_ble_eq_true rfl), (Nat.le_of_ble_eq_true rfl)⟩ ⟨(Nat.le_of_ble_eq_true rfl), (Nat.le_of_ble_eq_true rfl)⟩ (fun v g' hp => ?_)
              rw [hp.1, hp.2]
              show gh_W l G _ X g1 _ _ [some (.ref la), some (.int (nI (bn b))), some (.int (nI i))] 59 [.int (nI (tx.getD i 0))]
              refine gh_bipush (v := nI 46) hK d_Ln_nextIsPart_59 (by decide) ?_
              refine gh_icmp_eqN hK d_Ln_nextIsPart_61 (tgt := 66) (by decide) (by omega) (by decide) (fun z6 => ?_) (fun z6 => ?_)
              · refine gh_incN (lv' := [some (.ref la), some (.int (nI (bn b))), some (.int (nI (i + 1)))]) hK d_Ln_nextIsPart_66 rfl rfl ?_
                refine gh_goto (tgt := 25) hK d_Ln_nextIsPart_69 (by decide) ?_
                exact ih (i + 1) (by omega) (by rw [← hq]; exact (sc_yes (i := i) (by omega) (by rw [ptL, z4, z5, decide_eq_true z6]; rfl)).symm)
              · refine gh_iconst (v := nI 0) hK d_Ln_nextIsPart_64 (by decide) ?_
                rw [sc_no (i := i) (by rw [ptL, z4, z5, decide_eq_false z6]; simp)] at hq
                exact gh_zret rfl hK hE d_Ln_nextIsPart_65 (Nat.le_of_ble_eq_true rfl) (Nat.le_of_ble_eq_true rfl) ⟨by rw [ptO, z, z0, decide_eq_false (by omega : ¬ sc (ptL tx b) e1 s1 = e1)]; rfl, hp1, hpN⟩
      refine gh_aload_n hK d_Ln_nextIsPart_20 rfl ?_
      refine gh_get hK d_Ln_nextIsPart_21 in_Ln rfl hp1 3 (by decide) kf_Ln_22 rfl rfl ?_
      refine gh_istore_n (lv' := [some (.ref la), some (.int (nI (bn b))), some (.int (nI s1))]) hK d_Ln_nextIsPart_24 (Nat.le_of_ble_eq_true rfl) rfl ?_
      exact loop (e1 - s1) s1 (by omega) rfl
    · refine gh_iconst (v := nI 1) hK d_Ln_nextIsPart_18 (by decide) ?_
      exact gh_zret rfl hK hE d_Ln_nextIsPart_19 (Nat.le_of_ble_eq_true rfl) (Nat.le_of_ble_eq_true rfl) ⟨by rw [ptO, z, z0]; rfl, hp1, hpN⟩
  · refine gh_iconst (v := nI 0) hK d_Ln_nextIsPart_7 (by decide) ?_
    exact gh_zret rfl hK hE d_Ln_nextIsPart_8 (Nat.le_of_ble_eq_true rfl) (Nat.le_of_ble_eq_true rfl) ⟨by rw [ptO, z]; rfl, hp1, hpN⟩
/-- the letters of a part: none for 0 -/
def ptW (tx : List Nat) (s e : Nat) : List Nat := if pcI tx s e [48] = true then [] else (tx.drop s).take (e - s)
set_option maxRecDepth 20000 in
set_option maxHeartbeats 4000000 in
theorem c_Ln_part (l : Launch) (G : GG) {g : GH} {la ta ls le s e wf wl : Nat} {tb : Nat} {tx : List Nat} (T U : Nat) (h : Ln g la ta ls le s e wf wl) (hT : Lt G g ta 1 tb 2 2048 tx) (hse : s ≤ e) (he : e ≤ tx.length) : gMet l G y_Ln_part b_Ln_part 1 (some (.object "SpellDesk$Letters")) (rmk 5 2 (2 + (e - s)) 107) [.ref la] g (fun v g' => ∃ a1 b1, v = some (.ref a1) ∧ g a1 = none ∧ g b1 = none ∧ Lt G g' a1 T b1 U (ptW tx s e).length (ptW tx s e) ∧ gh_N [] g g') := by
  refine gMet.of [some (.ref la)] (by decide +kernel) rfl (Nat.le_of_ble_eq_true rfl) rfl (fun X hK hI hE => ?_)
  obtain ⟨ht1, ht2⟩ := hT.len
  refine gh_aload_n hK d_Ln_part_0 rfl ?_
  refine gh_get hK d_Ln_part_1 in_Ln rfl h 0 (by decide) kf_Ln_9 rfl rfl ?_
  refine gh_aload_n hK d_Ln_part_4 rfl ?_
  refine gh_get hK d_Ln_part_5 in_Ln rfl h 3 (by decide) kf_Ln_22 rfl rfl ?_
  refine gh_aload_n hK d_Ln_part_8 rfl ?_
  refine gh_ldcS (i := 7) hK d_Ln_part_9 (by decide) rfl ?_
  refine gh_callV (rest := [.int (nI s), .ref ta]) [.ref (G.2.2.1 7)] hK (c_Ln_is l G h hT hse he (i := 7) (by decide)) Y_Ln_is V_Ln_is km_Ln_73 h rfl rfl d_Ln_part_11 rfl rfl (Nat.le_of_ble_eq_true rfl) ⟨(Nat.le_of_ble_eq_true rfl), (Nat.le_of_ble_eq_true rfl)⟩ ⟨Nat.zero_le _, Nat.zero_le _⟩ (fun v g' hp => ?_)
  rw [hp.1, hp.2]
  show gh_W l G _ X g 0 0 [some (.ref la)] 14 [.int (nI (bn (pcI tx s e [48]))), .int (nI s), .ref ta]
  refine gh_if_eqB hK d_Ln_part_14 (tgt := 21) (by decide) (fun z => ?_) (fun z => ?_)
  · refine gh_aload_n hK d_Ln_part_21 rfl ?_
    refine gh_get hK d_Ln_part_22 in_Ln rfl h 4 (by decide) kf_Ln_25 rfl rfl ?_
    refine gh_aload_n hK d_Ln_part_25 rfl ?_
    refine gh_get hK d_Ln_part_26 in_Ln rfl h 3 (by decide) kf_Ln_22 rfl rfl ?_
    refine gh_subN hK d_Ln_part_29 (by omega) ?_
    refine gh_callV (rest := []) [.int (nI s), .int (nI (e - s))] hK (c_Lt_copy l G (fr := s) (len := e - s) T U hT (by omega)) Y_Lt_copy V_Lt_copy km_Ln_77 hT.ob rfl rfl d_Ln_part_30 rfl rfl (Nat.le_of_ble_eq_true rfl) ⟨(Nat.le_of_ble_eq_true rfl), (Nat.le_of_ble_eq_true rfl)⟩ ⟨(Nat.le_of_ble_eq_true rfl), by show 0 + (2 + (e - s)) ≤ 2 + (e - s); omega⟩ (fun v g1 hp => ?_)
    obtain ⟨a1, b1, rfl, ha1, hb1, hp1, hpN⟩ := hp
    show gh_W l G _ X g1 2 (0 + (2 + (e - s))) [some (.ref la)] 33 [.ref a1]
    have ew : ptW tx s e = (tx.drop s).take (e - s) := if_neg (by rw [z]; decide)
    refine gh_aret (Or.inl ⟨_, rfl⟩) (Or.inr ⟨_, rfl⟩) hK hE d_Ln_part_33 (Nat.le_refl _) (by show 0 + (2 + (e - s)) ≤ 2 + (e - s); omega) ⟨a1, b1, rfl, ha1, hb1, ?_, hpN⟩
    rw [ew, slice_len (by omega)]
    exact hp1
  · refine gh_iconst (v := nI 0) hK d_Ln_part_17 (by decide) ?_
    refine gh_goto (tgt := 30) hK d_Ln_part_18 (by decide) ?_
    refine gh_callV (rest := []) [.int (nI s), .int (nI 0)] hK (c_Lt_copy l G (fr := s) (len := 0) T U hT (by omega)) Y_Lt_copy V_Lt_copy km_Ln_77 hT.ob rfl rfl d_Ln_part_30 rfl rfl (Nat.le_of_ble_eq_true rfl) ⟨(Nat.le_of_ble_eq_true rfl), (Nat.le_of_ble_eq_true rfl)⟩ ⟨(Nat.le_of_ble_eq_true rfl), by show 0 + (2 + (0)) ≤ 2 + (e - s); omega⟩ (fun v g1 hp => ?_)
    obtain ⟨a1, b1, rfl, ha1, hb1, hp1, hpN⟩ := hp
    show gh_W l G _ X g1 2 (0 + (2 + (0))) [some (.ref la)] 33 [.ref a1]
    have ew : ptW tx s e = (tx.drop s).take (0) := if_pos z
    refine gh_aret (Or.inl ⟨_, rfl⟩) (Or.inr ⟨_, rfl⟩) hK hE d_Ln_part_33 (Nat.le_refl _) (by show 0 + (2 + (0)) ≤ 2 + (e - s); omega) ⟨a1, b1, rfl, ha1, hb1, ?_, hpN⟩
    rw [ew, slice_len (by omega)]
    exact hp1
