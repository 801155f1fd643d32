def fmP (u1 u2 : RuR) (w : List Nat) (ef : Nat) (ws : List (List Nat)) : List (List Nat) := if goO false u2.1 u2.2.1 u2.2.2.2 w ef = true then (match fmF u1 u2 w with
  | some f => addW f ws
  | none => ws) else ws
def fmS (u1 : RuR) (us2 : List (Nat × RuR)) (w : List Nat) (ef : Nat) : Nat → Nat → List (List Nat) → List (List Nat)
  | 0, _, ws => ws
  | k + 1, s, ws => fmS u1 us2 w ef k (s + 1) (fmP u1 (rlN us2 s) w ef ws)
def fmO (us1 us2 : List (Nat × RuR)) (w : List Nat) (ef : Nat) : Nat → Nat → List (List Nat) → List (List Nat)
  | 0, _, ws => ws
  | k + 1, p, ws => fmO us1 us2 w ef k (p + 1) (if goO true (rlN us1 p).1 (rlN us1 p).2.1 (rlN us1 p).2.2.2 w ef = true then fmS (rlN us1 p) us2 w ef (us2.length + 1) 0 ws else ws)
/-- the state while forms are made -/
def FmJ (G : GG) (g0 g : GH) (A : Nat → Nat) (c : Nat) (ws : List (List Nat)) : Prop := ∃ fx fp, FmI G g A fx fp ∧ fx.length ≤ 28 * c ∧ fp.length ≤ c ∧ wls fx fp = ws ∧ gh_M [34, 35, 36, 37, 38] g0 g
theorem FmJ.up {G : GG} {g0 g : GH} {A : Nat → Nat} {c c2 : Nat} {ws : List (List Nat)} (h : FmJ G g0 g A c ws) (hc : c ≤ c2) : FmJ G g0 g A c2 ws := by
  obtain ⟨fx, fp, k1, k2, k3, k4⟩ := h
  exact ⟨fx, fp, k1, by omega, by omega, k4⟩
set_option maxRecDepth 20000 in
set_option maxHeartbeats 4000000 in
theorem c_Sp_formsOf (l : Launch) (G : GG) {g : GH} {A : Nat → Nat} {n ea ef : Nat} {es : List (Nat × List Nat × Nat)} {us1 us2 : List (Nat × RuR)} {tx w fx0 : List Nat} {fp0 : List (Nat × Nat)} (h : SpO g A n) (hm : FmI G g A fx0 fp0) (hfx : FX G g A es us1 us2 tx) (hfb : FXb es us1 us2) (hB1 : ∀ x, x ∈ us1 → RuB x.2) (hB2 : ∀ x, x ∈ us2 → RuB x.2) (he : En G g ea w ef) (hwl : w.length ≤ 16) (hef : ef < 2 ^ 26) : gMet l G y_Sp_formsOf b_Sp_formsOf 6 (some (.object "SpellDesk$WordList")) (rmk 4 0 0 116) [.ref (A 30), .ref ea] g (fun v g' => v = some (.ref (A 36)) ∧ FmJ G g g' A 81 (fmO us1 us2 w ef (us1.length + 1) 0 [])) := by
  refine gMet.of [some (.ref (A 30)), some (.ref ea), none, none, none, none] (by decide +kernel) rfl (Nat.le_of_ble_eq_true rfl) rfl (fun X hK hI hE => ?_)
  obtain ⟨fb1, fb2, fb3, fb4, fb5, fb6, fb7⟩ := hfb
  have h0 : g (A 30) = some (30, .inr (8, [.ref (A 7), .ref (A 10), .ref (A 20), .ref (A 31), .ref (A 33), .ref (A 34), .ref (A 36), .int (nI n)])) := h
  have inner : ∀ (R0 : List (List Nat)) (p q1 : Nat) (u1 : RuR), u1 = rlN us1 p → p ≤ 8 → RuX G g q1 true u1 → (∀ (g2 : GH) (o4 o5 : Option Value), FmJ G g g2 A (9 * p + 9) R0 → gh_W l G (rmk 4 0 0 116) X g2 0 0 [some (.ref (A 30)), some (.ref ea), some (.int (nI p)), some (.ref q1), o4, o5] 96 []) → ∀ (m s : Nat) (g1 : GH) (ws1 : List (List Nat)) (o5 : Option Value), s + m = us2.length + 1 → FmJ G g g1 A (9 * p + s) ws1 → fmS u1 us2 w ef m s ws1 = R0 → gh_W l G (rmk 4 0 0 116) X g1 0 0 [some (.ref (A 30)), some (.ref ea), some (.int (nI p)), some (.ref q1), some (.int (nI s)), o5] 50 [] := by
    intro R0 p q1 u1 hu1 hp8 hq1 out m
    induction m with
    | zero =>
      intro s g1 ws1 o5 hs hi1 hR
      obtain ⟨fx, fp, k1, k2, k3, k4, k5⟩ := id hi1
      have fxx := hfx.M k5 (by decide)
      have i1 : g1 (A 30) = _ := k5 _ _ _ h0 (by decide)
      refine gh_iload hK d_Sp_formsOf_50 rfl ?_
      refine gh_aload_n hK d_Sp_formsOf_52 rfl ?_
      refine gh_get hK d_Sp_formsOf_53 in_Sp rfl i1 2 (by decide) kf_Sp_19 rfl rfl ?_
      refine gh_callV (rest := [.int (nI s)]) [] hK (c_Rs_count l G fxx.2.2.1) Y_Rs_count V_Rs_count km_Sp_51 fxx.2.2.1.1 rfl rfl d_Sp_formsOf_56 rfl rfl (Nat.le_of_ble_eq_true rfl) ⟨(Nat.le_of_ble_eq_true rfl), (Nat.le_of_ble_eq_true rfl)⟩ ⟨(Nat.le_of_ble_eq_true rfl), (Nat.le_of_ble_eq_true rfl)⟩ (fun v g' hp => ?_)
      rw [hp.1, hp.2]
      show gh_W l G _ X g1 _ _ [some (.ref (A 30)), some (.ref ea), some (.int (nI p)), some (.ref q1), some (.int (nI s)), o5] 59 [.int (nI us2.length), .int (nI s)]
      refine gh_icmp_gtN hK d_Sp_formsOf_59 (tgt := 96) (by decide) (by omega) (by omega) (fun z => ?_) (fun z => absurd z (by omega))
      exact out g1 _ o5 (by rw [← hR]; exact hi1.up (by omega))
    | succ m ih =>
      intro s g1 ws1 o5 hs hi1 hR
      obtain ⟨fx, fp, k1, k2, k3, k4, k5⟩ := id hi1
      have fxx := hfx.M k5 (by decide)
      have i1 : g1 (A 30) = _ := k5 _ _ _ h0 (by decide)
      have i0 : SpO g1 A n := i1
      rw [fmS] at hR
      have nxt : ∀ (g2 : GH) (o5 : Option Value), FmJ G g g2 A (9 * p + s + 1) (fmP u1 (rlN us2 s) w ef ws1) → gh_W l G (rmk 4 0 0 116) X g2 0 0 [some (.ref (A 30)), some (.ref ea), some (.int (nI p)), some (.ref q1), some (.int (nI s)), o5] 90 [] := by
        intro g2 o5 hi2
        refine gh_incN (lv' := [some (.ref (A 30)), some (.ref ea), some (.int (nI p)), some (.ref q1), some (.int (nI (s + 1))), o5]) hK d_Sp_formsOf_90 rfl rfl ?_
        refine gh_goto (tgt := 50) hK d_Sp_formsOf_93 (by decide) ?_
        exact ih (s + 1) g2 _ o5 (by omega) hi2 hR
      refine gh_iload hK d_Sp_formsOf_50 rfl ?_
      refine gh_aload_n hK d_Sp_formsOf_52 rfl ?_
      refine gh_get hK d_Sp_formsOf_53 in_Sp rfl i1 2 (by decide) kf_Sp_19 rfl rfl ?_
      refine gh_callV (rest := [.int (nI s)]) [] hK (c_Rs_count l G fxx.2.2.1) Y_Rs_count V_Rs_count km_Sp_51 fxx.2.2.1.1 rfl rfl d_Sp_formsOf_56 rfl rfl (Nat.le_of_ble_eq_true rfl) ⟨(Nat.le_of_ble_eq_true rfl), (Nat.le_of_ble_eq_true rfl)⟩ ⟨(Nat.le_of_ble_eq_true rfl), (Nat.le_of_ble_eq_true rfl)⟩ (fun v g' hp => ?_)
      rw [hp.1, hp.2]
      show gh_W l G _ X g1 _ _ [some (.ref (A 30)), some (.ref ea), some (.int (nI p)), some (.ref q1), some (.int (nI s)), o5] 59 [.int (nI us2.length), .int (nI s)]
      refine gh_icmp_gtN hK d_Sp_formsOf_59 (tgt := 96) (by decide) (by omega) (by omega) (fun z => absurd z (by omega)) (fun z => ?_)
      refine gh_aload_n hK d_Sp_formsOf_62 rfl ?_
      refine gh_get hK d_Sp_formsOf_63 in_Sp rfl i1 2 (by decide) kf_Sp_19 rfl rfl ?_
      refine gh_iload hK d_Sp_formsOf_66 rfl ?_
      have hq2 := fxx.2.2.1.x (Or.inr rfl) (j := s) (by omega)
      generalize hQ2 : rlA (A 23) us2 s = q2 at hq2
      refine gh_callV (rest := []) [.int (nI s)] hK (c_Rs_at l G fxx.2.2.1 (Or.inr rfl) (j := s) (by omega)) Y_Rs_at V_Rs_at km_Sp_57 fxx.2.2.1.1 rfl rfl d_Sp_formsOf_68 rfl rfl (Nat.le_of_ble_eq_true rfl) ⟨(Nat.le_of_ble_eq_true rfl), (Nat.le_of_ble_eq_true rfl)⟩ ⟨(Nat.le_of_ble_eq_true rfl), (Nat.le_of_ble_eq_true rfl)⟩ (fun v g' hp => ?_)
      rw [hp.1, hp.2, hQ2]
      show gh_W l G _ X g1 _ _ [some (.ref (A 30)), some (.ref ea), some (.int (nI p)), some (.ref q1), some (.int (nI s)), o5] 71 [.ref q2]
      have hu2f := rlN_fl fb7 s
      have hu2B := rlN_B hB2 s
      generalize hu2 : rlN us2 s = u2 at hq2 hu2f hu2B nxt hR
      obtain ⟨tt1, tt2, tt3, mm1, mm2, mm3, ru2⟩ := id hq2
      obtain ⟨x1, x2, x3, x4, x5, x6, rb2, -⟩ := id ru2
      have hen := he.M k5 (by decide) (by decide) (by decide)
      refine gh_astore (lv' := [some (.ref (A 30)), some (.ref ea), some (.int (nI p)), some (.ref q1), some (.int (nI s)), some (.ref q2)]) hK d_Sp_formsOf_71 (Nat.le_of_ble_eq_true rfl) rfl ?_
      refine gh_aload hK d_Sp_formsOf_73 rfl ?_
      refine gh_aload_n hK d_Sp_formsOf_75 rfl ?_
      refine gh_callV (rest := []) [.ref ea] hK (c_Ru_goesWith l G ru2 hen hu2f hef) Y_Ru_goesWith V_Ru_goesWith km_Sp_81 rb2 rfl rfl d_Sp_formsOf_76 rfl rfl (Nat.le_of_ble_eq_true rfl) ⟨(Nat.le_of_ble_eq_true rfl), (Nat.le_of_ble_eq_true rfl)⟩ ⟨(Nat.le_of_ble_eq_true rfl), (Nat.le_of_ble_eq_true rfl)⟩ (fun v g' hp => ?_)
      rw [hp.1, hp.2]
      show gh_W l G _ X g1 _ _ [some (.ref (A 30)), some (.ref ea), some (.int (nI p)), some (.ref q1), some (.int (nI s)), some (.ref q2)] 79 [.int (nI (bn (goO false u2.1 u2.2.1 u2.2.2.2 w ef)))]
      refine gh_if_eqB hK d_Sp_formsOf_79 (tgt := 90) (by decide) (fun z3 => ?_) (fun z3 => ?_)
      · exact nxt g1 _ (by rw [fmP, if_neg (by rw [z3]; decide)]; exact hi1.up (by omega))
      · refine gh_aload_n hK d_Sp_formsOf_82 rfl ?_
        refine gh_aload_n hK d_Sp_formsOf_83 rfl ?_
        refine gh_aload_n hK d_Sp_formsOf_84 rfl ?_
        refine gh_aload hK d_Sp_formsOf_85 rfl ?_
        refine gh_callV (rest := []) [.ref ea, .ref q1, .ref q2] hK (c_Sp_putForm l G i0 k1 (hq1.M k5 (by decide)) hq2 hen hwl (by rw [hu1]; exact rlN_B hB1 p) hu2B (by omega) (by omega)) Y_Sp_putForm V_Sp_putForm km_Sp_99 i1 rfl rfl d_Sp_formsOf_87 rfl rfl (Nat.le_of_ble_eq_true rfl) ⟨(Nat.le_of_ble_eq_true rfl), (Nat.le_of_ble_eq_true rfl)⟩ ⟨(Nat.le_of_ble_eq_true rfl), (Nat.le_of_ble_eq_true rfl)⟩ (fun v g2 hp => ?_)
        obtain ⟨rfl, ⟨fx2, fp2, r1, r2, r3, r4⟩, hp3⟩ := hp
        show gh_W l G _ X g2 _ _ [some (.ref (A 30)), some (.ref ea), some (.int (nI p)), some (.ref q1), some (.int (nI s)), some (.ref q2)] 90 []
        refine nxt g2 _ ⟨fx2, fp2, r1, by omega, by omega, ?_, k5.tr hp3⟩
        rw [r4, fmP, if_pos z3, k4]
        cases fmF u1 u2 w <;> rfl
  have outer : ∀ (m p : Nat) (g1 : GH) (ws1 : List (List Nat)) (o3 o4 o5 : Option Value), p + m = us1.length + 1 → FmJ G g g1 A (9 * p) ws1 → fmO us1 us2 w ef m p ws1 = fmO us1 us2 w ef (us1.length + 1) 0 [] → gh_W l G (rmk 4 0 0 116) X g1 0 0 [some (.ref (A 30)), some (.ref ea), some (.int (nI p)), o3, o4, o5] 16 [] := by
    intro m
    induction m with
    | zero =>
      intro p g1 ws1 o3 o4 o5 hp hi1 hR
      obtain ⟨fx, fp, k1, k2, k3, k4, k5⟩ := id hi1
      have fxx := hfx.M k5 (by decide)
      have i1 : g1 (A 30) = _ := k5 _ _ _ h0 (by decide)
      refine gh_iload_n hK d_Sp_formsOf_16 rfl ?_
      refine gh_aload_n hK d_Sp_formsOf_17 rfl ?_
      refine gh_get hK d_Sp_formsOf_18 in_Sp rfl i1 1 (by decide) kf_Sp_15 rfl rfl ?_
      refine gh_callV (rest := [.int (nI p)]) [] hK (c_Rs_count l G fxx.2.1) Y_Rs_count V_Rs_count km_Sp_51 fxx.2.1.1 rfl rfl d_Sp_formsOf_21 rfl rfl (Nat.le_of_ble_eq_true rfl) ⟨(Nat.le_of_ble_eq_true rfl), (Nat.le_of_ble_eq_true rfl)⟩ ⟨(Nat.le_of_ble_eq_true rfl), (Nat.le_of_ble_eq_true rfl)⟩ (fun v g' hp => ?_)
      rw [hp.1, hp.2]
      show gh_W l G _ X g1 _ _ [some (.ref (A 30)), some (.ref ea), some (.int (nI p)), o3, o4, o5] 24 [.int (nI us1.length), .int (nI p)]
      refine gh_icmp_gtN hK d_Sp_formsOf_24 (tgt := 102) (by decide) (by omega) (by omega) (fun z => ?_) (fun z => absurd z (by omega))
      refine gh_aload_n hK d_Sp_formsOf_102 rfl ?_
      refine gh_get hK d_Sp_formsOf_103 in_Sp rfl i1 6 (by decide) kf_Sp_43 rfl rfl ?_
      exact gh_aret (Or.inl ⟨_, rfl⟩) (Or.inr ⟨_, rfl⟩) hK hE d_Sp_formsOf_106 (Nat.le_of_ble_eq_true rfl) (Nat.le_of_ble_eq_true rfl) ⟨rfl, by rw [← hR]; exact hi1.up (by omega)⟩
    | succ m ih =>
      intro p g1 ws1 o3 o4 o5 hp hi1 hR
      obtain ⟨fx, fp, k1, k2, k3, k4, k5⟩ := id hi1
      have fxx := hfx.M k5 (by decide)
      have i1 : g1 (A 30) = _ := k5 _ _ _ h0 (by decide)
      rw [fmO] at hR
      have nxt : ∀ (g2 : GH) (ws2 : List (List Nat)) (o3 o4 o5 : Option Value), FmJ G g g2 A (9 * p + 9) ws2 → ws2 = (if goO true (rlN us1 p).1 (rlN us1 p).2.1 (rlN us1 p).2.2.2 w ef = true then fmS (rlN us1 p) us2 w ef (us2.length + 1) 0 ws1 else ws1) → gh_W l G (rmk 4 0 0 116) X g2 0 0 [some (.ref (A 30)), some (.ref ea), some (.int (nI p)), o3, o4, o5] 96 [] := by
        intro g2 ws2 o3 o4 o5 hi2 he2
        refine gh_incN (lv' := [some (.ref (A 30)), some (.ref ea), some (.int (nI (p + 1))), o3, o4, o5]) hK d_Sp_formsOf_96 rfl rfl ?_
        refine gh_goto (tgt := 16) hK d_Sp_formsOf_99 (by decide) ?_
        exact ih (p + 1) g2 ws2 o3 o4 o5 (by omega) (hi2.up (by omega)) (by rw [he2]; exact hR)
      refine gh_iload_n hK d_Sp_formsOf_16 rfl ?_
      refine gh_aload_n hK d_Sp_formsOf_17 rfl ?_
      refine gh_get hK d_Sp_formsOf_18 in_Sp rfl i1 1 (by decide) kf_Sp_15 rfl rfl ?_
      refine gh_callV (rest := [.int (nI p)]) [] hK (c_Rs_count l G fxx.2.1) Y_Rs_count V_Rs_count km_Sp_51 fxx.2.1.1 rfl rfl d_Sp_formsOf_21 rfl rfl (Nat.le_of_ble_eq_true rfl) ⟨(Nat.le_of_ble_eq_true rfl), (Nat.le_of_ble_eq_true rfl)⟩ ⟨(Nat.le_of_ble_eq_true rfl), (Nat.le_of_ble_eq_true rfl)⟩ (fun v g' hp => ?_)
      rw [hp.1, hp.2]
      show gh_W l G _ X g1 _ _ [some (.ref (A 30)), some (.ref ea), some (.int (nI p)), o3, o4, o5] 24 [.int (nI us1.length), .int (nI p)]
      refine gh_icmp_gtN hK d_Sp_formsOf_24 (tgt := 102) (by decide) (by omega) (by omega) (fun z => absurd z (by omega)) (fun z => ?_)
      refine gh_aload_n hK d_Sp_formsOf_27 rfl ?_
      refine gh_get hK d_Sp_formsOf_28 in_Sp rfl i1 1 (by decide) kf_Sp_15 rfl rfl ?_
      refine gh_iload_n hK d_Sp_formsOf_31 rfl ?_
      have hq1g := hfx.2.1.x (Or.inl rfl) (j := p) (by omega)
      generalize hQ1 : rlA (A 13) us1 p = q1 at hq1g
      have hq1 := hq1g.M k5 (by decide)
      refine gh_callV (rest := []) [.int (nI p)] hK (c_Rs_at l G fxx.2.1 (Or.inl rfl) (j := p) (by omega)) Y_Rs_at V_Rs_at km_Sp_57 fxx.2.1.1 rfl rfl d_Sp_formsOf_32 rfl rfl (Nat.le_of_ble_eq_true rfl) ⟨(Nat.le_of_ble_eq_true rfl), (Nat.le_of_ble_eq_true rfl)⟩ ⟨(Nat.le_of_ble_eq_true rfl), (Nat.le_of_ble_eq_true rfl)⟩ (fun v g' hp => ?_)
      rw [hp.1, hp.2, hQ1]
      show gh_W l G _ X g1 _ _ [some (.ref (A 30)), some (.ref ea), some (.int (nI p)), o3, o4, o5] 35 [.ref q1]
      obtain ⟨vv1, vv2, vv3, nn1, nn2, nn3, ru1⟩ := id hq1
      obtain ⟨y1, y2, y3, y4, y5, y6, rb1, -⟩ := id ru1
      have hen := he.M k5 (by decide) (by decide) (by decide)
      refine gh_astore_n (lv' := [some (.ref (A 30)), some (.ref ea), some (.int (nI p)), some (.ref q1), o4, o5]) hK d_Sp_formsOf_35 (Nat.le_of_ble_eq_true rfl) rfl ?_
      refine gh_aload_n hK d_Sp_formsOf_36 rfl ?_
      refine gh_aload_n hK d_Sp_formsOf_37 rfl ?_
      refine gh_callV (rest := []) [.ref ea] hK (c_Ru_goesWith l G ru1 hen (rlN_fl fb6 p) hef) Y_Ru_goesWith V_Ru_goesWith km_Sp_81 rb1 rfl rfl d_Sp_formsOf_38 rfl rfl (Nat.le_of_ble_eq_true rfl) ⟨(Nat.le_of_ble_eq_true rfl), (Nat.le_of_ble_eq_true rfl)⟩ ⟨(Nat.le_of_ble_eq_true rfl), (Nat.le_of_ble_eq_true rfl)⟩ (fun v g' hp => ?_)
      rw [hp.1, hp.2]
      show gh_W l G _ X g1 _ _ [some (.ref (A 30)), some (.ref ea), some (.int (nI p)), some (.ref q1), o4, o5] 41 [.int (nI (bn (goO true (rlN us1 p).1 (rlN us1 p).2.1 (rlN us1 p).2.2.2 w ef)))]
      refine gh_if_neB hK d_Sp_formsOf_41 (tgt := 47) (by decide) (fun z3 => ?_) (fun z3 => ?_)
      · refine gh_iconst (v := nI 0) hK d_Sp_formsOf_47 (by decide) ?_
        refine gh_istore (lv' := [some (.ref (A 30)), some (.ref ea), some (.int (nI p)), some (.ref q1), some (.int (nI 0)), o5]) hK d_Sp_formsOf_48 (Nat.le_of_ble_eq_true rfl) rfl ?_
        exact inner _ p q1 _ rfl (by omega) hq1g (fun g2 o4 o5 hi2 => nxt g2 _ _ o4 o5 hi2 (by rw [if_pos z3])) (us2.length + 1) 0 g1 ws1 o5 (by omega) (hi1.up (by omega)) rfl
      · refine gh_goto (tgt := 96) hK d_Sp_formsOf_44 (by decide) ?_
        exact nxt g1 ws1 _ o4 o5 (hi1.up (by omega)) (by rw [if_neg (by rw [z3]; decide)])
  refine gh_aload_n hK d_Sp_formsOf_0 rfl ?_
  refine gh_get hK d_Sp_formsOf_1 in_Sp rfl h0 5 (by decide) kf_Sp_35 rfl rfl ?_
  refine gh_callV (rest := []) [] hK (c_Lt_clear l G hm.1) Y_Lt_clear V_Lt_clear km_Sp_95 hm.1.ob rfl rfl d_Sp_formsOf_4 rfl rfl (Nat.le_of_ble_eq_true rfl) ⟨(Nat.le_of_ble_eq_true rfl), (Nat.le_of_ble_eq_true rfl)⟩ ⟨(Nat.le_of_ble_eq_true rfl), (Nat.le_of_ble_eq_true rfl)⟩ (fun v g1 hp => ?_)
  obtain ⟨rfl, hb1, hN1⟩ := hp
  show gh_W l G _ X g1 _ _ [some (.ref (A 30)), some (.ref ea), none, none, none, none] 7 []
  have hM1 : gh_M [34] g g1 := hN1.M fun a ha => by
    rw [List.mem_singleton.mp ha]
    exact ⟨_, _, hm.1.ob, by decide⟩
  have hW1 := hm.2.1.M hM1 (by decide) (by decide) (by decide)
  have h1 : g1 (A 30) = _ := hM1 _ _ _ h0 (by decide)
  refine gh_aload_n hK d_Sp_formsOf_7 rfl ?_
  refine gh_get hK d_Sp_formsOf_8 in_Sp rfl h1 6 (by decide) kf_Sp_43 rfl rfl ?_
  refine gh_callV (rest := []) [] hK (c_Wl_clear l G hW1) Y_Wl_clear V_Wl_clear km_Sp_98 hW1.ob rfl rfl d_Sp_formsOf_11 rfl rfl (Nat.le_of_ble_eq_true rfl) ⟨(Nat.le_of_ble_eq_true rfl), (Nat.le_of_ble_eq_true rfl)⟩ ⟨(Nat.le_of_ble_eq_true rfl), (Nat.le_of_ble_eq_true rfl)⟩ (fun v g2 hp => ?_)
  obtain ⟨rfl, hW2, hN2⟩ := hp
  show gh_W l G _ X g2 _ _ [some (.ref (A 30)), some (.ref ea), none, none, none, none] 14 []
  have hM2 : gh_M [36] g1 g2 := hN2.M fun a ha => by
    rw [List.mem_singleton.mp ha]
    exact ⟨_, _, hW1.ob, by decide⟩
  refine gh_iconst (v := nI 0) hK d_Sp_formsOf_14 (by decide) ?_
  refine gh_istore_n (lv' := [some (.ref (A 30)), some (.ref ea), some (.int (nI 0)), none, none, none]) hK d_Sp_formsOf_15 (Nat.le_of_ble_eq_true rfl) rfl ?_
  exact outer (us1.length + 1) 0 g2 [] none none none (by omega) ⟨[], [], ⟨hb1.M hM2 (by decide) (by decide), hW2, fun p hp => absurd hp List.not_mem_nil, trivial⟩, by simp, by simp, rfl, (hM1.wd (by decide)).tr (hM2.wd (by decide))⟩ rfl
