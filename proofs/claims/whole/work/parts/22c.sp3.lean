/-! what stays while a word is looked into -/
def FX (G : GG) (g : GH) (A : Nat → Nat) (es : List (Nat × List Nat × Nat)) (us1 us2 : List (Nat × RuR)) (tx : List Nat) : Prop := Dc G g (A 7) (A 8) es ∧ Rs G g (A 10) (A 11) (A 13) 10 true us1 ∧ Rs G g (A 20) (A 21) (A 23) 20 false us2 ∧ Lt G g (A 1) 1 (A 2) 2 2048 tx
theorem FX.M {G : GG} {g g' : GH} {A : Nat → Nat} {es : List (Nat × List Nat × Nat)} {us1 us2 : List (Nat × RuR)} {tx : List Nat} {S : List Nat} (h : FX G g A es us1 us2 tx) (hM : gh_M S g g') (h1 : ∀ t, t ∈ [1, 2, 7, 8, 9, 10, 11, 12, 13, 14, 15, 20, 21, 22, 23, 24, 25, 50, 51, 52, 60, 61, 62] → t ∉ S) : FX G g' A es us1 us2 tx := by
  refine ⟨h.1.M hM (fun t ht => h1 t ?_), h.2.1.M hM (fun t ht => h1 t ?_), h.2.2.1.M hM (fun t ht => h1 t ?_), h.2.2.2.M hM (h1 1 (by decide)) (h1 2 (by decide))⟩
  · simp at ht ⊢; omega
  · simp at ht ⊢; omega
  · simp at ht ⊢; omega
/-- flags are bits, there are few rules and entries, the words are in order -/
def FXb (es : List (Nat × List Nat × Nat)) (us1 us2 : List (Nat × RuR)) : Prop := srtL (dws es) ∧ es.length ≤ 300 ∧ us1.length ≤ 8 ∧ us2.length ≤ 8 ∧ (∀ x, x ∈ es → x.2.2 < 2 ^ 26) ∧ (∀ x, x ∈ us1 → x.2.1 < 2 ^ 26) ∧ ∀ x, x ∈ us2 → x.2.1 < 2 ^ 26
theorem rlN_fl {us : List (Nat × RuR)} (h : ∀ x, x ∈ us → x.2.1 < 2 ^ 26) (j : Nat) : (rlN us j).1 < 2 ^ 26 := by
  unfold rlN
  split
  · exact Nat.pow_pos (by omega)
  · cases hx : us[j - 1]? with
    | none => exact Nat.pow_pos (by omega)
    | some x => exact h x (List.mem_of_getElem? hx)
/-- a way in which w is a form of an entry, by the prefix p and the suffix s -/
def wyM (es : List (Nat × List Nat × Nat)) (u1 u2 : RuR) (p s : Nat) (w : List Nat) : Option Nat := if stO true u1.2.2.1 w = true ∧ stO false u2.2.2.1 w = true then (match undB u1 u2 w with
  | none => none
  | some b => match es[rnkL b (dws es)]? with
    | none => none
    | some x => if x.2.1 = b ∧ goO true u1.1 u1.2.1 u1.2.2.2 x.2.1 x.2.2 = true ∧ goO false u2.1 u2.2.1 u2.2.2.2 x.2.1 x.2.2 = true then some ((rnkL b (dws es) * 9 + p) * 9 + s) else none) else none
def wyP (lim : Nat) (ws : List Nat) (o : Option Nat) : List Nat := if ws.length < lim then (match o with
  | some c => insA ws (posN c ws) c
  | none => ws) else ws
def wyS (es : List (Nat × List Nat × Nat)) (u1 : RuR) (us2 : List (Nat × RuR)) (p lim : Nat) (w : List Nat) : Nat → Nat → List Nat → List Nat
  | 0, _, ws => ws
  | k + 1, s, ws => wyS es u1 us2 p lim w k (s + 1) (wyP lim ws (wyM es u1 (rlN us2 s) p s w))
def wyO (es : List (Nat × List Nat × Nat)) (us1 us2 : List (Nat × RuR)) (lim : Nat) (w : List Nat) : Nat → Nat → List Nat → List Nat
  | 0, _, ws => ws
  | k + 1, p, ws => wyO es us1 us2 lim w k (p + 1) (wyS es (rlN us1 p) us2 p lim w (us2.length + 1) 0 ws)
theorem wyP_full {lim : Nat} {ws : List Nat} (h : lim ≤ ws.length) (o : Option Nat) : wyP lim ws o = ws := if_neg (by omega)
theorem wyS_full {es : List (Nat × List Nat × Nat)} {u1 : RuR} {us2 : List (Nat × RuR)} {p lim : Nat} {w : List Nat} {ws : List Nat} (h : lim ≤ ws.length) : ∀ k s, wyS es u1 us2 p lim w k s ws = ws
  | 0, _ => rfl
  | k + 1, s => by rw [wyS, wyP_full h]; exact wyS_full h k (s + 1)
theorem wyO_full {es : List (Nat × List Nat × Nat)} {us1 us2 : List (Nat × RuR)} {lim : Nat} {w : List Nat} {ws : List Nat} (h : lim ≤ ws.length) : ∀ k p, wyO es us1 us2 lim w k p ws = ws
  | 0, _ => rfl
  | k + 1, p => by rw [wyO, wyS_full h]; exact wyO_full h k (p + 1)
theorem wyP_none (lim : Nat) (ws : List Nat) : wyP lim ws none = ws := by unfold wyP; split <;> rfl
theorem wyS_no {es : List (Nat × List Nat × Nat)} {u1 : RuR} {us2 : List (Nat × RuR)} {p lim : Nat} {w : List Nat} {ws : List Nat} (h : stO true u1.2.2.1 w = false) : ∀ k s, wyS es u1 us2 p lim w k s ws = ws
  | 0, _ => rfl
  | k + 1, s => by
    rw [wyS, show wyM es u1 (rlN us2 s) p s w = none from if_neg (fun q => by rw [h] at q; cases q.1), wyP_none]
    exact wyS_no h k (s + 1)
/-- the state while ways are sought -/
def WyI (G : GG) (g0 g : GH) (A : Nat → Nat) (ws : List Nat) : Prop := SpO g A ws.length ∧ Wy G g A ws ∧ srtN ws ∧ ws.length ≤ 81 ∧ (∀ y, y ∈ ws → y < 1000000) ∧ (∃ bs, Lt G g (A 31) 31 (A 32) 32 16 bs) ∧ gh_M [30, 31, 32, 33] g0 g
set_option maxRecDepth 20000 in
set_option maxHeartbeats 4000000 in
theorem c_Sp_findWays (l : Launch) (G : GG) {g : GH} {A : Nat → Nat} {ws : List Nat} {es : List (Nat × List Nat × Nat)} {us1 us2 : List (Nat × RuR)} {tx : List Nat} {fo len lim : Nat} (hi : WyI G g g A ws) (hfx : FX G g A es us1 us2 tx) (hfb : FXb es us1 us2) (hf : fo + len ≤ tx.length) (hlim : lim ≤ 81) : gMet l G y_Sp_findWays b_Sp_findWays 11 (some .int) (rmk 5 0 0 110) [.ref (A 30), .ref (A 1), .int (nI fo), .int (nI len), .int (nI lim)] g (fun v g' => v = some (.int (nI (wyO es us1 us2 lim ((tx.drop fo).take len) (us1.length + 1) 0 []).length)) ∧ WyI G g g' A (wyO es us1 us2 lim ((tx.drop fo).take len) (us1.length + 1) 0 [])) := by
  refine gMet.of [some (.ref (A 30)), some (.ref (A 1)), some (.int (nI fo)), some (.int (nI len)), some (.int (nI lim)), none, none, none, none, none, none] (by decide +kernel) rfl (Nat.le_of_ble_eq_true rfl) rfl (fun X hK hI hE => ?_)
  obtain ⟨fb1, fb2, fb3, fb4, fb5, fb6, fb7⟩ := hfb
  obtain ⟨bl1, bl2⟩ := hfx.2.2.2.len
  have inner : ∀ (R0 : List Nat) (p q1 : Nat) (u1 : RuR), u1 = rlN us1 p → p ≤ 8 → stO true u1.2.2.1 ((tx.drop fo).take len) = true → (∀ (g2 : GH) (ws2 : List Nat) (o7 o8 o9 o10 : Option Value), WyI G g g2 A ws2 → ws2 = R0 → gh_W l G (rmk 5 0 0 110) X g2 0 0 [some (.ref (A 30)), some (.ref (A 1)), some (.int (nI fo)), some (.int (nI len)), some (.int (nI lim)), some (.int (nI p)), some (.ref q1), o7, o8, o9, o10] 210 []) → ∀ (m s : Nat) (g1 : GH) (ws1 : List Nat) (o8 o9 o10 : Option Value), s + m = us2.length + 1 → WyI G g g1 A ws1 → RuX G g q1 true u1 → wyS es u1 us2 p lim ((tx.drop fo).take len) m s ws1 = R0 → gh_W l G (rmk 5 0 0 110) X g1 0 0 [some (.ref (A 30)), some (.ref (A 1)), some (.int (nI fo)), some (.int (nI len)), some (.int (nI lim)), some (.int (nI p)), some (.ref q1), some (.int (nI s)), o8, o9, o10] 57 [] := by
    intro R0 p q1 u1 hu1 hp8 hst out m
    induction m with
    | zero =>
      intro s g1 ws1 o8 o9 o10 hs hi1 hq1 hR
      obtain ⟨i1, i2, i3, i4, i5, ⟨bs, i6⟩, i7⟩ := id hi1
      have fx := hfx.M i7 (by decide)
      have i1 : g1 (A 30) = some (30, .inr (8, [.ref (A 7), .ref (A 10), .ref (A 20), .ref (A 31), .ref (A 33), .ref (A 34), .ref (A 36), .int (nI ws1.length)])) := i1
      refine gh_iload hK d_Sp_findWays_57 rfl ?_
      refine gh_aload_n hK d_Sp_findWays_59 rfl ?_
      refine gh_get hK d_Sp_findWays_60 in_Sp rfl i1 2 (by decide) kf_Sp_19 rfl rfl ?_
      refine gh_callV (rest := [.int (nI s)]) [] hK (c_Rs_count l G fx.2.2.1) Y_Rs_count V_Rs_count km_Sp_51 fx.2.2.1.1 rfl rfl d_Sp_findWays_63 rfl rfl (Nat.le_of_ble_eq_true rfl) ⟨(Nat.le_of_ble_eq_true rfl), (Nat.le_of_ble_eq_true rfl)⟩ ⟨(Nat.le_of_ble_eq_true rfl), (Nat.le_of_ble_eq_true rfl)⟩ (fun v g' hp => ?_)
      rw [hp.1, hp.2]
      show gh_W l G _ X g1 _ _ [some (.ref (A 30)), some (.ref (A 1)), some (.int (nI fo)), some (.int (nI len)), some (.int (nI lim)), some (.int (nI p)), some (.ref q1), some (.int (nI s)), o8, o9, o10] 66 [.int (nI us2.length), .int (nI s)]
      refine gh_icmp_gtN hK d_Sp_findWays_66 (tgt := 210) (by decide) (by omega) (by omega) (fun z => ?_) (fun z => absurd z (by omega))
      exact out g1 ws1 _ o8 o9 o10 hi1 hR
    | succ m ih =>
      intro s g1 ws1 o8 o9 o10 hs hi1 hq1 hR
      obtain ⟨i1, i2, i3, i4, i5, ⟨bs, i6⟩, i7⟩ := id hi1
      have fx := hfx.M i7 (by decide)
      have i0 := i1
      have i1 : g1 (A 30) = some (30, .inr (8, [.ref (A 7), .ref (A 10), .ref (A 20), .ref (A 31), .ref (A 33), .ref (A 34), .ref (A 36), .int (nI ws1.length)])) := i1
      refine gh_iload hK d_Sp_findWays_57 rfl ?_
      refine gh_aload_n hK d_Sp_findWays_59 rfl ?_
      refine gh_get hK d_Sp_findWays_60 in_Sp rfl i1 2 (by decide) kf_Sp_19 rfl rfl ?_
      refine gh_callV (rest := [.int (nI s)]) [] hK (c_Rs_count l G fx.2.2.1) Y_Rs_count V_Rs_count km_Sp_51 fx.2.2.1.1 rfl rfl d_Sp_findWays_63 rfl rfl (Nat.le_of_ble_eq_true rfl) ⟨(Nat.le_of_ble_eq_true rfl), (Nat.le_of_ble_eq_true rfl)⟩ ⟨(Nat.le_of_ble_eq_true rfl), (Nat.le_of_ble_eq_true rfl)⟩ (fun v g' hp => ?_)
      rw [hp.1, hp.2]
      show gh_W l G _ X g1 _ _ [some (.ref (A 30)), some (.ref (A 1)), some (.int (nI fo)), some (.int (nI len)), some (.int (nI lim)), some (.int (nI p)), some (.ref q1), some (.int (nI s)), o8, o9, o10] 66 [.int (nI us2.length), .int (nI s)]
      refine gh_icmp_gtN hK d_Sp_findWays_66 (tgt := 210) (by decide) (by omega) (by omega) (fun z => absurd z (by omega)) (fun z => ?_)
      refine gh_aload_n hK d_Sp_findWays_69 rfl ?_
      refine gh_get hK d_Sp_findWays_70 in_Sp rfl i1 7 (by decide) kf_Sp_47 rfl rfl ?_
      refine gh_iload hK d_Sp_findWays_73 rfl ?_
      refine gh_icmp_geN hK d_Sp_findWays_75 (tgt := 210) (by decide) (by omega) (by omega) (fun z2 => ?_) (fun z2 => ?_)
      · exact out g1 ws1 _ o8 o9 o10 hi1 (by rw [← hR, wyS_full z2])
      · rw [wyS] at hR
        have nxt : ∀ (g2 : GH) (ws2 : List Nat) (o8 o9 o10 : Option Value), WyI G g g2 A ws2 → ws2 = wyP lim ws1 (wyM es u1 (rlN us2 s) p s ((tx.drop fo).take len)) → gh_W l G (rmk 5 0 0 110) X g2 0 0 [some (.ref (A 30)), some (.ref (A 1)), some (.int (nI fo)), some (.int (nI len)), some (.int (nI lim)), some (.int (nI p)), some (.ref q1), some (.int (nI s)), o8, o9, o10] 204 [] := by
          intro g2 ws2 o8 o9 o10 hi2 he
          refine gh_incN (lv' := [some (.ref (A 30)), some (.ref (A 1)), some (.int (nI fo)), some (.int (nI len)), some (.int (nI lim)), some (.int (nI p)), some (.ref q1), some (.int (nI (s + 1))), o8, o9, o10]) hK d_Sp_findWays_204 rfl rfl ?_
          refine gh_goto (tgt := 57) hK d_Sp_findWays_207 (by decide) ?_
          exact ih (s + 1) g2 ws2 o8 o9 o10 (by omega) hi2 hq1 (by rw [he]; exact hR)
        refine gh_aload_n hK d_Sp_findWays_78 rfl ?_
        refine gh_get hK d_Sp_findWays_79 in_Sp rfl i1 2 (by decide) kf_Sp_19 rfl rfl ?_
        refine gh_iload hK d_Sp_findWays_82 rfl ?_
        have hq2 := fx.2.2.1.x (Or.inr rfl) (j := s) (by omega)
        generalize hQ2 : rlA (A 23) us2 s = q2 at hq2
        refine gh_callV (rest := []) [.int (nI s)] hK (c_Rs_at l G fx.2.2.1 (Or.inr rfl) (j := s) (by omega)) Y_Rs_at V_Rs_at km_Sp_57 fx.2.2.1.1 rfl rfl d_Sp_findWays_84 rfl rfl (Nat.le_of_ble_eq_true rfl) ⟨(Nat.le_of_ble_eq_true rfl), (Nat.le_of_ble_eq_true rfl)⟩ ⟨(Nat.le_of_ble_eq_true rfl), (Nat.le_of_ble_eq_true rfl)⟩ (fun v g' hp => ?_)
        rw [hp.1, hp.2, hQ2]
        show gh_W l G _ X g1 _ _ [some (.ref (A 30)), some (.ref (A 1)), some (.int (nI fo)), some (.int (nI len)), some (.int (nI lim)), some (.int (nI p)), some (.ref q1), some (.int (nI s)), o8, o9, o10] 87 [.ref q2]
        have hu2f := rlN_fl fb7 s
        generalize hu2 : rlN us2 s = u2 at hq2 hu2f nxt hR
        obtain ⟨tt1, tt2, tt3, mm1, mm2, mm3, ru2⟩ := id hq2
        have hq1g := hq1.M i7 (by decide)
        obtain ⟨vv1, vv2, vv3, nn1, nn2, nn3, ru1⟩ := id hq1g
        obtain ⟨x1, x2, x3, x4, x5, x6, rb2, -⟩ := id ru2
        obtain ⟨y1, y2, y3, y4, y5, y6, rb1, -⟩ := id ru1
        refine gh_astore (lv' := [some (.ref (A 30)), some (.ref (A 1)), some (.int (nI fo)), some (.int (nI len)), some (.int (nI lim)), some (.int (nI p)), some (.ref q1), some (.int (nI s)), some (.ref q2), o9, o10]) hK d_Sp_findWays_87 (Nat.le_of_ble_eq_true rfl) rfl ?_
        refine gh_aload hK d_Sp_findWays_89 rfl ?_
        refine gh_aload_n hK d_Sp_findWays_91 rfl ?_
        refine gh_iload_n hK d_Sp_findWays_92 rfl ?_
        refine gh_iload_n hK d_Sp_findWays_93 rfl ?_
        refine gh_callV (rest := []) [.ref (A 1), .int (nI fo), .int (nI len)] hK (c_Ru_addStands l G ru2 fx.2.2.2 hf) Y_Ru_addStands V_Ru_addStands km_Sp_61 rb2 rfl rfl d_Sp_findWays_94 rfl rfl (Nat.le_of_ble_eq_true rfl) ⟨(Nat.le_of_ble_eq_true rfl), (Nat.le_of_ble_eq_true rfl)⟩ ⟨(Nat.le_of_ble_eq_true rfl), (Nat.le_of_ble_eq_true rfl)⟩ (fun v g' hp => ?_)
        rw [hp.1, hp.2]
        show gh_W l G _ X g1 _ _ [some (.ref (A 30)), some (.ref (A 1)), some (.int (nI fo)), some (.int (nI len)), some (.int (nI lim)), some (.int (nI p)), some (.ref q1), some (.int (nI s)), some (.ref q2), o9, o10] 97 [.int (nI (bn (stO false u2.2.2.1 ((tx.drop fo).take len))))]
        refine gh_if_eqB hK d_Sp_findWays_97 (tgt := 204) (by decide) (fun z3 => ?_) (fun z3 => ?_)
        · exact nxt g1 ws1 _ o9 o10 hi1 (by rw [show wyM es u1 u2 p s ((tx.drop fo).take len) = none from if_neg (fun q => by rw [z3] at q; cases q.2), wyP_none])
        · cases hud : undB u1 u2 ((tx.drop fo).take len) with
          | none =>
            refine gh_aload_n hK d_Sp_findWays_100 rfl ?_
            refine gh_aload hK d_Sp_findWays_101 rfl ?_
            refine gh_aload hK d_Sp_findWays_103 rfl ?_
            refine gh_aload_n hK d_Sp_findWays_105 rfl ?_
            refine gh_iload_n hK d_Sp_findWays_106 rfl ?_
            refine gh_iload_n hK d_Sp_findWays_107 rfl ?_
            refine gh_callV (rest := []) [.ref q1, .ref q2, .ref (A 1), .int (nI fo), .int (nI len)] hK (c_Sp_undo l G i0 i6 hq1g hq2 fx.2.2.2 hf) Y_Sp_undo V_Sp_undo km_Sp_67 i1 rfl rfl d_Sp_findWays_108 rfl rfl (Nat.le_of_ble_eq_true rfl) ⟨(Nat.le_of_ble_eq_true rfl), (Nat.le_of_ble_eq_true rfl)⟩ ⟨(Nat.le_of_ble_eq_true rfl), (Nat.le_of_ble_eq_true rfl)⟩ (fun v g' hp => ?_)
            rw [(hp.2.1 hud).1, (hp.2.1 hud).2]
            show gh_W l G _ X g1 _ _ [some (.ref (A 30)), some (.ref (A 1)), some (.int (nI fo)), some (.int (nI len)), some (.int (nI lim)), some (.int (nI p)), some (.ref q1), some (.int (nI s)), some (.ref q2), o9, o10] 111 [.int (nI 0)]
            refine gh_if_neN hK d_Sp_findWays_111 (tgt := 117) (by decide) (by decide) (fun z => absurd z (by decide)) (fun z => ?_)
            refine gh_goto (tgt := 204) hK d_Sp_findWays_114 (by decide) ?_
            exact nxt g1 ws1 _ o9 o10 hi1 (by rw [show wyM es u1 u2 p s ((tx.drop fo).take len) = none from by rw [wyM, if_pos ⟨hst, z3⟩, hud], wyP_none])
          | some b =>
            refine gh_aload_n hK d_Sp_findWays_100 rfl ?_
            refine gh_aload hK d_Sp_findWays_101 rfl ?_
            refine gh_aload hK d_Sp_findWays_103 rfl ?_
            refine gh_aload_n hK d_Sp_findWays_105 rfl ?_
            refine gh_iload_n hK d_Sp_findWays_106 rfl ?_
            refine gh_iload_n hK d_Sp_findWays_107 rfl ?_
            refine gh_callV (rest := []) [.ref q1, .ref q2, .ref (A 1), .int (nI fo), .int (nI len)] hK (c_Sp_undo l G i0 i6 hq1g hq2 fx.2.2.2 hf) Y_Sp_undo V_Sp_undo km_Sp_67 i1 rfl rfl d_Sp_findWays_108 rfl rfl (Nat.le_of_ble_eq_true rfl) ⟨(Nat.le_of_ble_eq_true rfl), (Nat.le_of_ble_eq_true rfl)⟩ ⟨(Nat.le_of_ble_eq_true rfl), (Nat.le_of_ble_eq_true rfl)⟩ (fun v g2 hp => ?_)
            obtain ⟨hv, hb2⟩ := hp.1 b hud
            have hN2 := hp.2.2
            rw [hv]
            show gh_W l G _ X g2 _ _ [some (.ref (A 30)), some (.ref (A 1)), some (.int (nI fo)), some (.int (nI len)), some (.int (nI lim)), some (.int (nI p)), some (.ref q1), some (.int (nI s)), some (.ref q2), o9, o10] 111 [.int (nI 1)]
            have hM2 : gh_M [30, 31, 32, 33] g1 g2 := hN2.M fun a ha => by
              obtain ⟨fb, ⟨xx1, xx2, -⟩, -⟩ := i6
              rcases List.mem_cons.mp ha with rfl | ha
              · exact ⟨_, _, xx1, by decide⟩
              · rw [List.mem_singleton.mp ha]; exact ⟨_, _, xx2, by decide⟩
            have hM3 : gh_M [31, 32] g1 g2 := hN2.M fun a ha => by
              obtain ⟨fb, ⟨xx1, xx2, -⟩, -⟩ := i6
              rcases List.mem_cons.mp ha with rfl | ha
              · exact ⟨_, _, xx1, by decide⟩
              · rw [List.mem_singleton.mp ha]; exact ⟨_, _, xx2, by decide⟩
            have c0 := SpO.M i0 hM3 (by decide)
            have c1 : g2 (A 30) = some (30, .inr (8, [.ref (A 7), .ref (A 10), .ref (A 20), .ref (A 31), .ref (A 33), .ref (A 34), .ref (A 36), .int (nI ws1.length)])) := c0
            have hi2 : WyI G g g2 A ws1 := ⟨c0, i2.M hM3 (by decide), i3, i4, i5, ⟨b, hb2⟩, i7.tr hM2⟩
            have fx2 := fx.M hM2 (by decide)
            have hq12 := hq1g.M hM2 (by decide)
            have hq22 := hq2.M hM2 (by decide)
            obtain ⟨hbl, hbl2⟩ := hb2.len
            have eb : (b.drop 0).take b.length = b := by rw [List.drop_zero, List.take_length]
            refine gh_if_neN hK d_Sp_findWays_111 (tgt := 117) (by decide) (by decide) (fun z => ?_) (fun z => absurd z (by decide))
            refine gh_aload_n hK d_Sp_findWays_117 rfl ?_
            refine gh_get hK d_Sp_findWays_118 in_Sp rfl c1 0 (by decide) kf_Sp_9 rfl rfl ?_
            refine gh_aload_n hK d_Sp_findWays_121 rfl ?_
            refine gh_get hK d_Sp_findWays_122 in_Sp rfl c1 3 (by decide) kf_Sp_27 rfl rfl ?_
            refine gh_iconst (v := nI 0) hK d_Sp_findWays_125 (by decide) ?_
            refine gh_aload_n hK d_Sp_findWays_126 rfl ?_
            refine gh_get hK d_Sp_findWays_127 in_Sp rfl c1 3 (by decide) kf_Sp_27 rfl rfl ?_
            refine gh_callV (rest := [.int (nI 0), .ref (A 31), .ref (A 7)]) [] hK (c_Lt_count l G hb2) Y_Lt_count V_Lt_count km_Sp_71 hb2.ob rfl rfl d_Sp_findWays_130 rfl rfl (Nat.le_of_ble_eq_true rfl) ⟨(Nat.le_of_ble_eq_true rfl), (Nat.le_of_ble_eq_true rfl)⟩ ⟨(Nat.le_of_ble_eq_true rfl), (Nat.le_of_ble_eq_true rfl)⟩ (fun v g' hp => ?_)
            rw [hp.1, hp.2]
            show gh_W l G _ X g2 _ _ [some (.ref (A 30)), some (.ref (A 1)), some (.int (nI fo)), some (.int (nI len)), some (.int (nI lim)), some (.int (nI p)), some (.ref q1), some (.int (nI s)), some (.ref q2), o9, o10] 133 [.int (nI b.length), .int (nI 0), .ref (A 31), .ref (A 7)]
            refine gh_callV (rest := []) [.ref (A 31), .int (nI 0), .int (nI b.length)] hK (c_Dc_rankOf l G fx2.1 fb1 hb2 (fr := 0) (len := b.length) (by omega)) Y_Dc_rankOf V_Dc_rankOf km_Sp_72 fx2.1.1 rfl rfl d_Sp_findWays_133 rfl rfl (Nat.le_of_ble_eq_true rfl) ⟨(Nat.le_of_ble_eq_true rfl), (Nat.le_of_ble_eq_true rfl)⟩ ⟨(Nat.le_of_ble_eq_true rfl), (Nat.le_of_ble_eq_true rfl)⟩ (fun v g' hp => ?_)
            rw [hp.1, hp.2]
            show gh_W l G _ X g2 _ _ [some (.ref (A 30)), some (.ref (A 1)), some (.int (nI fo)), some (.int (nI len)), some (.int (nI lim)), some (.int (nI p)), some (.ref q1), some (.int (nI s)), some (.ref q2), o9, o10] 136 [.int (nI (rnkL ((b.drop 0).take b.length) (dws es)))]
            rw [eb]
            have hrk := rnkL_le b (dws es)
            rw [show (dws es).length = es.length from List.length_map ..] at hrk
            refine gh_istore (lv' := [some (.ref (A 30)), some (.ref (A 1)), some (.int (nI fo)), some (.int (nI len)), some (.int (nI lim)), some (.int (nI p)), some (.ref q1), some (.int (nI s)), some (.ref q2), some (.int (nI (rnkL b (dws es)))), o10]) hK d_Sp_findWays_136 (Nat.le_of_ble_eq_true rfl) rfl ?_
            refine gh_aload_n hK d_Sp_findWays_138 rfl ?_
            refine gh_get hK d_Sp_findWays_139 in_Sp rfl c1 0 (by decide) kf_Sp_9 rfl rfl ?_
            refine gh_iload hK d_Sp_findWays_142 rfl ?_
            refine gh_aload_n hK d_Sp_findWays_144 rfl ?_
            refine gh_get hK d_Sp_findWays_145 in_Sp rfl c1 3 (by decide) kf_Sp_27 rfl rfl ?_
            refine gh_iconst (v := nI 0) hK d_Sp_findWays_148 (by decide) ?_
            refine gh_aload_n hK d_Sp_findWays_149 rfl ?_
            refine gh_get hK d_Sp_findWays_150 in_Sp rfl c1 3 (by decide) kf_Sp_27 rfl rfl ?_
            refine gh_callV (rest := [.int (nI 0), .ref (A 31), .int (nI (rnkL b (dws es))), .ref (A 7)]) [] hK (c_Lt_count l G hb2) Y_Lt_count V_Lt_count km_Sp_71 hb2.ob rfl rfl d_Sp_findWays_153 rfl rfl (Nat.le_of_ble_eq_true rfl) ⟨(Nat.le_of_ble_eq_true rfl), (Nat.le_of_ble_eq_true rfl)⟩ ⟨(Nat.le_of_ble_eq_true rfl), (Nat.le_of_ble_eq_true rfl)⟩ (fun v g' hp => ?_)
            rw [hp.1, hp.2]
            show gh_W l G _ X g2 _ _ [some (.ref (A 30)), some (.ref (A 1)), some (.int (nI fo)), some (.int (nI len)), some (.int (nI lim)), some (.int (nI p)), some (.ref q1), some (.int (nI s)), some (.ref q2), some (.int (nI (rnkL b (dws es)))), o10] 156 [.int (nI b.length), .int (nI 0), .ref (A 31), .int (nI (rnkL b (dws es))), .ref (A 7)]
            by_cases hex : ∃ x, es[rnkL b (dws es)]? = some x ∧ x.2.1 = b
            · obtain ⟨x, hx, hxb⟩ := hex
              obtain ⟨wa, wb, en1, en2⟩ := id (fx2.1.2.2 x (List.mem_of_getElem? hx))
              have hen := fx2.1.2.2 x (List.mem_of_getElem? hx)
              have hxf := fb5 x (List.mem_of_getElem? hx)
              refine gh_callV (rest := []) [.int (nI (rnkL b (dws es))), .ref (A 31), .int (nI 0), .int (nI b.length)] hK (c_Dc_atW l G fx2.1 (j := rnkL b (dws es)) (by omega) hb2 (fr := 0) (len := b.length) (by omega)) Y_Dc_at V_Dc_at km_Sp_78 fx2.1.1 rfl rfl d_Sp_findWays_156 rfl rfl (Nat.le_of_ble_eq_true rfl) ⟨(Nat.le_of_ble_eq_true rfl), (Nat.le_of_ble_eq_true rfl)⟩ ⟨(Nat.le_of_ble_eq_true rfl), (Nat.le_of_ble_eq_true rfl)⟩ (fun v g' hp => ?_)
              rw [eb] at hp
              rw [hp.1 x hx hxb, hp.2.2]
              show gh_W l G _ X g2 _ _ [some (.ref (A 30)), some (.ref (A 1)), some (.int (nI fo)), some (.int (nI len)), some (.int (nI lim)), some (.int (nI p)), some (.ref q1), some (.int (nI s)), some (.ref q2), some (.int (nI (rnkL b (dws es)))), o10] 159 [.ref x.1]
              refine gh_astore (lv' := [some (.ref (A 30)), some (.ref (A 1)), some (.int (nI fo)), some (.int (nI len)), some (.int (nI lim)), some (.int (nI p)), some (.ref q1), some (.int (nI s)), some (.ref q2), some (.int (nI (rnkL b (dws es)))), some (.ref x.1)]) hK d_Sp_findWays_159 (Nat.le_of_ble_eq_true rfl) rfl ?_
              refine gh_aload hK d_Sp_findWays_161 rfl ?_
              refine gh_ifnull hK d_Sp_findWays_163 ?_
              refine gh_aload hK d_Sp_findWays_166 rfl ?_
              refine gh_aload hK d_Sp_findWays_168 rfl ?_
              obtain ⟨a1, a2, a3, a4, a5, a6, w1⟩ := id hq12
              obtain ⟨b1, b2, b3, b4, b5, b6, w2⟩ := id hq22
              obtain ⟨aa1, aa2, aa3, aa4, aa5, aa6, d1, -⟩ := id w1
              obtain ⟨bb1, bb2, bb3, bb4, bb5, bb6, d2, -⟩ := id w2
              have hu1f : u1.1 < 2 ^ 26 := by rw [hu1]; exact rlN_fl fb6 p
              refine gh_callV (rest := []) [.ref x.1] hK (c_Ru_goesWith l G w1 hen hu1f hxf) Y_Ru_goesWith V_Ru_goesWith km_Sp_81 d1 rfl rfl d_Sp_findWays_170 rfl rfl (Nat.le_of_ble_eq_true rfl) ⟨(Nat.le_of_ble_eq_true rfl), (Nat.le_of_ble_eq_true rfl)⟩ ⟨(Nat.le_of_ble_eq_true rfl), (Nat.le_of_ble_eq_true rfl)⟩ (fun v g' hp => ?_)
              rw [hp.1, hp.2]
              show gh_W l G _ X g2 _ _ [some (.ref (A 30)), some (.ref (A 1)), some (.int (nI fo)), some (.int (nI len)), some (.int (nI lim)), some (.int (nI p)), some (.ref q1), some (.int (nI s)), some (.ref q2), some (.int (nI (rnkL b (dws es)))), some (.ref x.1)] 173 [.int (nI (bn (goO true u1.1 u1.2.1 u1.2.2.2 x.2.1 x.2.2)))]
              refine gh_if_eqB hK d_Sp_findWays_173 (tgt := 204) (by decide) (fun z5 => ?_) (fun z5 => ?_)
              · exact nxt g2 ws1 _ _ _ hi2 (by rw [show wyM es u1 u2 p s ((tx.drop fo).take len) = none by rw [wyM, if_pos ⟨hst, z3⟩, hud]; dsimp only; rw [hx]; exact if_neg (fun q => by rw [z5] at q; cases q.2.1), wyP_none])
              · refine gh_aload hK d_Sp_findWays_176 rfl ?_
                refine gh_aload hK d_Sp_findWays_178 rfl ?_
                refine gh_callV (rest := []) [.ref x.1] hK (c_Ru_goesWith l G w2 hen hu2f hxf) Y_Ru_goesWith V_Ru_goesWith km_Sp_81 d2 rfl rfl d_Sp_findWays_180 rfl rfl (Nat.le_of_ble_eq_true rfl) ⟨(Nat.le_of_ble_eq_true rfl), (Nat.le_of_ble_eq_true rfl)⟩ ⟨(Nat.le_of_ble_eq_true rfl), (Nat.le_of_ble_eq_true rfl)⟩ (fun v g' hp => ?_)
                rw [hp.1, hp.2]
                show gh_W l G _ X g2 _ _ [some (.ref (A 30)), some (.ref (A 1)), some (.int (nI fo)), some (.int (nI len)), some (.int (nI lim)), some (.int (nI p)), some (.ref q1), some (.int (nI s)), some (.ref q2), some (.int (nI (rnkL b (dws es)))), some (.ref x.1)] 183 [.int (nI (bn (goO false u2.1 u2.2.1 u2.2.2.2 x.2.1 x.2.2)))]
                refine gh_if_eqB hK d_Sp_findWays_183 (tgt := 204) (by decide) (fun z6 => ?_) (fun z6 => ?_)
                · exact nxt g2 ws1 _ _ _ hi2 (by rw [show wyM es u1 u2 p s ((tx.drop fo).take len) = none by rw [wyM, if_pos ⟨hst, z3⟩, hud]; dsimp only; rw [hx]; exact if_neg (fun q => by rw [z6] at q; cases q.2.2), wyP_none])
                · refine gh_aload_n hK d_Sp_findWays_186 rfl ?_
                  refine gh_iload hK d_Sp_findWays_187 rfl ?_
                  refine gh_bipush (v := nI 9) hK d_Sp_findWays_189 (by decide) ?_
                  refine gh_mulN hK d_Sp_findWays_191 ?_
                  refine gh_iload hK d_Sp_findWays_192 rfl ?_
                  refine gh_addN hK d_Sp_findWays_194 ?_
                  refine gh_bipush (v := nI 9) hK d_Sp_findWays_195 (by decide) ?_
                  refine gh_mulN hK d_Sp_findWays_197 ?_
                  refine gh_iload hK d_Sp_findWays_198 rfl ?_
                  refine gh_addN hK d_Sp_findWays_200 ?_
                  refine gh_callV (rest := []) [.int (nI (((((rnkL b (dws es)) * 9) + p) * 9) + s))] hK (c_Sp_putWay l G c0 hi2.2.1 (by omega) i3 (fun y hy => by have := i5 y hy; omega) (x := (rnkL b (dws es) * 9 + p) * 9 + s) (by omega)) Y_Sp_putWay V_Sp_putWay km_Sp_85 c1 rfl rfl d_Sp_findWays_201 rfl rfl (Nat.le_of_ble_eq_true rfl) ⟨(Nat.le_of_ble_eq_true rfl), (Nat.le_of_ble_eq_true rfl)⟩ ⟨(Nat.le_of_ble_eq_true rfl), (Nat.le_of_ble_eq_true rfl)⟩ (fun v g3 hp => ?_)
                  obtain ⟨rfl, hp1, hp2, hp3⟩ := hp
                  show gh_W l G _ X g3 _ _ [some (.ref (A 30)), some (.ref (A 1)), some (.int (nI fo)), some (.int (nI len)), some (.int (nI lim)), some (.int (nI p)), some (.ref q1), some (.int (nI s)), some (.ref q2), some (.int (nI (rnkL b (dws es)))), some (.ref x.1)] 204 []
                  have hlr := posN_le ((rnkL b (dws es) * 9 + p) * 9 + s) ws1
                  refine nxt g3 _ _ _ _ ⟨hp1, hp2, srtN_ins _ i3, by rw [insA_len hlr]; omega, fun y hy => ?_, ⟨b, hb2.M hp3 (by decide) (by decide)⟩, hi2.2.2.2.2.2.2.tr (hp3.wd (by decide))⟩ ?_
                  · rcases insA_mem hy with q | q
                    · exact i5 y q
                    · omega
                  · rw [show wyM es u1 u2 p s ((tx.drop fo).take len) = some ((rnkL b (dws es) * 9 + p) * 9 + s) by rw [wyM, if_pos ⟨hst, z3⟩, hud]; dsimp only; rw [hx]; exact if_pos ⟨hxb, z5, z6⟩]
                    exact (if_pos z2).symm
            · refine gh_callV (rest := []) [.int (nI (rnkL b (dws es))), .ref (A 31), .int (nI 0), .int (nI b.length)] hK (c_Dc_atW l G fx2.1 (j := rnkL b (dws es)) (by omega) hb2 (fr := 0) (len := b.length) (by omega)) Y_Dc_at V_Dc_at km_Sp_78 fx2.1.1 rfl rfl d_Sp_findWays_156 rfl rfl (Nat.le_of_ble_eq_true rfl) ⟨(Nat.le_of_ble_eq_true rfl), (Nat.le_of_ble_eq_true rfl)⟩ ⟨(Nat.le_of_ble_eq_true rfl), (Nat.le_of_ble_eq_true rfl)⟩ (fun v g' hp => ?_)
              rw [eb] at hp
              rw [hp.2.1 (fun x hx q => hex ⟨x, hx, q⟩), hp.2.2]
              show gh_W l G _ X g2 _ _ [some (.ref (A 30)), some (.ref (A 1)), some (.int (nI fo)), some (.int (nI len)), some (.int (nI lim)), some (.int (nI p)), some (.ref q1), some (.int (nI s)), some (.ref q2), some (.int (nI (rnkL b (dws es)))), o10] 159 [.null]
              refine gh_astoreN (lv' := [some (.ref (A 30)), some (.ref (A 1)), some (.int (nI fo)), some (.int (nI len)), some (.int (nI lim)), some (.int (nI p)), some (.ref q1), some (.int (nI s)), some (.ref q2), some (.int (nI (rnkL b (dws es)))), some (.null)]) hK d_Sp_findWays_159 (Nat.le_of_ble_eq_true rfl) rfl ?_
              refine gh_aloadN hK d_Sp_findWays_161 rfl ?_
              refine gh_ifnullN hK d_Sp_findWays_163 (tgt := 204) (by decide) ?_
              refine nxt g2 ws1 _ _ _ hi2 ?_
              rw [show wyM es u1 u2 p s ((tx.drop fo).take len) = none by
                rw [wyM, if_pos ⟨hst, z3⟩, hud]
                dsimp only
                cases hx : es[rnkL b (dws es)]? with
                | none => rfl
                | some x => exact if_neg (fun q => hex ⟨x, hx, q.1⟩), wyP_none]
  have outer : ∀ (m p : Nat) (g1 : GH) (ws1 : List Nat) (o6 o7 o8 o9 o10 : Option Value), p + m = us1.length + 1 → WyI G g g1 A ws1 → wyO es us1 us2 lim ((tx.drop fo).take len) m p ws1 = wyO es us1 us2 lim ((tx.drop fo).take len) (us1.length + 1) 0 [] → gh_W l G (rmk 5 0 0 110) X g1 0 0 [some (.ref (A 30)), some (.ref (A 1)), some (.int (nI fo)), some (.int (nI len)), some (.int (nI lim)), some (.int (nI p)), o6, o7, o8, o9, o10] 8 [] := by
    have fin : ∀ (g1 : GH) (ws1 : List Nat) (p : Nat) (o6 o7 o8 o9 o10 : Option Value), WyI G g g1 A ws1 → ws1 = wyO es us1 us2 lim ((tx.drop fo).take len) (us1.length + 1) 0 [] → gh_W l G (rmk 5 0 0 110) X g1 0 0 [some (.ref (A 30)), some (.ref (A 1)), some (.int (nI fo)), some (.int (nI len)), some (.int (nI lim)), some (.int (nI p)), o6, o7, o8, o9, o10] 216 [] := by
      intro g1 ws1 p o6 o7 o8 o9 o10 hi1 he
      have i1 : g1 (A 30) = some (30, .inr (8, [.ref (A 7), .ref (A 10), .ref (A 20), .ref (A 31), .ref (A 33), .ref (A 34), .ref (A 36), .int (nI ws1.length)])) := hi1.1
      refine gh_aload_n hK d_Sp_findWays_216 rfl ?_
      refine gh_get hK d_Sp_findWays_217 in_Sp rfl i1 7 (by decide) kf_Sp_47 rfl rfl ?_
      exact gh_iret hK hE d_Sp_findWays_220 (Nat.le_of_ble_eq_true rfl) (Nat.le_of_ble_eq_true rfl) ⟨by rw [← he], by rw [← he]; exact hi1⟩
    intro m
    induction m with
    | zero =>
      intro p g1 ws1 o6 o7 o8 o9 o10 hp hi1 hR
      have fx := hfx.M hi1.2.2.2.2.2.2 (by decide)
      have i1 : g1 (A 30) = some (30, .inr (8, [.ref (A 7), .ref (A 10), .ref (A 20), .ref (A 31), .ref (A 33), .ref (A 34), .ref (A 36), .int (nI ws1.length)])) := hi1.1
      refine gh_iload hK d_Sp_findWays_8 rfl ?_
      refine gh_aload_n hK d_Sp_findWays_10 rfl ?_
      refine gh_get hK d_Sp_findWays_11 in_Sp rfl i1 1 (by decide) kf_Sp_15 rfl rfl ?_
      refine gh_callV (rest := [.int (nI p)]) [] hK (c_Rs_count l G fx.2.1) Y_Rs_count V_Rs_count km_Sp_51 fx.2.1.1 rfl rfl d_Sp_findWays_14 rfl rfl (Nat.le_of_ble_eq_true rfl) ⟨(Nat.le_of_ble_eq_true rfl), (Nat.le_of_ble_eq_true rfl)⟩ ⟨(Nat.le_of_ble_eq_true rfl), (Nat.le_of_ble_eq_true rfl)⟩ (fun v g' hp => ?_)
      rw [hp.1, hp.2]
      show gh_W l G _ X g1 _ _ [some (.ref (A 30)), some (.ref (A 1)), some (.int (nI fo)), some (.int (nI len)), some (.int (nI lim)), some (.int (nI p)), o6, o7, o8, o9, o10] 17 [.int (nI us1.length), .int (nI p)]
      refine gh_icmp_gtN hK d_Sp_findWays_17 (tgt := 216) (by decide) (by omega) (by omega) (fun z => ?_) (fun z => absurd z (by omega))
      exact fin g1 ws1 p o6 o7 o8 o9 o10 hi1 hR
    | succ m ih =>
      intro p g1 ws1 o6 o7 o8 o9 o10 hp hi1 hR
      have fx := hfx.M hi1.2.2.2.2.2.2 (by decide)
      have hwl1 := hi1.2.2.2.1
      have i1 : g1 (A 30) = some (30, .inr (8, [.ref (A 7), .ref (A 10), .ref (A 20), .ref (A 31), .ref (A 33), .ref (A 34), .ref (A 36), .int (nI ws1.length)])) := hi1.1
      refine gh_iload hK d_Sp_findWays_8 rfl ?_
      refine gh_aload_n hK d_Sp_findWays_10 rfl ?_
      refine gh_get hK d_Sp_findWays_11 in_Sp rfl i1 1 (by decide) kf_Sp_15 rfl rfl ?_
      refine gh_callV (rest := [.int (nI p)]) [] hK (c_Rs_count l G fx.2.1) Y_Rs_count V_Rs_count km_Sp_51 fx.2.1.1 rfl rfl d_Sp_findWays_14 rfl rfl (Nat.le_of_ble_eq_true rfl) ⟨(Nat.le_of_ble_eq_true rfl), (Nat.le_of_ble_eq_true rfl)⟩ ⟨(Nat.le_of_ble_eq_true rfl), (Nat.le_of_ble_eq_true rfl)⟩ (fun v g' hp => ?_)
      rw [hp.1, hp.2]
      show gh_W l G _ X g1 _ _ [some (.ref (A 30)), some (.ref (A 1)), some (.int (nI fo)), some (.int (nI len)), some (.int (nI lim)), some (.int (nI p)), o6, o7, o8, o9, o10] 17 [.int (nI us1.length), .int (nI p)]
      refine gh_icmp_gtN hK d_Sp_findWays_17 (tgt := 216) (by decide) (by omega) (by omega) (fun z => absurd z (by omega)) (fun z => ?_)
      refine gh_aload_n hK d_Sp_findWays_20 rfl ?_
      refine gh_get hK d_Sp_findWays_21 in_Sp rfl i1 7 (by decide) kf_Sp_47 rfl rfl ?_
      refine gh_iload hK d_Sp_findWays_24 rfl ?_
      refine gh_icmp_geN hK d_Sp_findWays_26 (tgt := 216) (by decide) (by omega) (by omega) (fun z2 => ?_) (fun z2 => ?_)
      · exact fin g1 ws1 p o6 o7 o8 o9 o10 hi1 (by rw [← hR, wyO_full z2])
      · rw [wyO] at hR
        have nxt : ∀ (g2 : GH) (ws2 : List Nat) (o6 o7 o8 o9 o10 : Option Value), WyI G g g2 A ws2 → ws2 = wyS es (rlN us1 p) us2 p lim ((tx.drop fo).take len) (us2.length + 1) 0 ws1 → gh_W l G (rmk 5 0 0 110) X g2 0 0 [some (.ref (A 30)), some (.ref (A 1)), some (.int (nI fo)), some (.int (nI len)), some (.int (nI lim)), some (.int (nI p)), o6, o7, o8, o9, o10] 210 [] := by
          intro g2 ws2 o6 o7 o8 o9 o10 hi2 he
          refine gh_incN (lv' := [some (.ref (A 30)), some (.ref (A 1)), some (.int (nI fo)), some (.int (nI len)), some (.int (nI lim)), some (.int (nI (p + 1))), o6, o7, o8, o9, o10]) hK d_Sp_findWays_210 rfl rfl ?_
          refine gh_goto (tgt := 8) hK d_Sp_findWays_213 (by decide) ?_
          exact ih (p + 1) g2 ws2 o6 o7 o8 o9 o10 (by omega) hi2 (by rw [he]; exact hR)
        refine gh_aload_n hK d_Sp_findWays_29 rfl ?_
        refine gh_get hK d_Sp_findWays_30 in_Sp rfl i1 1 (by decide) kf_Sp_15 rfl rfl ?_
        refine gh_iload hK d_Sp_findWays_33 rfl ?_
        have hq1g := hfx.2.1.x (Or.inl rfl) (j := p) (by omega)
        generalize hQ1 : rlA (A 13) us1 p = q1 at hq1g
        have hq1 := hq1g.M hi1.2.2.2.2.2.2 (by decide)
        refine gh_callV (rest := []) [.int (nI p)] hK (c_Rs_at l G fx.2.1 (Or.inl rfl) (j := p) (by omega)) Y_Rs_at V_Rs_at km_Sp_57 fx.2.1.1 rfl rfl d_Sp_findWays_35 rfl rfl (Nat.le_of_ble_eq_true rfl) ⟨(Nat.le_of_ble_eq_true rfl), (Nat.le_of_ble_eq_true rfl)⟩ ⟨(Nat.le_of_ble_eq_true rfl), (Nat.le_of_ble_eq_true rfl)⟩ (fun v g' hp => ?_)
        rw [hp.1, hp.2, hQ1]
        show gh_W l G _ X g1 _ _ [some (.ref (A 30)), some (.ref (A 1)), some (.int (nI fo)), some (.int (nI len)), some (.int (nI lim)), some (.int (nI p)), o6, o7, o8, o9, o10] 38 [.ref q1]
        obtain ⟨vv1, vv2, vv3, nn1, nn2, nn3, ru1⟩ := id hq1
        obtain ⟨y1, y2, y3, y4, y5, y6, rb1, -⟩ := id ru1
        refine gh_astore (lv' := [some (.ref (A 30)), some (.ref (A 1)), some (.int (nI fo)), some (.int (nI len)), some (.int (nI lim)), some (.int (nI p)), some (.ref q1), o7, o8, o9, o10]) hK d_Sp_findWays_38 (Nat.le_of_ble_eq_true rfl) rfl ?_
        refine gh_aload hK d_Sp_findWays_40 rfl ?_
        refine gh_aload_n hK d_Sp_findWays_42 rfl ?_
        refine gh_iload_n hK d_Sp_findWays_43 rfl ?_
        refine gh_iload_n hK d_Sp_findWays_44 rfl ?_
        refine gh_callV (rest := []) [.ref (A 1), .int (nI fo), .int (nI len)] hK (c_Ru_addStands l G ru1 fx.2.2.2 hf) Y_Ru_addStands V_Ru_addStands km_Sp_61 rb1 rfl rfl d_Sp_findWays_45 rfl rfl (Nat.le_of_ble_eq_true rfl) ⟨(Nat.le_of_ble_eq_true rfl), (Nat.le_of_ble_eq_true rfl)⟩ ⟨(Nat.le_of_ble_eq_true rfl), (Nat.le_of_ble_eq_true rfl)⟩ (fun v g' hp => ?_)
        rw [hp.1, hp.2]
        show gh_W l G _ X g1 _ _ [some (.ref (A 30)), some (.ref (A 1)), some (.int (nI fo)), some (.int (nI len)), some (.int (nI lim)), some (.int (nI p)), some (.ref q1), o7, o8, o9, o10] 48 [.int (nI (bn (stO true (rlN us1 p).2.2.1 ((tx.drop fo).take len))))]
        refine gh_if_neB hK d_Sp_findWays_48 (tgt := 54) (by decide) (fun z3 => ?_) (fun z3 => ?_)
        · refine gh_iconst (v := nI 0) hK d_Sp_findWays_54 (by decide) ?_
          refine gh_istore (lv' := [some (.ref (A 30)), some (.ref (A 1)), some (.int (nI fo)), some (.int (nI len)), some (.int (nI lim)), some (.int (nI p)), some (.ref q1), some (.int (nI 0)), o8, o9, o10]) hK d_Sp_findWays_55 (Nat.le_of_ble_eq_true rfl) rfl ?_
          exact inner _ p q1 _ rfl (by omega) z3 (fun g2 ws2 o7 o8 o9 o10 hi2 he => nxt g2 ws2 _ o7 o8 o9 o10 hi2 he) (us2.length + 1) 0 g1 ws1 o8 o9 o10 (by omega) hi1 hq1g rfl
        · refine gh_goto (tgt := 210) hK d_Sp_findWays_51 (by decide) ?_
          exact nxt g1 ws1 _ o7 o8 o9 o10 hi1 (by rw [wyS_no z3])
  obtain ⟨i1, i2, i3, i4, i5, ⟨bs, i6⟩, i7⟩ := id hi
  have n0 := i1.ne i2
  have i1 : g (A 30) = some (30, .inr (8, [.ref (A 7), .ref (A 10), .ref (A 20), .ref (A 31), .ref (A 33), .ref (A 34), .ref (A 36), .int (nI ws.length)])) := i1
  obtain ⟨fw, w1, w2⟩ := id i2
  refine gh_aload_n hK d_Sp_findWays_0 rfl ?_
  refine gh_iconst (v := nI 0) hK d_Sp_findWays_1 (by decide) ?_
  refine gh_put (fs' := [.ref (A 7), .ref (A 10), .ref (A 20), .ref (A 31), .ref (A 33), .ref (A 34), .ref (A 36), .int (nI 0)]) hK d_Sp_findWays_2 in_Sp t_Sp ty_Sp nm_Sp rfl i1 7 (by decide) kf_Sp_47 rfl rfl rfl rfl (Nat.le_of_ble_eq_true rfl) rfl ?_
  have hM0 : gh_M [30, 31, 32, 33] g (gh_up g (A 30) 30 (.inr (8, [.ref (A 7), .ref (A 10), .ref (A 20), .ref (A 31), .ref (A 33), .ref (A 34), .ref (A 36), .int (nI 0)]))) := gh_M.up i1 (by decide)
  have hM1 : gh_M [30] g (gh_up g (A 30) 30 (.inr (8, [.ref (A 7), .ref (A 10), .ref (A 20), .ref (A 31), .ref (A 33), .ref (A 34), .ref (A 36), .int (nI 0)]))) := gh_M.up i1 (by decide)
  refine gh_iconst (v := nI 0) hK d_Sp_findWays_5 (by decide) ?_
  refine gh_istore (lv' := [some (.ref (A 30)), some (.ref (A 1)), some (.int (nI fo)), some (.int (nI len)), some (.int (nI lim)), some (.int (nI 0)), none, none, none, none, none]) hK d_Sp_findWays_6 (Nat.le_of_ble_eq_true rfl) rfl ?_
  exact outer (us1.length + 1) 0 _ [] none none none none none (by omega) ⟨gh_us, ⟨fw, by rw [gh_un n0.symm]; exact w1, fun i x hx => by simp at hx⟩, trivial, Nat.zero_le _, fun y hy => absurd hy List.not_mem_nil, ⟨bs, i6.M hM1 (by decide) (by decide)⟩, hM0⟩ rfl
