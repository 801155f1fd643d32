/-! the forms of an entry -/
def fmF (u1 u2 : RuR) (w : List Nat) : Option (List Nat) := if u1.2.1.length + u2.2.1.length < w.length then some (u1.2.2.1 ++ (w.drop u1.2.1.length).take (w.length - u1.2.1.length - u2.2.1.length) ++ u2.2.2.1) else none
def addW (f : List Nat) (l : List (List Nat)) : List (List Nat) := if f ∈ l then l else putL f l
theorem addW_srt {f : List Nat} {l : List (List Nat)} (h : srtL l) : srtL (addW f l) := by
  unfold addW
  split
  · exact h
  · next hn => exact srtL_put f h hn
def FmI (G : GG) (g : GH) (A : Nat → Nat) (fx : List Nat) (fp : List (Nat × Nat)) : Prop := Lt G g (A 34) 34 (A 35) 35 2268 fx ∧ Wl G g (A 36) 36 (A 37) 37 (A 38) 38 (A 34) 81 fp ∧ (∀ p, p ∈ fp → p.1 + p.2 ≤ fx.length) ∧ srtL (wls fx fp)
theorem FmI.M {G : GG} {g g' : GH} {A : Nat → Nat} {fx : List Nat} {fp : List (Nat × Nat)} {S : List Nat} (h : FmI G g A fx fp) (hM : gh_M S g g') (h1 : ∀ t, t ∈ [34, 35, 36, 37, 38] → t ∉ S) : FmI G g' A fx fp := ⟨h.1.M hM (h1 _ (by decide)) (h1 _ (by decide)), h.2.1.M hM (h1 _ (by decide)) (h1 _ (by decide)) (h1 _ (by decide)), h.2.2⟩
theorem wls_app {fx f : List Nat} {fp : List (Nat × Nat)} (h : ∀ p, p ∈ fp → p.1 + p.2 ≤ fx.length) : wls (fx ++ f) fp = wls fx fp := by
  unfold wls
  apply List.map_congr_left
  intro p hp
  have := h p hp
  rw [List.drop_append_of_le_length (by omega), List.take_append_of_le_length (by rw [List.length_drop]; omega)]
theorem slice_end (fx f : List Nat) : ((fx ++ f).drop fx.length).take f.length = f := by rw [List.drop_left, List.take_length]
/-- the parts of rules are short -/
def RuB (u : RuR) : Prop := u.2.1.length ≤ 6 ∧ u.2.2.1.length ≤ 6 ∧ u.2.2.2.length ≤ 6
theorem rlN_B {us : List (Nat × RuR)} (h : ∀ x, x ∈ us → RuB x.2) (j : Nat) : RuB (rlN us j) := by
  unfold rlN
  split
  · exact ⟨by decide, by decide, by decide⟩
  · cases hx : us[j - 1]? with
    | none => exact ⟨by decide, by decide, by decide⟩
    | some x => exact h x (List.mem_of_getElem? hx)
set_option maxRecDepth 20000 in
set_option maxHeartbeats 4000000 in
theorem c_Sp_putForm (l : Launch) (G : GG) {g : GH} {A : Nat → Nat} {n q1 q2 ea fl : Nat} {u1 u2 : RuR} {w fx : List Nat} {fp : List (Nat × Nat)} (h : SpO g A n) (hm : FmI G g A fx fp) (hu1 : RuX G g q1 true u1) (hu2 : RuX G g q2 false u2) (he : En G g ea w fl) (hwl : w.length ≤ 16) (hB1 : RuB u1) (hB2 : RuB u2) (hc1 : fx.length + 28 ≤ 2268) (hc2 : fp.length < 81) : gMet l G y_Sp_putForm b_Sp_putForm 6 none (rmk 2 0 0 91) [.ref (A 30), .ref ea, .ref q1, .ref q2] g (fun v g' => v = none ∧ (∃ fx' fp', FmI G g' A fx' fp' ∧ fx'.length ≤ fx.length + 28 ∧ fp'.length ≤ fp.length + 1 ∧ wls fx' fp' = (match fmF u1 u2 w with | some f => addW f (wls fx fp) | none => wls fx fp)) ∧ gh_M [34, 35, 36, 37, 38] g g') := by
  refine gMet.of [some (.ref (A 30)), some (.ref ea), some (.ref q1), some (.ref q2), none, none] (by decide +kernel) rfl (Nat.le_of_ble_eq_true rfl) rfl (fun X hK hI hE => ?_)
  obtain ⟨t1, t2, t3, m1, m2, m3, sa, sb, aa, ab, ca, cb, k1, k2, k3, k4⟩ := hu1
  obtain ⟨r1, r2, r3, l1, l2, l3, sa2, sb2, aa2, ab2, ca2, cb2, j1, j2, j3, j4⟩ := hu2
  obtain ⟨wa, wb, e1, e2⟩ := he
  obtain ⟨fb, fW, fv, fsr⟩ := id hm
  obtain ⟨p1, p2⟩ := k3.ap fb (by simp at m2 ⊢; omega) (by simp at m3 ⊢; omega)
  obtain ⟨p3, p4⟩ := j3.ap fb (by simp at l2 ⊢; omega) (by simp at l3 ⊢; omega)
  obtain ⟨p5, p6⟩ := e2.ap fb (by decide) (by decide)
  obtain ⟨fl1, S, A1, Cc⟩ := u1
  obtain ⟨fl2, S2, A2, C2⟩ := u2
  obtain ⟨q5, q6, q7⟩ := hB1
  obtain ⟨q8, q9, q10⟩ := hB2
  dsimp only at k1 k2 k3 j1 j2 j3 q5 q6 q7 q8 q9 q10
  have h0 : g (A 30) = some (30, .inr (8, [.ref (A 7), .ref (A 10), .ref (A 20), .ref (A 31), .ref (A 33), .ref (A 34), .ref (A 36), .int (nI n)])) := h
  refine gh_aload_n hK d_Sp_putForm_0 rfl ?_
  refine gh_get hK d_Sp_putForm_1 in_En rfl e1 0 (by decide) kf_Sp_103 rfl rfl ?_
  refine gh_callV (rest := []) [] hK (c_Lt_count l G e2) Y_Lt_count V_Lt_count km_Sp_71 e2.ob rfl rfl d_Sp_putForm_4 rfl rfl (Nat.le_of_ble_eq_true rfl) ⟨(Nat.le_of_ble_eq_true rfl), (Nat.le_of_ble_eq_true rfl)⟩ ⟨(Nat.le_of_ble_eq_true rfl), (Nat.le_of_ble_eq_true rfl)⟩ (fun v g' hp => ?_)
  rw [hp.1, hp.2]
  show gh_W l G _ X g _ _ [some (.ref (A 30)), some (.ref ea), some (.ref q1), some (.ref q2), none, none] 7 [.int (nI w.length)]
  refine gh_aload_n hK d_Sp_putForm_7 rfl ?_
  refine gh_get hK d_Sp_putForm_8 in_Ru rfl k1 2 (by decide) kf_Sp_108 rfl rfl ?_
  refine gh_callV (rest := [.int (nI w.length)]) [] hK (c_Lt_count l G k2) Y_Lt_count V_Lt_count km_Sp_71 k2.ob rfl rfl d_Sp_putForm_11 rfl rfl (Nat.le_of_ble_eq_true rfl) ⟨(Nat.le_of_ble_eq_true rfl), (Nat.le_of_ble_eq_true rfl)⟩ ⟨(Nat.le_of_ble_eq_true rfl), (Nat.le_of_ble_eq_true rfl)⟩ (fun v g' hp => ?_)
  rw [hp.1, hp.2]
  show gh_W l G _ X g _ _ [some (.ref (A 30)), some (.ref ea), some (.ref q1), some (.ref q2), none, none] 14 [.int (nI S.length), .int (nI w.length)]
  refine gh_isub hK d_Sp_putForm_14 ?_
  refine gh_aload_n hK d_Sp_putForm_15 rfl ?_
  refine gh_get hK d_Sp_putForm_16 in_Ru rfl j1 2 (by decide) kf_Sp_108 rfl rfl ?_
  refine gh_callV (rest := [.int (nI w.length - nI S.length)]) [] hK (c_Lt_count l G j2) Y_Lt_count V_Lt_count km_Sp_71 j2.ob rfl rfl d_Sp_putForm_19 rfl rfl (Nat.le_of_ble_eq_true rfl) ⟨(Nat.le_of_ble_eq_true rfl), (Nat.le_of_ble_eq_true rfl)⟩ ⟨(Nat.le_of_ble_eq_true rfl), (Nat.le_of_ble_eq_true rfl)⟩ (fun v g' hp => ?_)
  rw [hp.1, hp.2]
  show gh_W l G _ X g _ _ [some (.ref (A 30)), some (.ref ea), some (.ref q1), some (.ref q2), none, none] 22 [.int (nI S2.length), .int (nI w.length - nI S.length)]
  refine gh_isub hK d_Sp_putForm_22 ?_
  by_cases hl : S.length + S2.length < w.length
  · rw [sub3_pos hl]
    refine gh_istore (lv' := [some (.ref (A 30)), some (.ref ea), some (.ref q1), some (.ref q2), some (.int (nI (w.length - S.length - S2.length))), none]) hK d_Sp_putForm_23 (Nat.le_of_ble_eq_true rfl) rfl ?_
    refine gh_iload hK d_Sp_putForm_25 rfl ?_
    refine gh_iconst (v := nI 1) hK d_Sp_putForm_27 (by decide) ?_
    refine gh_icmp_geN hK d_Sp_putForm_28 (tgt := 32) (by decide) (by omega) (by decide) (fun z => ?_) (fun z => absurd z (by omega))
    refine gh_aload_n hK d_Sp_putForm_32 rfl ?_
    refine gh_get hK d_Sp_putForm_33 in_Sp rfl h0 5 (by decide) kf_Sp_35 rfl rfl ?_
    refine gh_callV (rest := []) [] hK (c_Lt_count l G fb) Y_Lt_count V_Lt_count km_Sp_71 fb.ob rfl rfl d_Sp_putForm_36 rfl rfl (Nat.le_of_ble_eq_true rfl) ⟨(Nat.le_of_ble_eq_true rfl), (Nat.le_of_ble_eq_true rfl)⟩ ⟨(Nat.le_of_ble_eq_true rfl), (Nat.le_of_ble_eq_true rfl)⟩ (fun v g' hp => ?_)
    rw [hp.1, hp.2]
    show gh_W l G _ X g _ _ [some (.ref (A 30)), some (.ref ea), some (.ref q1), some (.ref q2), some (.int (nI (w.length - S.length - S2.length))), none] 39 [.int (nI fx.length)]
    refine gh_istore (lv' := [some (.ref (A 30)), some (.ref ea), some (.ref q1), some (.ref q2), some (.int (nI (w.length - S.length - S2.length))), some (.int (nI fx.length))]) hK d_Sp_putForm_39 (Nat.le_of_ble_eq_true rfl) rfl ?_
    refine gh_aload_n hK d_Sp_putForm_41 rfl ?_
    refine gh_get hK d_Sp_putForm_42 in_Sp rfl h0 5 (by decide) kf_Sp_35 rfl rfl ?_
    refine gh_aload_n hK d_Sp_putForm_45 rfl ?_
    refine gh_get hK d_Sp_putForm_46 in_Ru rfl k1 3 (by decide) kf_Sp_111 rfl rfl ?_
    refine gh_iconst (v := nI 0) hK d_Sp_putForm_49 (by decide) ?_
    refine gh_aload_n hK d_Sp_putForm_50 rfl ?_
    refine gh_get hK d_Sp_putForm_51 in_Ru rfl k1 3 (by decide) kf_Sp_111 rfl rfl ?_
    refine gh_callV (rest := [.int (nI 0), .ref aa, .ref (A 34)]) [] hK (c_Lt_count l G k3) Y_Lt_count V_Lt_count km_Sp_71 k3.ob rfl rfl d_Sp_putForm_54 rfl rfl (Nat.le_of_ble_eq_true rfl) ⟨(Nat.le_of_ble_eq_true rfl), (Nat.le_of_ble_eq_true rfl)⟩ ⟨(Nat.le_of_ble_eq_true rfl), (Nat.le_of_ble_eq_true rfl)⟩ (fun v g' hp => ?_)
    rw [hp.1, hp.2]
    show gh_W l G _ X g _ _ [some (.ref (A 30)), some (.ref ea), some (.ref q1), some (.ref q2), some (.int (nI (w.length - S.length - S2.length))), some (.int (nI fx.length))] 57 [.int (nI A1.length), .int (nI 0), .ref aa, .ref (A 34)]
    refine gh_callV (rest := []) [.ref aa, .int (nI 0), .int (nI A1.length)] hK (c_Lt_appendAll l G fb k3 p1 p2 (fr := 0) (len := A1.length) (by omega) (by omega)) Y_Lt_appendAll V_Lt_appendAll km_Sp_114 fb.ob rfl rfl d_Sp_putForm_57 rfl rfl (Nat.le_of_ble_eq_true rfl) ⟨(Nat.le_of_ble_eq_true rfl), (Nat.le_of_ble_eq_true rfl)⟩ ⟨(Nat.le_of_ble_eq_true rfl), (Nat.le_of_ble_eq_true rfl)⟩ (fun v g1 hp => ?_)
    obtain ⟨rfl, hb1, hN1⟩ := hp
    show gh_W l G _ X g1 _ _ [some (.ref (A 30)), some (.ref ea), some (.ref q1), some (.ref q2), some (.int (nI (w.length - S.length - S2.length))), some (.int (nI fx.length))] 60 []
    rw [List.drop_zero, List.take_length] at hb1
    have Mg1 : gh_M [34, 35] g g1 := hN1.M fun a ha => by
      obtain ⟨ff, ⟨x1, x2, -⟩, -⟩ := id fb
      rcases List.mem_cons.mp ha with rfl | ha
      · exact ⟨_, _, x1, by decide⟩
      · rw [List.mem_singleton.mp ha]; exact ⟨_, _, x2, by decide⟩
    have hg1 : g1 (A 30) = _ := Mg1 _ _ _ h0 (by decide)
    have kg1 : g1 q1 = _ := Mg1 _ _ _ k1 (by simp at m1 ⊢; omega)
    have jg1 : g1 q2 = _ := Mg1 _ _ _ j1 (by simp at l1 ⊢; omega)
    have ig1 : g1 ea = _ := Mg1 _ _ _ e1 (by decide)
    have ag1 := k3.M Mg1 (by simp at m2 ⊢; omega) (by simp at m3 ⊢; omega)
    have sg1 := k2.M Mg1 (by simp at m2 ⊢; omega) (by simp at m3 ⊢; omega)
    have bg1 := j3.M Mg1 (by simp at l2 ⊢; omega) (by simp at l3 ⊢; omega)
    have wg1 := e2.M Mg1 (by decide) (by decide)
    refine gh_aload_n hK d_Sp_putForm_60 rfl ?_
    refine gh_get hK d_Sp_putForm_61 in_Sp rfl hg1 5 (by decide) kf_Sp_35 rfl rfl ?_
    refine gh_aload_n hK d_Sp_putForm_64 rfl ?_
    refine gh_get hK d_Sp_putForm_65 in_En rfl ig1 0 (by decide) kf_Sp_103 rfl rfl ?_
    refine gh_aload_n hK d_Sp_putForm_68 rfl ?_
    refine gh_get hK d_Sp_putForm_69 in_Ru rfl kg1 2 (by decide) kf_Sp_108 rfl rfl ?_
    refine gh_callV (rest := [.ref wa, .ref (A 34)]) [] hK (c_Lt_count l G sg1) Y_Lt_count V_Lt_count km_Sp_71 sg1.ob rfl rfl d_Sp_putForm_72 rfl rfl (Nat.le_of_ble_eq_true rfl) ⟨(Nat.le_of_ble_eq_true rfl), (Nat.le_of_ble_eq_true rfl)⟩ ⟨(Nat.le_of_ble_eq_true rfl), (Nat.le_of_ble_eq_true rfl)⟩ (fun v g' hp => ?_)
    rw [hp.1, hp.2]
    show gh_W l G _ X g1 _ _ [some (.ref (A 30)), some (.ref ea), some (.ref q1), some (.ref q2), some (.int (nI (w.length - S.length - S2.length))), some (.int (nI fx.length))] 75 [.int (nI S.length), .ref wa, .ref (A 34)]
    refine gh_iload hK d_Sp_putForm_75 rfl ?_
    refine gh_callV (rest := []) [.ref wa, .int (nI S.length), .int (nI (w.length - S.length - S2.length))] hK (c_Lt_appendAll l G hb1 wg1 p5 p6 (fr := S.length) (len := w.length - S.length - S2.length) (by omega) (by rw [List.length_append]; omega)) Y_Lt_appendAll V_Lt_appendAll km_Sp_114 hb1.ob rfl rfl d_Sp_putForm_77 rfl rfl (Nat.le_of_ble_eq_true rfl) ⟨(Nat.le_of_ble_eq_true rfl), (Nat.le_of_ble_eq_true rfl)⟩ ⟨(Nat.le_of_ble_eq_true rfl), (Nat.le_of_ble_eq_true rfl)⟩ (fun v g2 hp => ?_)
    obtain ⟨rfl, hb2, hN2⟩ := hp
    show gh_W l G _ X g2 _ _ [some (.ref (A 30)), some (.ref ea), some (.ref q1), some (.ref q2), some (.int (nI (w.length - S.length - S2.length))), some (.int (nI fx.length))] 80 []
    have hN2 := hN1.tr hN2
    have Mg2 : gh_M [34, 35] g g2 := hN2.M fun a ha => by
      obtain ⟨ff, ⟨x1, x2, -⟩, -⟩ := id fb
      rcases List.mem_cons.mp ha with rfl | ha
      · exact ⟨_, _, x1, by decide⟩
      · rw [List.mem_singleton.mp ha]; exact ⟨_, _, x2, by decide⟩
    have hg2 : g2 (A 30) = _ := Mg2 _ _ _ h0 (by decide)
    have kg2 : g2 q1 = _ := Mg2 _ _ _ k1 (by simp at m1 ⊢; omega)
    have jg2 : g2 q2 = _ := Mg2 _ _ _ j1 (by simp at l1 ⊢; omega)
    have ig2 : g2 ea = _ := Mg2 _ _ _ e1 (by decide)
    have ag2 := k3.M Mg2 (by simp at m2 ⊢; omega) (by simp at m3 ⊢; omega)
    have sg2 := k2.M Mg2 (by simp at m2 ⊢; omega) (by simp at m3 ⊢; omega)
    have bg2 := j3.M Mg2 (by simp at l2 ⊢; omega) (by simp at l3 ⊢; omega)
    have wg2 := e2.M Mg2 (by decide) (by decide)
    refine gh_aload_n hK d_Sp_putForm_80 rfl ?_
    refine gh_get hK d_Sp_putForm_81 in_Sp rfl hg2 5 (by decide) kf_Sp_35 rfl rfl ?_
    refine gh_aload_n hK d_Sp_putForm_84 rfl ?_
    refine gh_get hK d_Sp_putForm_85 in_Ru rfl jg2 3 (by decide) kf_Sp_111 rfl rfl ?_
    refine gh_iconst (v := nI 0) hK d_Sp_putForm_88 (by decide) ?_
    refine gh_aload_n hK d_Sp_putForm_89 rfl ?_
    refine gh_get hK d_Sp_putForm_90 in_Ru rfl jg2 3 (by decide) kf_Sp_111 rfl rfl ?_
    refine gh_callV (rest := [.int (nI 0), .ref aa2, .ref (A 34)]) [] hK (c_Lt_count l G bg2) Y_Lt_count V_Lt_count km_Sp_71 bg2.ob rfl rfl d_Sp_putForm_93 rfl rfl (Nat.le_of_ble_eq_true rfl) ⟨(Nat.le_of_ble_eq_true rfl), (Nat.le_of_ble_eq_true rfl)⟩ ⟨(Nat.le_of_ble_eq_true rfl), (Nat.le_of_ble_eq_true rfl)⟩ (fun v g' hp => ?_)
    rw [hp.1, hp.2]
    show gh_W l G _ X g2 _ _ [some (.ref (A 30)), some (.ref ea), some (.ref q1), some (.ref q2), some (.int (nI (w.length - S.length - S2.length))), some (.int (nI fx.length))] 96 [.int (nI A2.length), .int (nI 0), .ref aa2, .ref (A 34)]
    refine gh_callV (rest := []) [.ref aa2, .int (nI 0), .int (nI A2.length)] hK (c_Lt_appendAll l G hb2 bg2 p3 p4 (fr := 0) (len := A2.length) (by omega) (by rw [List.length_append, List.length_append, slice_len (by omega)]; omega)) Y_Lt_appendAll V_Lt_appendAll km_Sp_114 hb2.ob rfl rfl d_Sp_putForm_96 rfl rfl (Nat.le_of_ble_eq_true rfl) ⟨(Nat.le_of_ble_eq_true rfl), (Nat.le_of_ble_eq_true rfl)⟩ ⟨(Nat.le_of_ble_eq_true rfl), (Nat.le_of_ble_eq_true rfl)⟩ (fun v g3 hp => ?_)
    obtain ⟨rfl, hb3, hN3⟩ := hp
    show gh_W l G _ X g3 _ _ [some (.ref (A 30)), some (.ref ea), some (.ref q1), some (.ref q2), some (.int (nI (w.length - S.length - S2.length))), some (.int (nI fx.length))] 99 []
    rw [List.drop_zero, List.take_length] at hb3
    have hN3 := hN2.tr hN3
    have Mg3 : gh_M [34, 35] g g3 := hN3.M fun a ha => by
      obtain ⟨ff, ⟨x1, x2, -⟩, -⟩ := id fb
      rcases List.mem_cons.mp ha with rfl | ha
      · exact ⟨_, _, x1, by decide⟩
      · rw [List.mem_singleton.mp ha]; exact ⟨_, _, x2, by decide⟩
    have hg3 : g3 (A 30) = _ := Mg3 _ _ _ h0 (by decide)
    have kg3 : g3 q1 = _ := Mg3 _ _ _ k1 (by simp at m1 ⊢; omega)
    have jg3 : g3 q2 = _ := Mg3 _ _ _ j1 (by simp at l1 ⊢; omega)
    have ig3 : g3 ea = _ := Mg3 _ _ _ e1 (by decide)
    have ag3 := k3.M Mg3 (by simp at m2 ⊢; omega) (by simp at m3 ⊢; omega)
    have sg3 := k2.M Mg3 (by simp at m2 ⊢; omega) (by simp at m3 ⊢; omega)
    have bg3 := j3.M Mg3 (by simp at l2 ⊢; omega) (by simp at l3 ⊢; omega)
    have wg3 := e2.M Mg3 (by decide) (by decide)
    have ef : fmF (fl1, S, A1, Cc) (fl2, S2, A2, C2) w = some (A1 ++ (w.drop S.length).take (w.length - S.length - S2.length) ++ A2) := if_pos hl
    have elen : (A1 ++ (w.drop S.length).take (w.length - S.length - S2.length) ++ A2).length ≤ 28 := by rw [List.length_append, List.length_append, slice_len (by omega)]; omega
    rw [List.append_assoc, List.append_assoc, ← List.append_assoc A1] at hb3
    generalize A1 ++ (w.drop S.length).take (w.length - S.length - S2.length) ++ A2 = f at ef elen hb3
    have hW3 := fW.M Mg3 (by decide) (by decide) (by decide)
    have ewl : wls (fx ++ f) fp = wls fx fp := wls_app fv
    refine gh_aload_n hK d_Sp_putForm_99 rfl ?_
    refine gh_get hK d_Sp_putForm_100 in_Sp rfl hg3 6 (by decide) kf_Sp_43 rfl rfl ?_
    refine gh_iload hK d_Sp_putForm_103 rfl ?_
    refine gh_aload_n hK d_Sp_putForm_105 rfl ?_
    refine gh_get hK d_Sp_putForm_106 in_Sp rfl hg3 5 (by decide) kf_Sp_35 rfl rfl ?_
    refine gh_callV (rest := [.int (nI fx.length), .ref (A 36)]) [] hK (c_Lt_count l G hb3) Y_Lt_count V_Lt_count km_Sp_71 hb3.ob rfl rfl d_Sp_putForm_109 rfl rfl (Nat.le_of_ble_eq_true rfl) ⟨(Nat.le_of_ble_eq_true rfl), (Nat.le_of_ble_eq_true rfl)⟩ ⟨(Nat.le_of_ble_eq_true rfl), (Nat.le_of_ble_eq_true rfl)⟩ (fun v g' hp => ?_)
    rw [hp.1, hp.2]
    show gh_W l G _ X g3 _ _ [some (.ref (A 30)), some (.ref ea), some (.ref q1), some (.ref q2), some (.int (nI (w.length - S.length - S2.length))), some (.int (nI fx.length))] 112 [.int (nI ((fx ++ f).length)), .int (nI fx.length), .ref (A 36)]
    rw [List.length_append]
    refine gh_iload hK d_Sp_putForm_112 rfl ?_
    refine gh_subN hK d_Sp_putForm_114 (by omega) ?_
    rw [Nat.add_sub_cancel_left]
    refine gh_callV (rest := []) [.int (nI fx.length), .int (nI f.length)] hK (c_Wl_put l G hW3 (by decide) hb3 (fun p hp => by have := fv p hp; rw [List.length_append]; omega) (fr := fx.length) (len := f.length) (by rw [List.length_append]; omega) (by rw [ewl]; exact fsr) hc2) Y_Wl_put V_Wl_put km_Sp_118 hW3.ob rfl rfl d_Sp_putForm_115 rfl rfl (Nat.le_of_ble_eq_true rfl) ⟨(Nat.le_of_ble_eq_true rfl), (Nat.le_of_ble_eq_true rfl)⟩ ⟨(Nat.le_of_ble_eq_true rfl), (Nat.le_of_ble_eq_true rfl)⟩ (fun v g4 hp => ?_)
    obtain ⟨rfl, hp1, hpN⟩ := hp
    show gh_W l G _ X g4 _ _ [some (.ref (A 30)), some (.ref ea), some (.ref q1), some (.ref q2), some (.int (nI (w.length - S.length - S2.length))), some (.int (nI fx.length))] 118 []
    have hM4 : gh_M [36, 37, 38] g3 g4 := hpN.M fun a ha => by
      obtain ⟨x1, x2, y1, y2, y3, -⟩ := id hW3
      rcases List.mem_cons.mp ha with rfl | ha
      · exact ⟨_, _, y1, by decide⟩
      · rcases List.mem_cons.mp ha with rfl | ha
        · exact ⟨_, _, y2, by decide⟩
        · rw [List.mem_singleton.mp ha]; exact ⟨_, _, y3, by decide⟩
    rw [slice_end, ewl] at hp1
    have ews : wls (fx ++ f) (if f ∈ wls fx fp then fp else insA fp (rnkL f (wls fx fp)) (fx.length, f.length)) = addW f (wls fx fp) := by
      unfold addW
      by_cases q : f ∈ wls fx fp
      · rw [if_pos q, if_pos q, ewl]
      · rw [if_neg q, if_neg q]
        unfold wls
        rw [insA_map]
        show insA (wls (fx ++ f) fp) _ _ = _
        rw [ewl, slice_end]
        rfl
    refine gh_vret hK hE d_Sp_putForm_118 (Nat.le_of_ble_eq_true rfl) (Nat.le_of_ble_eq_true rfl) ⟨rfl, ⟨fx ++ f, _, ⟨hb3.M hM4 (by decide) (by decide), hp1, fun p hp => ?_, by rw [ews]; exact addW_srt fsr⟩, by rw [List.length_append]; omega, ?_, by rw [ews, ef]⟩, (Mg3.wd (by decide)).tr (hM4.wd (by decide))⟩
    · rw [List.length_append]
      by_cases q : f ∈ wls fx fp
      · rw [if_pos q] at hp
        have := fv p hp
        omega
      · rw [if_neg q] at hp
        rcases insA_mem hp with q2 | q2
        · have := fv p q2
          omega
        · rw [q2]
          exact Nat.le_refl _
    · by_cases q : f ∈ wls fx fp
      · rw [if_pos q]; omega
      · rw [if_neg q, insA_len (by have := rnkL_le f (wls fx fp); rw [show (wls fx fp).length = fp.length from List.length_map ..] at this; exact this)]; exact Nat.le_refl _
  · refine gh_istore (lv' := [some (.ref (A 30)), some (.ref ea), some (.ref q1), some (.ref q2), some (.int (nI w.length - nI S.length - nI S2.length)), none]) hK d_Sp_putForm_23 (Nat.le_of_ble_eq_true rfl) rfl ?_
    refine gh_iload hK d_Sp_putForm_25 rfl ?_
    refine gh_iconst (v := nI 1) hK d_Sp_putForm_27 (by decide) ?_
    refine gh_icmp_ge hK d_Sp_putForm_28 (tgt := 32) (by decide) (fun z => absurd (sub3_neg (a := w.length) (b := S.length) (c := S2.length) (by omega) (by omega) (by omega) (by omega)) (Int32.not_lt.mpr z)) (fun z => ?_)
    exact gh_vret hK hE d_Sp_putForm_31 (Nat.le_of_ble_eq_true rfl) (Nat.le_of_ble_eq_true rfl) ⟨rfl, ⟨fx, fp, hm, by omega, by omega, by rw [show fmF (fl1, S, A1, Cc) (fl2, S2, A2, C2) w = none from if_neg hl]⟩, gh_M.rf⟩
