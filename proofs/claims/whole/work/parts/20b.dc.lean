/-! THE DICTIONARY: entries (address, word, flags) in order -/
def dws (es : List (Nat × List Nat × Nat)) : List (List Nat) := es.map fun x => x.2.1
def Dc (G : GG) (g : GH) (da aa : Nat) (es : List (Nat × List Nat × Nat)) : Prop := g da = some (7, .inr (1, [.ref aa])) ∧ Al G g aa 8 9 (es.map fun x => x.1) ∧ ∀ x, x ∈ es → En G g x.1 x.2.1 x.2.2
theorem Dc.M {G : GG} {g g' : GH} {da aa : Nat} {es : List (Nat × List Nat × Nat)} {S : List Nat} (h : Dc G g da aa es) (hM : gh_M S g g') (h1 : ∀ t, t ∈ [7, 8, 9, 50, 51, 52] → t ∉ S) : Dc G g' da aa es := ⟨hM da 7 _ h.1 (h1 7 (by decide)), h.2.1.M hM (h1 8 (by decide)) (h1 9 (by decide)), fun x hx => (h.2.2 x hx).M hM (h1 50 (by decide)) (h1 51 (by decide)) (h1 52 (by decide))⟩
theorem Dc.T {G : GG} {g : GH} {da aa : Nat} {es : List (Nat × List Nat × Nat)} (h : Dc G g da aa es) : AlT g 2 50 (es.map fun x => x.1) := fun r hr => by
  obtain ⟨x, hx, rfl⟩ := List.mem_map.mp hr
  obtain ⟨wa, wb, k1, -⟩ := h.2.2 x hx
  exact ⟨_, k1⟩
theorem Dc.len {G : GG} {g : GH} {da aa : Nat} {es : List (Nat × List Nat × Nat)} (h : Dc G g da aa es) : es.length ≤ 450 := by
  have := h.2.1.len
  rwa [List.length_map] at this
theorem map_erI {α β : Type} (f : α → β) (l : List α) (j : Nat) : (l.eraseIdx j).map f = (l.map f).eraseIdx j := by rw [List.eraseIdx_eq_take_drop_succ, List.eraseIdx_eq_take_drop_succ, List.map_append, List.map_take, List.map_drop]
theorem dws_at {es : List (Nat × List Nat × Nat)} {i : Nat} {x : Nat × List Nat × Nat} (h : es[i]? = some x) : (dws es)[i]? = some x.2.1 := by unfold dws; rw [List.getElem?_map, h]; rfl
theorem dad_at {es : List (Nat × List Nat × Nat)} {i : Nat} {x : Nat × List Nat × Nat} (h : es[i]? = some x) : (es.map fun x => x.1)[i]? = some x.1 := by rw [List.getElem?_map, h]; rfl
set_option maxRecDepth 20000 in
set_option maxHeartbeats 4000000 in
theorem c_Dc_count (l : Launch) (G : GG) {g : GH} {da aa : Nat} {es : List (Nat × List Nat × Nat)} (h : Dc G g da aa es) : gMet l G y_Dc_count b_Dc_count 1 (some .int) (rmk 1 0 0 20) [.ref da] g (fun v g' => v = some (.int (nI es.length)) ∧ g' = g) := by
  refine gMet.of [some (.ref da)] (by decide +kernel) rfl (Nat.le_of_ble_eq_true rfl) rfl (fun X hK hI hE => ?_)
  obtain ⟨k0, k1⟩ := h.2.1.ob
  refine gh_aload_n hK d_Dc_count_0 rfl ?_
  refine gh_get hK d_Dc_count_1 in_Dc rfl h.1 0 (by decide) kf_Dc_12 rfl rfl ?_
  refine gh_callV (rest := []) [] hK (c_AL_size l G h.2.1) Y_AL_size V_AL_size km_Dc_18 k1 rfl rfl d_Dc_count_4 rfl rfl (Nat.le_of_ble_eq_true rfl) ⟨(Nat.le_of_ble_eq_true rfl), (Nat.le_of_ble_eq_true rfl)⟩ ⟨(Nat.le_of_ble_eq_true rfl), (Nat.le_of_ble_eq_true rfl)⟩ (fun v g' hp => ?_)
  rw [hp.1, hp.2]
  show gh_W l G _ X g _ _ [some (.ref da)] 7 [.int (nI ((es.map fun x => x.1).length))]
  rw [List.length_map]
  exact gh_iret hK hE d_Dc_count_7 (Nat.le_of_ble_eq_true rfl) (Nat.le_of_ble_eq_true rfl) ⟨rfl, rfl⟩
set_option maxRecDepth 20000 in
set_option maxHeartbeats 4000000 in
theorem c_Dc_clear (l : Launch) (G : GG) {g : GH} {da aa : Nat} {es : List (Nat × List Nat × Nat)} (h : Dc G g da aa es) : gMet l G y_Dc_clear b_Dc_clear 1 none (rmk 1 0 0 23) [.ref da] g (fun v g' => v = none ∧ Dc G g' da aa [] ∧ gh_M [8, 9] g g') := by
  refine gMet.of [some (.ref da)] (by decide +kernel) rfl (Nat.le_of_ble_eq_true rfl) rfl (fun X hK hI hE => ?_)
  obtain ⟨k0, k1⟩ := h.2.1.ob
  refine gh_aload_n hK d_Dc_clear_0 rfl ?_
  refine gh_get hK d_Dc_clear_1 in_Dc rfl h.1 0 (by decide) kf_Dc_12 rfl rfl ?_
  refine gh_callV (rest := []) [] hK (c_AL_clear l G h.2.1) Y_AL_clear V_AL_clear km_Dc_22 k1 rfl rfl d_Dc_clear_4 rfl rfl (Nat.le_of_ble_eq_true rfl) ⟨(Nat.le_of_ble_eq_true rfl), (Nat.le_of_ble_eq_true rfl)⟩ ⟨(Nat.le_of_ble_eq_true rfl), (Nat.le_of_ble_eq_true rfl)⟩ (fun v g1 hp => ?_)
  obtain ⟨rfl, hp1, hp2⟩ := hp
  show gh_W l G _ X g1 _ _ [some (.ref da)] 7 []
  exact gh_vret hK hE d_Dc_clear_7 (Nat.le_of_ble_eq_true rfl) (Nat.le_of_ble_eq_true rfl) ⟨rfl, ⟨hp2 da 7 _ h.1 (by decide), hp1, fun x hx => absurd hx List.not_mem_nil⟩, hp2⟩
set_option maxRecDepth 20000 in
set_option maxHeartbeats 4000000 in
theorem c_Dc_at (l : Launch) (G : GG) {g : GH} {da aa : Nat} {es : List (Nat × List Nat × Nat)} {j : Nat} (h : Dc G g da aa es) (hj : j < 2 ^ 31) : gMet l G y_Dc_at1 b_Dc_at1 2 (some (.object "SpellDesk$Entry")) (rmk 3 0 0 64) [.ref da, .int (nI j)] g (fun v g' => (∀ x, es[j]? = some x → v = some (.ref x.1)) ∧ (es[j]? = none → v = some .null) ∧ g' = g) := by
  refine gMet.of [some (.ref da), some (.int (nI j))] (by decide +kernel) rfl (Nat.le_of_ble_eq_true rfl) rfl (fun X hK hI hE => ?_)
  have hlen := h.len
  obtain ⟨k0, k1⟩ := h.2.1.ob
  refine gh_iload_n hK d_Dc_at1_0 rfl ?_
  refine gh_if_ltN hK d_Dc_at1_1 (tgt := 29) (by decide) hj ?_
  refine gh_iload_n hK d_Dc_at1_4 rfl ?_
  refine gh_aload_n hK d_Dc_at1_5 rfl ?_
  refine gh_get hK d_Dc_at1_6 in_Dc rfl h.1 0 (by decide) kf_Dc_12 rfl rfl ?_
  refine gh_callV (rest := [.int (nI j)]) [] hK (c_AL_size l G h.2.1) Y_AL_size V_AL_size km_Dc_18 k1 rfl rfl d_Dc_at1_9 rfl rfl (Nat.le_of_ble_eq_true rfl) ⟨(Nat.le_of_ble_eq_true rfl), (Nat.le_of_ble_eq_true rfl)⟩ ⟨(Nat.le_of_ble_eq_true rfl), (Nat.le_of_ble_eq_true rfl)⟩ (fun v g' hp => ?_)
  rw [hp.1, hp.2]
  show gh_W l G _ X g _ _ [some (.ref da), some (.int (nI j))] 12 [.int (nI ((es.map fun x => x.1).length)), .int (nI j)]
  rw [List.length_map]
  refine gh_icmp_geN hK d_Dc_at1_12 (tgt := 29) (by decide) hj (by omega) (fun z => ?_) (fun z => ?_)
  · refine gh_null hK d_Dc_at1_29 ?_
    exact gh_aret (Or.inl ⟨_, rfl⟩) (Or.inl rfl) hK hE d_Dc_at1_30 (Nat.le_of_ble_eq_true rfl) (Nat.le_of_ble_eq_true rfl) ⟨fun x hx => absurd (List.getElem?_eq_some_iff.mp hx).1 (by omega), fun _ => rfl, rfl⟩
  · obtain ⟨x, hx⟩ : ∃ x, es[j]? = some x := ⟨_, List.getElem?_eq_getElem z⟩
    obtain ⟨wa, wb, e1, -⟩ := h.2.2 x (List.mem_of_getElem? hx)
    refine gh_aload_n hK d_Dc_at1_15 rfl ?_
    refine gh_get hK d_Dc_at1_16 in_Dc rfl h.1 0 (by decide) kf_Dc_12 rfl rfl ?_
    refine gh_iload_n hK d_Dc_at1_19 rfl ?_
    refine gh_callV (rest := []) [.int (nI j)] hK (c_AL_get l G h.2.1 (dad_at hx)) Y_AL_get V_AL_get km_Dc_25 k1 rfl rfl d_Dc_at1_20 rfl rfl (Nat.le_of_ble_eq_true rfl) ⟨(Nat.le_of_ble_eq_true rfl), (Nat.le_of_ble_eq_true rfl)⟩ ⟨(Nat.le_of_ble_eq_true rfl), (Nat.le_of_ble_eq_true rfl)⟩ (fun v g' hp => ?_)
    rw [hp.1, hp.2]
    show gh_W l G _ X g _ _ [some (.ref da), some (.int (nI j))] 23 [.ref x.1]
    refine gh_cast0 hK d_Dc_at1_23 kc_Dc_29 e1 rfl ?_
    refine gh_goto (tgt := 30) hK d_Dc_at1_26 (by decide) ?_
    exact gh_aret (Or.inl ⟨_, rfl⟩) (Or.inr ⟨_, rfl⟩) hK hE d_Dc_at1_30 (Nat.le_of_ble_eq_true rfl) (Nat.le_of_ble_eq_true rfl) ⟨fun y hy => (by rw [hx] at hy; cases hy; rfl), fun hn => (by rw [hx] at hn; cases hn), rfl⟩
set_option maxRecDepth 20000 in
set_option maxHeartbeats 4000000 in
theorem c_Dc_rankOf (l : Launch) (G : GG) {g : GH} {da aa : Nat} {es : List (Nat × List Nat × Nat)} {ra rt rb ru rcap fr len : Nat} {ys : List Nat} (h : Dc G g da aa es) (hs : srtL (dws es)) (hr : Lt G g ra rt rb ru rcap ys) (hf : fr + len ≤ ys.length) : gMet l G y_Dc_rankOf b_Dc_rankOf 9 (some .int) (rmk 3 0 0 64) [.ref da, .ref ra, .int (nI fr), .int (nI len)] g (fun v g' => v = some (.int (nI (rnkL ((ys.drop fr).take len) (dws es)))) ∧ g' = g) := by
  refine gMet.of [some (.ref da), some (.ref ra), some (.int (nI fr)), some (.int (nI len)), none, none, none, none, none] (by decide +kernel) rfl (Nat.le_of_ble_eq_true rfl) rfl (fun X hK hI hE => ?_)
  have hlen := h.len
  obtain ⟨k0, k1⟩ := h.2.1.ob
  have hwl : (dws es).length = es.length := List.length_map ..
  have hrk := rnkL_le ((ys.drop fr).take len) (dws es)
  rw [hwl] at hrk
  generalize hw : (ys.drop fr).take len = w at hrk hE ⊢
  have loop : ∀ (m i lo hi : Nat) (o7 o8 : Option Value), i + m = 32 → hi - lo < 2 ^ m → lo ≤ rnkL w (dws es) → rnkL w (dws es) ≤ hi → hi ≤ es.length → gh_W l G (rmk 3 0 0 64) X g 0 0 [some (.ref da), some (.ref ra), some (.int (nI fr)), some (.int (nI len)), some (.int (nI lo)), some (.int (nI hi)), some (.int (nI i)), o7, o8] 15 [] := by
    have out : ∀ (lo hi i : Nat) (o7 o8 : Option Value), hi ≤ lo → lo ≤ rnkL w (dws es) → rnkL w (dws es) ≤ hi → gh_W l G (rmk 3 0 0 64) X g 0 0 [some (.ref da), some (.ref ra), some (.int (nI fr)), some (.int (nI len)), some (.int (nI lo)), some (.int (nI hi)), some (.int (nI i)), o7, o8] 91 [] := by
      intro lo hi i o7 o8 h1 h2 h3
      obtain rfl : lo = rnkL w (dws es) := by omega
      refine gh_iload hK d_Dc_rankOf_91 rfl ?_
      exact gh_iret hK hE d_Dc_rankOf_93 (Nat.le_of_ble_eq_true rfl) (Nat.le_of_ble_eq_true rfl) ⟨rfl, rfl⟩
    intro m
    induction m with
    | zero =>
      intro i lo hi o7 o8 hi0 hm h1 h2 h3
      refine gh_iload hK d_Dc_rankOf_15 rfl ?_
      refine gh_bipush (v := nI 32) hK d_Dc_rankOf_17 (by decide) ?_
      refine gh_icmp_geN hK d_Dc_rankOf_19 (tgt := 91) (by decide) (by omega) (by decide) (fun z => ?_) (fun z => absurd z (by omega))
      exact out lo hi i o7 o8 (by simp at hm; omega) h1 h2
    | succ m ih =>
      intro i lo hi o7 o8 hi0 hm h1 h2 h3
      rw [Nat.pow_succ] at hm
      refine gh_iload hK d_Dc_rankOf_15 rfl ?_
      refine gh_bipush (v := nI 32) hK d_Dc_rankOf_17 (by decide) ?_
      refine gh_icmp_geN hK d_Dc_rankOf_19 (tgt := 91) (by decide) (by omega) (by decide) (fun z => absurd z (by omega)) (fun z => ?_)
      refine gh_iload hK d_Dc_rankOf_22 rfl ?_
      refine gh_iload hK d_Dc_rankOf_24 rfl ?_
      refine gh_icmp_geN hK d_Dc_rankOf_26 (tgt := 91) (by decide) (by omega) (by omega) (fun z2 => ?_) (fun z2 => ?_)
      · exact out lo hi i o7 o8 z2 h1 h2
      · refine gh_iload hK d_Dc_rankOf_29 rfl ?_
        refine gh_iload hK d_Dc_rankOf_31 rfl ?_
        refine gh_addN hK d_Dc_rankOf_33 ?_
        refine gh_iconst (v := nI 2) hK d_Dc_rankOf_34 (by decide) ?_
        refine gh_divN hK d_Dc_rankOf_35 (by omega) (by omega) (by omega) ?_
        have hmd : (lo + hi) / 2 < hi := by omega
        have hmd2 : lo ≤ (lo + hi) / 2 := by omega
        have hmd3 : (lo + hi) / 2 - lo < 2 ^ m := by omega
        have hmd4 : hi - ((lo + hi) / 2 + 1) < 2 ^ m := by omega
        obtain ⟨x, hx⟩ : ∃ x, es[(lo + hi) / 2]? = some x := ⟨_, List.getElem?_eq_getElem (by omega)⟩
        generalize (lo + hi) / 2 = md at hmd hmd2 hmd3 hmd4 hx ⊢
        have hwm := dws_at hx
        obtain ⟨wa, wb, e1, e2⟩ := h.2.2 x (List.mem_of_getElem? hx)
        refine gh_istore (lv' := [some (.ref da), some (.ref ra), some (.int (nI fr)), some (.int (nI len)), some (.int (nI lo)), some (.int (nI hi)), some (.int (nI i)), some (.int (nI md)), o8]) hK d_Dc_rankOf_36 (Nat.le_of_ble_eq_true rfl) rfl ?_
        refine gh_aload_n hK d_Dc_rankOf_38 rfl ?_
        refine gh_get hK d_Dc_rankOf_39 in_Dc rfl h.1 0 (by decide) kf_Dc_12 rfl rfl ?_
        refine gh_iload hK d_Dc_rankOf_42 rfl ?_
        refine gh_callV (rest := []) [.int (nI md)] hK (c_AL_get l G h.2.1 (dad_at hx)) Y_AL_get V_AL_get km_Dc_25 k1 rfl rfl d_Dc_rankOf_44 rfl rfl (Nat.le_of_ble_eq_true rfl) ⟨(Nat.le_of_ble_eq_true rfl), (Nat.le_of_ble_eq_true rfl)⟩ ⟨(Nat.le_of_ble_eq_true rfl), (Nat.le_of_ble_eq_true rfl)⟩ (fun v g' hp => ?_)
        rw [hp.1, hp.2]
        show gh_W l G _ X g _ _ [some (.ref da), some (.ref ra), some (.int (nI fr)), some (.int (nI len)), some (.int (nI lo)), some (.int (nI hi)), some (.int (nI i)), some (.int (nI md)), o8] 47 [.ref x.1]
        refine gh_cast0 hK d_Dc_rankOf_47 kc_Dc_29 e1 rfl ?_
        refine gh_get hK d_Dc_rankOf_50 in_En rfl e1 0 (by decide) kf_Dc_35 rfl rfl ?_
        refine gh_astore (lv' := [some (.ref da), some (.ref ra), some (.int (nI fr)), some (.int (nI len)), some (.int (nI lo)), some (.int (nI hi)), some (.int (nI i)), some (.int (nI md)), some (.ref wa)]) hK d_Dc_rankOf_53 (Nat.le_of_ble_eq_true rfl) rfl ?_
        refine gh_aload hK d_Dc_rankOf_55 rfl ?_
        refine gh_iconst (v := nI 0) hK d_Dc_rankOf_57 (by decide) ?_
        refine gh_aload hK d_Dc_rankOf_58 rfl ?_
        refine gh_callV (rest := [.int (nI 0), .ref wa]) [] hK (c_Lt_count l G e2) Y_Lt_count V_Lt_count km_Dc_39 e2.ob rfl rfl d_Dc_rankOf_60 rfl rfl (Nat.le_of_ble_eq_true rfl) ⟨(Nat.le_of_ble_eq_true rfl), (Nat.le_of_ble_eq_true rfl)⟩ ⟨(Nat.le_of_ble_eq_true rfl), (Nat.le_of_ble_eq_true rfl)⟩ (fun v g' hp => ?_)
        rw [hp.1, hp.2]
        show gh_W l G _ X g _ _ [some (.ref da), some (.ref ra), some (.int (nI fr)), some (.int (nI len)), some (.int (nI lo)), some (.int (nI hi)), some (.int (nI i)), some (.int (nI md)), some (.ref wa)] 63 [.int (nI x.2.1.length), .int (nI 0), .ref wa]
        refine gh_aload_n hK d_Dc_rankOf_63 rfl ?_
        refine gh_iload_n hK d_Dc_rankOf_64 rfl ?_
        refine gh_iload_n hK d_Dc_rankOf_65 rfl ?_
        refine gh_callV (rest := []) [.int (nI 0), .int (nI x.2.1.length), .ref ra, .int (nI fr), .int (nI len)] hK (c_Lt_compare l G e2 hr (fr := 0) (len := x.2.1.length) (of := fr) (ol := len) (by omega) hf) Y_Lt_compare V_Lt_compare km_Dc_44 e2.ob rfl rfl d_Dc_rankOf_66 rfl rfl (Nat.le_of_ble_eq_true rfl) ⟨(Nat.le_of_ble_eq_true rfl), (Nat.le_of_ble_eq_true rfl)⟩ ⟨(Nat.le_of_ble_eq_true rfl), (Nat.le_of_ble_eq_true rfl)⟩ (fun v g' hp => ?_)
        obtain ⟨r, rfl, hr1, hg⟩ := hp
        rw [hg]
        show gh_W l G _ X g _ _ [some (.ref da), some (.ref ra), some (.int (nI fr)), some (.int (nI len)), some (.int (nI lo)), some (.int (nI hi)), some (.int (nI i)), some (.int (nI md)), some (.ref wa)] 69 [.int r]
        rw [hw, List.drop_zero, List.take_length] at hr1
        refine gh_if_geI hK d_Dc_rankOf_69 (tgt := 81) (by decide) hr1 (fun z4 => ?_) (fun z4 => ?_)
        · refine gh_iload hK d_Dc_rankOf_81 rfl ?_
          refine gh_istore (lv' := [some (.ref da), some (.ref ra), some (.int (nI fr)), some (.int (nI len)), some (.int (nI lo)), some (.int (nI md)), some (.int (nI i)), some (.int (nI md)), some (.ref wa)]) hK d_Dc_rankOf_83 (Nat.le_of_ble_eq_true rfl) rfl ?_
          refine gh_incN (lv' := [some (.ref da), some (.ref ra), some (.int (nI fr)), some (.int (nI len)), some (.int (nI lo)), some (.int (nI md)), some (.int (nI (i + 1))), some (.int (nI md)), some (.ref wa)]) hK d_Dc_rankOf_85 rfl rfl ?_
          refine gh_goto (tgt := 15) hK d_Dc_rankOf_88 (by decide) ?_
          refine ih (i + 1) lo md _ _ (by omega) (by omega) h1 ?_ (by omega)
          rcases Nat.lt_or_ge md (rnkL w (dws es)) with q | q
          · have := rnkL_lt w hwm q; omega
          · exact q
        · refine gh_iload hK d_Dc_rankOf_72 rfl ?_
          refine gh_iconst (v := nI 1) hK d_Dc_rankOf_74 (by decide) ?_
          refine gh_addN hK d_Dc_rankOf_75 ?_
          refine gh_istore (lv' := [some (.ref da), some (.ref ra), some (.int (nI fr)), some (.int (nI len)), some (.int (nI (md + 1))), some (.int (nI hi)), some (.int (nI i)), some (.int (nI md)), some (.ref wa)]) hK d_Dc_rankOf_76 (Nat.le_of_ble_eq_true rfl) rfl ?_
          refine gh_goto (tgt := 85) hK d_Dc_rankOf_78 (by decide) ?_
          refine gh_incN (lv' := [some (.ref da), some (.ref ra), some (.int (nI fr)), some (.int (nI len)), some (.int (nI (md + 1))), some (.int (nI hi)), some (.int (nI (i + 1))), some (.int (nI md)), some (.ref wa)]) hK d_Dc_rankOf_85 rfl rfl ?_
          refine gh_goto (tgt := 15) hK d_Dc_rankOf_88 (by decide) ?_
          exact ih (i + 1) (md + 1) hi _ _ (by omega) (by omega) ((rnkL_at w hs hwm).mp z4) h2 h3
  refine gh_iconst (v := nI 0) hK d_Dc_rankOf_0 (by decide) ?_
  refine gh_istore (lv' := [some (.ref da), some (.ref ra), some (.int (nI fr)), some (.int (nI len)), some (.int (nI 0)), none, none, none, none]) hK d_Dc_rankOf_1 (Nat.le_of_ble_eq_true rfl) rfl ?_
  refine gh_aload_n hK d_Dc_rankOf_3 rfl ?_
  refine gh_get hK d_Dc_rankOf_4 in_Dc rfl h.1 0 (by decide) kf_Dc_12 rfl rfl ?_
  refine gh_callV (rest := []) [] hK (c_AL_size l G h.2.1) Y_AL_size V_AL_size km_Dc_18 k1 rfl rfl d_Dc_rankOf_7 rfl rfl (Nat.le_of_ble_eq_true rfl) ⟨(Nat.le_of_ble_eq_true rfl), (Nat.le_of_ble_eq_true rfl)⟩ ⟨(Nat.le_of_ble_eq_true rfl), (Nat.le_of_ble_eq_true rfl)⟩ (fun v g' hp => ?_)
  rw [hp.1, hp.2]
  show gh_W l G _ X g _ _ [some (.ref da), some (.ref ra), some (.int (nI fr)), some (.int (nI len)), some (.int (nI 0)), none, none, none, none] 10 [.int (nI ((es.map fun x => x.1).length))]
  rw [List.length_map]
  refine gh_istore (lv' := [some (.ref da), some (.ref ra), some (.int (nI fr)), some (.int (nI len)), some (.int (nI 0)), some (.int (nI es.length)), none, none, none]) hK d_Dc_rankOf_10 (Nat.le_of_ble_eq_true rfl) rfl ?_
  refine gh_iconst (v := nI 0) hK d_Dc_rankOf_12 (by decide) ?_
  refine gh_istore (lv' := [some (.ref da), some (.ref ra), some (.int (nI fr)), some (.int (nI len)), some (.int (nI 0)), some (.int (nI es.length)), some (.int (nI 0)), none, none]) hK d_Dc_rankOf_13 (Nat.le_of_ble_eq_true rfl) rfl ?_
  exact loop 32 0 0 es.length none none (by omega) (by omega) (Nat.zero_le _) hrk (Nat.le_refl _)
set_option maxRecDepth 20000 in
set_option maxHeartbeats 4000000 in
theorem c_Dc_atW (l : Launch) (G : GG) {g : GH} {da aa : Nat} {es : List (Nat × List Nat × Nat)} {j : Nat} {ra rt rb ru rcap fr len : Nat} {ys : List Nat} (h : Dc G g da aa es) (hj : j < 2 ^ 31) (hr : Lt G g ra rt rb ru rcap ys) (hf : fr + len ≤ ys.length) : gMet l G y_Dc_at b_Dc_at 6 (some (.object "SpellDesk$Entry")) (rmk 4 0 0 85) [.ref da, .int (nI j), .ref ra, .int (nI fr), .int (nI len)] g (fun v g' => (∀ x, es[j]? = some x → x.2.1 = (ys.drop fr).take len → v = some (.ref x.1)) ∧ ((∀ x, es[j]? = some x → x.2.1 ≠ (ys.drop fr).take len) → v = some .null) ∧ g' = g) := by
  refine gMet.of [some (.ref da), some (.int (nI j)), some (.ref ra), some (.int (nI fr)), some (.int (nI len)), none] (by decide +kernel) rfl (Nat.le_of_ble_eq_true rfl) rfl (fun X hK hI hE => ?_)
  refine gh_aload_n hK d_Dc_at_0 rfl ?_
  refine gh_iload_n hK d_Dc_at_1 rfl ?_
  cases hx : es[j]? with
  | none =>
    refine gh_callV (rest := []) [.int (nI j)] hK (c_Dc_at l G h hj) Y_Dc_at1 V_Dc_at1 km_Dc_31 h.1 rfl rfl d_Dc_at_2 rfl rfl (Nat.le_of_ble_eq_true rfl) ⟨(Nat.le_of_ble_eq_true rfl), (Nat.le_of_ble_eq_true rfl)⟩ ⟨(Nat.le_of_ble_eq_true rfl), (Nat.le_of_ble_eq_true rfl)⟩ (fun v g' hp => ?_)
    rw [hp.2.1 hx, hp.2.2]
    show gh_W l G _ X g _ _ [some (.ref da), some (.int (nI j)), some (.ref ra), some (.int (nI fr)), some (.int (nI len)), none] 5 [.null]
    refine gh_astoreN (lv' := [some (.ref da), some (.int (nI j)), some (.ref ra), some (.int (nI fr)), some (.int (nI len)), some (.null)]) hK d_Dc_at_5 (Nat.le_of_ble_eq_true rfl) rfl ?_
    refine gh_aloadN hK d_Dc_at_7 rfl ?_
    refine gh_ifnullN hK d_Dc_at_9 (tgt := 36) (by decide) ?_
    refine gh_null hK d_Dc_at_36 ?_
    exact gh_aret (Or.inl ⟨_, rfl⟩) (Or.inl rfl) hK hE d_Dc_at_37 (Nat.le_of_ble_eq_true rfl) (Nat.le_of_ble_eq_true rfl) ⟨fun x hx2 => (by rw [hx] at hx2; cases hx2), fun _ => rfl, rfl⟩
  | some x =>
    obtain ⟨wa, wb, e1, e2⟩ := h.2.2 x (List.mem_of_getElem? hx)
    refine gh_callV (rest := []) [.int (nI j)] hK (c_Dc_at l G h hj) Y_Dc_at1 V_Dc_at1 km_Dc_31 h.1 rfl rfl d_Dc_at_2 rfl rfl (Nat.le_of_ble_eq_true rfl) ⟨(Nat.le_of_ble_eq_true rfl), (Nat.le_of_ble_eq_true rfl)⟩ ⟨(Nat.le_of_ble_eq_true rfl), (Nat.le_of_ble_eq_true rfl)⟩ (fun v g' hp => ?_)
    rw [hp.1 x hx, hp.2.2]
    show gh_W l G _ X g _ _ [some (.ref da), some (.int (nI j)), some (.ref ra), some (.int (nI fr)), some (.int (nI len)), none] 5 [.ref x.1]
    refine gh_astore (lv' := [some (.ref da), some (.int (nI j)), some (.ref ra), some (.int (nI fr)), some (.int (nI len)), some (.ref x.1)]) hK d_Dc_at_5 (Nat.le_of_ble_eq_true rfl) rfl ?_
    refine gh_aload hK d_Dc_at_7 rfl ?_
    refine gh_ifnull hK d_Dc_at_9 ?_
    refine gh_aload hK d_Dc_at_12 rfl ?_
    refine gh_get hK d_Dc_at_14 in_En rfl e1 0 (by decide) kf_Dc_35 rfl rfl ?_
    refine gh_iconst (v := nI 0) hK d_Dc_at_17 (by decide) ?_
    refine gh_aload hK d_Dc_at_18 rfl ?_
    refine gh_get hK d_Dc_at_20 in_En rfl e1 0 (by decide) kf_Dc_35 rfl rfl ?_
    refine gh_callV (rest := [.int (nI 0), .ref wa]) [] hK (c_Lt_count l G e2) Y_Lt_count V_Lt_count km_Dc_39 e2.ob rfl rfl d_Dc_at_23 rfl rfl (Nat.le_of_ble_eq_true rfl) ⟨(Nat.le_of_ble_eq_true rfl), (Nat.le_of_ble_eq_true rfl)⟩ ⟨(Nat.le_of_ble_eq_true rfl), (Nat.le_of_ble_eq_true rfl)⟩ (fun v g' hp => ?_)
    rw [hp.1, hp.2]
    show gh_W l G _ X g _ _ [some (.ref da), some (.int (nI j)), some (.ref ra), some (.int (nI fr)), some (.int (nI len)), some (.ref x.1)] 26 [.int (nI x.2.1.length), .int (nI 0), .ref wa]
    refine gh_aload_n hK d_Dc_at_26 rfl ?_
    refine gh_iload_n hK d_Dc_at_27 rfl ?_
    refine gh_iload hK d_Dc_at_28 rfl ?_
    refine gh_callV (rest := []) [.int (nI 0), .int (nI x.2.1.length), .ref ra, .int (nI fr), .int (nI len)] hK (c_Lt_compare l G e2 hr (fr := 0) (len := x.2.1.length) (of := fr) (ol := len) (by omega) hf) Y_Lt_compare V_Lt_compare km_Dc_44 e2.ob rfl rfl d_Dc_at_30 rfl rfl (Nat.le_of_ble_eq_true rfl) ⟨(Nat.le_of_ble_eq_true rfl), (Nat.le_of_ble_eq_true rfl)⟩ ⟨(Nat.le_of_ble_eq_true rfl), (Nat.le_of_ble_eq_true rfl)⟩ (fun v g' hp => ?_)
    obtain ⟨r, rfl, hr1, hg⟩ := hp
    rw [hg]
    show gh_W l G _ X g _ _ [some (.ref da), some (.int (nI j)), some (.ref ra), some (.int (nI fr)), some (.int (nI len)), some (.ref x.1)] 33 [.int r]
    rw [List.drop_zero, List.take_length] at hr1
    refine gh_if_eqI hK d_Dc_at_33 (tgt := 38) (by decide) hr1 (fun z => ?_) (fun z => ?_)
    · refine gh_aload hK d_Dc_at_38 rfl ?_
      exact gh_aret (Or.inl ⟨_, rfl⟩) (Or.inr ⟨_, rfl⟩) hK hE d_Dc_at_40 (Nat.le_of_ble_eq_true rfl) (Nat.le_of_ble_eq_true rfl) ⟨fun y hy _ => by rw [hx] at hy; cases hy; rfl, fun q => absurd ((cmpL_zero _ _).mp z) (q x hx), rfl⟩
    · refine gh_null hK d_Dc_at_36 ?_
      exact gh_aret (Or.inl ⟨_, rfl⟩) (Or.inl rfl) hK hE d_Dc_at_37 (Nat.le_of_ble_eq_true rfl) (Nat.le_of_ble_eq_true rfl) ⟨fun y hy q => by rw [hx] at hy; cases hy; exact absurd ((cmpL_zero _ _).mpr q) z, fun _ => rfl, rfl⟩
set_option maxRecDepth 20000 in
set_option maxHeartbeats 4000000 in
theorem c_Dc_insert (l : Launch) (G : GG) {g : GH} {da aa : Nat} {es : List (Nat × List Nat × Nat)} {j e fl : Nat} {w : List Nat} (h : Dc G g da aa es) (hj : j ≤ es.length) (hlt : es.length < 300) (he : En G g e w fl) : gMet l G y_Dc_insert b_Dc_insert 3 none (rmk 6 1 450 175) [.ref da, .int (nI j), .ref e] g (fun v g' => v = none ∧ Dc G g' da aa (insA es j (e, w, fl)) ∧ gh_M [8, 9] g g') := by
  refine gMet.of [some (.ref da), some (.int (nI j)), some (.ref e)] (by decide +kernel) rfl (Nat.le_of_ble_eq_true rfl) rfl (fun X hK hI hE => ?_)
  obtain ⟨k0, k1⟩ := h.2.1.ob
  obtain ⟨wa, wb, e1, e2⟩ := id he
  refine gh_iload_n hK d_Dc_insert_0 rfl ?_
  refine gh_if_ltN hK d_Dc_insert_1 (tgt := 24) (by decide) (by omega) ?_
  refine gh_iload_n hK d_Dc_insert_4 rfl ?_
  refine gh_aload_n hK d_Dc_insert_5 rfl ?_
  refine gh_get hK d_Dc_insert_6 in_Dc rfl h.1 0 (by decide) kf_Dc_12 rfl rfl ?_
  refine gh_callV (rest := [.int (nI j)]) [] hK (c_AL_size l G h.2.1) Y_AL_size V_AL_size km_Dc_18 k1 rfl rfl d_Dc_insert_9 rfl rfl (Nat.le_of_ble_eq_true rfl) ⟨(Nat.le_of_ble_eq_true rfl), (Nat.le_of_ble_eq_true rfl)⟩ ⟨Nat.zero_le _, Nat.zero_le _⟩ (fun v g' hp => ?_)
  rw [hp.1, hp.2]
  show gh_W l G _ X g _ _ [some (.ref da), some (.int (nI j)), some (.ref e)] 12 [.int (nI ((es.map fun x => x.1).length)), .int (nI j)]
  rw [List.length_map]
  refine gh_icmp_gtN hK d_Dc_insert_12 (tgt := 24) (by decide) (by omega) (by omega) (fun z => absurd z (by omega)) (fun z => ?_)
  refine gh_aload_n hK d_Dc_insert_15 rfl ?_
  refine gh_get hK d_Dc_insert_16 in_Dc rfl h.1 0 (by decide) kf_Dc_12 rfl rfl ?_
  refine gh_iload_n hK d_Dc_insert_19 rfl ?_
  refine gh_aload_n hK d_Dc_insert_20 rfl ?_
  refine gh_callV (rest := []) [.int (nI j), .ref e] hK (c_AL_addAt l G h.2.1 (by rw [List.length_map]; exact hj) (by rw [List.length_map]; exact hlt) h.T (ci := 2) rfl (Or.inl rfl) e1 (by decide)) Y_AL_add V_AL_add km_Dc_48 k1 rfl rfl d_Dc_insert_21 rfl rfl (Nat.le_of_ble_eq_true rfl) ⟨(Nat.le_of_ble_eq_true rfl), (Nat.le_of_ble_eq_true rfl)⟩ ⟨(Nat.le_of_ble_eq_true rfl), (Nat.le_of_ble_eq_true rfl)⟩ (fun v g1 hp => ?_)
  obtain ⟨rfl, hp1, hp2⟩ := hp
  show gh_W l G _ X g1 _ _ [some (.ref da), some (.int (nI j)), some (.ref e)] 24 []
  refine gh_vret hK hE d_Dc_insert_24 (Nat.le_of_ble_eq_true rfl) (Nat.le_of_ble_eq_true rfl) ⟨rfl, ⟨hp2 da 7 _ h.1 (by decide), by rw [insA_map]; exact hp1, fun x hx => ?_⟩, hp2⟩
  rcases insA_mem hx with q | q
  · exact (h.2.2 x q).M hp2 (by decide) (by decide) (by decide)
  · rw [q]
    exact he.M hp2 (by decide) (by decide) (by decide)
set_option maxRecDepth 20000 in
set_option maxHeartbeats 4000000 in
theorem c_Dc_remove (l : Launch) (G : GG) {g : GH} {da aa : Nat} {es : List (Nat × List Nat × Nat)} {j : Nat} (h : Dc G g da aa es) (hj : j < es.length) : gMet l G y_Dc_remove b_Dc_remove 2 none (rmk 3 0 0 110) [.ref da, .int (nI j)] g (fun v g' => v = none ∧ Dc G g' da aa (es.eraseIdx j) ∧ gh_M [8, 9] g g') := by
  refine gMet.of [some (.ref da), some (.int (nI j))] (by decide +kernel) rfl (Nat.le_of_ble_eq_true rfl) rfl (fun X hK hI hE => ?_)
  have hlen := h.len
  obtain ⟨k0, k1⟩ := h.2.1.ob
  refine gh_iload_n hK d_Dc_remove_0 rfl ?_
  refine gh_if_ltN hK d_Dc_remove_1 (tgt := 24) (by decide) (by omega) ?_
  refine gh_iload_n hK d_Dc_remove_4 rfl ?_
  refine gh_aload_n hK d_Dc_remove_5 rfl ?_
  refine gh_get hK d_Dc_remove_6 in_Dc rfl h.1 0 (by decide) kf_Dc_12 rfl rfl ?_
  refine gh_callV (rest := [.int (nI j)]) [] hK (c_AL_size l G h.2.1) Y_AL_size V_AL_size km_Dc_18 k1 rfl rfl d_Dc_remove_9 rfl rfl (Nat.le_of_ble_eq_true rfl) ⟨(Nat.le_of_ble_eq_true rfl), (Nat.le_of_ble_eq_true rfl)⟩ ⟨(Nat.le_of_ble_eq_true rfl), (Nat.le_of_ble_eq_true rfl)⟩ (fun v g' hp => ?_)
  rw [hp.1, hp.2]
  show gh_W l G _ X g _ _ [some (.ref da), some (.int (nI j))] 12 [.int (nI ((es.map fun x => x.1).length)), .int (nI j)]
  rw [List.length_map]
  refine gh_icmp_geN hK d_Dc_remove_12 (tgt := 24) (by decide) (by omega) (by omega) (fun z => absurd z (by omega)) (fun z => ?_)
  refine gh_aload_n hK d_Dc_remove_15 rfl ?_
  refine gh_get hK d_Dc_remove_16 in_Dc rfl h.1 0 (by decide) kf_Dc_12 rfl rfl ?_
  refine gh_iload_n hK d_Dc_remove_19 rfl ?_
  refine gh_callV (rest := []) [.int (nI j)] hK (c_AL_remove l G h.2.1 (ci := 2) (tg := 50) (by rw [List.length_map]; exact hj) h.T rfl (Or.inl rfl) (by decide)) Y_AL_remove V_AL_remove km_Dc_52 k1 rfl rfl d_Dc_remove_20 rfl rfl (Nat.le_of_ble_eq_true rfl) ⟨(Nat.le_of_ble_eq_true rfl), (Nat.le_of_ble_eq_true rfl)⟩ ⟨(Nat.le_of_ble_eq_true rfl), (Nat.le_of_ble_eq_true rfl)⟩ (fun v g1 hp => ?_)
  obtain ⟨⟨q, rfl⟩, hp1, hp2⟩ := hp
  show gh_W l G _ X g1 _ _ [some (.ref da), some (.int (nI j))] 23 [.ref q]
  refine gh_pop hK d_Dc_remove_23 rfl ?_
  exact gh_vret hK hE d_Dc_remove_24 (Nat.le_of_ble_eq_true rfl) (Nat.le_of_ble_eq_true rfl) ⟨rfl, ⟨hp2 da 7 _ h.1 (by decide), by rw [map_erI]; exact hp1, fun x hx => (h.2.2 x (List.mem_of_mem_eraseIdx hx)).M hp2 (by decide) (by decide) (by decide)⟩, hp2⟩
