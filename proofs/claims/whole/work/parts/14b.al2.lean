/-- the listed objects are of the class ci, under the tag tg -/
def AlT (g : GH) (ci tg : Nat) (rs : List Nat) : Prop := ∀ r, r ∈ rs → ∃ fs, g r = some (tg, .inr (ci, fs))
theorem AlT.M {g g' : GH} {ci tg : Nat} {rs : List Nat} {S : List Nat} (h : AlT g ci tg rs) (hM : gh_M S g g') (h1 : tg ∉ S) : AlT g' ci tg rs := fun r hr => by
  obtain ⟨fs, hf⟩ := h r hr
  exact ⟨fs, hM r tg _ hf h1⟩
set_option maxRecDepth 20000 in
set_option maxHeartbeats 4000000 in
theorem c_AL_grow1 (l : Launch) (G : GG) {g : GH} {la tl to oa N : Nat} {mo : Int32} {f : Nat → Option Nat} {rs : List Nat} {ci tg : Nat} {r : vw_C} (h : AlA G g la tl to oa N mo f rs) (hfull : rs.length = N) (hlt : rs.length < 300) (hT : AlT g ci tg rs) (hc : vwCl[ci]? = some r) (hci : r.1 = "SpellDesk$Entry" ∨ r.1 = "SpellDesk$Rule") : gMet l G y_AL_grow1 b_AL_grow1 4 (some (.array (.object "java/lang/Object"))) (rmk 3 1 450 108) [.ref la, .int (nI (N + 1))] g (fun v g' => ∃ oa1 N1 f1, v = some (.ref oa1) ∧ g oa1 = none ∧ AlA G g' la tl to oa1 N1 mo f1 rs ∧ N < N1 ∧ g' oa1 = some (to, qArr G N1 f1) ∧ gh_N [la] g g') := by
  refine gMet.of [some (.ref la), some (.int (nI (N + 1))), none, none] (by decide +kernel) rfl (Nat.le_of_ble_eq_true rfl) rfl (fun X hK hI hE => ?_)
  obtain ⟨k1, k2, k3, k4, k5⟩ := h
  rcases k2 with ⟨rfl, rfl⟩ | ⟨k6, k7⟩
  · refine gh_aload_n hK d_AL_grow1_0 rfl ?_
    refine gh_get hK d_AL_grow1_1 in_AL rfl k1 1 (by decide) kf_AL_9 rfl rfl ?_
    refine gh_deL hK d_AL_grow1_4 ?_
    refine gh_istore_n (lv' := [some (.ref la), some (.int (nI (0 + 1))), some (.int (nI 0)), none]) hK d_AL_grow1_5 (Nat.le_of_ble_eq_true rfl) rfl ?_
    refine gh_iload_n hK d_AL_grow1_6 rfl ?_
    refine gh_if_gtN hK d_AL_grow1_7 (tgt := 20) (by decide) (by decide) (fun z => absurd z (by decide)) (fun z => ?_)
    refine gh_aload_n hK d_AL_grow1_10 rfl ?_
    refine gh_get hK d_AL_grow1_11 in_AL rfl k1 1 (by decide) kf_AL_9 rfl rfl ?_
    refine gh_de hK d_AL_grow1_14 kf_AL_39 ?_
    refine gh_acmp_eq hK d_AL_grow1_17 (tgt := 45) (by decide) (fun z => ?_) (fun z => absurd rfl z)
    refine gh_aload_n hK d_AL_grow1_45 rfl ?_
    refine gh_bipush (v := nI 10) hK d_AL_grow1_46 (by decide) ?_
    refine gh_iload_n hK d_AL_grow1_48 rfl ?_
    refine gh_callS (rest := [.ref la]) [.int (nI 10), .int (nI (0 + 1))] hK (c_Mt_max l G (g := g) (i := 10) (j := 0 + 1) (by decide) (by decide)) Y_Mt_max V_Mt_max km_AL_79 rfl d_AL_grow1_49 rfl rfl (Nat.le_of_ble_eq_true rfl) ⟨(Nat.le_of_ble_eq_true rfl), (Nat.le_of_ble_eq_true rfl)⟩ ⟨(Nat.le_of_ble_eq_true rfl), (Nat.le_of_ble_eq_true rfl)⟩ (fun v g' hp => ?_)
    rw [hp.1, hp.2]
    show gh_W l G _ X g _ _ [some (.ref la), some (.int (nI (0 + 1))), some (.int (nI 0)), none] 52 [.int (nI (if 0 + 1 ≤ 10 then 10 else 0 + 1)), .ref la]
    rw [if_pos (by decide)]
    refine gh_newq (N := 10) to hK d_AL_grow1_52 kc_AL_7 (by decide) (Nat.le_of_ble_eq_true rfl) (Nat.le_of_ble_eq_true rfl) (fun a1 ha1 => ?_)
    refine gh_dup_x1 hK d_AL_grow1_55 rfl rfl ?_
    have hal : la ≠ a1 := fun z => by rw [z, ha1] at k1; cases k1
    refine gh_put hK d_AL_grow1_56 in_AL t_AL ty_AL nm_AL rfl (by rw [gh_un hal]; exact k1) 1 (by decide) kf_AL_9 rfl rfl rfl rfl (Nat.le_of_ble_eq_true rfl) rfl ?_
    have hrs : rs = [] := List.eq_nil_of_length_eq_zero hfull
    exact gh_aret (Or.inr ⟨_, rfl⟩) (Or.inr ⟨_, rfl⟩) hK hE d_AL_grow1_59 (Nat.le_of_ble_eq_true rfl) (Nat.le_of_ble_eq_true rfl) ⟨a1, 10, _, rfl, ha1, ⟨gh_us, Or.inr ⟨Nat.le_refl _, by rw [gh_un hal.symm, gh_us]⟩, by omega, by omega, fun i r hi => by rw [hrs] at hi; simp at hi⟩, by omega, by rw [gh_un hal.symm, gh_us], (gh_N.nw ha1).tr (gh_N.up (by simp))⟩
  · refine gh_aload_n hK d_AL_grow1_0 rfl ?_
    refine gh_get hK d_AL_grow1_1 in_AL rfl k1 1 (by decide) kf_AL_9 rfl rfl ?_
    refine gh_alen (v := nI N) hK d_AL_grow1_4 k7 (t0 := 2) rfl rfl ?_
    refine gh_istore_n (lv' := [some (.ref la), some (.int (nI (N + 1))), some (.int (nI N)), none]) hK d_AL_grow1_5 (Nat.le_of_ble_eq_true rfl) rfl ?_
    refine gh_iload_n hK d_AL_grow1_6 rfl ?_
    refine gh_if_gtN hK d_AL_grow1_7 (tgt := 20) (by decide) (by omega) (fun z => ?_) (fun z => absurd z (by omega))
    refine gh_iload_n hK d_AL_grow1_20 rfl ?_
    refine gh_iload_n hK d_AL_grow1_21 rfl ?_
    refine gh_iload_n hK d_AL_grow1_22 rfl ?_
    refine gh_subN hK d_AL_grow1_23 (by omega) ?_
    refine gh_iload_n hK d_AL_grow1_24 rfl ?_
    refine gh_iconst (v := nI 1) hK d_AL_grow1_25 (by decide) ?_
    refine gh_ishr hK d_AL_grow1_26 ?_
    rw [show nI N >>> (nI 1 &&& 31) = nI (N / 2) by have := pk_shrN (n := N) (by omega) (nI 1 &&& 31) 1 (by decide); rwa [Nat.pow_one] at this, show N + 1 - N = 1 by omega]
    refine gh_callS (rest := []) [.int (nI N), .int (nI 1), .int (nI (N / 2))] hK (c_ArS_newLength l G (g := g) (i := N) (j := 1) (q := N / 2) (by omega) (by omega)) Y_ArS_newLength V_ArS_newLength km_AL_73 rfl d_AL_grow1_27 rfl rfl (Nat.le_of_ble_eq_true rfl) ⟨(Nat.le_of_ble_eq_true rfl), (Nat.le_of_ble_eq_true rfl)⟩ ⟨(Nat.le_of_ble_eq_true rfl), (Nat.le_of_ble_eq_true rfl)⟩ (fun v g' hp => ?_)
    rw [hp.1, hp.2]
    show gh_W l G _ X g _ _ [some (.ref la), some (.int (nI (N + 1))), some (.int (nI N)), none] 30 [.int (nI (N + (if N / 2 ≤ 1 then 1 else N / 2)))]
    rw [if_neg (by omega)]
    refine gh_istore_n (lv' := [some (.ref la), some (.int (nI (N + 1))), some (.int (nI N)), some (.int (nI (N + N / 2)))]) hK d_AL_grow1_30 (Nat.le_of_ble_eq_true rfl) rfl ?_
    refine gh_aload_n hK d_AL_grow1_31 rfl ?_
    refine gh_aload_n hK d_AL_grow1_32 rfl ?_
    refine gh_get hK d_AL_grow1_33 in_AL rfl k1 1 (by decide) kf_AL_9 rfl rfl ?_
    refine gh_iload_n hK d_AL_grow1_36 rfl ?_
    refine gh_callS (rest := [.ref la]) [.ref oa, .int (nI (N + N / 2))] hK (c_Ars_copyOf2 l G (N2 := N + N / 2) to k7 hc hci (fun i hi y hy => by
      have hi2 : i < rs.length := by omega
      have := k5 i _ (List.getElem?_eq_getElem hi2)
      rw [hy] at this
      cases this
      obtain ⟨fs, hfs⟩ := hT _ (List.getElem_mem hi2)
      exact ⟨tg, fs, hfs⟩) (by omega) (by omega)) Y_Ars_copyOf1 V_Ars_copyOf1 km_AL_66 rfl d_AL_grow1_37 rfl rfl (Nat.le_of_ble_eq_true rfl) ⟨(Nat.le_of_ble_eq_true rfl), (Nat.le_of_ble_eq_true rfl)⟩ ⟨(Nat.le_of_ble_eq_true rfl), by show 0 + 0 + (N + N / 2) ≤ 450; omega⟩ (fun v g1 hp => ?_)
    obtain ⟨a1, rfl, ha1, hp1, hpN⟩ := hp
    show gh_W l G _ X g1 _ _ [some (.ref la), some (.int (nI (N + 1))), some (.int (nI N)), some (.int (nI (N + N / 2)))] 40 [.ref a1, .ref la]
    refine gh_dup_x1 hK d_AL_grow1_40 rfl rfl ?_
    have hal : la ≠ a1 := fun z => by rw [z, ha1] at k1; cases k1
    have j1 : g1 la = some (tl, .inr (11, [.int mo, .ref oa, .int (nI rs.length)])) := by rw [hpN la (by simp) (by rw [k1]; exact fun z => by cases z)]; exact k1
    refine gh_put hK d_AL_grow1_41 in_AL t_AL ty_AL nm_AL rfl j1 1 (by decide) kf_AL_9 rfl rfl rfl rfl (Nat.le_of_ble_eq_true rfl) rfl ?_
    refine gh_aret (Or.inr ⟨_, rfl⟩) (Or.inr ⟨_, rfl⟩) hK hE d_AL_grow1_44 (Nat.le_of_ble_eq_true rfl) (by show 0 + 0 + (N + N / 2) ≤ 450; omega) ⟨a1, N + N / 2, _, rfl, ha1, ⟨gh_us, Or.inr ⟨by omega, by rw [gh_un hal.symm]; exact hp1⟩, by omega, by omega, fun i r hi => ?_⟩, by omega, by rw [gh_un hal.symm]; exact hp1, (hpN.wd (by simp)).tr (gh_N.up (by simp))⟩
    have hi2 := (List.getElem?_eq_some_iff.mp hi).1
    rw [pk_cpy_in (Nat.zero_le _) (by omega), Nat.zero_add, Nat.sub_zero]
    exact k5 i r hi
set_option maxRecDepth 20000 in
set_option maxHeartbeats 4000000 in
theorem c_AL_grow0 (l : Launch) (G : GG) {g : GH} {la tl to oa N : Nat} {mo : Int32} {f : Nat → Option Nat} {rs : List Nat} {ci tg : Nat} {r : vw_C} (h : AlA G g la tl to oa N mo f rs) (hfull : rs.length = N) (hlt : rs.length < 300) (hT : AlT g ci tg rs) (hc : vwCl[ci]? = some r) (hci : r.1 = "SpellDesk$Entry" ∨ r.1 = "SpellDesk$Rule") : gMet l G y_AL_grow b_AL_grow 1 (some (.array (.object "java/lang/Object"))) (rmk 4 1 450 131) [.ref la] g (fun v g' => ∃ oa1 N1 f1, v = some (.ref oa1) ∧ g oa1 = none ∧ AlA G g' la tl to oa1 N1 mo f1 rs ∧ N < N1 ∧ g' oa1 = some (to, qArr G N1 f1) ∧ gh_N [la] g g') := by
  refine gMet.of [some (.ref la)] (by decide +kernel) rfl (Nat.le_of_ble_eq_true rfl) rfl (fun X hK hI hE => ?_)
  have h1 := h.1
  refine gh_aload_n hK d_AL_grow_0 rfl ?_
  refine gh_aload_n hK d_AL_grow_1 rfl ?_
  refine gh_get hK d_AL_grow_2 in_AL rfl h1 2 (by decide) kf_AL_48 rfl rfl ?_
  refine gh_iconst (v := nI 1) hK d_AL_grow_5 (by decide) ?_
  refine gh_addN hK d_AL_grow_6 ?_
  rw [hfull]
  refine gh_callV (rest := []) [.int (nI (N + 1))] hK (c_AL_grow1 l G h hfull hlt hT hc hci) Y_AL_grow1 V_AL_grow1 km_AL_69 h1 rfl rfl d_AL_grow_7 rfl rfl (Nat.le_of_ble_eq_true rfl) ⟨(Nat.le_of_ble_eq_true rfl), (Nat.le_of_ble_eq_true rfl)⟩ ⟨(Nat.le_of_ble_eq_true rfl), (Nat.le_of_ble_eq_true rfl)⟩ (fun v g1 hp => ?_)
  obtain ⟨oa1, N1, f1, rfl, hp⟩ := hp
  show gh_W l G _ X g1 _ _ [some (.ref la)] 10 [.ref oa1]
  exact gh_aret (Or.inr ⟨_, rfl⟩) (Or.inr ⟨_, rfl⟩) hK hE d_AL_grow_10 (Nat.le_of_ble_eq_true rfl) (Nat.le_of_ble_eq_true rfl) ⟨oa1, N1, f1, rfl, hp⟩
set_option maxRecDepth 20000 in
set_option maxHeartbeats 4000000 in
theorem c_AL_rangeCheckForAdd (l : Launch) (G : GG) {g : GH} {la tl to : Nat} {rs : List Nat} {j : Nat} (h : Al G g la tl to rs) (hj : j ≤ rs.length) : gMet l G y_AL_rangeCheckForAdd b_AL_rangeCheckForAdd 2 none (rmk 0 0 0 0) [.ref la, .int (nI j)] g (fun v g' => v = none ∧ g' = g) := by
  refine gMet.of [some (.ref la), some (.int (nI j))] (by decide +kernel) rfl (Nat.le_of_ble_eq_true rfl) rfl (fun X hK hI hE => ?_)
  obtain ⟨oa, N, mo, f, k1, k2, k3, k4, k5⟩ := h
  refine gh_iload_n hK d_AL_rangeCheckForAdd_0 rfl ?_
  refine gh_aload_n hK d_AL_rangeCheckForAdd_1 rfl ?_
  refine gh_get hK d_AL_rangeCheckForAdd_2 in_AL rfl k1 2 (by decide) kf_AL_48 rfl rfl ?_
  refine gh_icmp_gtN hK d_AL_rangeCheckForAdd_5 (tgt := 12) (by decide) (by omega) (by omega) (fun z => absurd z (by omega)) (fun z => ?_)
  refine gh_iload_n hK d_AL_rangeCheckForAdd_8 rfl ?_
  refine gh_if_geN hK d_AL_rangeCheckForAdd_9 (tgt := 25) (by decide) (by omega) ?_
  exact gh_vret hK hE d_AL_rangeCheckForAdd_25 (Nat.le_of_ble_eq_true rfl) (Nat.le_of_ble_eq_true rfl) ⟨rfl, rfl⟩
set_option maxRecDepth 20000 in
set_option maxHeartbeats 4000000 in
theorem c_AL_addAt (l : Launch) (G : GG) {g : GH} {la tl to : Nat} {rs : List Nat} {j : Nat} {ci tg : Nat} {r : vw_C} {e : Nat} {vs : List Value} (h : Al G g la tl to rs) (hj : j ≤ rs.length) (hlt : rs.length < 300) (hT : AlT g ci tg rs) (hc : vwCl[ci]? = some r) (hci : r.1 = "SpellDesk$Entry" ∨ r.1 = "SpellDesk$Rule") (he : g e = some (tg, .inr (ci, vs))) (htg : tg ∉ [tl, to]) : gMet l G y_AL_add b_AL_add 5 none (rmk 5 1 450 151) [.ref la, .int (nI j), .ref e] g (fun v g' => v = none ∧ Al G g' la tl to (insA rs j e) ∧ gh_M [tl, to] g g') := by
  refine gMet.of [some (.ref la), some (.int (nI j)), some (.ref e), none, none] (by decide +kernel) rfl (Nat.le_of_ble_eq_true rfl) rfl (fun X hK hI hE => ?_)
  have hh := h
  obtain ⟨oa, N, mo, f, k1, k2, k3, k4, k5⟩ := h
  have tail : ∀ (g1 : GH) (oa1 N1 : Nat) (mo1 : Int32) (f1 : Nat → Option Nat), g1 la = some (tl, .inr (11, [.int mo1, .ref oa1, .int (nI rs.length)])) → g1 oa1 = some (to, qArr G N1 f1) → 10 ≤ N1 → rs.length < N1 → N1 ≤ 450 → (∀ i r, rs[i]? = some r → f1 i = some r) → gh_M [tl, to] g g1 → gh_W l G (rmk 5 1 450 151) X g1 1 450 [some (.ref la), some (.int (nI j)), some (.ref e), some (.int (nI rs.length)), some (.ref oa1)] 38 [] := by
    intro g1 oa1 N1 mo1 f1 j1 j2 hN1 hN2 hN3 j5 hM
    have n1 : la ≠ oa1 := fun z => by rw [z, j2] at j1; cases j1
    have e1 := hM e tg _ he htg
    have n2 : e ≠ oa1 := fun z => by rw [z, j2] at e1; cases e1
    have hT1 := hT.M hM htg
    refine gh_aload hK d_AL_add_38 rfl ?_
    refine gh_iload_n hK d_AL_add_40 rfl ?_
    refine gh_aload hK d_AL_add_41 rfl ?_
    refine gh_iload_n hK d_AL_add_43 rfl ?_
    refine gh_iconst (v := nI 1) hK d_AL_add_44 (by decide) ?_
    refine gh_addN hK d_AL_add_45 ?_
    refine gh_iload_n hK d_AL_add_46 rfl ?_
    refine gh_iload_n hK d_AL_add_47 rfl ?_
    refine gh_subN hK d_AL_add_48 (by omega) ?_
    refine gh_copyq (ci := ci) (r := r) (f := f1) (f2 := f1) (sp := j) (dp := j + 1) hK d_AL_add_49 km_AL_112 j2 j2 hc hci (fun i hi y hy => ?_) (by omega) (by omega) (by omega) (by omega) rfl (Nat.le_of_ble_eq_true rfl) (Nat.le_of_ble_eq_true rfl) ?_
    · have hi2 : j + i < rs.length := by omega
      have := j5 (j + i) _ (List.getElem?_eq_getElem hi2)
      rw [hy] at this
      cases this
      obtain ⟨fs, hfs⟩ := hT1 _ (List.getElem_mem hi2)
      exact ⟨tg, fs, hfs⟩
    refine gh_aload hK d_AL_add_52 rfl ?_
    refine gh_iload_n hK d_AL_add_54 rfl ?_
    refine gh_aload_n hK d_AL_add_55 rfl ?_
    refine gh_aast hK d_AL_add_56 gh_us (by rw [gh_un n2]; exact e1) hc hci (by omega) (by omega) ?_
    refine gh_aload_n hK d_AL_add_57 rfl ?_
    refine gh_iload_n hK d_AL_add_58 rfl ?_
    refine gh_iconst (v := nI 1) hK d_AL_add_59 (by decide) ?_
    refine gh_addN hK d_AL_add_60 ?_
    refine gh_put hK d_AL_add_61 in_AL t_AL ty_AL nm_AL rfl (by rw [gh_un n1, gh_un n1]; exact j1) 2 (by decide) kf_AL_48 rfl rfl rfl rfl (Nat.le_of_ble_eq_true rfl) rfl ?_
    refine gh_vret hK hE d_AL_add_64 (Nat.le_of_ble_eq_true rfl) (Nat.le_of_ble_eq_true rfl) ⟨rfl, ⟨oa1, N1, mo1, va_up (va_cpy f1 f1 j (j + 1) (rs.length - j)) j (some e), by rw [gh_us, insA_len hj]; rfl, Or.inr ⟨hN1, by rw [gh_un n1.symm, gh_us]⟩, by rw [insA_len hj]; omega, hN3, fun i r hi => ?_⟩, hM.tr (((gh_M.up j2 (by simp)).tr (gh_M.up gh_us (by simp))).tr (gh_M.up (by rw [gh_un n1, gh_un n1]; exact j1) (by simp)))⟩
    have hil := (List.getElem?_eq_some_iff.mp hi).1
    rw [insA_len hj] at hil
    rcases Nat.lt_trichotomy i j with q | q | q
    · rw [insA_lt hj q] at hi
      rw [va_up_ne _ _ (by omega), pk_cpy_out (by omega)]
      exact j5 i r hi
    · rw [q, insA_eq hj] at hi
      cases hi
      rw [q, va_up_self]
    · rw [insA_gt hj q] at hi
      rw [va_up_ne _ _ (by omega), pk_cpy_in (by omega) (by omega), show j + (i - (j + 1)) = i - 1 by omega]
      exact j5 (i - 1) r hi
  refine gh_aload_n hK d_AL_add_0 rfl ?_
  refine gh_iload_n hK d_AL_add_1 rfl ?_
  refine gh_callV (rest := []) [.int (nI j)] hK (c_AL_rangeCheckForAdd l G hh hj) Y_AL_rangeCheckForAdd V_AL_rangeCheckForAdd km_AL_135 k1 rfl rfl d_AL_add_2 rfl rfl (Nat.le_of_ble_eq_true rfl) ⟨(Nat.le_of_ble_eq_true rfl), (Nat.le_of_ble_eq_true rfl)⟩ ⟨Nat.zero_le _, Nat.zero_le _⟩ (fun v g' hp => ?_)
  rw [hp.1, hp.2]
  show gh_W l G _ X g _ _ [some (.ref la), some (.int (nI j)), some (.ref e), none, none] 5 []
  refine gh_aload_n hK d_AL_add_5 rfl ?_
  refine gh_dup hK d_AL_add_6 rfl ?_
  refine gh_getM hK d_AL_add_7 k1 kf_AL_63 rfl ?_
  refine gh_iconst (v := nI 1) hK d_AL_add_10 (by decide) ?_
  refine gh_iadd hK d_AL_add_11 ?_
  refine gh_putM (fs' := [.int (mo + nI 1), .ref oa, .int (nI rs.length)]) hK d_AL_add_12 k1 kf_AL_63 (Nat.le_of_ble_eq_true rfl) rfl ?_
  have hM0 : gh_M [tl, to] g (gh_up g la tl (.inr (11, [.int (mo + nI 1), .ref oa, .int (nI rs.length)]))) := gh_M.up k1 (by simp)
  have a1 : AlA G (gh_up g la tl (.inr (11, [.int (mo + nI 1), .ref oa, .int (nI rs.length)]))) la tl to oa N (mo + nI 1) f rs := ⟨gh_us, k2.imp id (fun q => ⟨q.1, by rw [gh_un (fun z => by rw [z, k1] at q; cases q.2)]; exact q.2⟩), k3, k4, k5⟩
  generalize gh_up g la tl (.inr (11, [.int (mo + nI 1), .ref oa, .int (nI rs.length)])) = g1 at hM0 a1 ⊢
  have b1 := a1.1
  refine gh_aload_n hK d_AL_add_15 rfl ?_
  refine gh_get hK d_AL_add_16 in_AL rfl b1 2 (by decide) kf_AL_48 rfl rfl ?_
  refine gh_dup hK d_AL_add_19 rfl ?_
  refine gh_istore_n (lv' := [some (.ref la), some (.int (nI j)), some (.ref e), some (.int (nI rs.length)), none]) hK d_AL_add_20 (Nat.le_of_ble_eq_true rfl) rfl ?_
  refine gh_aload_n hK d_AL_add_21 rfl ?_
  refine gh_get hK d_AL_add_22 in_AL rfl b1 1 (by decide) kf_AL_9 rfl rfl ?_
  refine gh_dup hK d_AL_add_25 rfl ?_
  refine gh_astore (lv' := [some (.ref la), some (.int (nI j)), some (.ref e), some (.int (nI rs.length)), some (.ref oa)]) hK d_AL_add_26 (Nat.le_of_ble_eq_true rfl) rfl ?_
  rcases a1.2.1 with ⟨q1, q2⟩ | ⟨q1, q2⟩
  · have hz : rs.length = 0 := by omega
    rw [q2]
    refine gh_deL hK d_AL_add_28 ?_
    refine gh_icmp_neN hK d_AL_add_29 (tgt := 38) (by decide) (by omega) (by omega) (fun z => ?_) (fun z => ?_)
    · omega
    · refine gh_aload_n hK d_AL_add_32 rfl ?_
      refine gh_callV (rest := []) [] hK (c_AL_grow0 l G a1 (by omega) hlt (hT.M hM0 htg) hc hci) Y_AL_grow V_AL_grow km_AL_129 b1 rfl rfl d_AL_add_33 rfl rfl (Nat.le_of_ble_eq_true rfl) ⟨(Nat.le_of_ble_eq_true rfl), (Nat.le_of_ble_eq_true rfl)⟩ ⟨(Nat.le_of_ble_eq_true rfl), (Nat.le_of_ble_eq_true rfl)⟩ (fun v g2 hp => ?_)
      obtain ⟨oa1, N1, f1, rfl, hp1, hp2, hp3, hp4, hp5⟩ := hp
      show gh_W l G _ X g2 _ _ [some (.ref la), some (.int (nI j)), some (.ref e), some (.int (nI rs.length)), some (.ref G.2.2.2.2.1)] 36 [.ref oa1]
      refine gh_astore (lv' := [some (.ref la), some (.int (nI j)), some (.ref e), some (.int (nI rs.length)), some (.ref oa1)]) hK d_AL_add_36 (Nat.le_of_ble_eq_true rfl) rfl ?_
      refine tail g2 oa1 N1 _ f1 hp2.1 hp4 (hp2.2.1.elim (fun q => by omega) (fun q => q.1)) (by omega) hp2.2.2.2.1 hp2.2.2.2.2 (hM0.tr (hp5.M fun a ha => ?_))
      rw [List.mem_singleton.mp ha]
      exact ⟨_, _, b1, by simp⟩
  · refine gh_alen (v := nI N) hK d_AL_add_28 q2 (t0 := 2) rfl rfl ?_
    refine gh_icmp_neN hK d_AL_add_29 (tgt := 38) (by decide) (by omega) (by omega) (fun z => ?_) (fun z => ?_)
    · exact gh_widen (Nat.zero_le _) (Nat.zero_le _) (tail g1 oa N _ f b1 q2 q1 (by omega) k4 k5 hM0)
    · refine gh_aload_n hK d_AL_add_32 rfl ?_
      refine gh_callV (rest := []) [] hK (c_AL_grow0 l G a1 (by omega) hlt (hT.M hM0 htg) hc hci) Y_AL_grow V_AL_grow km_AL_129 b1 rfl rfl d_AL_add_33 rfl rfl (Nat.le_of_ble_eq_true rfl) ⟨(Nat.le_of_ble_eq_true rfl), (Nat.le_of_ble_eq_true rfl)⟩ ⟨(Nat.le_of_ble_eq_true rfl), (Nat.le_of_ble_eq_true rfl)⟩ (fun v g2 hp => ?_)
      obtain ⟨oa1, N1, f1, rfl, hp1, hp2, hp3, hp4, hp5⟩ := hp
      show gh_W l G _ X g2 _ _ [some (.ref la), some (.int (nI j)), some (.ref e), some (.int (nI rs.length)), some (.ref oa)] 36 [.ref oa1]
      refine gh_astore (lv' := [some (.ref la), some (.int (nI j)), some (.ref e), some (.int (nI rs.length)), some (.ref oa1)]) hK d_AL_add_36 (Nat.le_of_ble_eq_true rfl) rfl ?_
      refine tail g2 oa1 N1 _ f1 hp2.1 hp4 (hp2.2.1.elim (fun q => by omega) (fun q => q.1)) (by omega) hp2.2.2.2.1 hp2.2.2.2.2 (hM0.tr (hp5.M fun a ha => ?_))
      rw [List.mem_singleton.mp ha]
      exact ⟨_, _, b1, by simp⟩
