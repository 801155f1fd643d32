theorem gh_rfS {l : Launch} {G : GG} {R : Room} {X : GX} {g : GH} {k n pc : Nat} {lv : List (Option Value)} {st : List Value} {q : Nat} (kk : gh_W l G R X g k n lv pc (.ref q :: st)) : gh_W l G R X g k n lv pc (va_rf (some q) :: st) := kk
set_option maxRecDepth 20000 in
set_option maxHeartbeats 4000000 in
theorem c_AL_add3 (l : Launch) (G : GG) {g : GH} {la tl to oa N : Nat} {mo : Int32} {f : Nat → Option Nat} {rs : List Nat} {ci tg : Nat} {r : vw_C} {e : Nat} {vs : List Value} (h : AlA G g la tl to oa N mo f rs) (hlt : rs.length < 300) (hT : AlT g ci tg rs) (hc : vwCl[ci]? = some r) (hci : r.1 = "SpellDesk$Entry" ∨ r.1 = "SpellDesk$Rule") (he : g e = some (tg, .inr (ci, vs))) (htg : tg ∉ [tl, to]) : gMet l G y_AL_add2 b_AL_add2 4 none (rmk 5 1 450 151) [.ref la, .ref e, .ref oa, .int (nI rs.length)] g (fun v g' => v = none ∧ Al G g' la tl to (rs ++ [e]) ∧ gh_M [tl, to] g g') := by
  refine gMet.of [some (.ref la), some (.ref e), some (.ref oa), some (.int (nI rs.length))] (by decide +kernel) rfl (Nat.le_of_ble_eq_true rfl) rfl (fun X hK hI hE => ?_)
  have hh := h
  obtain ⟨k1, k2, k3, k4, k5⟩ := h
  have tail : ∀ (g1 : GH) (oa1 N1 : Nat) (f1 : Nat → Option Nat), g1 la = some (tl, .inr (11, [.int mo, .ref oa1, .int (nI rs.length)])) → g1 oa1 = some (to, qArr G N1 f1) → 10 ≤ N1 → rs.length < N1 → N1 ≤ 450 → (∀ i r, rs[i]? = some r → f1 i = some r) → gh_M [tl, to] g g1 → gh_W l G (rmk 5 1 450 151) X g1 1 450 [some (.ref la), some (.ref e), some (.ref oa1), some (.int (nI rs.length))] 11 [] := by
    intro g1 oa1 N1 f1 j1 j2 hN1 hN2 hN3 j5 hM
    have n1 : la ≠ oa1 := fun z => by rw [z, j2] at j1; cases j1
    have e1 := hM e tg _ he htg
    refine gh_aload_n hK d_AL_add2_11 rfl ?_
    refine gh_iload_n hK d_AL_add2_12 rfl ?_
    refine gh_aload_n hK d_AL_add2_13 rfl ?_
    refine gh_aast hK d_AL_add2_14 j2 e1 hc hci (by omega) (by omega) ?_
    refine gh_aload_n hK d_AL_add2_15 rfl ?_
    refine gh_iload_n hK d_AL_add2_16 rfl ?_
    refine gh_iconst (v := nI 1) hK d_AL_add2_17 (by decide) ?_
    refine gh_addN hK d_AL_add2_18 ?_
    refine gh_put hK d_AL_add2_19 in_AL t_AL ty_AL nm_AL rfl (by rw [gh_un n1]; exact j1) 2 (by decide) kf_AL_48 rfl rfl rfl rfl (Nat.le_of_ble_eq_true rfl) rfl ?_
    refine gh_vret hK hE d_AL_add2_22 (Nat.le_of_ble_eq_true rfl) (Nat.le_of_ble_eq_true rfl) ⟨rfl, ⟨oa1, N1, mo, va_up f1 rs.length (some e), by rw [gh_us, List.length_append]; rfl, Or.inr ⟨hN1, by rw [gh_un n1.symm, gh_us]⟩, by rw [List.length_append]; exact hN2, hN3, fun i r hi => ?_⟩, hM.tr ((gh_M.up j2 (by simp)).tr (gh_M.up (by rw [gh_un n1]; exact j1) (by simp)))⟩
    by_cases q : i < rs.length
    · rw [List.getElem?_append_left q] at hi
      rw [va_up_ne _ _ (by omega)]
      exact j5 i r hi
    · have hil := (List.getElem?_eq_some_iff.mp hi).1
      rw [List.length_append, List.length_singleton] at hil
      rw [List.getElem?_append_right (by omega), show i - rs.length = 0 by omega] at hi
      cases hi
      rw [show i = rs.length by omega, va_up_self]
  refine gh_iload_n hK d_AL_add2_0 rfl ?_
  refine gh_aload_n hK d_AL_add2_1 rfl ?_
  rcases id k2 with ⟨q1, q2⟩ | ⟨q1, q2⟩
  · rw [q2]
    refine gh_deL hK d_AL_add2_2 ?_
    refine gh_icmp_neN hK d_AL_add2_3 (tgt := 11) (by decide) (by omega) (by omega) (fun z => ?_) (fun z => ?_)
    · omega
    · refine gh_aload_n hK d_AL_add2_6 rfl ?_
      refine gh_callV (rest := []) [] hK (c_AL_grow0 l G hh (by omega) hlt hT hc hci) Y_AL_grow V_AL_grow km_AL_129 k1 rfl rfl d_AL_add2_7 rfl rfl (Nat.le_of_ble_eq_true rfl) ⟨(Nat.le_of_ble_eq_true rfl), (Nat.le_of_ble_eq_true rfl)⟩ ⟨(Nat.le_of_ble_eq_true rfl), (Nat.le_of_ble_eq_true rfl)⟩ (fun v g2 hp => ?_)
      obtain ⟨oa1, N1, f1, rfl, hp1, hp2, hp3, hp4, hp5⟩ := hp
      show gh_W l G _ X g2 _ _ [some (.ref la), some (.ref e), some (.ref G.2.2.2.2.1), some (.int (nI rs.length))] 10 [.ref oa1]
      refine gh_astore_n (lv' := [some (.ref la), some (.ref e), some (.ref oa1), some (.int (nI rs.length))]) hK d_AL_add2_10 (Nat.le_of_ble_eq_true rfl) rfl ?_
      refine tail g2 oa1 N1 f1 hp2.1 hp4 (hp2.2.1.elim (fun q => by omega) (fun q => q.1)) (by omega) hp2.2.2.2.1 hp2.2.2.2.2 (hp5.M fun a ha => ?_)
      rw [List.mem_singleton.mp ha]
      exact ⟨_, _, k1, by simp⟩
  · refine gh_alen (v := nI N) hK d_AL_add2_2 q2 (t0 := 2) rfl rfl ?_
    refine gh_icmp_neN hK d_AL_add2_3 (tgt := 11) (by decide) (by omega) (by omega) (fun z => ?_) (fun z => ?_)
    · exact gh_widen (Nat.zero_le _) (Nat.zero_le _) (tail g oa N f k1 q2 q1 (by omega) k4 k5 gh_M.rf)
    · refine gh_aload_n hK d_AL_add2_6 rfl ?_
      refine gh_callV (rest := []) [] hK (c_AL_grow0 l G hh (by omega) hlt hT hc hci) Y_AL_grow V_AL_grow km_AL_129 k1 rfl rfl d_AL_add2_7 rfl rfl (Nat.le_of_ble_eq_true rfl) ⟨(Nat.le_of_ble_eq_true rfl), (Nat.le_of_ble_eq_true rfl)⟩ ⟨(Nat.le_of_ble_eq_true rfl), (Nat.le_of_ble_eq_true rfl)⟩ (fun v g2 hp => ?_)
      obtain ⟨oa1, N1, f1, rfl, hp1, hp2, hp3, hp4, hp5⟩ := hp
      show gh_W l G _ X g2 _ _ [some (.ref la), some (.ref e), some (.ref oa), some (.int (nI rs.length))] 10 [.ref oa1]
      refine gh_astore_n (lv' := [some (.ref la), some (.ref e), some (.ref oa1), some (.int (nI rs.length))]) hK d_AL_add2_10 (Nat.le_of_ble_eq_true rfl) rfl ?_
      refine tail g2 oa1 N1 f1 hp2.1 hp4 (hp2.2.1.elim (fun q => by omega) (fun q => q.1)) (by omega) hp2.2.2.2.1 hp2.2.2.2.2 (hp5.M fun a ha => ?_)
      rw [List.mem_singleton.mp ha]
      exact ⟨_, _, k1, by simp⟩
set_option maxRecDepth 20000 in
set_option maxHeartbeats 4000000 in
theorem c_AL_add (l : Launch) (G : GG) {g : GH} {la tl to : Nat} {rs : List Nat} {ci tg : Nat} {r : vw_C} {e : Nat} {vs : List Value} (h : Al G g la tl to rs) (hlt : rs.length < 300) (hT : AlT g ci tg rs) (hc : vwCl[ci]? = some r) (hci : r.1 = "SpellDesk$Entry" ∨ r.1 = "SpellDesk$Rule") (he : g e = some (tg, .inr (ci, vs))) (htg : tg ∉ [tl, to]) : gMet l G y_AL_add1 b_AL_add1 2 (some .boolean) (rmk 6 1 450 174) [.ref la, .ref e] g (fun v g' => v = some (.int (nI 1)) ∧ Al G g' la tl to (rs ++ [e]) ∧ gh_M [tl, to] g g') := by
  refine gMet.of [some (.ref la), some (.ref e)] (by decide +kernel) rfl (Nat.le_of_ble_eq_true rfl) rfl (fun X hK hI hE => ?_)
  obtain ⟨oa, N, mo, f, k1, k2, k3, k4, k5⟩ := h
  refine gh_aload_n hK d_AL_add1_0 rfl ?_
  refine gh_dup hK d_AL_add1_1 rfl ?_
  refine gh_getM hK d_AL_add1_2 k1 kf_AL_63 rfl ?_
  refine gh_iconst (v := nI 1) hK d_AL_add1_5 (by decide) ?_
  refine gh_iadd hK d_AL_add1_6 ?_
  refine gh_putM (fs' := [.int (mo + nI 1), .ref oa, .int (nI rs.length)]) hK d_AL_add1_7 k1 kf_AL_63 (Nat.le_of_ble_eq_true rfl) rfl ?_
  have hM0 : gh_M [tl, to] g (gh_up g la tl (.inr (11, [.int (mo + nI 1), .ref oa, .int (nI rs.length)]))) := gh_M.up k1 (by simp)
  have a1 : AlA G (gh_up g la tl (.inr (11, [.int (mo + nI 1), .ref oa, .int (nI rs.length)]))) la tl to oa N (mo + nI 1) f rs := ⟨gh_us, k2.imp id (fun q => ⟨q.1, by rw [gh_un (fun z => by rw [z, k1] at q; cases q.2)]; exact q.2⟩), k3, k4, k5⟩
  generalize gh_up g la tl (.inr (11, [.int (mo + nI 1), .ref oa, .int (nI rs.length)])) = g1 at hM0 a1 ⊢
  have b1 := a1.1
  refine gh_aload_n hK d_AL_add1_10 rfl ?_
  refine gh_aload_n hK d_AL_add1_11 rfl ?_
  refine gh_aload_n hK d_AL_add1_12 rfl ?_
  refine gh_get hK d_AL_add1_13 in_AL rfl b1 1 (by decide) kf_AL_9 rfl rfl ?_
  refine gh_aload_n hK d_AL_add1_16 rfl ?_
  refine gh_get hK d_AL_add1_17 in_AL rfl b1 2 (by decide) kf_AL_48 rfl rfl ?_
  refine gh_callV (rest := []) [.ref e, .ref oa, .int (nI rs.length)] hK (c_AL_add3 l G a1 hlt (hT.M hM0 htg) hc hci (hM0 e tg _ he htg) htg) Y_AL_add2 V_AL_add2 km_AL_131 b1 rfl rfl d_AL_add1_20 rfl rfl (Nat.le_of_ble_eq_true rfl) ⟨(Nat.le_of_ble_eq_true rfl), (Nat.le_of_ble_eq_true rfl)⟩ ⟨(Nat.le_of_ble_eq_true rfl), (Nat.le_of_ble_eq_true rfl)⟩ (fun v g2 hp => ?_)
  obtain ⟨rfl, hp1, hp2⟩ := hp
  show gh_W l G _ X g2 _ _ [some (.ref la), some (.ref e)] 23 []
  refine gh_iconst (v := nI 1) hK d_AL_add1_23 (by decide) ?_
  exact gh_zret rfl hK hE d_AL_add1_24 (Nat.le_of_ble_eq_true rfl) (Nat.le_of_ble_eq_true rfl) ⟨rfl, hp1, hM0.tr hp2⟩
set_option maxRecDepth 20000 in
set_option maxHeartbeats 4000000 in
theorem c_AL_fastRemove (l : Launch) (G : GG) {g : GH} {la tl to oa N : Nat} {mo : Int32} {f : Nat → Option Nat} {rs : List Nat} {ci tg j : Nat} {r : vw_C} (h : AlA G g la tl to oa N mo f rs) (hj : j < rs.length) (hT : AlT g ci tg rs) (hc : vwCl[ci]? = some r) (hci : r.1 = "SpellDesk$Entry" ∨ r.1 = "SpellDesk$Rule") (htg : tg ∉ [tl, to]) : gMet l G y_AL_fastRemove b_AL_fastRemove 4 none (rmk 1 0 0 64) [.ref la, .ref oa, .int (nI j)] g (fun v g' => v = none ∧ Al G g' la tl to (rs.eraseIdx j) ∧ gh_M [tl, to] g g') := by
  refine gMet.of [some (.ref la), some (.ref oa), some (.int (nI j)), none] (by decide +kernel) rfl (Nat.le_of_ble_eq_true rfl) rfl (fun X hK hI hE => ?_)
  obtain ⟨k1, k2, k3, k4, k5⟩ := h
  obtain ⟨k6, k7⟩ : 10 ≤ N ∧ g oa = some (to, qArr G N f) := k2.resolve_left (fun q => by omega)
  have n0 : la ≠ oa := fun z => by rw [z, k7] at k1; cases k1
  have tail : ∀ (g1 : GH) (f1 : Nat → Option Nat), g1 la = some (tl, .inr (11, [.int (mo + nI 1), .ref oa, .int (nI rs.length)])) → g1 oa = some (to, qArr G N f1) → (∀ i r, (rs.eraseIdx j)[i]? = some r → f1 i = some r) → gh_M [tl, to] g g1 → gh_W l G (rmk 1 0 0 64) X g1 0 0 [some (.ref la), some (.ref oa), some (.int (nI j)), some (.int (nI (rs.length - 1)))] 34 [] := by
    intro g1 f1 j1 j2 j5 hM
    have hel : (rs.eraseIdx j).length = rs.length - 1 := List.length_eraseIdx_of_lt hj
    refine gh_aload_n hK d_AL_fastRemove_34 rfl ?_
    refine gh_aload_n hK d_AL_fastRemove_35 rfl ?_
    refine gh_iload_n hK d_AL_fastRemove_36 rfl ?_
    refine gh_dup_x1 hK d_AL_fastRemove_37 rfl rfl ?_
    refine gh_put (fs' := [.int (mo + nI 1), .ref oa, .int (nI (rs.length - 1))]) hK d_AL_fastRemove_38 in_AL t_AL ty_AL nm_AL rfl j1 2 (by decide) kf_AL_48 rfl rfl rfl rfl (Nat.le_of_ble_eq_true rfl) rfl ?_
    refine gh_null hK d_AL_fastRemove_41 ?_
    refine gh_aastN hK d_AL_fastRemove_42 (by rw [gh_un n0.symm]; exact j2) (by omega) (by omega) ?_
    refine gh_vret hK hE d_AL_fastRemove_43 (Nat.le_of_ble_eq_true rfl) (Nat.le_of_ble_eq_true rfl) ⟨rfl, ⟨oa, N, mo + nI 1, va_up f1 (rs.length - 1) none, by rw [gh_un n0, gh_us, hel], Or.inr ⟨k6, gh_us⟩, by rw [hel]; omega, k4, fun i r hi => ?_⟩, hM.tr ((gh_M.up j1 (by simp)).tr (gh_M.up (by rw [gh_un n0.symm]; exact j2) (by simp)))⟩
    have hil := (List.getElem?_eq_some_iff.mp hi).1
    rw [va_up_ne _ _ (by omega)]
    exact j5 i r hi
  refine gh_aload_n hK d_AL_fastRemove_0 rfl ?_
  refine gh_dup hK d_AL_fastRemove_1 rfl ?_
  refine gh_getM hK d_AL_fastRemove_2 k1 kf_AL_63 rfl ?_
  refine gh_iconst (v := nI 1) hK d_AL_fastRemove_5 (by decide) ?_
  refine gh_iadd hK d_AL_fastRemove_6 ?_
  refine gh_putM (fs' := [.int (mo + nI 1), .ref oa, .int (nI rs.length)]) hK d_AL_fastRemove_7 k1 kf_AL_63 (Nat.le_of_ble_eq_true rfl) rfl ?_
  have hM0 : gh_M [tl, to] g (gh_up g la tl (.inr (11, [.int (mo + nI 1), .ref oa, .int (nI rs.length)]))) := gh_M.up k1 (by simp)
  have a1 : AlA G (gh_up g la tl (.inr (11, [.int (mo + nI 1), .ref oa, .int (nI rs.length)]))) la tl to oa N (mo + nI 1) f rs := ⟨gh_us, k2.imp id (fun q => ⟨q.1, by rw [gh_un (fun z => by rw [z, k1] at q; cases q.2)]; exact q.2⟩), k3, k4, k5⟩
  generalize gh_up g la tl (.inr (11, [.int (mo + nI 1), .ref oa, .int (nI rs.length)])) = g1 at hM0 a1 ⊢
  have b1 := a1.1
  have b2 : g1 oa = some (to, qArr G N f) := (a1.2.1.resolve_left (fun q => by omega)).2
  refine gh_aload_n hK d_AL_fastRemove_10 rfl ?_
  refine gh_get hK d_AL_fastRemove_11 in_AL rfl b1 2 (by decide) kf_AL_48 rfl rfl ?_
  refine gh_iconst (v := nI 1) hK d_AL_fastRemove_14 (by decide) ?_
  refine gh_subN hK d_AL_fastRemove_15 (by omega) ?_
  refine gh_dup hK d_AL_fastRemove_16 rfl ?_
  refine gh_istore_n (lv' := [some (.ref la), some (.ref oa), some (.int (nI j)), some (.int (nI (rs.length - 1)))]) hK d_AL_fastRemove_17 (Nat.le_of_ble_eq_true rfl) rfl ?_
  refine gh_iload_n hK d_AL_fastRemove_18 rfl ?_
  refine gh_icmp_leN hK d_AL_fastRemove_19 (tgt := 34) (by decide) (by omega) (by omega) (fun z => ?_) (fun z => ?_)
  · refine tail g1 f b1 b2 (fun i r hi => ?_) hM0
    have hil := (List.getElem?_eq_some_iff.mp hi).1
    rw [List.length_eraseIdx_of_lt hj] at hil
    rw [List.getElem?_eraseIdx_of_lt (by omega)] at hi
    exact k5 i r hi
  · refine gh_aload_n hK d_AL_fastRemove_22 rfl ?_
    refine gh_iload_n hK d_AL_fastRemove_23 rfl ?_
    refine gh_iconst (v := nI 1) hK d_AL_fastRemove_24 (by decide) ?_
    refine gh_addN hK d_AL_fastRemove_25 ?_
    refine gh_aload_n hK d_AL_fastRemove_26 rfl ?_
    refine gh_iload_n hK d_AL_fastRemove_27 rfl ?_
    refine gh_iload_n hK d_AL_fastRemove_28 rfl ?_
    refine gh_iload_n hK d_AL_fastRemove_29 rfl ?_
    refine gh_subN hK d_AL_fastRemove_30 (by omega) ?_
    refine gh_copyq (ci := ci) (r := r) (f := f) (f2 := f) (sp := j + 1) (dp := j) hK d_AL_fastRemove_31 km_AL_112 b2 b2 hc hci (fun i hi y hy => ?_) (by omega) (by omega) (by omega) (by omega) rfl (Nat.le_of_ble_eq_true rfl) (Nat.le_of_ble_eq_true rfl) ?_
    · have hi2 : j + 1 + i < rs.length := by omega
      have := k5 (j + 1 + i) _ (List.getElem?_eq_getElem hi2)
      rw [hy] at this
      cases this
      obtain ⟨fs, hfs⟩ := (hT.M hM0 htg) _ (List.getElem_mem hi2)
      exact ⟨tg, fs, hfs⟩
    refine tail _ _ (by rw [gh_un n0]; exact b1) gh_us (fun i r hi => ?_) (hM0.tr (gh_M.up b2 (by simp)))
    have hil := (List.getElem?_eq_some_iff.mp hi).1
    rw [List.length_eraseIdx_of_lt hj] at hil
    by_cases q : i < j
    · rw [List.getElem?_eraseIdx_of_lt q] at hi
      rw [pk_cpy_out (by omega)]
      exact k5 i r hi
    · rw [List.getElem?_eraseIdx_of_ge (by omega)] at hi
      rw [pk_cpy_in (by omega) (by omega), show j + 1 + (i - j) = i + 1 by omega]
      exact k5 (i + 1) r hi
set_option maxRecDepth 20000 in
set_option maxHeartbeats 4000000 in
theorem c_AL_remove (l : Launch) (G : GG) {g : GH} {la tl to : Nat} {rs : List Nat} {ci tg j : Nat} {r : vw_C} (h : Al G g la tl to rs) (hj : j < rs.length) (hT : AlT g ci tg rs) (hc : vwCl[ci]? = some r) (hci : r.1 = "SpellDesk$Entry" ∨ r.1 = "SpellDesk$Rule") (htg : tg ∉ [tl, to]) : gMet l G y_AL_remove b_AL_remove 4 (some (.object "java/lang/Object")) (rmk 2 0 0 87) [.ref la, .int (nI j)] g (fun v g' => (∃ q, v = some (.ref q)) ∧ Al G g' la tl to (rs.eraseIdx j) ∧ gh_M [tl, to] g g') := by
  refine gMet.of [some (.ref la), some (.int (nI j)), none, none] (by decide +kernel) rfl (Nat.le_of_ble_eq_true rfl) rfl (fun X hK hI hE => ?_)
  have hh := h
  obtain ⟨oa, N, mo, f, h0⟩ := h
  obtain ⟨k1, k2, k3, k4, k5⟩ := id h0
  obtain ⟨k6, k7⟩ : 10 ≤ N ∧ g oa = some (to, qArr G N f) := k2.resolve_left (fun q => by omega)
  obtain ⟨q, hq⟩ : ∃ q, rs[j]? = some q := ⟨_, List.getElem?_eq_getElem hj⟩
  refine gh_iload_n hK d_AL_remove_0 rfl ?_
  refine gh_aload_n hK d_AL_remove_1 rfl ?_
  refine gh_get hK d_AL_remove_2 in_AL rfl k1 2 (by decide) kf_AL_48 rfl rfl ?_
  refine gh_callS (rest := []) [.int (nI j), .int (nI rs.length)] hK (c_Obs_checkIndex l G (g := g) hj (by omega)) Y_Obs_checkIndex V_Obs_checkIndex km_AL_118 rfl d_AL_remove_5 rfl rfl (Nat.le_of_ble_eq_true rfl) ⟨(Nat.le_of_ble_eq_true rfl), (Nat.le_of_ble_eq_true rfl)⟩ ⟨(Nat.le_of_ble_eq_true rfl), (Nat.le_of_ble_eq_true rfl)⟩ (fun v g' hp => ?_)
  rw [hp.1, hp.2]
  show gh_W l G _ X g _ _ [some (.ref la), some (.int (nI j)), none, none] 8 [.int (nI j)]
  refine gh_pop hK d_AL_remove_8 rfl ?_
  refine gh_aload_n hK d_AL_remove_9 rfl ?_
  refine gh_get hK d_AL_remove_10 in_AL rfl k1 1 (by decide) kf_AL_9 rfl rfl ?_
  refine gh_astore_n (lv' := [some (.ref la), some (.int (nI j)), some (.ref oa), none]) hK d_AL_remove_13 (Nat.le_of_ble_eq_true rfl) rfl ?_
  refine gh_aload_n hK d_AL_remove_14 rfl ?_
  refine gh_iload_n hK d_AL_remove_15 rfl ?_
  refine gh_aaldN (j := j) hK d_AL_remove_16 k7 (by omega) (by omega) ?_
  rw [k5 j q hq]
  refine gh_rfS ?_
  refine gh_astore_n (lv' := [some (.ref la), some (.int (nI j)), some (.ref oa), some (.ref q)]) hK d_AL_remove_17 (Nat.le_of_ble_eq_true rfl) rfl ?_
  refine gh_aload_n hK d_AL_remove_18 rfl ?_
  refine gh_aload_n hK d_AL_remove_19 rfl ?_
  refine gh_iload_n hK d_AL_remove_20 rfl ?_
  refine gh_callV (rest := []) [.ref oa, .int (nI j)] hK (c_AL_fastRemove l G h0 hj hT hc hci htg) Y_AL_fastRemove V_AL_fastRemove km_AL_144 k1 rfl rfl d_AL_remove_21 rfl rfl (Nat.le_of_ble_eq_true rfl) ⟨(Nat.le_of_ble_eq_true rfl), (Nat.le_of_ble_eq_true rfl)⟩ ⟨(Nat.le_of_ble_eq_true rfl), (Nat.le_of_ble_eq_true rfl)⟩ (fun v g2 hp => ?_)
  obtain ⟨rfl, hp1, hp2⟩ := hp
  show gh_W l G _ X g2 _ _ [some (.ref la), some (.int (nI j)), some (.ref oa), some (.ref q)] 24 []
  refine gh_aload_n hK d_AL_remove_24 rfl ?_
  exact gh_aret (Or.inl ⟨_, rfl⟩) (Or.inr ⟨_, rfl⟩) hK hE d_AL_remove_25 (Nat.le_of_ble_eq_true rfl) (Nat.le_of_ble_eq_true rfl) ⟨⟨q, rfl⟩, hp1, hp2⟩
set_option maxRecDepth 20000 in
set_option maxHeartbeats 4000000 in
theorem c_AL_clear (l : Launch) (G : GG) {g : GH} {la tl to : Nat} {rs : List Nat} (h : Al G g la tl to rs) : gMet l G y_AL_clear b_AL_clear 4 none (rmk 0 0 0 0) [.ref la] g (fun v g' => v = none ∧ Al G g' la tl to [] ∧ gh_M [tl, to] g g') := by
  refine gMet.of [some (.ref la), none, none, none] (by decide +kernel) rfl (Nat.le_of_ble_eq_true rfl) rfl (fun X hK hI hE => ?_)
  obtain ⟨oa, N, mo, f, k1, k2, k3, k4, k5⟩ := h
  have loop : ∀ (m i : Nat) (g1 : GH) (f1 : Nat → Option Nat), i + m = rs.length → g1 la = some (tl, .inr (11, [.int (mo + nI 1), .ref oa, .int (nI 0)])) → ((N = 0 ∧ oa = G.2.2.2.2.1) ∨ (10 ≤ N ∧ g1 oa = some (to, qArr G N f1))) → gh_M [tl, to] g g1 → gh_W l G (rmk 0 0 0 0) X g1 0 0 [some (.ref la), some (.ref oa), some (.int (nI rs.length)), some (.int (nI i))] 27 [] := by
    intro m
    induction m with
    | zero =>
      intro i g1 f1 hi j1 j2 hM
      refine gh_iload_n hK d_AL_clear_27 rfl ?_
      refine gh_iload_n hK d_AL_clear_28 rfl ?_
      refine gh_icmp_geN hK d_AL_clear_29 (tgt := 42) (by decide) (by omega) (by omega) (fun z => ?_) (fun z => absurd z (by omega))
      exact gh_vret hK hE d_AL_clear_42 (Nat.le_of_ble_eq_true rfl) (Nat.le_of_ble_eq_true rfl) ⟨rfl, ⟨oa, N, mo + nI 1, f1, j1, j2, Nat.zero_le _, k4, fun i r hi => by simp at hi⟩, hM⟩
    | succ m ih =>
      intro i g1 f1 hi j1 j2 hM
      obtain ⟨j6, j7⟩ := j2.resolve_left (fun q => by omega)
      have n0 : la ≠ oa := fun z => by rw [z, j7] at j1; cases j1
      refine gh_iload_n hK d_AL_clear_27 rfl ?_
      refine gh_iload_n hK d_AL_clear_28 rfl ?_
      refine gh_icmp_geN hK d_AL_clear_29 (tgt := 42) (by decide) (by omega) (by omega) (fun z => absurd z (by omega)) (fun z => ?_)
      refine gh_aload_n hK d_AL_clear_32 rfl ?_
      refine gh_iload_n hK d_AL_clear_33 rfl ?_
      refine gh_null hK d_AL_clear_34 ?_
      refine gh_aastN hK d_AL_clear_35 j7 (by omega) (by omega) ?_
      refine gh_incN (lv' := [some (.ref la), some (.ref oa), some (.int (nI rs.length)), some (.int (nI (i + 1)))]) hK d_AL_clear_36 rfl rfl ?_
      refine gh_goto (tgt := 27) hK d_AL_clear_39 (by decide) ?_
      exact ih (i + 1) _ _ (by omega) (by rw [gh_un n0]; exact j1) (Or.inr ⟨j6, gh_us⟩) (hM.tr (gh_M.up j7 (by simp)))
  refine gh_aload_n hK d_AL_clear_0 rfl ?_
  refine gh_dup hK d_AL_clear_1 rfl ?_
  refine gh_getM hK d_AL_clear_2 k1 kf_AL_63 rfl ?_
  refine gh_iconst (v := nI 1) hK d_AL_clear_5 (by decide) ?_
  refine gh_iadd hK d_AL_clear_6 ?_
  refine gh_putM (fs' := [.int (mo + nI 1), .ref oa, .int (nI rs.length)]) hK d_AL_clear_7 k1 kf_AL_63 (Nat.le_of_ble_eq_true rfl) rfl ?_
  have hM0 : gh_M [tl, to] g (gh_up g la tl (.inr (11, [.int (mo + nI 1), .ref oa, .int (nI rs.length)]))) := gh_M.up k1 (by simp)
  have a1 : AlA G (gh_up g la tl (.inr (11, [.int (mo + nI 1), .ref oa, .int (nI rs.length)]))) la tl to oa N (mo + nI 1) f rs := ⟨gh_us, k2.imp id (fun q => ⟨q.1, by rw [gh_un (fun z => by rw [z, k1] at q; cases q.2)]; exact q.2⟩), k3, k4, k5⟩
  generalize gh_up g la tl (.inr (11, [.int (mo + nI 1), .ref oa, .int (nI rs.length)])) = g1 at hM0 a1 ⊢
  have b1 := a1.1
  refine gh_aload_n hK d_AL_clear_10 rfl ?_
  refine gh_get hK d_AL_clear_11 in_AL rfl b1 1 (by decide) kf_AL_9 rfl rfl ?_
  refine gh_astore_n (lv' := [some (.ref la), some (.ref oa), none, none]) hK d_AL_clear_14 (Nat.le_of_ble_eq_true rfl) rfl ?_
  refine gh_aload_n hK d_AL_clear_15 rfl ?_
  refine gh_get hK d_AL_clear_16 in_AL rfl b1 2 (by decide) kf_AL_48 rfl rfl ?_
  refine gh_istore_n (lv' := [some (.ref la), some (.ref oa), some (.int (nI rs.length)), none]) hK d_AL_clear_19 (Nat.le_of_ble_eq_true rfl) rfl ?_
  refine gh_aload_n hK d_AL_clear_20 rfl ?_
  refine gh_iconst (v := nI 0) hK d_AL_clear_21 (by decide) ?_
  refine gh_dup_x1 hK d_AL_clear_22 rfl rfl ?_
  refine gh_put (fs' := [.int (mo + nI 1), .ref oa, .int (nI 0)]) hK d_AL_clear_23 in_AL t_AL ty_AL nm_AL rfl b1 2 (by decide) kf_AL_48 rfl rfl rfl rfl (Nat.le_of_ble_eq_true rfl) rfl ?_
  refine gh_istore_n (lv' := [some (.ref la), some (.ref oa), some (.int (nI rs.length)), some (.int (nI 0))]) hK d_AL_clear_26 (Nat.le_of_ble_eq_true rfl) rfl ?_
  exact loop rs.length 0 _ f (by omega) gh_us (a1.2.1.imp id (fun q => ⟨q.1, by rw [gh_un (fun z => by rw [z, b1] at q; cases q.2)]; exact q.2⟩)) (hM0.tr (gh_M.up b1 (by simp)))
set_option maxRecDepth 20000 in
set_option maxHeartbeats 4000000 in
theorem c_AbC_init (l : Launch) (G : GG) {g : GH} {la : Nat}  : gMet l G y_AbC_init b_AbC_init 1 none (rmk 1 0 0 12) [.ref la] g (fun v g' => v = none ∧ g' = g) := by
  refine gMet.of [some (.ref la)] (by decide +kernel) rfl (Nat.le_of_ble_eq_true rfl) rfl (fun X hK hI hE => ?_)
  refine gh_aload_n hK d_AbC_init_0 rfl ?_
  refine gh_objInit hK d_AbC_init_1 km_AbC_1 w_oi w_oc rfl (Nat.le_of_ble_eq_true rfl) (Nat.le_of_ble_eq_true rfl) ?_
  exact gh_vret hK hE d_AbC_init_4 (Nat.le_of_ble_eq_true rfl) (Nat.le_of_ble_eq_true rfl) ⟨rfl, rfl⟩
set_option maxRecDepth 20000 in
set_option maxHeartbeats 4000000 in
theorem c_AbL_init (l : Launch) (G : GG) {g : GH} {la tl : Nat} {v0 : Int32} {v1 v2 : Value} (h : g la = some (tl, .inr (11, [.int v0, v1, v2]))) : gMet l G y_AbL_init b_AbL_init 1 none (rmk 2 0 0 32) [.ref la] g (fun v g' => v = none ∧ g' = gh_up g la tl (.inr (11, [.int (nI 0), v1, v2]))) := by
  refine gMet.of [some (.ref la)] (by decide +kernel) rfl (Nat.le_of_ble_eq_true rfl) rfl (fun X hK hI hE => ?_)
  refine gh_aload_n hK d_AbL_init_0 rfl ?_
  refine gh_callI (rest := []) [] hK (c_AbC_init l G (g := g) (la := la)) Y_AbC_init rfl V_AbC_init km_AbL_1 rfl d_AbL_init_1 rfl rfl (Nat.le_of_ble_eq_true rfl) ⟨(Nat.le_of_ble_eq_true rfl), (Nat.le_of_ble_eq_true rfl)⟩ ⟨(Nat.le_of_ble_eq_true rfl), (Nat.le_of_ble_eq_true rfl)⟩ (fun v g' hp => ?_)
  rw [hp.1, hp.2]
  show gh_W l G _ X g _ _ [some (.ref la)] 4 []
  refine gh_aload_n hK d_AbL_init_4 rfl ?_
  refine gh_iconst (v := nI 0) hK d_AbL_init_5 (by decide) ?_
  refine gh_put (fs' := [.int (nI 0), v1, v2]) hK d_AbL_init_6 in_AL t_AL ty_AL nm_AL rfl h 0 (by decide) kf_AbL_7 rfl rfl rfl rfl (Nat.le_of_ble_eq_true rfl) rfl ?_
  exact gh_vret hK hE d_AbL_init_9 (Nat.le_of_ble_eq_true rfl) (Nat.le_of_ble_eq_true rfl) ⟨rfl, rfl⟩
set_option maxRecDepth 20000 in
set_option maxHeartbeats 4000000 in
theorem c_AL_init (l : Launch) (G : GG) {g : GH} {la tl : Nat} (to : Nat) (h : g la = some (tl, .inr (11, [.int 0, .null, .int 0]))) : gMet l G y_AL_init b_AL_init 1 none (rmk 3 0 0 52) [.ref la] g (fun v g' => v = none ∧ Al G g' la tl to [] ∧ gh_N [la] g g') := by
  refine gMet.of [some (.ref la)] (by decide +kernel) rfl (Nat.le_of_ble_eq_true rfl) rfl (fun X hK hI hE => ?_)
  refine gh_aload_n hK d_AL_init_0 rfl ?_
  refine gh_callI (rest := []) [] hK (c_AbL_init l G h) Y_AbL_init rfl V_AbL_init km_AL_1 rfl d_AL_init_1 rfl rfl (Nat.le_of_ble_eq_true rfl) ⟨(Nat.le_of_ble_eq_true rfl), (Nat.le_of_ble_eq_true rfl)⟩ ⟨(Nat.le_of_ble_eq_true rfl), (Nat.le_of_ble_eq_true rfl)⟩ (fun v g' hp => ?_)
  rw [hp.1, hp.2]
  show gh_W l G _ X (gh_up g la tl (.inr (11, [.int (nI 0), .null, .int 0]))) _ _ [some (.ref la)] 4 []
  refine gh_aload_n hK d_AL_init_4 rfl ?_
  refine gh_de hK d_AL_init_5 kf_AL_39 ?_
  refine gh_put (fs' := [.int (nI 0), .ref G.2.2.2.2.1, .int 0]) hK d_AL_init_8 in_AL t_AL ty_AL nm_AL rfl gh_us 1 (by decide) kf_AL_9 rfl rfl rfl rfl (Nat.le_of_ble_eq_true rfl) rfl ?_
  exact gh_vret hK hE d_AL_init_11 (Nat.le_of_ble_eq_true rfl) (Nat.le_of_ble_eq_true rfl) ⟨rfl, ⟨G.2.2.2.2.1, 0, nI 0, fun _ => none, gh_us, Or.inl ⟨rfl, rfl⟩, Nat.le_refl _, Nat.zero_le _, fun i r hi => by simp at hi⟩, (gh_N.up (by simp)).tr (gh_N.up (by simp))⟩
