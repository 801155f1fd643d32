/-! ARRAYLISTS of entries, or of rules -/
def AlA (G : GG) (g : GH) (la tl to oa N : Nat) (mo : Int32) (f : Nat → Option Nat) (rs : List Nat) : Prop := g la = some (tl, .inr (11, [.int mo, .ref oa, .int (nI rs.length)])) ∧ ((N = 0 ∧ oa = G.2.2.2.2.1) ∨ (10 ≤ N ∧ g oa = some (to, qArr G N f))) ∧ rs.length ≤ N ∧ N ≤ 450 ∧ ∀ i r, rs[i]? = some r → f i = some r
def Al (G : GG) (g : GH) (la tl to : Nat) (rs : List Nat) : Prop := ∃ oa N mo f, AlA G g la tl to oa N mo f rs
/-- the listed objects are of the class ci -/
def AlC (g : GH) (ci : Nat) (rs : List Nat) : Prop := ∀ r, r ∈ rs → ∃ t fs, g r = some (t, .inr (ci, fs))
theorem Al.M {G : GG} {g g' : GH} {la tl to : Nat} {rs : List Nat} {S : List Nat} (h : Al G g la tl to rs) (hM : gh_M S g g') (h1 : tl ∉ S) (h2 : to ∉ S) : Al G g' la tl to rs := by
  obtain ⟨oa, N, mo, f, k1, k2, k3⟩ := h
  exact ⟨oa, N, mo, f, hM la tl _ k1 h1, k2.imp id (fun q => ⟨q.1, hM oa to _ q.2 h2⟩), k3⟩
theorem Al.ob {G : GG} {g : GH} {la tl to : Nat} {rs : List Nat} (h : Al G g la tl to rs) : ∃ fs, g la = some (tl, .inr (11, fs)) := by
  obtain ⟨oa, N, mo, f, k1, k2, k3⟩ := h
  exact ⟨_, k1⟩
theorem Al.len {G : GG} {g : GH} {la tl to : Nat} {rs : List Nat} (h : Al G g la tl to rs) : rs.length ≤ 450 := by
  obtain ⟨oa, N, mo, f, k1, k2, k3, k4, k5⟩ := h
  omega
set_option maxRecDepth 20000 in
set_option maxHeartbeats 4000000 in
theorem c_AL_size (l : Launch) (G : GG) {g : GH} {la tl to : Nat} {rs : List Nat} (h : Al G g la tl to rs) : gMet l G y_AL_size b_AL_size 1 (some .int) (rmk 0 0 0 0) [.ref la] g (fun v g' => v = some (.int (nI rs.length)) ∧ g' = g) := by
  refine gMet.of [some (.ref la)] (by decide +kernel) rfl (Nat.le_of_ble_eq_true rfl) rfl (fun X hK hI hE => ?_)
  obtain ⟨oa, N, mo, f, k1, k2, k3, k4, k5⟩ := h
  refine gh_aload_n hK d_AL_size_0 rfl ?_
  refine gh_get hK d_AL_size_1 in_AL rfl k1 2 (by decide) kf_AL_48 rfl rfl ?_
  exact gh_iret hK hE d_AL_size_4 (Nat.le_of_ble_eq_true rfl) (Nat.le_of_ble_eq_true rfl) ⟨rfl, rfl⟩
set_option maxRecDepth 20000 in
set_option maxHeartbeats 4000000 in
theorem c_Obs_checkIndex (l : Launch) (G : GG) {g : GH} {i j : Nat} (hi : i < j) (hj : j < 2 ^ 31) : gMet l G y_Obs_checkIndex b_Obs_checkIndex 2 (some .int) (rmk 1 0 0 22) [.int (nI i), .int (nI j)] g (fun v g' => v = some (.int (nI i)) ∧ g' = g) := by
  refine gMet.of [some (.int (nI i)), some (.int (nI j))] (by decide +kernel) rfl (Nat.le_of_ble_eq_true rfl) rfl (fun X hK hI hE => ?_)
  refine gh_iload_n hK d_Obs_checkIndex_0 rfl ?_
  refine gh_iload_n hK d_Obs_checkIndex_1 rfl ?_
  refine gh_null hK d_Obs_checkIndex_2 ?_
  refine gh_callS (rest := []) [.int (nI i), .int (nI j), .null] hK (c_Pre_checkIndex l G (g := g) (Or.inl rfl) hi hj) Y_Pre_checkIndex V_Pre_checkIndex km_Obs_105 rfl d_Obs_checkIndex_3 rfl rfl (Nat.le_of_ble_eq_true rfl) ⟨(Nat.le_of_ble_eq_true rfl), (Nat.le_of_ble_eq_true rfl)⟩ ⟨(Nat.le_of_ble_eq_true rfl), (Nat.le_of_ble_eq_true rfl)⟩ (fun v g' hp => ?_)
  rw [hp.1, hp.2]
  show gh_W l G _ X g _ _ [some (.int (nI i)), some (.int (nI j))] 6 [.int (nI i)]
  exact gh_iret hK hE d_Obs_checkIndex_6 (Nat.le_of_ble_eq_true rfl) (Nat.le_of_ble_eq_true rfl) ⟨rfl, rfl⟩
set_option maxRecDepth 20000 in
set_option maxHeartbeats 4000000 in
theorem c_AL_elementData (l : Launch) (G : GG) {g : GH} {la tl to : Nat} {rs : List Nat} {j r : Nat} (h : Al G g la tl to rs) (hj : rs[j]? = some r) : gMet l G y_AL_elementData b_AL_elementData 2 (some (.object "java/lang/Object")) (rmk 0 0 0 0) [.ref la, .int (nI j)] g (fun v g' => v = some (.ref r) ∧ g' = g) := by
  refine gMet.of [some (.ref la), some (.int (nI j))] (by decide +kernel) rfl (Nat.le_of_ble_eq_true rfl) rfl (fun X hK hI hE => ?_)
  obtain ⟨oa, N, mo, f, k1, k2, k3, k4, k5⟩ := h
  have hlt := (List.getElem?_eq_some_iff.mp hj).1
  obtain ⟨k6, k7⟩ : 10 ≤ N ∧ g oa = some (to, qArr G N f) := k2.resolve_left (fun q => by omega)
  refine gh_aload_n hK d_AL_elementData_0 rfl ?_
  refine gh_get hK d_AL_elementData_1 in_AL rfl k1 1 (by decide) kf_AL_9 rfl rfl ?_
  refine gh_iload_n hK d_AL_elementData_4 rfl ?_
  refine gh_aaldN (j := j) hK d_AL_elementData_5 k7 (by omega) (by omega) ?_
  rw [k5 j r hj]
  exact gh_aret (Or.inl ⟨_, rfl⟩) (Or.inr ⟨_, rfl⟩) hK hE d_AL_elementData_6 (Nat.le_of_ble_eq_true rfl) (Nat.le_of_ble_eq_true rfl) ⟨rfl, rfl⟩
set_option maxRecDepth 20000 in
set_option maxHeartbeats 4000000 in
theorem c_AL_get (l : Launch) (G : GG) {g : GH} {la tl to : Nat} {rs : List Nat} {j r : Nat} (h : Al G g la tl to rs) (hj : rs[j]? = some r) : gMet l G y_AL_get b_AL_get 2 (some (.object "java/lang/Object")) (rmk 2 0 0 43) [.ref la, .int (nI j)] g (fun v g' => v = some (.ref r) ∧ g' = g) := by
  refine gMet.of [some (.ref la), some (.int (nI j))] (by decide +kernel) rfl (Nat.le_of_ble_eq_true rfl) rfl (fun X hK hI hE => ?_)
  have hlt := (List.getElem?_eq_some_iff.mp hj).1
  have hlen := h.len
  have hh := h
  obtain ⟨oa, N, mo, f, k1, k2, k3, k4, k5⟩ := h
  refine gh_iload_n hK d_AL_get_0 rfl ?_
  refine gh_aload_n hK d_AL_get_1 rfl ?_
  refine gh_get hK d_AL_get_2 in_AL rfl k1 2 (by decide) kf_AL_48 rfl rfl ?_
  refine gh_callS (rest := []) [.int (nI j), .int (nI rs.length)] hK (c_Obs_checkIndex l G (g := g) hlt (by omega)) Y_Obs_checkIndex V_Obs_checkIndex km_AL_118 rfl d_AL_get_5 rfl rfl (Nat.le_of_ble_eq_true rfl) ⟨(Nat.le_of_ble_eq_true rfl), (Nat.le_of_ble_eq_true rfl)⟩ ⟨(Nat.le_of_ble_eq_true rfl), (Nat.le_of_ble_eq_true rfl)⟩ (fun v g' hp => ?_)
  rw [hp.1, hp.2]
  show gh_W l G _ X g _ _ [some (.ref la), some (.int (nI j))] 8 [.int (nI j)]
  refine gh_pop hK d_AL_get_8 rfl ?_
  refine gh_aload_n hK d_AL_get_9 rfl ?_
  refine gh_iload_n hK d_AL_get_10 rfl ?_
  refine gh_callV (rest := []) [.int (nI j)] hK (c_AL_elementData l G hh hj) Y_AL_elementData V_AL_elementData km_AL_123 k1 rfl rfl d_AL_get_11 rfl rfl (Nat.le_of_ble_eq_true rfl) ⟨(Nat.le_of_ble_eq_true rfl), (Nat.le_of_ble_eq_true rfl)⟩ ⟨(Nat.le_of_ble_eq_true rfl), (Nat.le_of_ble_eq_true rfl)⟩ (fun v g' hp => ?_)
  rw [hp.1, hp.2]
  show gh_W l G _ X g _ _ [some (.ref la), some (.int (nI j))] 14 [.ref r]
  exact gh_aret (Or.inl ⟨_, rfl⟩) (Or.inr ⟨_, rfl⟩) hK hE d_AL_get_14 (Nat.le_of_ble_eq_true rfl) (Nat.le_of_ble_eq_true rfl) ⟨rfl, rfl⟩
set_option maxRecDepth 20000 in
set_option maxHeartbeats 4000000 in
theorem c_Mt_min (l : Launch) (G : GG) {g : GH} {i j : Nat} (hi : i < 2 ^ 31) (hj : j < 2 ^ 31) : gMet l G y_Mt_min b_Mt_min 2 (some .int) (rmk 0 0 0 0) [.int (nI i), .int (nI j)] g (fun v g' => v = some (.int (nI (if i ≤ j then i else j))) ∧ g' = g) := by
  refine gMet.of [some (.int (nI i)), some (.int (nI j))] (by decide +kernel) rfl (Nat.le_of_ble_eq_true rfl) rfl (fun X hK hI hE => ?_)
  refine gh_iload_n hK d_Mt_min_0 rfl ?_
  refine gh_iload_n hK d_Mt_min_1 rfl ?_
  refine gh_icmp_gtN hK d_Mt_min_2 (tgt := 9) (by decide) hi hj (fun z => ?_) (fun z => ?_)
  · refine gh_iload_n hK d_Mt_min_9 rfl ?_
    exact gh_iret hK hE d_Mt_min_10 (Nat.le_refl _) (Nat.le_refl _) ⟨by first | rw [if_pos (by omega)] | rw [if_neg (by omega)], rfl⟩
  · refine gh_iload_n hK d_Mt_min_5 rfl ?_
    refine gh_goto (tgt := 10) hK d_Mt_min_6 (by decide) ?_
    exact gh_iret hK hE d_Mt_min_10 (Nat.le_refl _) (Nat.le_refl _) ⟨by first | rw [if_pos (by omega)] | rw [if_neg (by omega)], rfl⟩
set_option maxRecDepth 20000 in
set_option maxHeartbeats 4000000 in
theorem c_Ars_copyOf3 (l : Launch) (G : GG) {g : GH} {a u N N2 ci : Nat} {r : vw_C} {f : Nat → Option Nat} (T : Nat) (he : g a = some (u, qArr G N f)) (hc : vwCl[ci]? = some r) (hci : r.1 = "SpellDesk$Entry" ∨ r.1 = "SpellDesk$Rule") (hel : ∀ i, i < N → ∀ y, f i = some y → ∃ ty fs, g y = some (ty, .inr (ci, fs))) (hN : N ≤ N2) (hN2 : N2 < 65536) : gMet l G y_Ars_copyOf2 b_Ars_copyOf2 4 (some (.array (.object "java/lang/Object"))) (rmk 1 1 N2 64) [.ref a, .int (nI N2), .ref G.2.2.2.2.2] g (fun v g' => ∃ a1, v = some (.ref a1) ∧ g a1 = none ∧ g' a1 = some (T, qArr G N2 (va_cpy f (fun _ => none) 0 0 N)) ∧ gh_N [] g g') := by
  refine gMet.of [some (.ref a), some (.int (nI N2)), some (.ref G.2.2.2.2.2), none] (by decide +kernel) rfl (Nat.le_of_ble_eq_true rfl) rfl (fun X hK hI hE => ?_)
  refine gh_aload_n hK d_Ars_copyOf2_0 rfl ?_
  refine gh_ldcM hK d_Ars_copyOf2_1 kc_Ars_110 ?_
  refine gh_acmp_ne hK d_Ars_copyOf2_3 (tgt := 13) (by decide) (fun z => absurd rfl z) (fun z => ?_)
  refine gh_iload_n hK d_Ars_copyOf2_6 rfl ?_
  refine gh_newq (N := N2) T hK d_Ars_copyOf2_7 kc_Ars_2 hN2 (Nat.le_of_ble_eq_true rfl) (by show 0 + N2 ≤ N2; omega) (fun a1 ha1 => ?_)
  refine gh_goto (tgt := 24) hK d_Ars_copyOf2_10 (by decide) ?_
  refine gh_astore_n (lv' := [some (.ref a), some (.int (nI N2)), some (.ref G.2.2.2.2.2), some (.ref a1)]) hK d_Ars_copyOf2_24 (Nat.le_of_ble_eq_true rfl) rfl ?_
  refine gh_aload_n hK d_Ars_copyOf2_25 rfl ?_
  refine gh_iconst (v := nI 0) hK d_Ars_copyOf2_26 (by decide) ?_
  refine gh_aload_n hK d_Ars_copyOf2_27 rfl ?_
  refine gh_iconst (v := nI 0) hK d_Ars_copyOf2_28 (by decide) ?_
  refine gh_aload_n hK d_Ars_copyOf2_29 rfl ?_
  have haa : a ≠ a1 := fun z => by rw [z, ha1] at he; cases he
  have he1 : gh_up g a1 T (qArr G N2 (fun _ => none)) a = some (u, qArr G N f) := by rw [gh_un haa]; exact he
  refine gh_alen (v := nI N) hK d_Ars_copyOf2_30 he1 (t0 := 2) rfl rfl ?_
  refine gh_iload_n hK d_Ars_copyOf2_31 rfl ?_
  refine gh_callS (rest := [.int (nI 0), .ref a1, .int (nI 0), .ref a]) [.int (nI N), .int (nI N2)] hK (c_Mt_min l G (g := (gh_up g a1 T (qArr G N2 (fun _ => none)))) (i := N) (j := N2) (by omega) (by omega)) Y_Mt_min V_Mt_min km_Ars_304 rfl d_Ars_copyOf2_32 rfl rfl (Nat.le_of_ble_eq_true rfl) ⟨(Nat.le_of_ble_eq_true rfl), (Nat.le_of_ble_eq_true rfl)⟩ ⟨Nat.le_refl _, by show 0 + N2 + 0 ≤ N2; omega⟩ (fun v g' hp => ?_)
  rw [hp.1, hp.2]
  show gh_W l G _ X (gh_up g a1 T (qArr G N2 (fun _ => none))) _ _ [some (.ref a), some (.int (nI N2)), some (.ref G.2.2.2.2.2), some (.ref a1)] 35 [.int (nI (if N ≤ N2 then N else N2)), .int (nI 0), .ref a1, .int (nI 0), .ref a]
  rw [if_pos hN]
  refine gh_copyq (ci := ci) (r := r) (f := f) (f2 := fun _ => none) (sp := 0) (dp := 0) hK d_Ars_copyOf2_35 km_Ars_150 he1 gh_us hc hci (fun i hi y hy => ?_) (by omega) (by omega) (by omega) (by omega) rfl (Nat.le_of_ble_eq_true rfl) (Nat.le_of_ble_eq_true rfl) ?_
  · rw [Nat.zero_add] at hy
    obtain ⟨ty, fs, hg⟩ := hel i hi y hy
    exact ⟨ty, fs, by rw [gh_un (fun z => by rw [z, ha1] at hg; cases hg)]; exact hg⟩
  refine gh_aload_n hK d_Ars_copyOf2_38 rfl ?_
  exact gh_aret (Or.inr ⟨_, rfl⟩) (Or.inr ⟨_, rfl⟩) hK hE d_Ars_copyOf2_39 (Nat.le_of_ble_eq_true rfl) (by show 0 + N2 + 0 ≤ N2; omega) ⟨a1, rfl, ha1, gh_us, (gh_N.nw ha1).fresh (gh_N.up (S := [a1]) (by simp)) (fun q hq => by rw [List.mem_singleton.mp hq]; exact Or.inr ha1)⟩
set_option maxRecDepth 20000 in
set_option maxHeartbeats 4000000 in
theorem c_Ars_copyOf2 (l : Launch) (G : GG) {g : GH} {a u N N2 ci : Nat} {r : vw_C} {f : Nat → Option Nat} (T : Nat) (he : g a = some (u, qArr G N f)) (hc : vwCl[ci]? = some r) (hci : r.1 = "SpellDesk$Entry" ∨ r.1 = "SpellDesk$Rule") (hel : ∀ i, i < N → ∀ y, f i = some y → ∃ ty fs, g y = some (ty, .inr (ci, fs))) (hN : N ≤ N2) (hN2 : N2 < 65536) : gMet l G y_Ars_copyOf1 b_Ars_copyOf1 2 (some (.array (.object "java/lang/Object"))) (rmk 2 1 N2 87) [.ref a, .int (nI N2)] g (fun v g' => ∃ a1, v = some (.ref a1) ∧ g a1 = none ∧ g' a1 = some (T, qArr G N2 (va_cpy f (fun _ => none) 0 0 N)) ∧ gh_N [] g g') := by
  refine gMet.of [some (.ref a), some (.int (nI N2))] (by decide +kernel) rfl (Nat.le_of_ble_eq_true rfl) rfl (fun X hK hI hE => ?_)
  refine gh_aload_n hK d_Ars_copyOf1_0 rfl ?_
  refine gh_iload_n hK d_Ars_copyOf1_1 rfl ?_
  refine gh_aload_n hK d_Ars_copyOf1_2 rfl ?_
  refine gh_getC hK d_Ars_copyOf1_3 km_Ars_86 he rfl (Nat.le_of_ble_eq_true rfl) (Nat.le_of_ble_eq_true rfl) ?_
  refine gh_callS (rest := []) [.ref a, .int (nI N2), .ref G.2.2.2.2.2] hK (c_Ars_copyOf3 l G T he hc hci hel hN hN2) Y_Ars_copyOf2 V_Ars_copyOf2 km_Ars_300 rfl d_Ars_copyOf1_6 rfl rfl (Nat.le_of_ble_eq_true rfl) ⟨(Nat.le_of_ble_eq_true rfl), (Nat.le_of_ble_eq_true rfl)⟩ ⟨(Nat.le_of_ble_eq_true rfl), by show 0 + N2 ≤ N2; omega⟩ (fun v g1 hp => ?_)
  obtain ⟨a1, rfl, ha1, hp1, hpN⟩ := hp
  show gh_W l G _ X g1 _ _ [some (.ref a), some (.int (nI N2))] 9 [.ref a1]
  exact gh_aret (Or.inr ⟨_, rfl⟩) (Or.inr ⟨_, rfl⟩) hK hE d_Ars_copyOf1_9 (Nat.le_of_ble_eq_true rfl) (by show 0 + N2 ≤ N2; omega) ⟨a1, rfl, ha1, hp1, hpN⟩
set_option maxRecDepth 20000 in
set_option maxHeartbeats 4000000 in
theorem c_ArS_newLength (l : Launch) (G : GG) {g : GH} {i j q : Nat} (hi : i + j + q < 65536) (h0 : 0 < i + j) : gMet l G y_ArS_newLength b_ArS_newLength 4 (some .int) (rmk 1 0 0 21) [.int (nI i), .int (nI j), .int (nI q)] g (fun v g' => v = some (.int (nI (i + (if q ≤ j then j else q)))) ∧ g' = g) := by
  refine gMet.of [some (.int (nI i)), some (.int (nI j)), some (.int (nI q)), none] (by decide +kernel) rfl (Nat.le_of_ble_eq_true rfl) rfl (fun X hK hI hE => ?_)
  have hcn : Cond.constant "jdk/internal/util/ArraysSupport" 200 2147483639 ∈ gTbl := gt_in (i := 565) (by decide +kernel) rfl
  refine gh_iload_n hK d_ArS_newLength_0 rfl ?_
  refine gh_iload_n hK d_ArS_newLength_1 rfl ?_
  refine gh_iload_n hK d_ArS_newLength_2 rfl ?_
  refine gh_callS (rest := [.int (nI i)]) [.int (nI j), .int (nI q)] hK (c_Mt_max l G (g := g) (i := j) (j := q) (by omega) (by omega)) Y_Mt_max V_Mt_max km_ArS_194 rfl d_ArS_newLength_3 rfl rfl (Nat.le_of_ble_eq_true rfl) ⟨(Nat.le_of_ble_eq_true rfl), (Nat.le_of_ble_eq_true rfl)⟩ ⟨(Nat.le_of_ble_eq_true rfl), (Nat.le_of_ble_eq_true rfl)⟩ (fun v g' hp => ?_)
  rw [hp.1, hp.2]
  show gh_W l G _ X g _ _ [some (.int (nI i)), some (.int (nI j)), some (.int (nI q)), none] 6 [.int (nI (if q ≤ j then j else q)), .int (nI i)]
  have hmx : 0 < i + (if q ≤ j then j else q) ∧ i + (if q ≤ j then j else q) < 65536 := by split <;> omega
  generalize (if q ≤ j then j else q) = x at hmx hE ⊢
  refine gh_addN hK d_ArS_newLength_6 ?_
  refine gh_istore_n (lv' := [some (.int (nI i)), some (.int (nI j)), some (.int (nI q)), some (.int (nI (i + x)))]) hK d_ArS_newLength_7 (Nat.le_of_ble_eq_true rfl) rfl ?_
  refine gh_iconst (v := nI 0) hK d_ArS_newLength_8 (by decide) ?_
  refine gh_iload_n hK d_ArS_newLength_9 rfl ?_
  refine gh_icmp_geN hK d_ArS_newLength_10 (tgt := 21) (by decide) (by decide) (by omega) (fun z => absurd z (by omega)) (fun z => ?_)
  refine gh_iload_n hK d_ArS_newLength_13 rfl ?_
  refine gh_ldcI (v := nI 2147483639) hK d_ArS_newLength_14 hcn ?_
  refine gh_icmp_gtN hK d_ArS_newLength_16 (tgt := 21) (by decide) (by omega) (by decide) (fun z2 => absurd z2 (by omega)) (fun z2 => ?_)
  refine gh_iload_n hK d_ArS_newLength_19 rfl ?_
  exact gh_iret hK hE d_ArS_newLength_20 (Nat.le_of_ble_eq_true rfl) (Nat.le_of_ble_eq_true rfl) ⟨rfl, rfl⟩
