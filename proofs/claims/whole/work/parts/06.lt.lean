/-! LETTERS: a row of characters -/
def rmk (f c s l : Nat) : Room := { frames := f, cells := c, slots := s, locals := l }
/-- the object at a (tag t), its array at b (tag u), of cap places, n of them used -/
def LtA (G : GG) (g : GH) (a t b u cap n : Nat) (f : Nat → Int32) : Prop := g a = some (t, .inr (3, [.ref b, .int (nI n)])) ∧ g b = some (u, .inl (G.2.1 0, cap, .inl f)) ∧ n ≤ cap ∧ cap < 65536
def Lt (G : GG) (g : GH) (a t b u cap : Nat) (xs : List Nat) : Prop := ∃ f, LtA G g a t b u cap xs.length f ∧ chs f xs
theorem Lt.ne {G : GG} {g : GH} {a t b u cap : Nat} {xs : List Nat} (h : Lt G g a t b u cap xs) : a ≠ b := fun z => by
  obtain ⟨f, ⟨h1, h2, -⟩, -⟩ := h
  rw [z, h2] at h1
  cases h1
theorem Lt.ob {G : GG} {g : GH} {a t b u cap : Nat} {xs : List Nat} (h : Lt G g a t b u cap xs) : g a = some (t, .inr (3, [.ref b, .int (nI xs.length)])) := by
  obtain ⟨f, ⟨h1, -⟩, -⟩ := h
  exact h1
theorem Lt.len {G : GG} {g : GH} {a t b u cap : Nat} {xs : List Nat} (h : Lt G g a t b u cap xs) : xs.length ≤ cap ∧ cap < 65536 := by
  obtain ⟨f, ⟨-, -, h3, h4⟩, -⟩ := h
  exact ⟨h3, h4⟩
theorem Lt.ch {G : GG} {g : GH} {a t b u cap : Nat} {xs : List Nat} (h : Lt G g a t b u cap xs) {i x : Nat} (hi : xs[i]? = some x) : x < 65536 := by
  obtain ⟨f, -, h5⟩ := h
  exact (h5 i x hi).2
theorem Lt.getD {G : GG} {g : GH} {a t b u cap : Nat} {xs : List Nat} (h : Lt G g a t b u cap xs) (i : Nat) : xs.getD i 0 < 65536 := by
  rw [List.getD_eq_getElem?_getD]
  cases hi : xs[i]? with
  | none => exact Nat.succ_pos _
  | some x => exact h.ch hi
theorem Lt.N {G : GG} {g g' : GH} {a t b u cap : Nat} {xs : List Nat} {S : List Nat} (h : Lt G g a t b u cap xs) (hN : gh_N S g g') (ha : a ∉ S) (hb : b ∉ S) : Lt G g' a t b u cap xs := by
  obtain ⟨f, ⟨h1, h2, h3⟩, h5⟩ := h
  exact ⟨f, ⟨by rw [hN a ha (by rw [h1]; exact fun z => by cases z)]; exact h1, by rw [hN b hb (by rw [h2]; exact fun z => by cases z)]; exact h2, h3⟩, h5⟩
theorem Lt.M {G : GG} {g g' : GH} {a t b u cap : Nat} {xs : List Nat} {S : List Nat} (h : Lt G g a t b u cap xs) (hM : gh_M S g g') (ht : t ∉ S) (hu : u ∉ S) : Lt G g' a t b u cap xs := by
  obtain ⟨f, ⟨h1, h2, h3⟩, h5⟩ := h
  exact ⟨f, ⟨hM a t _ h1 ht, hM b u _ h2 hu, h3⟩, h5⟩
set_option maxRecDepth 20000 in
set_option maxHeartbeats 4000000 in
theorem c_Lt_count (l : Launch) (G : GG) {g : GH} {a t b u cap : Nat} {xs : List Nat} (h : Lt G g a t b u cap xs) : gMet l G y_Lt_count b_Lt_count 1 (some .int) (rmk 0 0 0 0) [.ref a] g (fun v g' => v = some (.int (nI xs.length)) ∧ g' = g) := by
  obtain ⟨f, ⟨h1, h2, h3, h4⟩, h5⟩ := h
  refine gMet.of [some (.ref a)] (by decide +kernel) rfl (Nat.le_of_ble_eq_true rfl) rfl (fun X hK hI hE => ?_)
  refine gh_aload_n hK d_Lt_count_0 rfl ?_
  refine gh_get hK d_Lt_count_1 in_Lt rfl h1 1 (by decide) kf_Lt_19 rfl rfl ?_
  exact gh_iret hK hE d_Lt_count_4 (Nat.le_refl _) (Nat.le_refl _) ⟨rfl, rfl⟩
set_option maxRecDepth 20000 in
set_option maxHeartbeats 4000000 in
theorem c_Lt_at (l : Launch) (G : GG) {g : GH} {a t b u cap : Nat} {xs : List Nat} {j : Nat} (h : Lt G g a t b u cap xs) (hj : j < 2 ^ 31) : gMet l G y_Lt_at b_Lt_at 2 (some .char) (rmk 0 0 0 0) [.ref a, .int (nI j)] g (fun v g' => v = some (.int (nI (xs.getD j 0))) ∧ g' = g) := by
  have hc := h.getD j
  obtain ⟨f, ⟨h1, h2, h3, h4⟩, h5⟩ := h
  refine gMet.of [some (.ref a), some (.int (nI j))] (by decide +kernel) rfl (Nat.le_of_ble_eq_true rfl) rfl (fun X hK hI hE => ?_)
  refine gh_iload_n hK d_Lt_at_0 rfl ?_
  refine gh_if_ltN hK d_Lt_at_1 (tgt := 21) (by decide) hj ?_
  refine gh_iload_n hK d_Lt_at_4 rfl ?_
  refine gh_aload_n hK d_Lt_at_5 rfl ?_
  refine gh_get hK d_Lt_at_6 in_Lt rfl h1 1 (by decide) kf_Lt_19 rfl rfl ?_
  refine gh_icmp_geN hK d_Lt_at_9 (tgt := 21) (by decide) hj (by omega) (fun z => ?_) (fun z => ?_)
  · have e : xs.getD j 0 = 0 := by rw [List.getD_eq_getElem?_getD, List.getElem?_eq_none z]; rfl
    refine gh_iconst (v := nI 0) hK d_Lt_at_21 (by decide) ?_
    exact gh_zret (pk_charN (by decide)).1 hK hE d_Lt_at_22 (Nat.le_refl _) (Nat.le_refl _) ⟨by rw [e], rfl⟩
  · have ex : xs[j]? = some (xs.getD j 0) := by rw [List.getD_eq_getElem?_getD, List.getElem?_eq_getElem z]; rfl
    refine gh_aload_n hK d_Lt_at_12 rfl ?_
    refine gh_get hK d_Lt_at_13 in_Lt rfl h1 0 (by decide) kf_Lt_13 rfl rfl ?_
    refine gh_iload_n hK d_Lt_at_16 rfl ?_
    refine gh_caldN (j := j) hK d_Lt_at_17 h2 (t0 := 0) rfl (by omega) (by omega) ?_
    rw [(h5 j _ ex).1]
    refine gh_goto (tgt := 22) hK d_Lt_at_18 (by decide) ?_
    exact gh_zret (pk_charN hc).1 hK hE d_Lt_at_22 (Nat.le_refl _) (Nat.le_refl _) ⟨rfl, rfl⟩
set_option maxRecDepth 20000 in
set_option maxHeartbeats 4000000 in
theorem c_Lt_append (l : Launch) (G : GG) {g : GH} {a t b u cap : Nat} {xs : List Nat} {c : Nat} (h : Lt G g a t b u cap xs) (hc : c < 65536) : gMet l G y_Lt_append b_Lt_append 2 (some .boolean) (rmk 0 0 0 0) [.ref a, .int (nI c)] g (fun v g' => (xs.length < cap → v = some (.int 1) ∧ Lt G g' a t b u cap (xs ++ [c])) ∧ (¬ xs.length < cap → v = some (.int 0) ∧ g' = g) ∧ gh_N [a, b] g g') := by
  have hab := h.ne
  obtain ⟨f, ⟨h1, h2, h3, h4⟩, h5⟩ := h
  refine gMet.of [some (.ref a), some (.int (nI c))] (by decide +kernel) rfl (Nat.le_of_ble_eq_true rfl) rfl (fun X hK hI hE => ?_)
  refine gh_aload_n hK d_Lt_append_0 rfl ?_
  refine gh_get hK d_Lt_append_1 in_Lt rfl h1 1 (by decide) kf_Lt_19 rfl rfl ?_
  refine gh_aload_n hK d_Lt_append_4 rfl ?_
  refine gh_get hK d_Lt_append_5 in_Lt rfl h1 0 (by decide) kf_Lt_13 rfl rfl ?_
  refine gh_alen (v := nI cap) hK d_Lt_append_8 h2 (t0 := 0) rfl rfl ?_
  refine gh_icmp_ltN hK d_Lt_append_9 (tgt := 14) (by decide) (by omega) (by omega) (fun z => ?_) (fun z => ?_)
  · refine gh_aload_n hK d_Lt_append_14 rfl ?_
    refine gh_get hK d_Lt_append_15 in_Lt rfl h1 0 (by decide) kf_Lt_13 rfl rfl ?_
    refine gh_aload_n hK d_Lt_append_18 rfl ?_
    refine gh_get hK d_Lt_append_19 in_Lt rfl h1 1 (by decide) kf_Lt_19 rfl rfl ?_
    refine gh_iload_n hK d_Lt_append_22 rfl ?_
    refine gh_castN hK d_Lt_append_23 h2 (t0 := 0) rfl z (by omega) hc ?_
    have h1 : gh_up g b u (.inl (G.2.1 0, cap, .inl (upd f xs.length (nI c)))) a = some (t, .inr (3, [.ref b, .int (nI xs.length)])) := by rw [gh_un hab]; exact h1
    refine gh_aload_n hK d_Lt_append_24 rfl ?_
    refine gh_dup hK d_Lt_append_25 rfl ?_
    refine gh_get hK d_Lt_append_26 in_Lt rfl h1 1 (by decide) kf_Lt_19 rfl rfl ?_
    refine gh_iconst (v := nI 1) hK d_Lt_append_29 (by decide) ?_
    refine gh_addN hK d_Lt_append_30 ?_
    refine gh_put hK d_Lt_append_31 in_Lt t_Lt ty_Lt nm_Lt rfl h1 1 (by decide) kf_Lt_19 rfl rfl rfl rfl (Nat.le_of_ble_eq_true rfl) rfl ?_
    refine gh_iconst (v := nI 1) hK d_Lt_append_34 (by decide) ?_
    refine gh_zret rfl hK hE d_Lt_append_35 (Nat.le_refl _) (Nat.le_refl _) ⟨fun _ => ⟨rfl, upd f xs.length (nI c), ⟨?_, ?_, ?_, h4⟩, chs_app h5 hc⟩, fun q => absurd z q, gh_N.tr (gh_N.up (by simp)) (gh_N.up (by simp))⟩
    · rw [gh_us, List.length_append]; rfl
    · rw [gh_un (fun q => hab q.symm), gh_us]
    · rw [List.length_append]; exact z
  · refine gh_iconst (v := nI 0) hK d_Lt_append_12 (by decide) ?_
    exact gh_zret rfl hK hE d_Lt_append_13 (Nat.le_refl _) (Nat.le_refl _) ⟨fun q => absurd q (by omega), fun _ => ⟨rfl, rfl⟩, gh_N.rf⟩
set_option maxRecDepth 20000 in
set_option maxHeartbeats 4000000 in
theorem c_Lt_clear (l : Launch) (G : GG) {g : GH} {a t b u cap : Nat} {xs : List Nat} (h : Lt G g a t b u cap xs) : gMet l G y_Lt_clear b_Lt_clear 1 none (rmk 0 0 0 0) [.ref a] g (fun v g' => v = none ∧ Lt G g' a t b u cap [] ∧ gh_N [a] g g') := by
  have hab := h.ne
  obtain ⟨f, ⟨h1, h2, h3, h4⟩, h5⟩ := h
  refine gMet.of [some (.ref a)] (by decide +kernel) rfl (Nat.le_of_ble_eq_true rfl) rfl (fun X hK hI hE => ?_)
  refine gh_aload_n hK d_Lt_clear_0 rfl ?_
  refine gh_iconst (v := nI 0) hK d_Lt_clear_1 (by decide) ?_
  refine gh_put hK d_Lt_clear_2 in_Lt t_Lt ty_Lt nm_Lt rfl h1 1 (by decide) kf_Lt_19 rfl rfl rfl rfl (Nat.le_of_ble_eq_true rfl) rfl ?_
  exact gh_vret hK hE d_Lt_clear_5 (Nat.le_refl _) (Nat.le_refl _) ⟨rfl, ⟨f, ⟨by rw [gh_us]; rfl, by rw [gh_un (fun q => hab q.symm)]; exact h2, Nat.zero_le _, h4⟩, chs_nil⟩, gh_N.up (by simp)⟩
set_option maxRecDepth 20000 in
set_option maxHeartbeats 4000000 in
theorem c_Mt_max (l : Launch) (G : GG) {g : GH} {i j : Nat} (hi : i < 2 ^ 31) (hj : j < 2 ^ 31) : gMet l G y_Mt_max b_Mt_max 2 (some .int) (rmk 0 0 0 0) [.int (nI i), .int (nI j)] g (fun v g' => v = some (.int (nI (if j ≤ i then i else j))) ∧ g' = g) := by
  refine gMet.of [some (.int (nI i)), some (.int (nI j))] (by decide +kernel) rfl (Nat.le_of_ble_eq_true rfl) rfl (fun X hK hI hE => ?_)
  refine gh_iload_n hK d_Mt_max_0 rfl ?_
  refine gh_iload_n hK d_Mt_max_1 rfl ?_
  refine gh_icmp_ltN hK d_Mt_max_2 (tgt := 9) (by decide) hi hj (fun z => ?_) (fun z => ?_)
  · refine gh_iload_n hK d_Mt_max_9 rfl ?_
    exact gh_iret hK hE d_Mt_max_10 (Nat.le_refl _) (Nat.le_refl _) ⟨by first | rw [if_pos (by omega)] | rw [if_neg (by omega)], rfl⟩
  · refine gh_iload_n hK d_Mt_max_5 rfl ?_
    refine gh_goto (tgt := 10) hK d_Mt_max_6 (by decide) ?_
    exact gh_iret hK hE d_Mt_max_10 (Nat.le_refl _) (Nat.le_refl _) ⟨by first | rw [if_pos (by omega)] | rw [if_neg (by omega)], rfl⟩
set_option maxRecDepth 20000 in
set_option maxHeartbeats 4000000 in
theorem c_Lt_init (l : Launch) (G : GG) {g : GH} {a t cap : Nat} (u : Nat) (h : g a = some (t, .inr (3, [.null, .int 0]))) (hc : cap < 65536) : gMet l G y_Lt_init b_Lt_init 2 none (rmk 1 1 cap 21) [.ref a, .int (nI cap)] g (fun v g' => v = none ∧ ∃ b, g b = none ∧ Lt G g' a t b u cap [] ∧ gh_N [a] g g') := by
  refine gMet.of [some (.ref a), some (.int (nI cap))] (by decide +kernel) rfl (Nat.le_of_ble_eq_true rfl) rfl (fun X hK hI hE => ?_)
  refine gh_aload_n hK d_Lt_init_0 rfl ?_
  refine gh_objInit hK d_Lt_init_1 km_Lt_1 w_oi w_oc rfl (Nat.le_of_ble_eq_true rfl) (Nat.le_of_ble_eq_true rfl) ?_
  refine gh_aload_n hK d_Lt_init_4 rfl ?_
  refine gh_iload_n hK d_Lt_init_5 rfl ?_
  refine gh_iconst (v := nI 0) hK d_Lt_init_6 (by decide) ?_
  refine gh_callS (rest := [.ref a]) [.int (nI cap), .int (nI 0)] hK (c_Mt_max l G (g := g) (i := cap) (j := 0) (by omega) (by decide)) Y_Mt_max V_Mt_max km_Lt_7 rfl d_Lt_init_7 rfl rfl (Nat.le_of_ble_eq_true rfl) ⟨(Nat.le_of_ble_eq_true rfl), (Nat.le_of_ble_eq_true rfl)⟩ ⟨(Nat.le_of_ble_eq_true rfl), Nat.zero_le _⟩ (fun v g' hp => ?_)
  rw [hp.1, hp.2]
  show gh_W l G _ X g _ _ [some (.ref a), some (.int (nI cap))] 10 [.int (nI (if 0 ≤ cap then cap else 0)), .ref a]
  rw [if_pos (Nat.zero_le cap)]
  refine gh_newc (N := cap) (t0 := 0) u hK d_Lt_init_10 rfl w_ac rfl hc (Nat.le_of_ble_eq_true rfl) (by show 0 + 0 + cap ≤ cap; omega) (fun b hb => ?_)
  have hab : a ≠ b := fun z => by rw [z, hb] at h; cases h
  refine gh_putF hK (hI rfl) d_Lt_init_12 in_Lt t_Lt ty_Lt nm_Lt rfl (by rw [gh_un hab]; exact h) 0 (by decide) kf_Lt_13 rfl rfl rfl rfl (Nat.le_of_ble_eq_true rfl) rfl ?_
  refine gh_aload_n hK d_Lt_init_15 rfl ?_
  refine gh_iconst (v := nI 0) hK d_Lt_init_16 (by decide) ?_
  refine gh_put hK d_Lt_init_17 in_Lt t_Lt ty_Lt nm_Lt rfl gh_us 1 (by decide) kf_Lt_19 rfl rfl rfl rfl (Nat.le_of_ble_eq_true rfl) rfl ?_
  refine gh_vret hK hE d_Lt_init_20 (Nat.le_of_ble_eq_true rfl) (by show 0 + 0 + cap ≤ cap; omega) ⟨rfl, b, hb, ⟨fun _ => 0, ⟨by rw [gh_us]; rfl, by rw [gh_un (fun z => hab z.symm), gh_un (fun z => hab z.symm), gh_us], Nat.zero_le _, hc⟩, chs_nil⟩, ?_⟩
  exact gh_N.tr (gh_N.nw hb) (gh_N.tr (gh_N.up (by simp)) (gh_N.up (by simp)))
set_option maxRecDepth 20000 in
set_option maxHeartbeats 4000000 in
theorem c_Lt_appendAll (l : Launch) (G : GG) {g : GH} {a t b u cap : Nat} {xs : List Nat} {sa st sb su scap fr len : Nat} {ys : List Nat} (h : Lt G g a t b u cap xs) (hs : Lt G g sa st sb su scap ys) (hn1 : sa ∉ [a, b]) (hn2 : sb ∉ [a, b]) (hf : fr + len ≤ ys.length) (hc : xs.length + len ≤ cap) : gMet l G y_Lt_appendAll b_Lt_appendAll 5 none (rmk 1 0 0 21) [.ref a, .ref sa, .int (nI fr), .int (nI len)] g (fun v g' => v = none ∧ Lt G g' a t b u cap (xs ++ (ys.drop fr).take len) ∧ gh_N [a, b] g g') := by
  refine gMet.of [some (.ref a), some (.ref sa), some (.int (nI fr)), some (.int (nI len)), none] (by decide +kernel) rfl (Nat.le_of_ble_eq_true rfl) rfl (fun X hK hI hE => ?_)
  obtain ⟨hcap, hcap2⟩ := h.len
  obtain ⟨hsl, hsl2⟩ := hs.len
  have loop : ∀ (m i : Nat) (g1 : GH), i + m = len → Lt G g1 a t b u cap (xs ++ (ys.drop fr).take i) → gh_N [a, b] g g1 → gh_W l G (rmk 1 0 0 21) X g1 0 0 [some (.ref a), some (.ref sa), some (.int (nI fr)), some (.int (nI len)), some (.int (nI i))] 3 [] := by
    intro m
    induction m with
    | zero =>
      intro i g1 hi h1 hN
      obtain rfl : i = len := by omega
      refine gh_iload hK d_Lt_appendAll_3 rfl ?_
      refine gh_iload_n hK d_Lt_appendAll_5 rfl ?_
      refine gh_icmp_geN hK d_Lt_appendAll_6 (tgt := 28) (by decide) (by omega) (by omega) (fun z => ?_) (fun z => absurd z (by omega))
      exact gh_vret hK hE d_Lt_appendAll_28 (Nat.le_of_ble_eq_true rfl) (Nat.le_of_ble_eq_true rfl) ⟨rfl, h1, hN⟩
    | succ m ih =>
      intro i g1 hi h1 hN
      have hs1 := hs.N hN hn1 hn2
      have hl1 : (xs ++ (ys.drop fr).take i).length = xs.length + i := by rw [List.length_append, List.length_take, List.length_drop]; omega
      refine gh_iload hK d_Lt_appendAll_3 rfl ?_
      refine gh_iload_n hK d_Lt_appendAll_5 rfl ?_
      refine gh_icmp_geN hK d_Lt_appendAll_6 (tgt := 28) (by decide) (by omega) (by omega) (fun z => absurd z (by omega)) (fun z => ?_)
      refine gh_aload_n hK d_Lt_appendAll_9 rfl ?_
      refine gh_aload_n hK d_Lt_appendAll_10 rfl ?_
      refine gh_iload_n hK d_Lt_appendAll_11 rfl ?_
      refine gh_iload hK d_Lt_appendAll_12 rfl ?_
      refine gh_addN hK d_Lt_appendAll_14 ?_
      refine gh_callV (rest := [.ref a]) [.int (nI (fr + i))] hK (c_Lt_at l G hs1 (j := fr + i) (by omega)) Y_Lt_at V_Lt_at km_Lt_23 hs1.ob rfl rfl d_Lt_appendAll_15 rfl rfl (Nat.le_of_ble_eq_true rfl) ⟨(Nat.le_of_ble_eq_true rfl), (Nat.le_of_ble_eq_true rfl)⟩ ⟨(Nat.le_of_ble_eq_true rfl), (Nat.le_of_ble_eq_true rfl)⟩ (fun v g' hp => ?_)
      rw [hp.1, hp.2]
      show gh_W l G _ X g1 _ _ [some (.ref a), some (.ref sa), some (.int (nI fr)), some (.int (nI len)), some (.int (nI i))] 18 [.int (nI (ys.getD (fr + i) 0)), .ref a]
      have hch := hs1.getD (fr + i)
      refine gh_callV (rest := []) [.int (nI (ys.getD (fr + i) 0))] hK (c_Lt_append l G h1 hch) Y_Lt_append V_Lt_append km_Lt_27 h1.ob rfl rfl d_Lt_appendAll_18 rfl rfl (Nat.le_of_ble_eq_true rfl) ⟨(Nat.le_of_ble_eq_true rfl), (Nat.le_of_ble_eq_true rfl)⟩ ⟨(Nat.le_of_ble_eq_true rfl), (Nat.le_of_ble_eq_true rfl)⟩ (fun v g2 hp => ?_)
      obtain ⟨hp1, -, hpN⟩ := hp
      obtain ⟨rfl, hp2⟩ := hp1 (by omega)
      show gh_W l G _ X g2 _ _ [some (.ref a), some (.ref sa), some (.int (nI fr)), some (.int (nI len)), some (.int (nI i))] 21 [.int 1]
      refine gh_pop hK d_Lt_appendAll_21 rfl ?_
      refine gh_incN (lv' := [some (.ref a), some (.ref sa), some (.int (nI fr)), some (.int (nI len)), some (.int (nI (i + 1)))]) hK d_Lt_appendAll_22 rfl rfl ?_
      refine gh_goto (tgt := 3) hK d_Lt_appendAll_25 (by decide) ?_
      refine ih (i + 1) g2 (by omega) ?_ (hN.tr hpN)
      rw [slice_succ (by omega), ← List.append_assoc]
      exact hp2
  refine gh_iconst (v := nI 0) hK d_Lt_appendAll_0 (by decide) ?_
  refine gh_istore (lv' := [some (.ref a), some (.ref sa), some (.int (nI fr)), some (.int (nI len)), some (.int (nI 0))]) hK d_Lt_appendAll_1 (Nat.le_of_ble_eq_true rfl) rfl ?_
  exact loop len 0 g (by omega) (by rw [List.take_zero, List.append_nil]; exact h) gh_N.rf
set_option maxRecDepth 20000 in
set_option maxHeartbeats 4000000 in
theorem c_Lt_copy (l : Launch) (G : GG) {g : GH} {a t b u cap : Nat} {xs : List Nat} {fr len : Nat} (T U : Nat) (h : Lt G g a t b u cap xs) (hf : fr + len ≤ xs.length) : gMet l G y_Lt_copy b_Lt_copy 5 (some (.object "SpellDesk$Letters")) (rmk 2 2 (2 + len) 42) [.ref a, .int (nI fr), .int (nI len)] g (fun v g' => ∃ a1 b1, v = some (.ref a1) ∧ g a1 = none ∧ g b1 = none ∧ Lt G g' a1 T b1 U len ((xs.drop fr).take len) ∧ gh_N [] g g') := by
  refine gMet.of [some (.ref a), some (.int (nI fr)), some (.int (nI len)), none, none] (by decide +kernel) rfl (Nat.le_of_ble_eq_true rfl) rfl (fun X hK hI hE => ?_)
  obtain ⟨hcap, hcap2⟩ := h.len
  have loop : ∀ (a1 b1 m i : Nat) (g1 : GH), g a1 = none → g b1 = none → i + m = len → Lt G g1 a1 T b1 U len ((xs.drop fr).take i) → gh_N [] g g1 → gh_W l G (rmk 2 2 (2 + len) 42) X g1 2 (2 + len) [some (.ref a), some (.int (nI fr)), some (.int (nI len)), some (.ref a1), some (.int (nI i))] 12 [] := by
    intro a1 b1 m
    induction m with
    | zero =>
      intro i g1 ha1 hb1 hi h1 hN
      obtain rfl : i = len := by omega
      refine gh_iload hK d_Lt_copy_12 rfl ?_
      refine gh_iload_n hK d_Lt_copy_14 rfl ?_
      refine gh_icmp_geN hK d_Lt_copy_15 (tgt := 37) (by decide) (by omega) (by omega) (fun z => ?_) (fun z => absurd z (by omega))
      refine gh_aload_n hK d_Lt_copy_37 rfl ?_
      exact gh_aret (Or.inl ⟨_, rfl⟩) (Or.inr ⟨_, rfl⟩) hK hE d_Lt_copy_38 (Nat.le_refl _) (Nat.le_refl _) ⟨a1, b1, rfl, ha1, hb1, h1, hN⟩
    | succ m ih =>
      intro i g1 ha1 hb1 hi h1 hN
      have hs1 := h.N hN (by simp) (by simp)
      have hl1 : ((xs.drop fr).take i).length = i := by rw [List.length_take, List.length_drop]; omega
      refine gh_iload hK d_Lt_copy_12 rfl ?_
      refine gh_iload_n hK d_Lt_copy_14 rfl ?_
      refine gh_icmp_geN hK d_Lt_copy_15 (tgt := 37) (by decide) (by omega) (by omega) (fun z => absurd z (by omega)) (fun z => ?_)
      refine gh_aload_n hK d_Lt_copy_18 rfl ?_
      refine gh_aload_n hK d_Lt_copy_19 rfl ?_
      refine gh_iload_n hK d_Lt_copy_20 rfl ?_
      refine gh_iload hK d_Lt_copy_21 rfl ?_
      refine gh_addN hK d_Lt_copy_23 ?_
      refine gh_callV (rest := [.ref a1]) [.int (nI (fr + i))] hK (c_Lt_at l G hs1 (j := fr + i) (by omega)) Y_Lt_at V_Lt_at km_Lt_23 hs1.ob rfl rfl d_Lt_copy_24 rfl rfl (Nat.le_of_ble_eq_true rfl) ⟨(Nat.le_of_ble_eq_true rfl), (Nat.le_of_ble_eq_true rfl)⟩ ⟨Nat.le_refl _, Nat.le_refl _⟩ (fun v g' hp => ?_)
      rw [hp.1, hp.2]
      show gh_W l G _ X g1 2 (2 + len) [some (.ref a), some (.int (nI fr)), some (.int (nI len)), some (.ref a1), some (.int (nI i))] 27 [.int (nI (xs.getD (fr + i) 0)), .ref a1]
      have hch := hs1.getD (fr + i)
      refine gh_callV (rest := []) [.int (nI (xs.getD (fr + i) 0))] hK (c_Lt_append l G h1 hch) Y_Lt_append V_Lt_append km_Lt_27 h1.ob rfl rfl d_Lt_copy_27 rfl rfl (Nat.le_of_ble_eq_true rfl) ⟨(Nat.le_of_ble_eq_true rfl), (Nat.le_of_ble_eq_true rfl)⟩ ⟨Nat.le_refl _, Nat.le_refl _⟩ (fun v g2 hp => ?_)
      obtain ⟨hp1, -, hpN⟩ := hp
      obtain ⟨rfl, hp2⟩ := hp1 (by omega)
      show gh_W l G _ X g2 2 (2 + len) [some (.ref a), some (.int (nI fr)), some (.int (nI len)), some (.ref a1), some (.int (nI i))] 30 [.int 1]
      refine gh_pop hK d_Lt_copy_30 rfl ?_
      refine gh_incN (lv' := [some (.ref a), some (.int (nI fr)), some (.int (nI len)), some (.ref a1), some (.int (nI (i + 1)))]) hK d_Lt_copy_31 rfl rfl ?_
      refine gh_goto (tgt := 12) hK d_Lt_copy_34 (by decide) ?_
      refine ih (i + 1) g2 ha1 hb1 (by omega) ?_ (hN.fresh hpN ?_)
      · rw [slice_succ (by omega)]
        exact hp2
      · intro q hq
        rcases List.mem_cons.mp hq with rfl | hq
        · exact Or.inr ha1
        · rw [List.mem_singleton.mp hq]
          exact Or.inr hb1
  refine gh_new (ci := 3) (fs := [.null, .int 0]) T hK d_Lt_copy_0 in_Lt t_Lt ty_Lt rfl kc_Lt_14 wi_Lt wn_Lt df_Lt (Nat.le_of_ble_eq_true rfl) (by show 0 + 2 ≤ 2 + len; omega) (fun a1 ha1 => ?_)
  refine gh_dup hK d_Lt_copy_3 rfl ?_
  refine gh_iload_n hK d_Lt_copy_4 rfl ?_
  have haa : a ≠ a1 := fun z => by have := h.ob; rw [z, ha1] at this; cases this
  refine gh_callI (rest := [.ref a1]) [.int (nI len)] hK (c_Lt_init l G (t := T) (cap := len) U gh_us (by omega)) Y_Lt_init rfl V_Lt_init km_Lt_31 rfl d_Lt_copy_5 rfl rfl (Nat.le_of_ble_eq_true rfl) ⟨(Nat.le_of_ble_eq_true rfl), (Nat.le_of_ble_eq_true rfl)⟩ ⟨(Nat.le_of_ble_eq_true rfl), Nat.le_refl _⟩ (fun v g2 hp => ?_)
  obtain ⟨rfl, b1, hb1, hp1, hpN⟩ := hp
  show gh_W l G _ X g2 2 (2 + len) [some (.ref a), some (.int (nI fr)), some (.int (nI len)), none, none] 8 [.ref a1]
  have hb1' : g b1 = none := by
    by_cases e : b1 = a1
    · rw [e]; exact ha1
    · rw [gh_un e] at hb1; exact hb1
  refine gh_astore_n (lv' := [some (.ref a), some (.int (nI fr)), some (.int (nI len)), some (.ref a1), none]) hK d_Lt_copy_8 (Nat.le_of_ble_eq_true rfl) rfl ?_
  refine gh_iconst (v := nI 0) hK d_Lt_copy_9 (by decide) ?_
  refine gh_istore (lv' := [some (.ref a), some (.int (nI fr)), some (.int (nI len)), some (.ref a1), some (.int (nI 0))]) hK d_Lt_copy_10 (Nat.le_of_ble_eq_true rfl) rfl ?_
  exact loop a1 b1 len 0 g2 ha1 hb1' (by omega) (by rw [List.take_zero]; exact hp1) (gh_N.fresh (gh_N.nw ha1) hpN (fun q hq => by rw [List.mem_singleton.mp hq]; exact Or.inr ha1))
set_option maxRecDepth 20000 in
set_option maxHeartbeats 4000000 in
theorem c_Lt_compare (l : Launch) (G : GG) {g : GH} {a t b u cap : Nat} {xs : List Nat} {oa ot ob ou ocap fr len of ol : Nat} {ys : List Nat} (h : Lt G g a t b u cap xs) (ho : Lt G g oa ot ob ou ocap ys) (hf : fr + len ≤ xs.length) (hof : of + ol ≤ ys.length) : gMet l G y_Lt_compare b_Lt_compare 9 (some .int) (rmk 0 0 0 0) [.ref a, .int (nI fr), .int (nI len), .ref oa, .int (nI of), .int (nI ol)] g (fun v g' => ∃ r : Int32, v = some (.int r) ∧ r.toInt = cmpL ((xs.drop fr).take len) ((ys.drop of).take ol) ∧ g' = g) := by
  refine gMet.of [some (.ref a), some (.int (nI fr)), some (.int (nI len)), some (.ref oa), some (.int (nI of)), some (.int (nI ol)), none, none, none] (by decide +kernel) rfl (Nat.le_of_ble_eq_true rfl) rfl (fun X hK hI hE => ?_)
  obtain ⟨hcap, hcap2⟩ := h.len
  obtain ⟨hsl, hsl2⟩ := ho.len
  obtain ⟨f, ⟨h1, h2, h3, h4⟩, h5⟩ := h
  obtain ⟨f2, ⟨k1, k2, k3, k4⟩, k5⟩ := ho
  have hend : ∀ i, i ≤ len → i ≤ ol → (len ≤ i ∨ ol ≤ i) → cmpL ((xs.drop fr).take len) ((ys.drop of).take ol) = cmpL (((xs.drop fr).take len).drop i) (((ys.drop of).take ol).drop i) → (nI len - nI ol).toInt = cmpL ((xs.drop fr).take len) ((ys.drop of).take ol) := by
    intro i hi1 hi2 hor e
    rw [e, pk_sub_toInt (by omega) (by omega)]
    rcases hor with q | q
    · rw [List.drop_eq_nil_of_le (by rw [slice_len hf]; exact q), cmpL_nil_l, List.length_drop, slice_len hof]
      omega
    · rw [List.drop_eq_nil_of_le (as := (ys.drop of).take ol) (by rw [slice_len hof]; exact q), cmpL_nil_r, List.length_drop, slice_len hf]
      omega
  have loop : ∀ (m i : Nat) (o7 o8 : Option Value), i + m = len + ol → i ≤ len → i ≤ ol → cmpL ((xs.drop fr).take len) ((ys.drop of).take ol) = cmpL (((xs.drop fr).take len).drop i) (((ys.drop of).take ol).drop i) → gh_W l G (rmk 0 0 0 0) X g 0 0 [some (.ref a), some (.int (nI fr)), some (.int (nI len)), some (.ref oa), some (.int (nI of)), some (.int (nI ol)), some (.int (nI i)), o7, o8] 3 [] := by
    intro m
    induction m with
    | zero =>
      intro i o7 o8 hi hi1 hi2 e
      refine gh_iload hK d_Lt_compare_3 rfl ?_
      refine gh_iload_n hK d_Lt_compare_5 rfl ?_
      refine gh_icmp_geN hK d_Lt_compare_6 (tgt := 99) (by decide) (by omega) (by omega) (fun z => ?_) (fun z => absurd z (by omega))
      refine gh_iload_n hK d_Lt_compare_99 rfl ?_
      refine gh_iload hK d_Lt_compare_100 rfl ?_
      refine gh_isub hK d_Lt_compare_102 ?_
      exact gh_iret hK hE d_Lt_compare_103 (Nat.le_of_ble_eq_true rfl) (Nat.le_of_ble_eq_true rfl) ⟨_, rfl, hend i hi1 hi2 (Or.inl z) e, rfl⟩
    | succ m ih =>
      intro i o7 o8 hi hi1 hi2 e
      refine gh_iload hK d_Lt_compare_3 rfl ?_
      refine gh_iload_n hK d_Lt_compare_5 rfl ?_
      refine gh_icmp_geN hK d_Lt_compare_6 (tgt := 99) (by decide) (by omega) (by omega) (fun z => ?_) (fun z => ?_)
      · refine gh_iload_n hK d_Lt_compare_99 rfl ?_
        refine gh_iload hK d_Lt_compare_100 rfl ?_
        refine gh_isub hK d_Lt_compare_102 ?_
        exact gh_iret hK hE d_Lt_compare_103 (Nat.le_of_ble_eq_true rfl) (Nat.le_of_ble_eq_true rfl) ⟨_, rfl, hend i hi1 hi2 (Or.inl z) e, rfl⟩
      · refine gh_iload hK d_Lt_compare_9 rfl ?_
        refine gh_iload hK d_Lt_compare_11 rfl ?_
        refine gh_icmp_geN hK d_Lt_compare_13 (tgt := 99) (by decide) (by omega) (by omega) (fun z2 => ?_) (fun z2 => ?_)
        · refine gh_iload_n hK d_Lt_compare_99 rfl ?_
          refine gh_iload hK d_Lt_compare_100 rfl ?_
          refine gh_isub hK d_Lt_compare_102 ?_
          exact gh_iret hK hE d_Lt_compare_103 (Nat.le_of_ble_eq_true rfl) (Nat.le_of_ble_eq_true rfl) ⟨_, rfl, hend i hi1 hi2 (Or.inr z2) e, rfl⟩
        · refine gh_iload_n hK d_Lt_compare_16 rfl ?_
          refine gh_iload hK d_Lt_compare_17 rfl ?_
          refine gh_addN hK d_Lt_compare_19 ?_
          refine gh_istore (lv' := [some (.ref a), some (.int (nI fr)), some (.int (nI len)), some (.ref oa), some (.int (nI of)), some (.int (nI ol)), some (.int (nI i)), some (.int (nI (fr + i))), o8]) hK d_Lt_compare_20 (Nat.le_of_ble_eq_true rfl) rfl ?_
          refine gh_iload hK d_Lt_compare_22 rfl ?_
          refine gh_iload hK d_Lt_compare_24 rfl ?_
          refine gh_addN hK d_Lt_compare_26 ?_
          refine gh_istore (lv' := [some (.ref a), some (.int (nI fr)), some (.int (nI len)), some (.ref oa), some (.int (nI of)), some (.int (nI ol)), some (.int (nI i)), some (.int (nI (fr + i))), some (.int (nI (of + i)))]) hK d_Lt_compare_27 (Nat.le_of_ble_eq_true rfl) rfl ?_
          refine gh_iload hK d_Lt_compare_29 rfl ?_
          refine gh_if_ltN hK d_Lt_compare_31 (tgt := 99) (by decide) (by omega) ?_
          refine gh_iload hK d_Lt_compare_34 rfl ?_
          refine gh_aload_n hK d_Lt_compare_36 rfl ?_
          refine gh_get hK d_Lt_compare_37 in_Lt rfl h1 1 (by decide) kf_Lt_19 rfl rfl ?_
          refine gh_icmp_geN hK d_Lt_compare_40 (tgt := 99) (by decide) (by omega) (by omega) (fun z3 => absurd z3 (by omega)) (fun z3 => ?_)
          refine gh_iload hK d_Lt_compare_43 rfl ?_
          refine gh_if_ltN hK d_Lt_compare_45 (tgt := 99) (by decide) (by omega) ?_
          refine gh_iload hK d_Lt_compare_48 rfl ?_
          refine gh_aload_n hK d_Lt_compare_50 rfl ?_
          refine gh_get hK d_Lt_compare_51 in_Lt rfl k1 1 (by decide) kf_Lt_19 rfl rfl ?_
          refine gh_icmp_ltN hK d_Lt_compare_54 (tgt := 60) (by decide) (by omega) (by omega) (fun z4 => ?_) (fun z4 => absurd z4 (by omega))
          have ex := h5 (fr + i) _ (getD_some (by omega))
          have ey := k5 (of + i) _ (getD_some (by omega))
          refine gh_aload_n hK d_Lt_compare_60 rfl ?_
          refine gh_get hK d_Lt_compare_61 in_Lt rfl h1 0 (by decide) kf_Lt_13 rfl rfl ?_
          refine gh_iload hK d_Lt_compare_64 rfl ?_
          refine gh_caldN (j := fr + i) hK d_Lt_compare_66 h2 (t0 := 0) rfl (by omega) (by omega) ?_
          rw [ex.1]
          refine gh_aload_n hK d_Lt_compare_67 rfl ?_
          refine gh_get hK d_Lt_compare_68 in_Lt rfl k1 0 (by decide) kf_Lt_13 rfl rfl ?_
          refine gh_iload hK d_Lt_compare_71 rfl ?_
          refine gh_caldN (j := of + i) hK d_Lt_compare_73 k2 (t0 := 0) rfl (by omega) (by omega) ?_
          rw [ey.1]
          have hx16 := ex.2
          have hy16 := ey.2
          refine gh_icmp_eqN hK d_Lt_compare_74 (tgt := 93) (by decide) (by omega) (by omega) (fun z5 => ?_) (fun z5 => ?_)
          · refine gh_incN (lv' := [some (.ref a), some (.int (nI fr)), some (.int (nI len)), some (.ref oa), some (.int (nI of)), some (.int (nI ol)), some (.int (nI (i + 1))), some (.int (nI (fr + i))), some (.int (nI (of + i)))]) hK d_Lt_compare_93 rfl rfl ?_
            refine gh_goto (tgt := 3) hK d_Lt_compare_96 (by decide) ?_
            refine ih (i + 1) _ _ (by omega) (by omega) (by omega) ?_
            rw [e, slice_drop hf (by omega), slice_drop hof (by omega), cmpL_cons, if_pos z5]
          · refine gh_aload_n hK d_Lt_compare_77 rfl ?_
            refine gh_get hK d_Lt_compare_78 in_Lt rfl h1 0 (by decide) kf_Lt_13 rfl rfl ?_
            refine gh_iload hK d_Lt_compare_81 rfl ?_
            refine gh_caldN (j := fr + i) hK d_Lt_compare_83 h2 (t0 := 0) rfl (by omega) (by omega) ?_
            rw [ex.1]
            refine gh_aload_n hK d_Lt_compare_84 rfl ?_
            refine gh_get hK d_Lt_compare_85 in_Lt rfl k1 0 (by decide) kf_Lt_13 rfl rfl ?_
            refine gh_iload hK d_Lt_compare_88 rfl ?_
            refine gh_caldN (j := of + i) hK d_Lt_compare_90 k2 (t0 := 0) rfl (by omega) (by omega) ?_
            rw [ey.1]
            refine gh_isub hK d_Lt_compare_91 ?_
            refine gh_iret hK hE d_Lt_compare_92 (Nat.le_of_ble_eq_true rfl) (Nat.le_of_ble_eq_true rfl) ⟨_, rfl, ?_, rfl⟩
            rw [e, slice_drop hf (by omega), slice_drop hof (by omega), cmpL_cons, if_neg z5, pk_sub_toInt (by omega) (by omega)]
  refine gh_iconst (v := nI 0) hK d_Lt_compare_0 (by decide) ?_
  refine gh_istore (lv' := [some (.ref a), some (.int (nI fr)), some (.int (nI len)), some (.ref oa), some (.int (nI of)), some (.int (nI ol)), some (.int (nI 0)), none, none]) hK d_Lt_compare_1 (Nat.le_of_ble_eq_true rfl) rfl ?_
  exact loop (len + ol) 0 none none (by omega) (Nat.zero_le _) (Nat.zero_le _) rfl
