/-! the characters that are typed -/
def bt (x : Int32) (s : Nat) : Nat := x.toUInt32.toNat >>> s % 256
def chs4 (x : Int32) : List Nat := (bt x 24 :: bt x 16 :: bt x 8 :: [bt x 0]).filter (fun c => decide (0 < c))
theorem bt_lt (x : Int32) (s : Nat) : bt x s < 256 := Nat.mod_lt _ (by decide)
theorem bt_and (u : UInt32) (s : Nat) : u.toInt32 &&& nI 255 = nI (u.toNat % 256) := by
  apply Int32.toBitVec_inj.mp
  apply BitVec.eq_of_toNat_eq
  have h1 : (nI 255).toBitVec.toNat = 255 := by decide
  have h2 : (nI (u.toNat % 256)).toBitVec.toNat = u.toNat % 256 := by
    show (Int32.ofNat (u.toNat % 256)).toBitVec.toNat = _
    rw [Int32.toBitVec_ofNat', BitVec.toNat_ofNat]
    omega
  rw [Int32.toBitVec_and, BitVec.toNat_and, h1, h2]
  exact Nat.and_two_pow_sub_one_eq_mod u.toNat 8
theorem bt_ushr (x : Int32) (s : Nat) (hs : s < 32) : (x.toUInt32 >>> ((nI s).toUInt32 &&& Int32.toUInt32 31)).toInt32 &&& nI 255 = nI (bt x s) := by
  have e : ((nI s).toUInt32 &&& Int32.toUInt32 31).toNat = s := by
    have : (nI s).toUInt32.toNat = s := by
      show (Int32.ofNat s).toBitVec.toNat = s
      rw [Int32.toBitVec_ofNat', BitVec.toNat_ofNat]
      omega
    rw [UInt32.toNat_and, this]
    exact (Nat.and_two_pow_sub_one_eq_mod s 5).trans (Nat.mod_eq_of_lt hs)
  rw [bt_and _ 0, UInt32.toNat_shiftRight, e, Nat.mod_eq_of_lt hs]
  rfl
set_option maxRecDepth 20000 in
set_option maxHeartbeats 4000000 in
theorem c_SD_countCharacters (l : Launch) (G : GG) {g : GH} {x : Int32}  : gMet l G y_SD_countCharacters b_SD_countCharacters 3 (some .int) (rmk 0 0 0 0) [.int x] g (fun v g' => v = some (.int (nI (chs4 x).length)) ∧ g' = g) := by
  refine gMet.of [some (.int x), none, none] (by decide +kernel) rfl (Nat.le_of_ble_eq_true rfl) rfl (fun X hK hI hE => ?_)
  have r4 : ∀ c : Nat, c + ((([]).filter (fun c => decide (0 < c)) : List Nat)).length = (chs4 x).length → gh_W l G (rmk 0 0 0 0) X g 0 0 [some (.int x), some (.int (nI c)), some (.int (-8))] 5 [] := by
    intro c hc
    refine gh_iload_n hK d_SD_countCharacters_5 rfl ?_
    refine gh_if_lt hK d_SD_countCharacters_6 (tgt := 28) (by decide) (fun z => ?_) (fun z => absurd (by decide) z)
    refine gh_iload_n hK d_SD_countCharacters_28 rfl ?_
    rw [List.filter_nil, List.length_nil, Nat.add_zero] at hc
    subst hc
    exact gh_iret hK hE d_SD_countCharacters_29 (Nat.le_of_ble_eq_true rfl) (Nat.le_of_ble_eq_true rfl) ⟨rfl, rfl⟩
  have r3 : ∀ c : Nat, c + (((bt x 0::[]).filter (fun c => decide (0 < c)) : List Nat)).length = (chs4 x).length → gh_W l G (rmk 0 0 0 0) X g 0 0 [some (.int x), some (.int (nI c)), some (.int (nI 0))] 5 [] := by
    intro c hc
    refine gh_iload_n hK d_SD_countCharacters_5 rfl ?_
    refine gh_if_ltN hK d_SD_countCharacters_6 (tgt := 28) (by decide) (by decide) ?_
    refine gh_iload_n hK d_SD_countCharacters_9 rfl ?_
    refine gh_iload_n hK d_SD_countCharacters_10 rfl ?_
    refine gh_iushr hK d_SD_countCharacters_11 rfl ?_
    refine gh_sipush (v := nI 255) hK d_SD_countCharacters_12 (by decide) ?_
    refine gh_iand hK d_SD_countCharacters_15 ?_
    rw [bt_ushr x 0 (by decide)]
    have hb := bt_lt x 0
    refine gh_if_eqN hK d_SD_countCharacters_16 (tgt := 22) (by decide) (by omega) (fun z => ?_) (fun z => ?_)
    · rw [List.filter_cons_of_neg (by simp [z])] at hc
      refine gh_iinc (v := (-8)) (lv' := [some (.int x), some (.int (nI c)), some (.int (-8))]) hK d_SD_countCharacters_22 rfl (by decide) rfl ?_
      refine gh_goto (tgt := 5) hK d_SD_countCharacters_25 (by decide) ?_
      exact r4 _ (by omega)
    · rw [List.filter_cons_of_pos (by simp [z]), List.length_cons] at hc
      refine gh_incN (lv' := [some (.int x), some (.int (nI (c + 1))), some (.int (nI 0))]) hK d_SD_countCharacters_19 rfl rfl ?_
      refine gh_iinc (v := (-8)) (lv' := [some (.int x), some (.int (nI (c + 1))), some (.int (-8))]) hK d_SD_countCharacters_22 rfl (by decide) rfl ?_
      refine gh_goto (tgt := 5) hK d_SD_countCharacters_25 (by decide) ?_
      exact r4 _ (by omega)
  have r2 : ∀ c : Nat, c + (((bt x 8::bt x 0::[]).filter (fun c => decide (0 < c)) : List Nat)).length = (chs4 x).length → gh_W l G (rmk 0 0 0 0) X g 0 0 [some (.int x), some (.int (nI c)), some (.int (nI 8))] 5 [] := by
    intro c hc
    refine gh_iload_n hK d_SD_countCharacters_5 rfl ?_
    refine gh_if_ltN hK d_SD_countCharacters_6 (tgt := 28) (by decide) (by decide) ?_
    refine gh_iload_n hK d_SD_countCharacters_9 rfl ?_
    refine gh_iload_n hK d_SD_countCharacters_10 rfl ?_
    refine gh_iushr hK d_SD_countCharacters_11 rfl ?_
    refine gh_sipush (v := nI 255) hK d_SD_countCharacters_12 (by decide) ?_
    refine gh_iand hK d_SD_countCharacters_15 ?_
    rw [bt_ushr x 8 (by decide)]
    have hb := bt_lt x 8
    refine gh_if_eqN hK d_SD_countCharacters_16 (tgt := 22) (by decide) (by omega) (fun z => ?_) (fun z => ?_)
    · rw [List.filter_cons_of_neg (by simp [z])] at hc
      refine gh_iinc (v := (nI 0)) (lv' := [some (.int x), some (.int (nI c)), some (.int (nI 0))]) hK d_SD_countCharacters_22 rfl (by decide) rfl ?_
      refine gh_goto (tgt := 5) hK d_SD_countCharacters_25 (by decide) ?_
      exact r3 _ (by omega)
    · rw [List.filter_cons_of_pos (by simp [z]), List.length_cons] at hc
      refine gh_incN (lv' := [some (.int x), some (.int (nI (c + 1))), some (.int (nI 8))]) hK d_SD_countCharacters_19 rfl rfl ?_
      refine gh_iinc (v := (nI 0)) (lv' := [some (.int x), some (.int (nI (c + 1))), some (.int (nI 0))]) hK d_SD_countCharacters_22 rfl (by decide) rfl ?_
      refine gh_goto (tgt := 5) hK d_SD_countCharacters_25 (by decide) ?_
      exact r3 _ (by omega)
  have r1 : ∀ c : Nat, c + (((bt x 16::bt x 8::bt x 0::[]).filter (fun c => decide (0 < c)) : List Nat)).length = (chs4 x).length → gh_W l G (rmk 0 0 0 0) X g 0 0 [some (.int x), some (.int (nI c)), some (.int (nI 16))] 5 [] := by
    intro c hc
    refine gh_iload_n hK d_SD_countCharacters_5 rfl ?_
    refine gh_if_ltN hK d_SD_countCharacters_6 (tgt := 28) (by decide) (by decide) ?_
    refine gh_iload_n hK d_SD_countCharacters_9 rfl ?_
    refine gh_iload_n hK d_SD_countCharacters_10 rfl ?_
    refine gh_iushr hK d_SD_countCharacters_11 rfl ?_
    refine gh_sipush (v := nI 255) hK d_SD_countCharacters_12 (by decide) ?_
    refine gh_iand hK d_SD_countCharacters_15 ?_
    rw [bt_ushr x 16 (by decide)]
    have hb := bt_lt x 16
    refine gh_if_eqN hK d_SD_countCharacters_16 (tgt := 22) (by decide) (by omega) (fun z => ?_) (fun z => ?_)
    · rw [List.filter_cons_of_neg (by simp [z])] at hc
      refine gh_iinc (v := (nI 8)) (lv' := [some (.int x), some (.int (nI c)), some (.int (nI 8))]) hK d_SD_countCharacters_22 rfl (by decide) rfl ?_
      refine gh_goto (tgt := 5) hK d_SD_countCharacters_25 (by decide) ?_
      exact r2 _ (by omega)
    · rw [List.filter_cons_of_pos (by simp [z]), List.length_cons] at hc
      refine gh_incN (lv' := [some (.int x), some (.int (nI (c + 1))), some (.int (nI 16))]) hK d_SD_countCharacters_19 rfl rfl ?_
      refine gh_iinc (v := (nI 8)) (lv' := [some (.int x), some (.int (nI (c + 1))), some (.int (nI 8))]) hK d_SD_countCharacters_22 rfl (by decide) rfl ?_
      refine gh_goto (tgt := 5) hK d_SD_countCharacters_25 (by decide) ?_
      exact r2 _ (by omega)
  have r0 : ∀ c : Nat, c + (((bt x 24::bt x 16::bt x 8::bt x 0::[]).filter (fun c => decide (0 < c)) : List Nat)).length = (chs4 x).length → gh_W l G (rmk 0 0 0 0) X g 0 0 [some (.int x), some (.int (nI c)), some (.int (nI 24))] 5 [] := by
    intro c hc
    refine gh_iload_n hK d_SD_countCharacters_5 rfl ?_
    refine gh_if_ltN hK d_SD_countCharacters_6 (tgt := 28) (by decide) (by decide) ?_
    refine gh_iload_n hK d_SD_countCharacters_9 rfl ?_
    refine gh_iload_n hK d_SD_countCharacters_10 rfl ?_
    refine gh_iushr hK d_SD_countCharacters_11 rfl ?_
    refine gh_sipush (v := nI 255) hK d_SD_countCharacters_12 (by decide) ?_
    refine gh_iand hK d_SD_countCharacters_15 ?_
    rw [bt_ushr x 24 (by decide)]
    have hb := bt_lt x 24
    refine gh_if_eqN hK d_SD_countCharacters_16 (tgt := 22) (by decide) (by omega) (fun z => ?_) (fun z => ?_)
    · rw [List.filter_cons_of_neg (by simp [z])] at hc
      refine gh_iinc (v := (nI 16)) (lv' := [some (.int x), some (.int (nI c)), some (.int (nI 16))]) hK d_SD_countCharacters_22 rfl (by decide) rfl ?_
      refine gh_goto (tgt := 5) hK d_SD_countCharacters_25 (by decide) ?_
      exact r1 _ (by omega)
    · rw [List.filter_cons_of_pos (by simp [z]), List.length_cons] at hc
      refine gh_incN (lv' := [some (.int x), some (.int (nI (c + 1))), some (.int (nI 24))]) hK d_SD_countCharacters_19 rfl rfl ?_
      refine gh_iinc (v := (nI 16)) (lv' := [some (.int x), some (.int (nI (c + 1))), some (.int (nI 16))]) hK d_SD_countCharacters_22 rfl (by decide) rfl ?_
      refine gh_goto (tgt := 5) hK d_SD_countCharacters_25 (by decide) ?_
      exact r1 _ (by omega)
  refine gh_iconst (v := nI 0) hK d_SD_countCharacters_0 (by decide) ?_
  refine gh_istore_n (lv' := [some (.int x), some (.int (nI 0)), none]) hK d_SD_countCharacters_1 (Nat.le_of_ble_eq_true rfl) rfl ?_
  refine gh_bipush (v := nI 24) hK d_SD_countCharacters_2 (by decide) ?_
  refine gh_istore_n (lv' := [some (.int x), some (.int (nI 0)), some (.int (nI 24))]) hK d_SD_countCharacters_4 (Nat.le_of_ble_eq_true rfl) rfl ?_
  exact r0 0 (Nat.zero_add _)
set_option maxRecDepth 20000 in
set_option maxHeartbeats 4000000 in
theorem c_SD_appendCharacters (l : Launch) (G : GG) {g : GH} {A : Nat → Nat} {es : List (Nat × List Nat × Nat)} {us1 us2 : List (Nat × RuR)} {tx : List Nat} {x : Int32} (h : SDr G g A es us1 us2 tx) (hx : tx.length + (chs4 x).length ≤ 2048) : gMet l G y_SD_appendCharacters b_SD_appendCharacters 4 none (rmk 1 0 0 21) [.ref (A 0), .int x] g (fun v g' => v = none ∧ SDr G g' A es us1 us2 (tx ++ chs4 x) ∧ gh_M [1, 2] g g') := by
  refine gMet.of [some (.ref (A 0)), some (.int x), none, none] (by decide +kernel) rfl (Nat.le_of_ble_eq_true rfl) rfl (fun X hK hI hE => ?_)
  have r4 : ∀ (g1 : GH) (t1 : List Nat) (v3 : Option Value), SDr G g1 A es us1 us2 t1 → gh_M [1, 2] g g1 → t1 ++ ((([]).filter (fun c => decide (0 < c)) : List Nat)) = tx ++ chs4 x → gh_W l G (rmk 1 0 0 21) X g1 0 0 [some (.ref (A 0)), some (.int x), some (.int (-8)), v3] 3 [] := by
    intro g1 t1 v3 h1 m1 hc
    refine gh_iload_n hK d_SD_appendCharacters_3 rfl ?_
    refine gh_if_lt hK d_SD_appendCharacters_4 (tgt := 35) (by decide) (fun z => ?_) (fun z => absurd (by decide) z)
    rw [List.filter_nil, List.append_nil] at hc
    subst hc
    exact gh_vret hK hE d_SD_appendCharacters_35 (Nat.le_of_ble_eq_true rfl) (Nat.le_of_ble_eq_true rfl) ⟨rfl, h1, m1⟩
  have r3 : ∀ (g1 : GH) (t1 : List Nat) (v3 : Option Value), SDr G g1 A es us1 us2 t1 → gh_M [1, 2] g g1 → t1 ++ (((bt x 0::[]).filter (fun c => decide (0 < c)) : List Nat)) = tx ++ chs4 x → gh_W l G (rmk 1 0 0 21) X g1 0 0 [some (.ref (A 0)), some (.int x), some (.int (nI 0)), v3] 3 [] := by
    intro g1 t1 v3 h1 m1 hc
    refine gh_iload_n hK d_SD_appendCharacters_3 rfl ?_
    refine gh_if_ltN hK d_SD_appendCharacters_4 (tgt := 35) (by decide) (by decide) ?_
    refine gh_iload_n hK d_SD_appendCharacters_7 rfl ?_
    refine gh_iload_n hK d_SD_appendCharacters_8 rfl ?_
    refine gh_iushr hK d_SD_appendCharacters_9 rfl ?_
    refine gh_sipush (v := nI 255) hK d_SD_appendCharacters_10 (by decide) ?_
    refine gh_iand hK d_SD_appendCharacters_13 ?_
    rw [bt_ushr x 0 (by decide)]
    have hb := bt_lt x 0
    refine gh_istore_n (lv' := [some (.ref (A 0)), some (.int x), some (.int (nI 0)), some (.int (nI (bt x 0)))]) hK d_SD_appendCharacters_14 (Nat.le_of_ble_eq_true rfl) rfl ?_
    refine gh_iload_n hK d_SD_appendCharacters_15 rfl ?_
    refine gh_if_eqN hK d_SD_appendCharacters_16 (tgt := 29) (by decide) (by omega) (fun z => ?_) (fun z => ?_)
    · rw [List.filter_cons_of_neg (by simp [z])] at hc
      refine gh_iinc (v := (-8)) (lv' := [some (.ref (A 0)), some (.int x), some (.int (-8)), some (.int (nI (bt x 0)))]) hK d_SD_appendCharacters_29 rfl (by decide) rfl ?_
      refine gh_goto (tgt := 3) hK d_SD_appendCharacters_32 (by decide) ?_
      exact r4 _ _ _ h1 m1 hc
    · rw [List.filter_cons_of_pos (by simp [z])] at hc
      have hln := congrArg List.length hc
      rw [List.length_append, List.length_append, List.length_cons] at hln
      refine gh_aload_n hK d_SD_appendCharacters_19 rfl ?_
      refine gh_get hK d_SD_appendCharacters_20 in_SD rfl h1.1.1 0 (by decide) kf_SD_14 rfl rfl ?_
      refine gh_iload_n hK d_SD_appendCharacters_23 rfl ?_
      refine gh_i2c (v := nI (bt x 0)) hK d_SD_appendCharacters_24 (by rw [pk_char, pk_tn (by omega)]; congr 1; omega) ?_
      refine gh_callV (rest := []) [.int (nI (bt x 0))] hK (c_Lt_append l G h1.2.1.2.2.2 (c := bt x 0) (by omega)) Y_Lt_append V_Lt_append km_SD_113 h1.2.1.2.2.2.ob rfl rfl d_SD_appendCharacters_25 rfl rfl (Nat.le_of_ble_eq_true rfl) ⟨(Nat.le_of_ble_eq_true rfl), (Nat.le_of_ble_eq_true rfl)⟩ ⟨(Nat.le_of_ble_eq_true rfl), (Nat.le_of_ble_eq_true rfl)⟩ (fun v g2 hp => ?_)
      obtain ⟨hp1, -, hp2⟩ := hp
      obtain ⟨rfl, hp3⟩ := hp1 (by omega)
      show gh_W l G _ X g2 _ _ [some (.ref (A 0)), some (.int x), some (.int (nI 0)), some (.int (nI (bt x 0)))] 28 [.int 1]
      have m2 : gh_M [1, 2] g1 g2 := gh_N.M hp2 (fun q hq => by rcases List.mem_cons.mp hq with e | hq; (subst e; exact ⟨1, _, h1.2.1.2.2.2.ob, by decide⟩); (rw [List.mem_singleton] at hq; subst hq; obtain ⟨f, ⟨_, k2, _⟩, _⟩ := h1.2.1.2.2.2; exact ⟨2, _, k2, by decide⟩))
      refine gh_pop hK d_SD_appendCharacters_28 rfl ?_
      refine gh_iinc (v := (-8)) (lv' := [some (.ref (A 0)), some (.int x), some (.int (-8)), some (.int (nI (bt x 0)))]) hK d_SD_appendCharacters_29 rfl (by decide) rfl ?_
      refine gh_goto (tgt := 3) hK d_SD_appendCharacters_32 (by decide) ?_
      exact r4 g2 (t1 ++ [bt x 0]) _ (h1.tx m2 (by decide) hp3) (m1.tr m2) (by rw [List.append_assoc]; exact hc)
  have r2 : ∀ (g1 : GH) (t1 : List Nat) (v3 : Option Value), SDr G g1 A es us1 us2 t1 → gh_M [1, 2] g g1 → t1 ++ (((bt x 8::bt x 0::[]).filter (fun c => decide (0 < c)) : List Nat)) = tx ++ chs4 x → gh_W l G (rmk 1 0 0 21) X g1 0 0 [some (.ref (A 0)), some (.int x), some (.int (nI 8)), v3] 3 [] := by
    intro g1 t1 v3 h1 m1 hc
    refine gh_iload_n hK d_SD_appendCharacters_3 rfl ?_
    refine gh_if_ltN hK d_SD_appendCharacters_4 (tgt := 35) (by decide) (by decide) ?_
    refine gh_iload_n hK d_SD_appendCharacters_7 rfl ?_
    refine gh_iload_n hK d_SD_appendCharacters_8 rfl ?_
    refine gh_iushr hK d_SD_appendCharacters_9 rfl ?_
    refine gh_sipush (v := nI 255) hK d_SD_appendCharacters_10 (by decide) ?_
    refine gh_iand hK d_SD_appendCharacters_13 ?_
    rw [bt_ushr x 8 (by decide)]
    have hb := bt_lt x 8
    refine gh_istore_n (lv' := [some (.ref (A 0)), some (.int x), some (.int (nI 8)), some (.int (nI (bt x 8)))]) hK d_SD_appendCharacters_14 (Nat.le_of_ble_eq_true rfl) rfl ?_
    refine gh_iload_n hK d_SD_appendCharacters_15 rfl ?_
    refine gh_if_eqN hK d_SD_appendCharacters_16 (tgt := 29) (by decide) (by omega) (fun z => ?_) (fun z => ?_)
    · rw [List.filter_cons_of_neg (by simp [z])] at hc
      refine gh_iinc (v := (nI 0)) (lv' := [some (.ref (A 0)), some (.int x), some (.int (nI 0)), some (.int (nI (bt x 8)))]) hK d_SD_appendCharacters_29 rfl (by decide) rfl ?_
      refine gh_goto (tgt := 3) hK d_SD_appendCharacters_32 (by decide) ?_
      exact r3 _ _ _ h1 m1 hc
    · rw [List.filter_cons_of_pos (by simp [z])] at hc
      have hln := congrArg List.length hc
      rw [List.length_append, List.length_append, List.length_cons] at hln
      refine gh_aload_n hK d_SD_appendCharacters_19 rfl ?_
      refine gh_get hK d_SD_appendCharacters_20 in_SD rfl h1.1.1 0 (by decide) kf_SD_14 rfl rfl ?_
      refine gh_iload_n hK d_SD_appendCharacters_23 rfl ?_
      refine gh_i2c (v := nI (bt x 8)) hK d_SD_appendCharacters_24 (by rw [pk_char, pk_tn (by omega)]; congr 1; omega) ?_
      refine gh_callV (rest := []) [.int (nI (bt x 8))] hK (c_Lt_append l G h1.2.1.2.2.2 (c := bt x 8) (by omega)) Y_Lt_append V_Lt_append km_SD_113 h1.2.1.2.2.2.ob rfl rfl d_SD_appendCharacters_25 rfl rfl (Nat.le_of_ble_eq_true rfl) ⟨(Nat.le_of_ble_eq_true rfl), (Nat.le_of_ble_eq_true rfl)⟩ ⟨(Nat.le_of_ble_eq_true rfl), (Nat.le_of_ble_eq_true rfl)⟩ (fun v g2 hp => ?_)
      obtain ⟨hp1, -, hp2⟩ := hp
      obtain ⟨rfl, hp3⟩ := hp1 (by omega)
      show gh_W l G _ X g2 _ _ [some (.ref (A 0)), some (.int x), some (.int (nI 8)), some (.int (nI (bt x 8)))] 28 [.int 1]
      have m2 : gh_M [1, 2] g1 g2 := gh_N.M hp2 (fun q hq => by rcases List.mem_cons.mp hq with e | hq; (subst e; exact ⟨1, _, h1.2.1.2.2.2.ob, by decide⟩); (rw [List.mem_singleton] at hq; subst hq; obtain ⟨f, ⟨_, k2, _⟩, _⟩ := h1.2.1.2.2.2; exact ⟨2, _, k2, by decide⟩))
      refine gh_pop hK d_SD_appendCharacters_28 rfl ?_
      refine gh_iinc (v := (nI 0)) (lv' := [some (.ref (A 0)), some (.int x), some (.int (nI 0)), some (.int (nI (bt x 8)))]) hK d_SD_appendCharacters_29 rfl (by decide) rfl ?_
      refine gh_goto (tgt := 3) hK d_SD_appendCharacters_32 (by decide) ?_
      exact r3 g2 (t1 ++ [bt x 8]) _ (h1.tx m2 (by decide) hp3) (m1.tr m2) (by rw [List.append_assoc]; exact hc)
  have r1 : ∀ (g1 : GH) (t1 : List Nat) (v3 : Option Value), SDr G g1 A es us1 us2 t1 → gh_M [1, 2] g g1 → t1 ++ (((bt x 16::bt x 8::bt x 0::[]).filter (fun c => decide (0 < c)) : List Nat)) = tx ++ chs4 x → gh_W l G (rmk 1 0 0 21) X g1 0 0 [some (.ref (A 0)), some (.int x), some (.int (nI 16)), v3] 3 [] := by
    intro g1 t1 v3 h1 m1 hc
    refine gh_iload_n hK d_SD_appendCharacters_3 rfl ?_
    refine gh_if_ltN hK d_SD_appendCharacters_4 (tgt := 35) (by decide) (by decide) ?_
    refine gh_iload_n hK d_SD_appendCharacters_7 rfl ?_
    refine gh_iload_n hK d_SD_appendCharacters_8 rfl ?_
    refine gh_iushr hK d_SD_appendCharacters_9 rfl ?_
    refine gh_sipush (v := nI 255) hK d_SD_appendCharacters_10 (by decide) ?_
    refine gh_iand hK d_SD_appendCharacters_13 ?_
    rw [bt_ushr x 16 (by decide)]
    have hb := bt_lt x 16
    refine gh_istore_n (lv' := [some (.ref (A 0)), some (.int x), some (.int (nI 16)), some (.int (nI (bt x 16)))]) hK d_SD_appendCharacters_14 (Nat.le_of_ble_eq_true rfl) rfl ?_
    refine gh_iload_n hK d_SD_appendCharacters_15 rfl ?_
    refine gh_if_eqN hK d_SD_appendCharacters_16 (tgt := 29) (by decide) (by omega) (fun z => ?_) (fun z => ?_)
    · rw [List.filter_cons_of_neg (by simp [z])] at hc
      refine gh_iinc (v := (nI 8)) (lv' := [some (.ref (A 0)), some (.int x), some (.int (nI 8)), some (.int (nI (bt x 16)))]) hK d_SD_appendCharacters_29 rfl (by decide) rfl ?_
      refine gh_goto (tgt := 3) hK d_SD_appendCharacters_32 (by decide) ?_
      exact r2 _ _ _ h1 m1 hc
    · rw [List.filter_cons_of_pos (by simp [z])] at hc
      have hln := congrArg List.length hc
      rw [List.length_append, List.length_append, List.length_cons] at hln
      refine gh_aload_n hK d_SD_appendCharacters_19 rfl ?_
      refine gh_get hK d_SD_appendCharacters_20 in_SD rfl h1.1.1 0 (by decide) kf_SD_14 rfl rfl ?_
      refine gh_iload_n hK d_SD_appendCharacters_23 rfl ?_
      refine gh_i2c (v := nI (bt x 16)) hK d_SD_appendCharacters_24 (by rw [pk_char, pk_tn (by omega)]; congr 1; omega) ?_
      refine gh_callV (rest := []) [.int (nI (bt x 16))] hK (c_Lt_append l G h1.2.1.2.2.2 (c := bt x 16) (by omega)) Y_Lt_append V_Lt_append km_SD_113 h1.2.1.2.2.2.ob rfl rfl d_SD_appendCharacters_25 rfl rfl (Nat.le_of_ble_eq_true rfl) ⟨(Nat.le_of_ble_eq_true rfl), (Nat.le_of_ble_eq_true rfl)⟩ ⟨(Nat.le_of_ble_eq_true rfl), (Nat.le_of_ble_eq_true rfl)⟩ (fun v g2 hp => ?_)
      obtain ⟨hp1, -, hp2⟩ := hp
      obtain ⟨rfl, hp3⟩ := hp1 (by omega)
      show gh_W l G _ X g2 _ _ [some (.ref (A 0)), some (.int x), some (.int (nI 16)), some (.int (nI (bt x 16)))] 28 [.int 1]
      have m2 : gh_M [1, 2] g1 g2 := gh_N.M hp2 (fun q hq => by rcases List.mem_cons.mp hq with e | hq; (subst e; exact ⟨1, _, h1.2.1.2.2.2.ob, by decide⟩); (rw [List.mem_singleton] at hq; subst hq; obtain ⟨f, ⟨_, k2, _⟩, _⟩ := h1.2.1.2.2.2; exact ⟨2, _, k2, by decide⟩))
      refine gh_pop hK d_SD_appendCharacters_28 rfl ?_
      refine gh_iinc (v := (nI 8)) (lv' := [some (.ref (A 0)), some (.int x), some (.int (nI 8)), some (.int (nI (bt x 16)))]) hK d_SD_appendCharacters_29 rfl (by decide) rfl ?_
      refine gh_goto (tgt := 3) hK d_SD_appendCharacters_32 (by decide) ?_
      exact r2 g2 (t1 ++ [bt x 16]) _ (h1.tx m2 (by decide) hp3) (m1.tr m2) (by rw [List.append_assoc]; exact hc)
  have r0 : ∀ (g1 : GH) (t1 : List Nat) (v3 : Option Value), SDr G g1 A es us1 us2 t1 → gh_M [1, 2] g g1 → t1 ++ (((bt x 24::bt x 16::bt x 8::bt x 0::[]).filter (fun c => decide (0 < c)) : List Nat)) = tx ++ chs4 x → gh_W l G (rmk 1 0 0 21) X g1 0 0 [some (.ref (A 0)), some (.int x), some (.int (nI 24)), v3] 3 [] := by
    intro g1 t1 v3 h1 m1 hc
    refine gh_iload_n hK d_SD_appendCharacters_3 rfl ?_
    refine gh_if_ltN hK d_SD_appendCharacters_4 (tgt := 35) (by decide) (by decide) ?_
    refine gh_iload_n hK d_SD_appendCharacters_7 rfl ?_
    refine gh_iload_n hK d_SD_appendCharacters_8 rfl ?_
    refine gh_iushr hK d_SD_appendCharacters_9 rfl ?_
    refine gh_sipush (v := nI 255) hK d_SD_appendCharacters_10 (by decide) ?_
    refine gh_iand hK d_SD_appendCharacters_13 ?_
    rw [bt_ushr x 24 (by decide)]
    have hb := bt_lt x 24
    refine gh_istore_n (lv' := [some (.ref (A 0)), some (.int x), some (.int (nI 24)), some (.int (nI (bt x 24)))]) hK d_SD_appendCharacters_14 (Nat.le_of_ble_eq_true rfl) rfl ?_
    refine gh_iload_n hK d_SD_appendCharacters_15 rfl ?_
    refine gh_if_eqN hK d_SD_appendCharacters_16 (tgt := 29) (by decide) (by omega) (fun z => ?_) (fun z => ?_)
    · rw [List.filter_cons_of_neg (by simp [z])] at hc
      refine gh_iinc (v := (nI 16)) (lv' := [some (.ref (A 0)), some (.int x), some (.int (nI 16)), some (.int (nI (bt x 24)))]) hK d_SD_appendCharacters_29 rfl (by decide) rfl ?_
      refine gh_goto (tgt := 3) hK d_SD_appendCharacters_32 (by decide) ?_
      exact r1 _ _ _ h1 m1 hc
    · rw [List.filter_cons_of_pos (by simp [z])] at hc
      have hln := congrArg List.length hc
      rw [List.length_append, List.length_append, List.length_cons] at hln
      refine gh_aload_n hK d_SD_appendCharacters_19 rfl ?_
      refine gh_get hK d_SD_appendCharacters_20 in_SD rfl h1.1.1 0 (by decide) kf_SD_14 rfl rfl ?_
      refine gh_iload_n hK d_SD_appendCharacters_23 rfl ?_
      refine gh_i2c (v := nI (bt x 24)) hK d_SD_appendCharacters_24 (by rw [pk_char, pk_tn (by omega)]; congr 1; omega) ?_
      refine gh_callV (rest := []) [.int (nI (bt x 24))] hK (c_Lt_append l G h1.2.1.2.2.2 (c := bt x 24) (by omega)) Y_Lt_append V_Lt_append km_SD_113 h1.2.1.2.2.2.ob rfl rfl d_SD_appendCharacters_25 rfl rfl (Nat.le_of_ble_eq_true rfl) ⟨(Nat.le_of_ble_eq_true rfl), (Nat.le_of_ble_eq_true rfl)⟩ ⟨(Nat.le_of_ble_eq_true rfl), (Nat.le_of_ble_eq_true rfl)⟩ (fun v g2 hp => ?_)
      obtain ⟨hp1, -, hp2⟩ := hp
      obtain ⟨rfl, hp3⟩ := hp1 (by omega)
      show gh_W l G _ X g2 _ _ [some (.ref (A 0)), some (.int x), some (.int (nI 24)), some (.int (nI (bt x 24)))] 28 [.int 1]
      have m2 : gh_M [1, 2] g1 g2 := gh_N.M hp2 (fun q hq => by rcases List.mem_cons.mp hq with e | hq; (subst e; exact ⟨1, _, h1.2.1.2.2.2.ob, by decide⟩); (rw [List.mem_singleton] at hq; subst hq; obtain ⟨f, ⟨_, k2, _⟩, _⟩ := h1.2.1.2.2.2; exact ⟨2, _, k2, by decide⟩))
      refine gh_pop hK d_SD_appendCharacters_28 rfl ?_
      refine gh_iinc (v := (nI 16)) (lv' := [some (.ref (A 0)), some (.int x), some (.int (nI 16)), some (.int (nI (bt x 24)))]) hK d_SD_appendCharacters_29 rfl (by decide) rfl ?_
      refine gh_goto (tgt := 3) hK d_SD_appendCharacters_32 (by decide) ?_
      exact r1 g2 (t1 ++ [bt x 24]) _ (h1.tx m2 (by decide) hp3) (m1.tr m2) (by rw [List.append_assoc]; exact hc)
  refine gh_bipush (v := nI 24) hK d_SD_appendCharacters_0 (by decide) ?_
  refine gh_istore_n (lv' := [some (.ref (A 0)), some (.int x), some (.int (nI 24)), none]) hK d_SD_appendCharacters_2 (Nat.le_of_ble_eq_true rfl) rfl ?_
  exact r0 g tx _ h gh_M.rf rfl
