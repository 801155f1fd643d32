/-! STRING CONSTANTS: length, charAt -/
set_option maxRecDepth 20000 in
set_option maxHeartbeats 4000000 in
theorem c_Str_coder (l : Launch) (G : GG) {g : GH} {i : Nat} (hi : i < st_N) : gMet l G y_Str_coder b_Str_coder 1 (some .byte) (rmk 0 0 0 0) [.ref (G.2.2.1 i)] g (fun v g' => v = some (.int (nI 0)) ∧ g' = g) := by
  refine gMet.of [some (.ref (G.2.2.1 i))] (by decide +kernel) rfl (Nat.le_of_ble_eq_true rfl) rfl (fun X hK hI hE => ?_)
  refine gh_cs hK d_Str_coder_0 kf_Str_38 ?_
  refine gh_if_eqN hK d_Str_coder_3 (tgt := 13) (by decide) (by decide) (fun z => absurd z (by decide)) (fun z => ?_)
  refine gh_aload_n hK d_Str_coder_6 rfl ?_
  refine gh_strC hK d_Str_coder_7 hi kf_Str_15 ?_
  refine gh_goto (tgt := 14) hK d_Str_coder_10 (by decide) ?_
  exact gh_zret rfl hK hE d_Str_coder_14 (Nat.le_of_ble_eq_true rfl) (Nat.le_of_ble_eq_true rfl) ⟨rfl, rfl⟩
set_option maxRecDepth 20000 in
set_option maxHeartbeats 4000000 in
theorem c_Str_isLatin1 (l : Launch) (G : GG) {g : GH} {i : Nat} (hi : i < st_N) : gMet l G y_Str_isLatin1 b_Str_isLatin1 1 (some .boolean) (rmk 0 0 0 0) [.ref (G.2.2.1 i)] g (fun v g' => v = some (.int (nI 1)) ∧ g' = g) := by
  refine gMet.of [some (.ref (G.2.2.1 i))] (by decide +kernel) rfl (Nat.le_of_ble_eq_true rfl) rfl (fun X hK hI hE => ?_)
  refine gh_cs hK d_Str_isLatin1_0 kf_Str_38 ?_
  refine gh_if_eqN hK d_Str_isLatin1_3 (tgt := 17) (by decide) (by decide) (fun z => absurd z (by decide)) (fun z => ?_)
  refine gh_aload_n hK d_Str_isLatin1_6 rfl ?_
  refine gh_strC hK d_Str_isLatin1_7 hi kf_Str_15 ?_
  refine gh_if_neN hK d_Str_isLatin1_10 (tgt := 17) (by decide) (by decide) (fun z => absurd z (by decide)) (fun z => ?_)
  refine gh_iconst (v := nI 1) hK d_Str_isLatin1_13 (by decide) ?_
  refine gh_goto (tgt := 18) hK d_Str_isLatin1_14 (by decide) ?_
  exact gh_zret rfl hK hE d_Str_isLatin1_18 (Nat.le_of_ble_eq_true rfl) (Nat.le_of_ble_eq_true rfl) ⟨rfl, rfl⟩
set_option maxRecDepth 20000 in
set_option maxHeartbeats 4000000 in
theorem c_Str_length (l : Launch) (G : GG) {g : GH} {i : Nat} (hi : i < st_N) : gMet l G y_Str_length b_Str_length 1 (some .int) (rmk 1 0 0 20) [.ref (G.2.2.1 i)] g (fun v g' => v = some (.int (nI (st_txt.getD i []).length)) ∧ g' = g) := by
  refine gMet.of [some (.ref (G.2.2.1 i))] (by decide +kernel) rfl (Nat.le_of_ble_eq_true rfl) rfl (fun X hK hI hE => ?_)
  obtain ⟨e1, e2, e3⟩ := st_all i hi
  refine gh_aload_n hK d_Str_length_0 rfl ?_
  refine gh_strV hK d_Str_length_1 hi kf_Str_9 ?_
  refine gh_strL hK d_Str_length_4 hi ?_
  refine gh_aload_n hK d_Str_length_5 rfl ?_
  refine gh_callVs (i := i) (rest := [.int (nI (st_len.getD i 0))]) [] hK (c_Str_coder l G (g := g) hi) Y_Str_coder V_Str_coder km_Str_335 hi rfl rfl d_Str_length_6 rfl rfl (Nat.le_of_ble_eq_true rfl) ⟨(Nat.le_of_ble_eq_true rfl), (Nat.le_of_ble_eq_true rfl)⟩ ⟨(Nat.le_of_ble_eq_true rfl), (Nat.le_of_ble_eq_true rfl)⟩ (fun v g' hp => ?_)
  rw [hp.1, hp.2]
  show gh_W l G _ X g _ _ [some (.ref (G.2.2.1 i))] 9 [.int (nI 0), .int (nI (st_len.getD i 0))]
  refine gh_ishr hK d_Str_length_9 ?_
  rw [show nI (st_len.getD i 0) >>> (nI 0 &&& 31) = nI (st_len.getD i 0) from sc_shr0 (by omega), e1]
  exact gh_iret hK hE d_Str_length_10 (Nat.le_of_ble_eq_true rfl) (Nat.le_of_ble_eq_true rfl) ⟨rfl, rfl⟩
set_option maxRecDepth 20000 in
set_option maxHeartbeats 4000000 in
theorem c_Pre_checkIndex (l : Launch) (G : GG) {g : GH} {i j : Nat} {v0 : Value} (hv : v0 = .null ∨ ∃ a, v0 = .ref a) (hi : i < j) (hj : j < 2 ^ 31) : gMet l G y_Pre_checkIndex b_Pre_checkIndex 3 (some .int) (rmk 0 0 0 0) [.int (nI i), .int (nI j), v0] g (fun v g' => v = some (.int (nI i)) ∧ g' = g) := by
  rcases hv with rfl | ⟨q, rfl⟩
  · refine gMet.of [some (.int (nI i)), some (.int (nI j)), some (.null)] (by decide +kernel) rfl (Nat.le_of_ble_eq_true rfl) rfl (fun X hK hI hE => ?_)
    refine gh_iload_n hK d_Pre_checkIndex_0 rfl ?_
    refine gh_if_ltN hK d_Pre_checkIndex_1 (tgt := 9) (by decide) (by omega) ?_
    refine gh_iload_n hK d_Pre_checkIndex_4 rfl ?_
    refine gh_iload_n hK d_Pre_checkIndex_5 rfl ?_
    refine gh_icmp_ltN hK d_Pre_checkIndex_6 (tgt := 16) (by decide) (by omega) (by omega) (fun z => ?_) (fun z => absurd z (by omega))
    refine gh_iload_n hK d_Pre_checkIndex_16 rfl ?_
    exact gh_iret hK hE d_Pre_checkIndex_17 (Nat.le_of_ble_eq_true rfl) (Nat.le_of_ble_eq_true rfl) ⟨rfl, rfl⟩
  · refine gMet.of [some (.int (nI i)), some (.int (nI j)), some (.ref q)] (by decide +kernel) rfl (Nat.le_of_ble_eq_true rfl) rfl (fun X hK hI hE => ?_)
    refine gh_iload_n hK d_Pre_checkIndex_0 rfl ?_
    refine gh_if_ltN hK d_Pre_checkIndex_1 (tgt := 9) (by decide) (by omega) ?_
    refine gh_iload_n hK d_Pre_checkIndex_4 rfl ?_
    refine gh_iload_n hK d_Pre_checkIndex_5 rfl ?_
    refine gh_icmp_ltN hK d_Pre_checkIndex_6 (tgt := 16) (by decide) (by omega) (by omega) (fun z => ?_) (fun z => absurd z (by omega))
    refine gh_iload_n hK d_Pre_checkIndex_16 rfl ?_
    exact gh_iret hK hE d_Pre_checkIndex_17 (Nat.le_of_ble_eq_true rfl) (Nat.le_of_ble_eq_true rfl) ⟨rfl, rfl⟩
set_option maxRecDepth 20000 in
set_option maxHeartbeats 4000000 in
theorem c_Str_checkIndex (l : Launch) (G : GG) {g : GH} {i j : Nat} (hi : i < j) (hj : j < 2 ^ 31) : gMet l G y_Str_checkIndex b_Str_checkIndex 2 none (rmk 1 0 0 22) [.int (nI i), .int (nI j)] g (fun v g' => v = none ∧ g' = g) := by
  refine gMet.of [some (.int (nI i)), some (.int (nI j))] (by decide +kernel) rfl (Nat.le_of_ble_eq_true rfl) rfl (fun X hK hI hE => ?_)
  refine gh_iload_n hK d_Str_checkIndex_0 rfl ?_
  refine gh_iload_n hK d_Str_checkIndex_1 rfl ?_
  refine gh_sio hK d_Str_checkIndex_2 kf_Str_1053 (fun v0 hv0 => ?_)
  refine gh_callS (rest := []) [.int (nI i), .int (nI j), v0] hK (c_Pre_checkIndex l G (g := g) hv0 hi hj) Y_Pre_checkIndex V_Pre_checkIndex km_Str_1059 rfl d_Str_checkIndex_5 rfl rfl (Nat.le_of_ble_eq_true rfl) ⟨(Nat.le_of_ble_eq_true rfl), (Nat.le_of_ble_eq_true rfl)⟩ ⟨(Nat.le_of_ble_eq_true rfl), (Nat.le_of_ble_eq_true rfl)⟩ (fun v g' hp => ?_)
  rw [hp.1, hp.2]
  show gh_W l G _ X g _ _ [some (.int (nI i)), some (.int (nI j))] 8 [.int (nI i)]
  refine gh_pop hK d_Str_checkIndex_8 rfl ?_
  exact gh_vret hK hE d_Str_checkIndex_9 (Nat.le_of_ble_eq_true rfl) (Nat.le_of_ble_eq_true rfl) ⟨rfl, rfl⟩
set_option maxRecDepth 20000 in
set_option maxHeartbeats 4000000 in
theorem c_SL1_charAt (l : Launch) (G : GG) {g : GH} {i j : Nat} (hi : i < st_N) (hj : j < (st_txt.getD i []).length) : gMet l G y_SL1_charAt b_SL1_charAt 2 (some .char) (rmk 2 0 0 43) [.ref (G.2.2.2.1 i), .int (nI j)] g (fun v g' => v = some (.int (nI ((st_txt.getD i []).getD j 0))) ∧ g' = g) := by
  refine gMet.of [some (.ref (G.2.2.2.1 i)), some (.int (nI j))] (by decide +kernel) rfl (Nat.le_of_ble_eq_true rfl) rfl (fun X hK hI hE => ?_)
  obtain ⟨e1, e2, e3⟩ := st_all i hi
  obtain ⟨e4, e5⟩ := e3 j (by omega)
  refine gh_iload_n hK d_SL1_charAt_0 rfl ?_
  refine gh_aload_n hK d_SL1_charAt_1 rfl ?_
  refine gh_strL hK d_SL1_charAt_2 hi ?_
  refine gh_callS (rest := []) [.int (nI j), .int (nI (st_len.getD i 0))] hK (c_Str_checkIndex l G (g := g) (i := j) (j := st_len.getD i 0) (by omega) (by omega)) Y_Str_checkIndex V_Str_checkIndex km_SL1_9 rfl d_SL1_charAt_3 rfl rfl (Nat.le_of_ble_eq_true rfl) ⟨(Nat.le_of_ble_eq_true rfl), (Nat.le_of_ble_eq_true rfl)⟩ ⟨(Nat.le_of_ble_eq_true rfl), (Nat.le_of_ble_eq_true rfl)⟩ (fun v g' hp => ?_)
  rw [hp.1, hp.2]
  show gh_W l G _ X g _ _ [some (.ref (G.2.2.2.1 i)), some (.int (nI j))] 6 []
  refine gh_aload_n hK d_SL1_charAt_6 rfl ?_
  refine gh_iload_n hK d_SL1_charAt_7 rfl ?_
  refine gh_strB hK d_SL1_charAt_8 hi (by omega) (by omega) ?_
  rw [e4]
  refine gh_sipush (v := nI 255) hK d_SL1_charAt_9 (by decide) ?_
  refine gh_iand hK d_SL1_charAt_12 ?_
  refine gh_i2c (v := nI ((st_txt.getD i []).getD j 0)) hK d_SL1_charAt_13 (ch_255 e5) ?_
  exact gh_zret (pk_charN (by omega)).1 hK hE d_SL1_charAt_14 (Nat.le_of_ble_eq_true rfl) (Nat.le_of_ble_eq_true rfl) ⟨rfl, rfl⟩
set_option maxRecDepth 20000 in
set_option maxHeartbeats 4000000 in
theorem c_Str_charAt (l : Launch) (G : GG) {g : GH} {i j : Nat} (hi : i < st_N) (hj : j < (st_txt.getD i []).length) : gMet l G y_Str_charAt b_Str_charAt 2 (some .char) (rmk 3 0 0 64) [.ref (G.2.2.1 i), .int (nI j)] g (fun v g' => v = some (.int (nI ((st_txt.getD i []).getD j 0))) ∧ g' = g) := by
  refine gMet.of [some (.ref (G.2.2.1 i)), some (.int (nI j))] (by decide +kernel) rfl (Nat.le_of_ble_eq_true rfl) rfl (fun X hK hI hE => ?_)
  obtain ⟨e1, e2, e3⟩ := st_all i hi
  obtain ⟨e4, e5⟩ := e3 j (by omega)
  refine gh_aload_n hK d_Str_charAt_0 rfl ?_
  refine gh_callVs (i := i) (rest := []) [] hK (c_Str_isLatin1 l G (g := g) hi) Y_Str_isLatin1 V_Str_isLatin1 km_Str_492 hi rfl rfl d_Str_charAt_1 rfl rfl (Nat.le_of_ble_eq_true rfl) ⟨(Nat.le_of_ble_eq_true rfl), (Nat.le_of_ble_eq_true rfl)⟩ ⟨(Nat.le_of_ble_eq_true rfl), (Nat.le_of_ble_eq_true rfl)⟩ (fun v g' hp => ?_)
  rw [hp.1, hp.2]
  show gh_W l G _ X g _ _ [some (.ref (G.2.2.1 i)), some (.int (nI j))] 4 [.int (nI 1)]
  refine gh_if_eqN hK d_Str_charAt_4 (tgt := 16) (by decide) (by decide) (fun z => absurd z (by decide)) (fun z => ?_)
  refine gh_aload_n hK d_Str_charAt_7 rfl ?_
  refine gh_strV hK d_Str_charAt_8 hi kf_Str_9 ?_
  refine gh_iload_n hK d_Str_charAt_11 rfl ?_
  refine gh_callS (rest := []) [.ref (G.2.2.2.1 i), .int (nI j)] hK (c_SL1_charAt l G (g := g) hi hj) Y_SL1_charAt V_SL1_charAt km_Str_495 rfl d_Str_charAt_12 rfl rfl (Nat.le_of_ble_eq_true rfl) ⟨(Nat.le_of_ble_eq_true rfl), (Nat.le_of_ble_eq_true rfl)⟩ ⟨(Nat.le_of_ble_eq_true rfl), (Nat.le_of_ble_eq_true rfl)⟩ (fun v g' hp => ?_)
  rw [hp.1, hp.2]
  show gh_W l G _ X g _ _ [some (.ref (G.2.2.1 i)), some (.int (nI j))] 15 [.int (nI ((st_txt.getD i []).getD j 0))]
  exact gh_zret (pk_charN (by omega)).1 hK hE d_Str_charAt_15 (Nat.le_of_ble_eq_true rfl) (Nat.le_of_ble_eq_true rfl) ⟨rfl, rfl⟩
