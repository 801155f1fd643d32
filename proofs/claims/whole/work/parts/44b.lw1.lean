set_option maxRecDepth 20000 in
set_option maxHeartbeats 4000000 in
theorem c_Lw_typeY (l : Launch) (G : GG) {g : GH} {A : Nat → Nat} {es : List (Nat × List Nat × Nat)} {us1 us2 : List (Nat × RuR)} {tx : List Nat} {a b c d : Int32} (h : SDr G g A es us1 us2 tx) (hx : tx.length + ((chs4 a).length + (chs4 b).length + (chs4 c).length + (chs4 d).length) ≤ 2048) : gMetW l G y_Lw_type b_Lw_type 6 (some .int) (0, 9, 12, 13) (rmk 3 0 0 69) [.ref (A 0), .int a, .int b, .int c, .int d] g (fun v g' => v = some (.int (nI 0)) ∧ SDr G g' A es us1 us2 (tx ++ (chs4 a ++ (chs4 b ++ (chs4 c ++ chs4 d)))) ∧ gh_M [1, 2] g g') := by
  refine gMetW.of [some (.ref (A 0)), some (.int a), some (.int b), some (.int c), some (.int d), none] (by decide +kernel) rfl (Nat.le_of_ble_eq_true rfl) rfl (fun X hK hH hJ hE => ?_)
  refine gh_aload_n hK d_Lw_type_0 rfl ?_
  refine gh_iload_n hK d_Lw_type_1 rfl ?_
  refine gh_iload_n hK d_Lw_type_2 rfl ?_
  refine gh_iload_n hK d_Lw_type_3 rfl ?_
  refine gh_iload hK d_Lw_type_4 rfl ?_
  refine gh_callV (rest := []) [.int a, .int b, .int c, .int d] hK (c_SD_type l G h hx) Y_SD_type V_SD_type km_Lw_7 h.1.1 rfl rfl d_Lw_type_6 rfl rfl (Nat.le_of_ble_eq_true rfl) ⟨(Nat.le_of_ble_eq_true rfl), (Nat.le_of_ble_eq_true rfl)⟩ ⟨(Nat.le_of_ble_eq_true rfl), (Nat.le_of_ble_eq_true rfl)⟩ (fun v g1 hp => ?_)
  obtain ⟨rfl, h1, m1⟩ := hp
  show gh_W l G _ X g1 0 0 [some (.ref (A 0)), some (.int a), some (.int b), some (.int c), some (.int d), none] 9 []
  refine gh_goto (tgt := 16) hK d_Lw_type_9 (by decide) ?_
  refine gh_iconst (v := nI 0) hK d_Lw_type_16 (by decide) ?_
  exact gh_iret hK hE d_Lw_type_17 (Nat.le_of_ble_eq_true rfl) (Nat.le_of_ble_eq_true rfl) ⟨rfl, h1, m1⟩
set_option maxRecDepth 20000 in
set_option maxHeartbeats 4000000 in
theorem c_Lw_typeN (l : Launch) (G : GG) (hfl : l.flags = pinnedFlags ++ [noTraceFlag]) {g : GH} {A : Nat → Nat} {es : List (Nat × List Nat × Nat)} {us1 us2 : List (Nat × RuR)} {tx : List Nat} {a b c d : Int32} (h : SDr G g A es us1 us2 tx) (hx : 2048 < tx.length + ((chs4 a).length + (chs4 b).length + (chs4 c).length + (chs4 d).length)) : gMetW l G y_Lw_type b_Lw_type 6 (some .int) (0, 9, 12, 13) (rmk 7 1 6 115) [.ref (A 0), .int a, .int b, .int c, .int d] g (fun v g' => v = some (.int (nI 1)) ∧ g' = g) := by
  refine gMetW.of [some (.ref (A 0)), some (.int a), some (.int b), some (.int c), some (.int d), none] (by decide +kernel) rfl (Nat.le_of_ble_eq_true rfl) rfl (fun X hK hH hJ hE => ?_)
  refine gh_aload_n hK d_Lw_type_0 rfl ?_
  refine gh_iload_n hK d_Lw_type_1 rfl ?_
  refine gh_iload_n hK d_Lw_type_2 rfl ?_
  refine gh_iload_n hK d_Lw_type_3 rfl ?_
  refine gh_iload hK d_Lw_type_4 rfl ?_
  refine gh_callT (rest := []) [.int a, .int b, .int c, .int d] hK hH hJ (c_SD_typeT l G hfl h hx) Y_SD_type V_SD_type km_Lw_7 h.1.1 rfl rfl d_Lw_type_6 rfl rfl (Nat.le_of_ble_eq_true rfl) ⟨(Nat.le_of_ble_eq_true rfl), (Nat.le_of_ble_eq_true rfl)⟩ ⟨(Nat.le_of_ble_eq_true rfl), (Nat.le_of_ble_eq_true rfl)⟩ ⟨(Nat.le_of_ble_eq_true rfl), (Nat.le_of_ble_eq_true rfl)⟩ (by decide) kc_Lw_13 (fun s h => h.2.2.2.1) (fun xe => ?_)
  show gh_W l G _ X g 1 6 [some (.ref (A 0)), some (.int a), some (.int b), some (.int c), some (.int d), none] 12 [.ref xe]
  refine gh_astore (lv' := [some (.ref (A 0)), some (.int a), some (.int b), some (.int c), some (.int d), some (.ref xe)]) hK d_Lw_type_12 (Nat.le_of_ble_eq_true rfl) rfl ?_
  refine gh_iconst (v := nI 1) hK d_Lw_type_14 (by decide) ?_
  exact gh_iret hK hE d_Lw_type_15 (Nat.le_of_ble_eq_true rfl) (Nat.le_of_ble_eq_true rfl) ⟨rfl, rfl⟩
set_option maxRecDepth 20000 in
set_option maxHeartbeats 4000000 in
theorem c_Lw_outputY (l : Launch) (G : GG) {g : GH} {A : Nat → Nat} {es : List (Nat × List Nat × Nat)} {us1 us2 : List (Nat × RuR)} {tx : List Nat} {o : List Nat × Nat} {it : Nat} {j q : Nat} {f : Nat → Int64} (h : SDr G g A es us1 us2 tx) (hP : Pr G g (A 4) (A 5) (A 6) o it) (hq : g q = some (200, .inl (G.2.1 4, 1, .inr (.inl f)))) (hj : j < o.1.length) : gMetW l G y_Lw_output b_Lw_output 4 (some .int) (0, 9, 12, 19) (rmk 3 0 0 65) [.ref (A 0), .int (nI j), .ref q] g (fun v g' => v = some (.int (nI 0)) ∧ g' = gh_up g q 200 (.inl (G.2.1 4, 1, .inr (.inl (vp_updL f 0 (nI (o.1.getD j 0)).toInt64))))) := by
  refine gMetW.of [some (.ref (A 0)), some (.int (nI j)), some (.ref q), none] (by decide +kernel) rfl (Nat.le_of_ble_eq_true rfl) rfl (fun X hK hH hJ hE => ?_)
  refine gh_aload_n hK d_Lw_output_0 rfl ?_
  refine gh_iconst (v := nI 0) hK d_Lw_output_1 (by decide) ?_
  refine gh_aload_n hK d_Lw_output_2 rfl ?_
  refine gh_iload_n hK d_Lw_output_3 rfl ?_
  refine gh_callV (rest := [.int (nI 0), .ref q]) [.int (nI j)] hK (c_SD_output l G h hP hj) Y_SD_output V_SD_output km_Lw_15 h.1.1 rfl rfl d_Lw_output_4 rfl rfl (Nat.le_of_ble_eq_true rfl) ⟨(Nat.le_of_ble_eq_true rfl), (Nat.le_of_ble_eq_true rfl)⟩ ⟨(Nat.le_of_ble_eq_true rfl), (Nat.le_of_ble_eq_true rfl)⟩ (fun v g' hp => ?_)
  rw [hp.1, hp.2]
  show gh_W l G _ X g 0 0 [some (.ref (A 0)), some (.int (nI j)), some (.ref q), none] 7 [.int (nI (o.1.getD j 0)), .int (nI 0), .ref q]
  refine gh_i2l hK d_Lw_output_7 rfl ?_
  refine gh_last (t0 := 4) hK d_Lw_output_8 hq rfl (by decide) (by decide) ?_
  refine gh_goto (tgt := 15) hK d_Lw_output_9 (by decide) ?_
  refine gh_iconst (v := nI 0) hK d_Lw_output_15 (by decide) ?_
  exact gh_iret hK hE d_Lw_output_16 (Nat.le_of_ble_eq_true rfl) (Nat.le_of_ble_eq_true rfl) ⟨rfl, rfl⟩
set_option maxRecDepth 20000 in
set_option maxHeartbeats 4000000 in
theorem c_Lw_outputN (l : Launch) (G : GG) (hfl : l.flags = pinnedFlags ++ [noTraceFlag]) {g : GH} {A : Nat → Nat} {es : List (Nat × List Nat × Nat)} {us1 us2 : List (Nat × RuR)} {tx : List Nat} {o : List Nat × Nat} {it : Nat} {x : Int32} {q : Nat} (h : SDr G g A es us1 us2 tx) (hP : Pr G g (A 4) (A 5) (A 6) o it) (hx : x < 0 ∨ nI o.1.length ≤ x) : gMetW l G y_Lw_output b_Lw_output 4 (some .int) (0, 9, 12, 19) (rmk 7 1 6 111) [.ref (A 0), .int x, .ref q] g (fun v g' => v = some (.int (nI 1)) ∧ g' = g) := by
  refine gMetW.of [some (.ref (A 0)), some (.int x), some (.ref q), none] (by decide +kernel) rfl (Nat.le_of_ble_eq_true rfl) rfl (fun X hK hH hJ hE => ?_)
  refine gh_aload_n hK d_Lw_output_0 rfl ?_
  refine gh_iconst (v := nI 0) hK d_Lw_output_1 (by decide) ?_
  refine gh_aload_n hK d_Lw_output_2 rfl ?_
  refine gh_iload_n hK d_Lw_output_3 rfl ?_
  refine gh_callT (rest := [.int (nI 0), .ref q]) [.int x] hK hH hJ (c_SD_outputT l G hfl h hP hx) Y_SD_output V_SD_output km_Lw_15 h.1.1 rfl rfl d_Lw_output_4 rfl rfl (Nat.le_of_ble_eq_true rfl) ⟨(Nat.le_of_ble_eq_true rfl), (Nat.le_of_ble_eq_true rfl)⟩ ⟨(Nat.le_of_ble_eq_true rfl), (Nat.le_of_ble_eq_true rfl)⟩ ⟨(Nat.le_of_ble_eq_true rfl), (Nat.le_of_ble_eq_true rfl)⟩ (by decide) kc_Lw_19 (fun s h => h.2.2.2.2.1) (fun xe => ?_)
  show gh_W l G _ X g 1 6 [some (.ref (A 0)), some (.int x), some (.ref q), none] 12 [.ref xe]
  refine gh_astore_n (lv' := [some (.ref (A 0)), some (.int x), some (.ref q), some (.ref xe)]) hK d_Lw_output_12 (Nat.le_of_ble_eq_true rfl) rfl ?_
  refine gh_iconst (v := nI 1) hK d_Lw_output_13 (by decide) ?_
  exact gh_iret hK hE d_Lw_output_14 (Nat.le_of_ble_eq_true rfl) (Nat.le_of_ble_eq_true rfl) ⟨rfl, rfl⟩
