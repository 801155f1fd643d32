set_option maxRecDepth 20000 in
set_option maxHeartbeats 4000000 in
theorem c_SD_type (l : Launch) (G : GG) {g : GH} {A : Nat → Nat} {es : List (Nat × List Nat × Nat)} {us1 us2 : List (Nat × RuR)} {tx : List Nat} {a b c d : Int32} (h : SDr G g A es us1 us2 tx) (hx : tx.length + ((chs4 a).length + (chs4 b).length + (chs4 c).length + (chs4 d).length) ≤ 2048) : gMet l G y_SD_type b_SD_type 6 none (rmk 2 0 0 44) [.ref (A 0), .int a, .int b, .int c, .int d] g (fun v g' => v = none ∧ SDr G g' A es us1 us2 (tx ++ (chs4 a ++ (chs4 b ++ (chs4 c ++ chs4 d)))) ∧ gh_M [1, 2] g g') := by
  refine gMet.of [some (.ref (A 0)), some (.int a), some (.int b), some (.int c), some (.int d), none] (by decide +kernel) rfl (Nat.le_of_ble_eq_true rfl) rfl (fun X hK hI hE => ?_)
  have hcl : ∀ x : Int32, (chs4 x).length ≤ 4 := fun x => List.length_filter_le _ _
  have ha := hcl a
  have hb := hcl b
  have hc := hcl c
  have hd := hcl d
  have htl := h.2.1.2.2.2.len
  refine gh_iload_n hK d_SD_type_0 rfl ?_
  refine gh_callS (rest := []) [.int a] hK (c_SD_countCharacters l G (g := g) (x := a)) Y_SD_countCharacters V_SD_countCharacters km_SD_71 rfl d_SD_type_1 rfl rfl (Nat.le_of_ble_eq_true rfl) ⟨(Nat.le_of_ble_eq_true rfl), (Nat.le_of_ble_eq_true rfl)⟩ ⟨(Nat.le_of_ble_eq_true rfl), (Nat.le_of_ble_eq_true rfl)⟩ (fun v g' hp => ?_)
  rw [hp.1, hp.2]
  show gh_W l G _ X g 0 0 [some (.ref (A 0)), some (.int a), some (.int b), some (.int c), some (.int d), none] 4 [.int (nI ((chs4 a).length))]
  refine gh_iload_n hK d_SD_type_4 rfl ?_
  refine gh_callS (rest := [.int (nI ((chs4 a).length))]) [.int b] hK (c_SD_countCharacters l G (g := g) (x := b)) Y_SD_countCharacters V_SD_countCharacters km_SD_71 rfl d_SD_type_5 rfl rfl (Nat.le_of_ble_eq_true rfl) ⟨(Nat.le_of_ble_eq_true rfl), (Nat.le_of_ble_eq_true rfl)⟩ ⟨(Nat.le_of_ble_eq_true rfl), (Nat.le_of_ble_eq_true rfl)⟩ (fun v g' hp => ?_)
  rw [hp.1, hp.2]
  show gh_W l G _ X g 0 0 [some (.ref (A 0)), some (.int a), some (.int b), some (.int c), some (.int d), none] 8 [.int (nI ((chs4 b).length)), .int (nI ((chs4 a).length))]
  refine gh_addN hK d_SD_type_8 ?_
  refine gh_iload_n hK d_SD_type_9 rfl ?_
  refine gh_callS (rest := [.int (nI (((chs4 a).length) + ((chs4 b).length)))]) [.int c] hK (c_SD_countCharacters l G (g := g) (x := c)) Y_SD_countCharacters V_SD_countCharacters km_SD_71 rfl d_SD_type_10 rfl rfl (Nat.le_of_ble_eq_true rfl) ⟨(Nat.le_of_ble_eq_true rfl), (Nat.le_of_ble_eq_true rfl)⟩ ⟨(Nat.le_of_ble_eq_true rfl), (Nat.le_of_ble_eq_true rfl)⟩ (fun v g' hp => ?_)
  rw [hp.1, hp.2]
  show gh_W l G _ X g 0 0 [some (.ref (A 0)), some (.int a), some (.int b), some (.int c), some (.int d), none] 13 [.int (nI ((chs4 c).length)), .int (nI (((chs4 a).length) + ((chs4 b).length)))]
  refine gh_addN hK d_SD_type_13 ?_
  refine gh_iload hK d_SD_type_14 rfl ?_
  refine gh_callS (rest := [.int (nI ((((chs4 a).length) + ((chs4 b).length)) + ((chs4 c).length)))]) [.int d] hK (c_SD_countCharacters l G (g := g) (x := d)) Y_SD_countCharacters V_SD_countCharacters km_SD_71 rfl d_SD_type_16 rfl rfl (Nat.le_of_ble_eq_true rfl) ⟨(Nat.le_of_ble_eq_true rfl), (Nat.le_of_ble_eq_true rfl)⟩ ⟨(Nat.le_of_ble_eq_true rfl), (Nat.le_of_ble_eq_true rfl)⟩ (fun v g' hp => ?_)
  rw [hp.1, hp.2]
  show gh_W l G _ X g 0 0 [some (.ref (A 0)), some (.int a), some (.int b), some (.int c), some (.int d), none] 19 [.int (nI ((chs4 d).length)), .int (nI ((((chs4 a).length) + ((chs4 b).length)) + ((chs4 c).length)))]
  refine gh_addN hK d_SD_type_19 ?_
  refine gh_istore (lv' := [some (.ref (A 0)), some (.int a), some (.int b), some (.int c), some (.int d), some (.int (nI (((((chs4 a).length) + ((chs4 b).length)) + ((chs4 c).length)) + ((chs4 d).length))))]) hK d_SD_type_20 (Nat.le_of_ble_eq_true rfl) rfl ?_
  refine gh_aload_n hK d_SD_type_22 rfl ?_
  refine gh_get hK d_SD_type_23 in_SD rfl h.1.1 0 (by decide) kf_SD_14 rfl rfl ?_
  refine gh_callV (rest := []) [] hK (c_Lt_count l G h.2.1.2.2.2) Y_Lt_count V_Lt_count km_SD_75 h.2.1.2.2.2.ob rfl rfl d_SD_type_26 rfl rfl (Nat.le_of_ble_eq_true rfl) ⟨(Nat.le_of_ble_eq_true rfl), (Nat.le_of_ble_eq_true rfl)⟩ ⟨(Nat.le_of_ble_eq_true rfl), (Nat.le_of_ble_eq_true rfl)⟩ (fun v g' hp => ?_)
  rw [hp.1, hp.2]
  show gh_W l G _ X g 0 0 [some (.ref (A 0)), some (.int a), some (.int b), some (.int c), some (.int d), some (.int (nI (((((chs4 a).length) + ((chs4 b).length)) + ((chs4 c).length)) + ((chs4 d).length))))] 29 [.int (nI tx.length)]
  refine gh_iload hK d_SD_type_29 rfl ?_
  refine gh_addN hK d_SD_type_31 ?_
  refine gh_sipush (v := nI 2048) hK d_SD_type_32 (by decide) ?_
  refine gh_icmp_leN hK d_SD_type_35 (tgt := 48) (by decide) (by omega) (by decide) (fun _ => ?_) (fun q => by omega)
  refine gh_aload_n hK d_SD_type_48 rfl ?_
  refine gh_iload_n hK d_SD_type_49 rfl ?_
  refine gh_callV (rest := []) [.int a] hK (c_SD_appendCharacters l G h (x := a) (by omega)) Y_SD_appendCharacters V_SD_appendCharacters km_SD_86 h.1.1 rfl rfl d_SD_type_50 rfl rfl (Nat.le_of_ble_eq_true rfl) ⟨(Nat.le_of_ble_eq_true rfl), (Nat.le_of_ble_eq_true rfl)⟩ ⟨(Nat.le_of_ble_eq_true rfl), (Nat.le_of_ble_eq_true rfl)⟩ (fun v g1 hp => ?_)
  obtain ⟨rfl, h1, m1⟩ := hp
  show gh_W l G _ X g1 0 0 [some (.ref (A 0)), some (.int a), some (.int b), some (.int c), some (.int d), some (.int (nI (((((chs4 a).length) + ((chs4 b).length)) + ((chs4 c).length)) + ((chs4 d).length))))] 53 []
  refine gh_aload_n hK d_SD_type_53 rfl ?_
  refine gh_iload_n hK d_SD_type_54 rfl ?_
  refine gh_callV (rest := []) [.int b] hK (c_SD_appendCharacters l G h1 (x := b) (by simp only [List.length_append]; omega)) Y_SD_appendCharacters V_SD_appendCharacters km_SD_86 h1.1.1 rfl rfl d_SD_type_55 rfl rfl (Nat.le_of_ble_eq_true rfl) ⟨(Nat.le_of_ble_eq_true rfl), (Nat.le_of_ble_eq_true rfl)⟩ ⟨(Nat.le_of_ble_eq_true rfl), (Nat.le_of_ble_eq_true rfl)⟩ (fun v g2 hp => ?_)
  obtain ⟨rfl, h2, m2⟩ := hp
  show gh_W l G _ X g2 0 0 [some (.ref (A 0)), some (.int a), some (.int b), some (.int c), some (.int d), some (.int (nI (((((chs4 a).length) + ((chs4 b).length)) + ((chs4 c).length)) + ((chs4 d).length))))] 58 []
  refine gh_aload_n hK d_SD_type_58 rfl ?_
  refine gh_iload_n hK d_SD_type_59 rfl ?_
  refine gh_callV (rest := []) [.int c] hK (c_SD_appendCharacters l G h2 (x := c) (by simp only [List.length_append]; omega)) Y_SD_appendCharacters V_SD_appendCharacters km_SD_86 h2.1.1 rfl rfl d_SD_type_60 rfl rfl (Nat.le_of_ble_eq_true rfl) ⟨(Nat.le_of_ble_eq_true rfl), (Nat.le_of_ble_eq_true rfl)⟩ ⟨(Nat.le_of_ble_eq_true rfl), (Nat.le_of_ble_eq_true rfl)⟩ (fun v g3 hp => ?_)
  obtain ⟨rfl, h3, m3⟩ := hp
  show gh_W l G _ X g3 0 0 [some (.ref (A 0)), some (.int a), some (.int b), some (.int c), some (.int d), some (.int (nI (((((chs4 a).length) + ((chs4 b).length)) + ((chs4 c).length)) + ((chs4 d).length))))] 63 []
  refine gh_aload_n hK d_SD_type_63 rfl ?_
  refine gh_iload hK d_SD_type_64 rfl ?_
  refine gh_callV (rest := []) [.int d] hK (c_SD_appendCharacters l G h3 (x := d) (by simp only [List.length_append]; omega)) Y_SD_appendCharacters V_SD_appendCharacters km_SD_86 h3.1.1 rfl rfl d_SD_type_66 rfl rfl (Nat.le_of_ble_eq_true rfl) ⟨(Nat.le_of_ble_eq_true rfl), (Nat.le_of_ble_eq_true rfl)⟩ ⟨(Nat.le_of_ble_eq_true rfl), (Nat.le_of_ble_eq_true rfl)⟩ (fun v g4 hp => ?_)
  obtain ⟨rfl, h4, m4⟩ := hp
  show gh_W l G _ X g4 0 0 [some (.ref (A 0)), some (.int a), some (.int b), some (.int c), some (.int d), some (.int (nI (((((chs4 a).length) + ((chs4 b).length)) + ((chs4 c).length)) + ((chs4 d).length))))] 69 []
  exact gh_vret hK hE d_SD_type_69 (Nat.le_of_ble_eq_true rfl) (Nat.le_of_ble_eq_true rfl) ⟨rfl, by simp only [List.append_assoc] at h4; exact h4, (((m1.tr m2).tr m3).tr m4)⟩
set_option maxRecDepth 20000 in
set_option maxHeartbeats 4000000 in
theorem c_SD_output (l : Launch) (G : GG) {g : GH} {A : Nat → Nat} {es : List (Nat × List Nat × Nat)} {us1 us2 : List (Nat × RuR)} {tx : List Nat} {o : List Nat × Nat} {it : Nat} {j : Nat} (h : SDr G g A es us1 us2 tx) (hP : Pr G g (A 4) (A 5) (A 6) o it) (hj : j < o.1.length) : gMet l G y_SD_output b_SD_output 2 (some .int) (rmk 2 0 0 42) [.ref (A 0), .int (nI j)] g (fun v g' => v = some (.int (nI (o.1.getD j 0))) ∧ g' = g) := by
  refine gMet.of [some (.ref (A 0)), some (.int (nI j))] (by decide +kernel) rfl (Nat.le_of_ble_eq_true rfl) rfl (fun X hK hI hE => ?_)
  have hol := hP.2.len
  refine gh_iload_n hK d_SD_output_0 rfl ?_
  refine gh_if_ltN hK d_SD_output_1 (tgt := 15) (by decide) (by omega) ?_
  refine gh_iload_n hK d_SD_output_4 rfl ?_
  refine gh_aload_n hK d_SD_output_5 rfl ?_
  refine gh_get hK d_SD_output_6 in_SD rfl h.1.1 2 (by decide) kf_SD_30 rfl rfl ?_
  refine gh_callV (rest := [.int (nI j)]) [] hK (c_Pr_count l G hP) Y_Pr_count V_Pr_count km_SD_100 hP.1 rfl rfl d_SD_output_9 rfl rfl (Nat.le_of_ble_eq_true rfl) ⟨(Nat.le_of_ble_eq_true rfl), (Nat.le_of_ble_eq_true rfl)⟩ ⟨(Nat.le_of_ble_eq_true rfl), (Nat.le_of_ble_eq_true rfl)⟩ (fun v g' hp => ?_)
  rw [hp.1, hp.2]
  show gh_W l G _ X g 0 0 [some (.ref (A 0)), some (.int (nI j))] 12 [.int (nI o.1.length), .int (nI j)]
  refine gh_icmp_ltN hK d_SD_output_12 (tgt := 25) (by decide) (by omega) (by omega) (fun _ => ?_) (fun q => by omega)
  refine gh_aload_n hK d_SD_output_25 rfl ?_
  refine gh_get hK d_SD_output_26 in_SD rfl h.1.1 2 (by decide) kf_SD_30 rfl rfl ?_
  refine gh_iload_n hK d_SD_output_29 rfl ?_
  refine gh_callV (rest := []) [.int (nI j)] hK (c_Pr_at l G hP (j := j) (by omega)) Y_Pr_at V_Pr_at km_SD_106 hP.1 rfl rfl d_SD_output_30 rfl rfl (Nat.le_of_ble_eq_true rfl) ⟨(Nat.le_of_ble_eq_true rfl), (Nat.le_of_ble_eq_true rfl)⟩ ⟨(Nat.le_of_ble_eq_true rfl), (Nat.le_of_ble_eq_true rfl)⟩ (fun v g' hp => ?_)
  rw [hp.1, hp.2]
  show gh_W l G _ X g 0 0 [some (.ref (A 0)), some (.int (nI j))] 33 [.int (nI (o.1.getD j 0))]
  exact gh_iret hK hE d_SD_output_33 (Nat.le_of_ble_eq_true rfl) (Nat.le_of_ble_eq_true rfl) ⟨rfl, rfl⟩
