set_option maxRecDepth 20000 in
set_option maxHeartbeats 4000000 in
theorem c_SD_typeT (l : Launch) (G : GG) (hfl : l.flags = pinnedFlags ++ [noTraceFlag]) {g : GH} {A : Nat → Nat} {es : List (Nat × List Nat × Nat)} {us1 us2 : List (Nat × RuR)} {tx : List Nat} {a b c d : Int32} (h : SDr G g A es us1 us2 tx) (hx : 2048 < tx.length + ((chs4 a).length + (chs4 b).length + (chs4 c).length + (chs4 d).length)) : gThr l G y_SD_type b_SD_type 6 none (rmk 6 1 6 90) [.ref (A 0), .int a, .int b, .int c, .int d] g "java/lang/IllegalStateException" := by
  refine gThr.of [some (.ref (A 0)), some (.int a), some (.int b), some (.int c), some (.int d), none] (by decide +kernel) rfl (Nat.le_of_ble_eq_true rfl) rfl (fun X hK hE => ?_)
  have hcl : ∀ x : Int32, (chs4 x).length ≤ 4 := fun x => List.length_filter_le _ _
  have ha := hcl a
  have hb := hcl b
  have hc := hcl c
  have hd := hcl d
  have htl := h.2.1.2.2.2.len
  refine gh_iload_n hK d_SD_type_0 rfl ?_
  refine gh_callS (rest := []) [.int a] hK (c_SD_countCharacters l G (g := g) (x := a)) Y_SD_countCharacters V_SD_countCharacters km_SD_71 rfl d_SD_type_1 rfl rfl (Nat.le_of_ble_eq_true rfl) ⟨(Nat.le_of_ble_eq_true rfl), (Nat.le_of_ble_eq_true rfl)⟩ ⟨(Nat.le_of_ble_eq_true rfl), (Nat.le_of_ble_eq_true rfl)⟩ (fun v g' hp => ?_)
  rw [hp.1, hp.2]
  show gh_W l G _ X g 0 0 [some (.ref (A 0)), some (.int a), some (.int b), some (.int c), some (.int d), none] 4 [.int (nI ((chs4 a).length))]
  refine gh_iload_n hK d_SD_type_4 rfl ?_
  refine gh_callS (rest := [.int (nI ((chs4 a).length))]) [.int b] hK (c_SD_countCharacters l G (g := g) (x := b)) Y_SD_countCharacters V_SD_countCharacters km_SD_71 rfl d_SD_type_5 rfl rfl (Nat.le_of_ble_eq_true rfl) ⟨(Nat.le_of_ble_eq_true rfl), (Nat.le_of_ble_eq_true rfl)⟩ ⟨(Nat.le_of_ble_eq_true rfl), (Nat.le_of_ble_eq_true rfl)⟩ (fun v g' hp => ?_)
  rw [hp.1, hp.2]
  show gh_W l G _ X g 0 0 [some (.ref (A 0)), some (.int a), some (.int b), some (.int c), some (.int d), none] 8 [.int (nI ((chs4 b).length)), .int (nI ((chs4 a).length))]
  refine gh_addN hK d_SD_type_8 ?_
  refine gh_iload_n hK d_SD_type_9 rfl ?_
  refine gh_callS (rest := [.int (nI (((chs4 a).length) + ((chs4 b).length)))]) [.int c] hK (c_SD_countCharacters l G (g := g) (x := c)) Y_SD_countCharacters V_SD_countCharacters km_SD_71 rfl d_SD_type_10 rfl rfl (Nat.le_of_ble_eq_true rfl) ⟨(Nat.le_of_ble_eq_true rfl), (Nat.le_of_ble_eq_true rfl)⟩ ⟨(Nat.le_of_ble_eq_true rfl), (Nat.le_of_ble_eq_true rfl)⟩ (fun v g' hp => ?_)
  rw [hp.1, hp.2]
  show gh_W l G _ X g 0 0 [some (.ref (A 0)), some (.int a), some (.int b), some (.int c), some (.int d), none] 13 [.int (nI ((chs4 c).length)), .int (nI (((chs4 a).length) + ((chs4 b).length)))]
  refine gh_addN hK d_SD_type_13 ?_
  refine gh_iload hK d_SD_type_14 rfl ?_
  refine gh_callS (rest := [.int (nI ((((chs4 a).length) + ((chs4 b).length)) + ((chs4 c).length)))]) [.int d] hK (c_SD_countCharacters l G (g := g) (x := d)) Y_SD_countCharacters V_SD_countCharacters km_SD_71 rfl d_SD_type_16 rfl rfl (Nat.le_of_ble_eq_true rfl) ⟨(Nat.le_of_ble_eq_true rfl), (Nat.le_of_ble_eq_true rfl)⟩ ⟨(Nat.le_of_ble_eq_true rfl), (Nat.le_of_ble_eq_true rfl)⟩ (fun v g' hp => ?_)
  rw [hp.1, hp.2]
  show gh_W l G _ X g 0 0 [some (.ref (A 0)), some (.int a), some (.int b), some (.int c), some (.int d), none] 19 [.int (nI ((chs4 d).length)), .int (nI ((((chs4 a).length) + ((chs4 b).length)) + ((chs4 c).length)))]
  refine gh_addN hK d_SD_type_19 ?_
  refine gh_istore (lv' := [some (.ref (A 0)), some (.int a), some (.int b), some (.int c), some (.int d), some (.int (nI (((((chs4 a).length) + ((chs4 b).length)) + ((chs4 c).length)) + ((chs4 d).length))))]) hK d_SD_type_20 (Nat.le_of_ble_eq_true rfl) rfl ?_
  refine gh_aload_n hK d_SD_type_22 rfl ?_
  refine gh_get hK d_SD_type_23 in_SD rfl h.1.1 0 (by decide) kf_SD_14 rfl rfl ?_
  refine gh_callV (rest := []) [] hK (c_Lt_count l G h.2.1.2.2.2) Y_Lt_count V_Lt_count km_SD_75 h.2.1.2.2.2.ob rfl rfl d_SD_type_26 rfl rfl (Nat.le_of_ble_eq_true rfl) ⟨(Nat.le_of_ble_eq_true rfl), (Nat.le_of_ble_eq_true rfl)⟩ ⟨(Nat.le_of_ble_eq_true rfl), (Nat.le_of_ble_eq_true rfl)⟩ (fun v g' hp => ?_)
  rw [hp.1, hp.2]
  show gh_W l G _ X g 0 0 [some (.ref (A 0)), some (.int a), some (.int b), some (.int c), some (.int d), some (.int (nI (((((chs4 a).length) + ((chs4 b).length)) + ((chs4 c).length)) + ((chs4 d).length))))] 29 [.int (nI tx.length)]
  refine gh_iload hK d_SD_type_29 rfl ?_
  refine gh_addN hK d_SD_type_31 ?_
  refine gh_sipush (v := nI 2048) hK d_SD_type_32 (by decide) ?_
  refine gh_icmp_leN hK d_SD_type_35 (tgt := 48) (by decide) (by omega) (by decide) (fun q => by omega) (fun _ => ?_)
  exact gh_throw (i := 19) (C := "java/lang/IllegalStateException") (names := ["java/lang/RuntimeException", "java/lang/Exception"]) hK hE hfl rfl (by decide) rfl (by decide +kernel) (by decide +kernel) kc_SD_79 (gt_in (i := 1112) (by decide +kernel) rfl) (gt_in (i := 18) (by decide +kernel) rfl) thr_ISE d_SD_type_38 d_SD_type_41 d_SD_type_42 d_SD_type_44 d_SD_type_47 (Nat.le_of_ble_eq_true rfl) (Nat.le_of_ble_eq_true rfl) (Nat.le_of_ble_eq_true rfl) (Nat.le_of_ble_eq_true rfl) (Nat.le_of_ble_eq_true rfl) (Nat.le_of_ble_eq_true rfl)
set_option maxRecDepth 20000 in
set_option maxHeartbeats 4000000 in
theorem c_SD_outputT (l : Launch) (G : GG) (hfl : l.flags = pinnedFlags ++ [noTraceFlag]) {g : GH} {A : Nat → Nat} {es : List (Nat × List Nat × Nat)} {us1 us2 : List (Nat × RuR)} {tx : List Nat} {o : List Nat × Nat} {it : Nat} {x : Int32} (h : SDr G g A es us1 us2 tx) (hP : Pr G g (A 4) (A 5) (A 6) o it) (hx : x < 0 ∨ nI o.1.length ≤ x) : gThr l G y_SD_output b_SD_output 2 (some .int) (rmk 6 1 6 90) [.ref (A 0), .int x] g "java/lang/IndexOutOfBoundsException" := by
  refine gThr.of [some (.ref (A 0)), some (.int x)] (by decide +kernel) rfl (Nat.le_of_ble_eq_true rfl) rfl (fun X hK hE => ?_)
  have hol := hP.2.len
  have t15 : gh_W l G (rmk 6 1 6 90) X g 0 0 [some (.ref (A 0)), some (.int x)] 15 [] := by
    exact gh_throw (i := 20) (C := "java/lang/IndexOutOfBoundsException") (names := ["java/lang/RuntimeException", "java/lang/Exception"]) hK hE hfl rfl (by decide) rfl (by decide +kernel) (by decide +kernel) kc_SD_101 (gt_in (i := 468) (by decide +kernel) rfl) (gt_in (i := 25) (by decide +kernel) rfl) thr_IOE d_SD_output_15 d_SD_output_18 d_SD_output_19 d_SD_output_21 d_SD_output_24 (Nat.le_of_ble_eq_true rfl) (Nat.le_of_ble_eq_true rfl) (Nat.le_of_ble_eq_true rfl) (Nat.le_of_ble_eq_true rfl) (Nat.le_of_ble_eq_true rfl) (Nat.le_of_ble_eq_true rfl)
  refine gh_iload_n hK d_SD_output_0 rfl ?_
  refine gh_if_lt hK d_SD_output_1 (tgt := 15) (by decide) (fun _ => t15) (fun q => ?_)
  refine gh_iload_n hK d_SD_output_4 rfl ?_
  refine gh_aload_n hK d_SD_output_5 rfl ?_
  refine gh_get hK d_SD_output_6 in_SD rfl h.1.1 2 (by decide) kf_SD_30 rfl rfl ?_
  refine gh_callV (rest := [.int x]) [] hK (c_Pr_count l G hP) Y_Pr_count V_Pr_count km_SD_100 hP.1 rfl rfl d_SD_output_9 rfl rfl (Nat.le_of_ble_eq_true rfl) ⟨(Nat.le_of_ble_eq_true rfl), (Nat.le_of_ble_eq_true rfl)⟩ ⟨(Nat.le_of_ble_eq_true rfl), (Nat.le_of_ble_eq_true rfl)⟩ (fun v g' hp => ?_)
  rw [hp.1, hp.2]
  show gh_W l G _ X g 0 0 [some (.ref (A 0)), some (.int x)] 12 [.int (nI o.1.length), .int x]
  refine gh_icmp_lt hK d_SD_output_12 (tgt := 25) (by decide) (fun q2 => ?_) (fun _ => t15)
  rcases hx with hx | hx
  · exact absurd hx q
  · exact absurd q2 (Int32.not_lt.mpr hx)
