/-! A LINE of the reference -/
def RfI (F : Nat → Nat → Int32) (tx : List Nat) (ds : List (List Nat × Nat)) (es : List (Nat × List Nat × Nat)) (us1 us2 : List (Nat × RuR)) : Prop := TxA F tx ∧ DcA F ds ∧ ds.Perm (es2 es) ∧ RlA F 0 (rs2 us1) ∧ RlA F 1 (rs2 us2)
theorem RfI.Y {F F' : Nat → Nat → Int32} {tx : List Nat} {ds : List (List Nat × Nat)} {es : List (Nat × List Nat × Nat)} {us1 us2 : List (Nat × RuR)} (h : RfI F tx ds es us1 us2) (e : FmY F F') : RfI F' tx ds es us1 us2 := ⟨e.tx h.1, e.dc h.2.1, h.2.2.1, e.rl h.2.2.2.1, e.rl h.2.2.2.2⟩
theorem FmZ.y {F F' : Nat → Nat → Int32} (h : FmZ F F') : FmY F F' := fun j hj => h j (by omega)
theorem is_pc {tx : List Nat} {fi en : Nat} {F : Nat → Nat → Int32} (ht : TxA F tx) (hen : en ≤ tx.length) (hf : fi ≤ en) {w : List Nat} {c : Int64} (hw : w.length ≤ 8) (hc : ∀ x, x ∈ w → 0 < x ∧ x < 256) (e : pkL w = c) : (decide (en - fi ≤ 8) && decide (pkL ((tx.drop fi).take (en - fi)) = c)) = pcI tx fi en w := by
  have hl : ((tx.drop fi).take (en - fi)).length = en - fi := slice_len (by omega)
  have hch : ∀ x, x ∈ (tx.drop fi).take (en - fi) → 0 < x ∧ x < 256 := fun x hx => by
    obtain ⟨i, hi, e1⟩ := List.getElem_of_mem hx
    rw [hl] at hi
    have h4 := slice_getD (ys := tx) (fr := fi) (len := en - fi) (i := i) (by omega) hi
    rw [List.getD_eq_getElem?_getD, List.getElem?_eq_getElem (by rw [hl]; exact hi), Option.getD_some, e1] at h4
    rw [h4]
    exact (ht.2 (fi + i) (by omega)).2
  unfold pcI
  rw [← Bool.decide_and, ← e]
  refine decide_eq_decide.mpr ⟨fun ⟨q1, q2⟩ => (pkL_inj (by omega) hw hch hc).mp q2, fun q => ?_⟩
  have hq := congrArg List.length q
  rw [hl] at hq
  exact ⟨by omega, by rw [q]⟩
theorem rs2_ruA (us : List (Nat × RuR)) (a : Nat) (r : Option RuR) : rs2 (ruA us a r) = (match r with | none => rs2 us | some u => if (rs2 us).length < 8 then rs2 us ++ [u] else rs2 us) := by
  have hl : (rs2 us).length = us.length := List.length_map ..
  cases r with
  | none => rfl
  | some u =>
    show rs2 (if us.length < 8 then us ++ [(a, u)] else us) = if (rs2 us).length < 8 then rs2 us ++ [u] else rs2 us
    rw [hl]
    split
    · exact List.map_append
    · rfl
set_option maxRecDepth 20000 in
set_option maxHeartbeats 4000000 in
theorem c_Md_line (l : Launch) (G : GG) {ds : List (List Nat × Nat)} {es : List (Nat × List Nat × Nat)} {us1 us2 : List (Nat × RuR)} {tx : List Nat} {a : Nat} {g : GH} {B : Nat → Nat} {cd ty fr tt fi en mk wd : Nat} {F : Nat → Nat → Int32} {o : List Nat × Nat} (h : Md G g B (mS cd ty ds.length fr tt en fi en 0 mk wd) F o) (hI2 : RfI F tx ds es us1 us2) (hb : SDb es us1 us2) (hfe : fi < en) (het : en ≤ tt) (hto : tt ≤ tx.length) (hfr : fr ≤ fi) : gMet l G y_Md_line b_Md_line 2 none (rmk 4 0 0 103) [.ref (B 0)] g (fun v g' => v = none ∧ ∃ ap' fi' en' mk' wd' F' ds', Md G g' B (mS cd ty ds'.length fr tt ap' fi' en' (if (lnC a es us1 us2 tx o tt fi en).1 = true then 0 else (lnC a es us1 us2 tx o tt fi en).2.1 - fr + 1) mk' wd') F' (lnC a es us1 us2 tx o tt fi en).2.2.2.2.2 ∧ RfI F' tx ds' (lnC a es us1 us2 tx o tt fi en).2.2.1 (lnC a es us1 us2 tx o tt fi en).2.2.2.1 (lnC a es us1 us2 tx o tt fi en).2.2.2.2.1 ∧ gh_M MDT g g') := by
  refine gMet.of [some (.ref (B 0)), none] (by decide +kernel) rfl (Nat.le_of_ble_eq_true rfl) rfl (fun X hK hI hE => ?_)
  have mm : gh_M MDT g g := gh_M.rf
  obtain ⟨ht, hD, hPm, hR1, hR2⟩ := hI2
  have hI2 : RfI F tx ds es us1 us2 := ⟨ht, hD, hPm, hR1, hR2⟩
  have htl := ht.1
  have hS : srtL (dws es) := hb.1.1
  have h16 : ∀ x, x ∈ es → x.2.1.length ≤ 16 := hb.2.2.2
  have hl1 : (rs2 us1).length = us1.length := List.length_map ..
  have hl2 : (rs2 us2).length = us2.length := List.length_map ..
  have hel : es.length = ds.length := by rw [hPm.length_eq, es2, List.length_map]
  have hub1 : us1.length ≤ 8 := hb.1.2.2.1
  have hub2 : us2.length ≤ 8 := hb.1.2.2.2.1
  have hu1 := hR1.nd
  have hu2 := hR2.nd
  have hdl := hD.1
  have hn1 := nxS_le (tx := tx) het
  have hn2 := nxE_le (tx := tx) het
  have hm1 := nxS_le (tx := tx) hn2.2
  have hm2 := nxE_le (tx := tx) hn2.2
  obtain ⟨t, htt⟩ : ∃ x, x = (lnC a es us1 us2 tx o tt fi en) := ⟨_, rfl⟩
  rw [← htt] at hE
  unfold lnC at htt
  refine gh_aload_n hK d_Md_line_0 rfl ?_
  refine gh_ldc2 (v := 6579297) hK d_Md_line_1 (gt_in (i := 1259) (by decide +kernel) rfl) ?_
  refine gh_callV (rest := []) [(.long 6579297)] hK (c_Md_is l G h (w := 6579297) ht (by omega) (by omega)) Y_Md_is V_Md_is km_Md_139 h.1 rfl rfl d_Md_line_4 rfl rfl (Nat.le_of_ble_eq_true rfl) ⟨(Nat.le_of_ble_eq_true rfl), (Nat.le_of_ble_eq_true rfl)⟩ ⟨(Nat.le_of_ble_eq_true rfl), (Nat.le_of_ble_eq_true rfl)⟩ (fun v gp_1 hp => ?_)
  obtain ⟨rfl, hgp⟩ := hp
  rw [hgp]
  show gh_W l G _ X g 0 0 [some (.ref (B 0)), none] 7 [.int (nI (bn (decide (en - fi ≤ 8) && decide (pkL ((tx.drop fi).take (en - fi)) = 6579297))))]
  rw [is_pc ht (by omega) (by omega) (w := st_txt.getD 0 []) (by decide) (by decide) (by decide)]
  refine gh_if_eqB hK d_Md_line_7 (tgt := 17) (by decide) (fun z0 => ?_) (fun z0 => ?_)
  rotate_left
  · rw [if_pos z0] at htt
    subst htt
    refine gh_aload_n hK d_Md_line_10 rfl ?_
    refine gh_callV (rest := []) [] hK (c_Md_add l G h (a := a) ht hto het (by omega) hD hS hPm) Y_Md_add V_Md_add km_Md_143 h.1 rfl rfl d_Md_line_11 rfl rfl (Nat.le_of_ble_eq_true rfl) ⟨(Nat.le_of_ble_eq_true rfl), (Nat.le_of_ble_eq_true rfl)⟩ ⟨(Nat.le_of_ble_eq_true rfl), (Nat.le_of_ble_eq_true rfl)⟩ (fun v g_2 hp => ?_)
    obtain ⟨rfl, ap9, fi9, en9, F9, ds9, h9, hD9, hP9, hF9, mx⟩ := hp
    have mm := mm.tr mx
    show gh_W l G _ X g_2 0 0 [some (.ref (B 0)), none] 14 []
    refine gh_goto (tgt := 336) hK d_Md_line_14 (by decide) ?_
    exact gh_vret hK hE d_Md_line_336 (Nat.le_of_ble_eq_true rfl) (Nat.le_of_ble_eq_true rfl) ⟨rfl, _, _, _, _, _, _, _, h9, ⟨hF9.tx ht, hD9, hP9, hF9.rl hR1, hF9.rl hR2⟩, mm⟩
  rw [if_neg (by rw [z0]; decide)] at htt
  refine gh_aload_n hK d_Md_line_17 rfl ?_
  refine gh_ldc2 (v := 1886351972) hK d_Md_line_18 (gt_in (i := 1309) (by decide +kernel) rfl) ?_
  refine gh_callV (rest := []) [(.long 1886351972)] hK (c_Md_is l G h (w := 1886351972) ht (by omega) (by omega)) Y_Md_is V_Md_is km_Md_139 h.1 rfl rfl d_Md_line_21 rfl rfl (Nat.le_of_ble_eq_true rfl) ⟨(Nat.le_of_ble_eq_true rfl), (Nat.le_of_ble_eq_true rfl)⟩ ⟨(Nat.le_of_ble_eq_true rfl), (Nat.le_of_ble_eq_true rfl)⟩ (fun v gp_3 hp => ?_)
  obtain ⟨rfl, hgp⟩ := hp
  rw [hgp]
  show gh_W l G _ X g 0 0 [some (.ref (B 0)), none] 24 [.int (nI (bn (decide (en - fi ≤ 8) && decide (pkL ((tx.drop fi).take (en - fi)) = 1886351972))))]
  rw [is_pc ht (by omega) (by omega) (w := st_txt.getD 4 []) (by decide) (by decide) (by decide)]
  refine gh_if_eqB hK d_Md_line_24 (tgt := 56) (by decide) (fun z4 => ?_) (fun z4 => ?_)
  rotate_left
  · rw [if_pos z4] at htt
    refine gh_aload_n hK d_Md_line_27 rfl ?_
    refine gh_bipush (v := nI 16) hK d_Md_line_28 (by decide) ?_
    refine gh_callV (rest := []) [.int (nI 16)] hK (c_Md_word l G h ht hto het (by omega) (most := 16) (by decide)) Y_Md_word V_Md_word km_Md_148 h.1 rfl rfl d_Md_line_30 rfl rfl (Nat.le_of_ble_eq_true rfl) ⟨(Nat.le_of_ble_eq_true rfl), (Nat.le_of_ble_eq_true rfl)⟩ ⟨(Nat.le_of_ble_eq_true rfl), (Nat.le_of_ble_eq_true rfl)⟩ (fun v g_4 hp => ?_)
    obtain ⟨rfl, h_4, mx⟩ := hp
    have mm := mm.tr mx
    show gh_W l G _ X g_4 0 0 [some (.ref (B 0)), none] 33 [.int (nI (bn (decide ((nxS tx tt en) < (nxE tx tt en)) && alO tx (nxS tx tt en) (nxE tx tt en) 16 false)))]
    have h8 := h_4
    rw [al_wd hn2.1] at h8 ⊢
    refine gh_if_eqB hK d_Md_line_33 (tgt := 336) (by decide) (fun y => ?_) (fun y => ?_)
    · rw [if_neg (by rw [y]; decide)] at h8
      have e8 : (if (nxS tx tt en) < (nxE tx tt en) then (nxS tx tt en) - fr + 1 else tt - fr + 1) = (nxS tx tt en) - fr + 1 := by
        split
        · rfl
        · next q => rw [nx_end het q]
      rw [e8] at h8
      have hO : owO tx 16 tt en = false := by unfold owO; rw [y]; rfl
      have hQ : owS tx 16 tt en = (nxS tx tt en) := by unfold owS; rw [y]; rfl
      simp only [hO, hQ, Bool.false_eq_true, if_false] at htt
      subst htt
      exact gh_vret hK hE d_Md_line_336 (Nat.le_of_ble_eq_true rfl) (Nat.le_of_ble_eq_true rfl) ⟨rfl, _, _, _, _, _, _, _, h8, hI2, mm⟩
    rw [if_pos y] at h8
    have y2 := y
    rw [Bool.and_eq_true, decide_eq_true_iff] at y2
    have hwl : (nxW tx tt en).length = (nxE tx tt en) - (nxS tx tt en) := slice_len (by omega)
    refine gh_aload_n hK d_Md_line_36 rfl ?_
    refine gh_aload_n hK d_Md_line_37 rfl ?_
    refine gh_get (v := .int (nI (nxS tx tt en))) hK d_Md_line_38 in_Md rfl h8.1 17 (by decide) kf_Md_76 rfl rfl ?_
    refine gh_aload_n hK d_Md_line_41 rfl ?_
    refine gh_get (v := .int (nI (nxE tx tt en))) hK d_Md_line_42 in_Md rfl h8.1 18 (by decide) kf_Md_79 rfl rfl ?_
    refine gh_aload_n hK d_Md_line_45 rfl ?_
    refine gh_get (v := .int (nI (nxS tx tt en))) hK d_Md_line_46 in_Md rfl h8.1 17 (by decide) kf_Md_76 rfl rfl ?_
    refine gh_subN hK d_Md_line_49 (by omega) ?_
    rw [← hwl]
    refine gh_callV (rest := []) [.int (nI (nxS tx tt en)), .int (nI ((nxW tx tt en).length))] hK (c_Md_drop l G h8 ht hto hn2.2 (by omega) hD hS hPm (ws := (nxW tx tt en)) (f := (nxS tx tt en)) (ht.sl (s := (nxS tx tt en)) (k := (nxE tx tt en) - (nxS tx tt en)) (by omega)) (by rw [hwl]; omega)) Y_Md_drop V_Md_drop km_Md_151 h8.1 rfl rfl d_Md_line_50 rfl rfl (Nat.le_of_ble_eq_true rfl) ⟨(Nat.le_of_ble_eq_true rfl), (Nat.le_of_ble_eq_true rfl)⟩ ⟨(Nat.le_of_ble_eq_true rfl), (Nat.le_of_ble_eq_true rfl)⟩ (fun v g_5 hp => ?_)
    obtain ⟨rfl, F9, ds9, h9, hD9, hP9, hF9, mx⟩ := hp
    have mm := mm.tr mx
    show gh_W l G _ X g_5 0 0 [some (.ref (B 0)), none] 53 []
    refine gh_goto (tgt := 336) hK d_Md_line_53 (by decide) ?_
    by_cases x : (nxS tx tt (nxE tx tt en)) < (nxE tx tt (nxE tx tt en))
    · have hO : owO tx 16 tt en = false := by unfold owO; rw [y, decide_eq_false (by omega)]; rfl
      have hQ : owS tx 16 tt en = (nxS tx tt (nxE tx tt en)) := by unfold owS; rw [if_pos y]
      simp only [hO, hQ, Bool.false_eq_true, if_false] at htt
      subst htt
      simp only [if_pos x] at h9 hP9
      exact gh_vret hK hE d_Md_line_336 (Nat.le_of_ble_eq_true rfl) (Nat.le_of_ble_eq_true rfl) ⟨rfl, _, _, _, _, _, _, _, h9, ⟨hF9.tx ht, hD9, hP9, hF9.rl hR1, hF9.rl hR2⟩, mm⟩
    · have hO : owO tx 16 tt en = true := by unfold owO; rw [y, decide_eq_true (by omega)]; rfl
      simp only [hO, if_true] at htt
      subst htt
      simp only [if_neg x] at h9 hP9
      exact gh_vret hK hE d_Md_line_336 (Nat.le_of_ble_eq_true rfl) (Nat.le_of_ble_eq_true rfl) ⟨rfl, _, _, _, _, _, _, _, h9, ⟨hF9.tx ht, hD9, hP9, hF9.rl hR1, hF9.rl hR2⟩, mm⟩
  rw [if_neg (by rw [z4]; decide)] at htt
  refine gh_aload_n hK d_Md_line_56 rfl ?_
  refine gh_ldc2 (v := 132394084823664) hK d_Md_line_57 (gt_in (i := 1322) (by decide +kernel) rfl) ?_
  refine gh_callV (rest := []) [(.long 132394084823664)] hK (c_Md_is l G h (w := 132394084823664) ht (by omega) (by omega)) Y_Md_is V_Md_is km_Md_139 h.1 rfl rfl d_Md_line_60 rfl rfl (Nat.le_of_ble_eq_true rfl) ⟨(Nat.le_of_ble_eq_true rfl), (Nat.le_of_ble_eq_true rfl)⟩ ⟨(Nat.le_of_ble_eq_true rfl), (Nat.le_of_ble_eq_true rfl)⟩ (fun v gp_6 hp => ?_)
  obtain ⟨rfl, hgp⟩ := hp
  rw [hgp]
  show gh_W l G _ X g 0 0 [some (.ref (B 0)), none] 63 [.int (nI (bn (decide (en - fi ≤ 8) && decide (pkL ((tx.drop fi).take (en - fi)) = 132394084823664))))]
  rw [is_pc ht (by omega) (by omega) (w := st_txt.getD 6 []) (by decide) (by decide) (by decide)]
  refine gh_if_eqB hK d_Md_line_63 (tgt := 74) (by decide) (fun z6 => ?_) (fun z6 => ?_)
  rotate_left
  · rw [if_pos z6] at htt
    refine gh_aload_n hK d_Md_line_66 rfl ?_
    refine gh_iconst (v := nI 0) hK d_Md_line_67 (by decide) ?_
    refine gh_callV (rest := []) [.int (nI 0)] hK (c_Md_rule l G h (us := rs2 us1) (us' := rs2 us2) ht hto het (by omega) (b := 0) (by decide) hR1 hR2) Y_Md_rule V_Md_rule km_Md_157 h.1 rfl rfl d_Md_line_68 rfl rfl (Nat.le_of_ble_eq_true rfl) ⟨(Nat.le_of_ble_eq_true rfl), (Nat.le_of_ble_eq_true rfl)⟩ ⟨(Nat.le_of_ble_eq_true rfl), (Nat.le_of_ble_eq_true rfl)⟩ (fun v g_7 hp => ?_)
    obtain ⟨rfl, ap9, fi9, en9, F9, h9, hA9, hB9, hF9, mx⟩ := hp
    have mm := mm.tr mx
    show gh_W l G _ X g_7 0 0 [some (.ref (B 0)), none] 71 []
    refine gh_goto (tgt := 336) hK d_Md_line_71 (by decide) ?_
    cases hc : (rdR tx tt en).1 with
    | none =>
      simp only [hc] at h9 hA9 htt
      subst htt
      exact gh_vret hK hE d_Md_line_336 (Nat.le_of_ble_eq_true rfl) (Nat.le_of_ble_eq_true rfl) ⟨rfl, _, _, _, _, _, _, _, h9, ⟨ht.eq (hF9 1 (by decide) (by decide) (by decide) (by decide)), hD.eq (hF9 3 (by decide) (by decide) (by decide) (by decide)) (hF9 4 (by decide) (by decide) (by decide) (by decide)) (hF9 5 (by decide) (by decide) (by decide) (by decide)), hPm, hA9, hB9⟩, mm⟩
    | some u =>
      simp only [hc] at h9 hA9 htt
      have ea := rs2_ruA us1 a (some u)
      dsimp only at ea
      rw [← ea] at hA9
      rw [hl1] at h9
      subst htt
      exact gh_vret hK hE d_Md_line_336 (Nat.le_of_ble_eq_true rfl) (Nat.le_of_ble_eq_true rfl) ⟨rfl, _, _, _, _, _, _, _, h9, ⟨ht.eq (hF9 1 (by decide) (by decide) (by decide) (by decide)), hD.eq (hF9 3 (by decide) (by decide) (by decide) (by decide)) (hF9 4 (by decide) (by decide) (by decide) (by decide)) (hF9 5 (by decide) (by decide) (by decide) (by decide)), hPm, hA9, hB9⟩, mm⟩
  rw [if_neg (by rw [z6]; decide)] at htt
  refine gh_aload_n hK d_Md_line_74 rfl ?_
  refine gh_ldc2 (v := 132394084889971) hK d_Md_line_75 (gt_in (i := 1327) (by decide +kernel) rfl) ?_
  refine gh_callV (rest := []) [(.long 132394084889971)] hK (c_Md_is l G h (w := 132394084889971) ht (by omega) (by omega)) Y_Md_is V_Md_is km_Md_139 h.1 rfl rfl d_Md_line_78 rfl rfl (Nat.le_of_ble_eq_true rfl) ⟨(Nat.le_of_ble_eq_true rfl), (Nat.le_of_ble_eq_true rfl)⟩ ⟨(Nat.le_of_ble_eq_true rfl), (Nat.le_of_ble_eq_true rfl)⟩ (fun v gp_8 hp => ?_)
  obtain ⟨rfl, hgp⟩ := hp
  rw [hgp]
  show gh_W l G _ X g 0 0 [some (.ref (B 0)), none] 81 [.int (nI (bn (decide (en - fi ≤ 8) && decide (pkL ((tx.drop fi).take (en - fi)) = 132394084889971))))]
  rw [is_pc ht (by omega) (by omega) (w := st_txt.getD 8 []) (by decide) (by decide) (by decide)]
  refine gh_if_eqB hK d_Md_line_81 (tgt := 92) (by decide) (fun z8 => ?_) (fun z8 => ?_)
  rotate_left
  · rw [if_pos z8] at htt
    refine gh_aload_n hK d_Md_line_84 rfl ?_
    refine gh_iconst (v := nI 1) hK d_Md_line_85 (by decide) ?_
    refine gh_callV (rest := []) [.int (nI 1)] hK (c_Md_rule l G h (us := rs2 us2) (us' := rs2 us1) ht hto het (by omega) (b := 1) (by decide) hR2 hR1) Y_Md_rule V_Md_rule km_Md_157 h.1 rfl rfl d_Md_line_86 rfl rfl (Nat.le_of_ble_eq_true rfl) ⟨(Nat.le_of_ble_eq_true rfl), (Nat.le_of_ble_eq_true rfl)⟩ ⟨(Nat.le_of_ble_eq_true rfl), (Nat.le_of_ble_eq_true rfl)⟩ (fun v g_9 hp => ?_)
    obtain ⟨rfl, ap9, fi9, en9, F9, h9, hA9, hB9, hF9, mx⟩ := hp
    have mm := mm.tr mx
    show gh_W l G _ X g_9 0 0 [some (.ref (B 0)), none] 89 []
    refine gh_goto (tgt := 336) hK d_Md_line_89 (by decide) ?_
    cases hc : (rdR tx tt en).1 with
    | none =>
      simp only [hc] at h9 hA9 htt
      subst htt
      exact gh_vret hK hE d_Md_line_336 (Nat.le_of_ble_eq_true rfl) (Nat.le_of_ble_eq_true rfl) ⟨rfl, _, _, _, _, _, _, _, h9, ⟨ht.eq (hF9 1 (by decide) (by decide) (by decide) (by decide)), hD.eq (hF9 3 (by decide) (by decide) (by decide) (by decide)) (hF9 4 (by decide) (by decide) (by decide) (by decide)) (hF9 5 (by decide) (by decide) (by decide) (by decide)), hPm, hB9, hA9⟩, mm⟩
    | some u =>
      simp only [hc] at h9 hA9 htt
      have ea := rs2_ruA us2 a (some u)
      dsimp only at ea
      rw [← ea] at hA9
      rw [hl2] at h9
      subst htt
      exact gh_vret hK hE d_Md_line_336 (Nat.le_of_ble_eq_true rfl) (Nat.le_of_ble_eq_true rfl) ⟨rfl, _, _, _, _, _, _, _, h9, ⟨ht.eq (hF9 1 (by decide) (by decide) (by decide) (by decide)), hD.eq (hF9 3 (by decide) (by decide) (by decide) (by decide)) (hF9 4 (by decide) (by decide) (by decide) (by decide)) (hF9 5 (by decide) (by decide) (by decide) (by decide)), hPm, hB9, hA9⟩, mm⟩
  rw [if_neg (by rw [z8]; decide)] at htt
  refine gh_aload_n hK d_Md_line_92 rfl ?_
  refine gh_ldc2 (v := 461229090915) hK d_Md_line_93 (gt_in (i := 1328) (by decide +kernel) rfl) ?_
  refine gh_callV (rest := []) [(.long 461229090915)] hK (c_Md_is l G h (w := 461229090915) ht (by omega) (by omega)) Y_Md_is V_Md_is km_Md_139 h.1 rfl rfl d_Md_line_96 rfl rfl (Nat.le_of_ble_eq_true rfl) ⟨(Nat.le_of_ble_eq_true rfl), (Nat.le_of_ble_eq_true rfl)⟩ ⟨(Nat.le_of_ble_eq_true rfl), (Nat.le_of_ble_eq_true rfl)⟩ (fun v gp_10 hp => ?_)
  obtain ⟨rfl, hgp⟩ := hp
  rw [hgp]
  show gh_W l G _ X g 0 0 [some (.ref (B 0)), none] 99 [.int (nI (bn (decide (en - fi ≤ 8) && decide (pkL ((tx.drop fi).take (en - fi)) = 461229090915))))]
  rw [is_pc ht (by omega) (by omega) (w := st_txt.getD 9 []) (by decide) (by decide) (by decide)]
  refine gh_if_eqB hK d_Md_line_99 (tgt := 109) (by decide) (fun z9 => ?_) (fun z9 => ?_)
  rotate_left
  · rw [if_pos z9] at htt
    refine gh_aload_n hK d_Md_line_102 rfl ?_
    refine gh_callV (rest := []) [] hK (c_Md_check l G h ht hto het (by omega) hD hR1 hR2 (nck := ckN es us1 us2) (fun w => ck_iff hS hPm h16 hu1 hu2)) Y_Md_check V_Md_check km_Md_164 h.1 rfl rfl d_Md_line_103 rfl rfl (Nat.le_of_ble_eq_true rfl) ⟨(Nat.le_of_ble_eq_true rfl), (Nat.le_of_ble_eq_true rfl)⟩ ⟨(Nat.le_of_ble_eq_true rfl), (Nat.le_of_ble_eq_true rfl)⟩ (fun v g_11 hp => ?_)
    obtain ⟨rfl, ap9, fi9, en9, mk9, wd9, F9, h9, hF9, mx⟩ := hp
    have mm := mm.tr mx
    show gh_W l G _ X g_11 0 0 [some (.ref (B 0)), none] 106 []
    refine gh_goto (tgt := 336) hK d_Md_line_106 (by decide) ?_
    cases hc : (ckA tx tt en).1 with
    | none =>
      simp only [hc] at h9
      simp only [hc, Option.isNone_none, if_true] at htt
      subst htt
      exact gh_vret hK hE d_Md_line_336 (Nat.le_of_ble_eq_true rfl) (Nat.le_of_ble_eq_true rfl) ⟨rfl, _, _, _, _, _, _, _, h9, hI2.Y hF9, mm⟩
    | some q =>
      simp only [hc] at h9
      simp only [hc, Option.isNone_some, Bool.false_eq_true, if_false, Option.getD_some] at htt
      subst htt
      exact gh_vret hK hE d_Md_line_336 (Nat.le_of_ble_eq_true rfl) (Nat.le_of_ble_eq_true rfl) ⟨rfl, _, _, _, _, _, _, _, h9, hI2.Y hF9, mm⟩
  rw [if_neg (by rw [z9]; decide)] at htt
  refine gh_aload_n hK d_Md_line_109 rfl ?_
  refine gh_ldc2 (v := 1802465132) hK d_Md_line_110 (gt_in (i := 1355) (by decide +kernel) rfl) ?_
  refine gh_callV (rest := []) [(.long 1802465132)] hK (c_Md_is l G h (w := 1802465132) ht (by omega) (by omega)) Y_Md_is V_Md_is km_Md_139 h.1 rfl rfl d_Md_line_113 rfl rfl (Nat.le_of_ble_eq_true rfl) ⟨(Nat.le_of_ble_eq_true rfl), (Nat.le_of_ble_eq_true rfl)⟩ ⟨(Nat.le_of_ble_eq_true rfl), (Nat.le_of_ble_eq_true rfl)⟩ (fun v gp_12 hp => ?_)
  obtain ⟨rfl, hgp⟩ := hp
  rw [hgp]
  show gh_W l G _ X g 0 0 [some (.ref (B 0)), none] 116 [.int (nI (bn (decide (en - fi ≤ 8) && decide (pkL ((tx.drop fi).take (en - fi)) = 1802465132))))]
  rw [is_pc ht (by omega) (by omega) (w := st_txt.getD 10 []) (by decide) (by decide) (by decide)]
  refine gh_if_eqB hK d_Md_line_116 (tgt := 148) (by decide) (fun z10 => ?_) (fun z10 => ?_)
  rotate_left
  · rw [if_pos z10] at htt
    refine gh_aload_n hK d_Md_line_119 rfl ?_
    refine gh_bipush (v := nI 16) hK d_Md_line_120 (by decide) ?_
    refine gh_callV (rest := []) [.int (nI 16)] hK (c_Md_word l G h ht hto het (by omega) (most := 16) (by decide)) Y_Md_word V_Md_word km_Md_148 h.1 rfl rfl d_Md_line_122 rfl rfl (Nat.le_of_ble_eq_true rfl) ⟨(Nat.le_of_ble_eq_true rfl), (Nat.le_of_ble_eq_true rfl)⟩ ⟨(Nat.le_of_ble_eq_true rfl), (Nat.le_of_ble_eq_true rfl)⟩ (fun v g_13 hp => ?_)
    obtain ⟨rfl, h_13, mx⟩ := hp
    have mm := mm.tr mx
    show gh_W l G _ X g_13 0 0 [some (.ref (B 0)), none] 125 [.int (nI (bn (decide ((nxS tx tt en) < (nxE tx tt en)) && alO tx (nxS tx tt en) (nxE tx tt en) 16 false)))]
    have h8 := h_13
    rw [al_wd hn2.1] at h8 ⊢
    refine gh_if_eqB hK d_Md_line_125 (tgt := 336) (by decide) (fun y => ?_) (fun y => ?_)
    · rw [if_neg (by rw [y]; decide)] at h8
      have e8 : (if (nxS tx tt en) < (nxE tx tt en) then (nxS tx tt en) - fr + 1 else tt - fr + 1) = (nxS tx tt en) - fr + 1 := by
        split
        · rfl
        · next q => rw [nx_end het q]
      rw [e8] at h8
      have hO : owO tx 16 tt en = false := by unfold owO; rw [y]; rfl
      have hQ : owS tx 16 tt en = (nxS tx tt en) := by unfold owS; rw [y]; rfl
      simp only [hO, hQ, Bool.false_eq_true, if_false] at htt
      subst htt
      exact gh_vret hK hE d_Md_line_336 (Nat.le_of_ble_eq_true rfl) (Nat.le_of_ble_eq_true rfl) ⟨rfl, _, _, _, _, _, _, _, h8, hI2, mm⟩
    rw [if_pos y] at h8
    have y2 := y
    rw [Bool.and_eq_true, decide_eq_true_iff] at y2
    have hwl : (nxW tx tt en).length = (nxE tx tt en) - (nxS tx tt en) := slice_len (by omega)
    refine gh_aload_n hK d_Md_line_128 rfl ?_
    refine gh_aload_n hK d_Md_line_129 rfl ?_
    refine gh_get (v := .int (nI (nxS tx tt en))) hK d_Md_line_130 in_Md rfl h8.1 17 (by decide) kf_Md_76 rfl rfl ?_
    refine gh_aload_n hK d_Md_line_133 rfl ?_
    refine gh_get (v := .int (nI (nxE tx tt en))) hK d_Md_line_134 in_Md rfl h8.1 18 (by decide) kf_Md_79 rfl rfl ?_
    refine gh_aload_n hK d_Md_line_137 rfl ?_
    refine gh_get (v := .int (nI (nxS tx tt en))) hK d_Md_line_138 in_Md rfl h8.1 17 (by decide) kf_Md_76 rfl rfl ?_
    refine gh_subN hK d_Md_line_141 (by omega) ?_
    rw [← hwl]
    refine gh_callV (rest := []) [.int (nI (nxS tx tt en)), .int (nI ((nxW tx tt en).length))] hK (c_Md_look l G h8 ht hto hn2.2 (by omega) hD (es2 := es2 es) ⟨by rw [wsD_es2]; exact hS, hPm⟩ (ws := (nxW tx tt en)) (f := (nxS tx tt en)) (ht.sl (s := (nxS tx tt en)) (k := (nxE tx tt en) - (nxS tx tt en)) (by omega)) (by rw [hwl]; omega)) Y_Md_look V_Md_look km_Md_169 h8.1 rfl rfl d_Md_line_142 rfl rfl (Nat.le_of_ble_eq_true rfl) ⟨(Nat.le_of_ble_eq_true rfl), (Nat.le_of_ble_eq_true rfl)⟩ ⟨(Nat.le_of_ble_eq_true rfl), (Nat.le_of_ble_eq_true rfl)⟩ (fun v g_14 hp => ?_)
    obtain ⟨rfl, h9, mx⟩ := hp
    have mm := mm.tr mx
    rw [lk_eq hS] at h9
    show gh_W l G _ X g_14 0 0 [some (.ref (B 0)), none] 145 []
    refine gh_goto (tgt := 336) hK d_Md_line_145 (by decide) ?_
    by_cases x : (nxS tx tt (nxE tx tt en)) < (nxE tx tt (nxE tx tt en))
    · have hO : owO tx 16 tt en = false := by unfold owO; rw [y, decide_eq_false (by omega)]; rfl
      have hQ : owS tx 16 tt en = (nxS tx tt (nxE tx tt en)) := by unfold owS; rw [if_pos y]
      simp only [hO, hQ, Bool.false_eq_true, if_false] at htt
      subst htt
      simp only [if_pos x] at h9
      exact gh_vret hK hE d_Md_line_336 (Nat.le_of_ble_eq_true rfl) (Nat.le_of_ble_eq_true rfl) ⟨rfl, _, _, _, _, _, _, _, h9, hI2, mm⟩
    · have hO : owO tx 16 tt en = true := by unfold owO; rw [y, decide_eq_true (by omega)]; rfl
      simp only [hO, if_true] at htt
      subst htt
      simp only [if_neg x] at h9
      exact gh_vret hK hE d_Md_line_336 (Nat.le_of_ble_eq_true rfl) (Nat.le_of_ble_eq_true rfl) ⟨rfl, _, _, _, _, _, _, _, h9, hI2, mm⟩
  rw [if_neg (by rw [z10]; decide)] at htt
  refine gh_aload_n hK d_Md_line_148 rfl ?_
  refine gh_ldc2 (v := 7956599) hK d_Md_line_149 (gt_in (i := 1368) (by decide +kernel) rfl) ?_
  refine gh_callV (rest := []) [(.long 7956599)] hK (c_Md_is l G h (w := 7956599) ht (by omega) (by omega)) Y_Md_is V_Md_is km_Md_139 h.1 rfl rfl d_Md_line_152 rfl rfl (Nat.le_of_ble_eq_true rfl) ⟨(Nat.le_of_ble_eq_true rfl), (Nat.le_of_ble_eq_true rfl)⟩ ⟨(Nat.le_of_ble_eq_true rfl), (Nat.le_of_ble_eq_true rfl)⟩ (fun v gp_15 hp => ?_)
  obtain ⟨rfl, hgp⟩ := hp
  rw [hgp]
  show gh_W l G _ X g 0 0 [some (.ref (B 0)), none] 155 [.int (nI (bn (decide (en - fi ≤ 8) && decide (pkL ((tx.drop fi).take (en - fi)) = 7956599))))]
  rw [is_pc ht (by omega) (by omega) (w := st_txt.getD 11 []) (by decide) (by decide) (by decide)]
  refine gh_if_eqB hK d_Md_line_155 (tgt := 187) (by decide) (fun z11 => ?_) (fun z11 => ?_)
  rotate_left
  · rw [if_pos z11] at htt
    refine gh_aload_n hK d_Md_line_158 rfl ?_
    refine gh_bipush (v := nI 28) hK d_Md_line_159 (by decide) ?_
    refine gh_callV (rest := []) [.int (nI 28)] hK (c_Md_word l G h ht hto het (by omega) (most := 28) (by decide)) Y_Md_word V_Md_word km_Md_148 h.1 rfl rfl d_Md_line_161 rfl rfl (Nat.le_of_ble_eq_true rfl) ⟨(Nat.le_of_ble_eq_true rfl), (Nat.le_of_ble_eq_true rfl)⟩ ⟨(Nat.le_of_ble_eq_true rfl), (Nat.le_of_ble_eq_true rfl)⟩ (fun v g_16 hp => ?_)
    obtain ⟨rfl, h_16, mx⟩ := hp
    have mm := mm.tr mx
    show gh_W l G _ X g_16 0 0 [some (.ref (B 0)), none] 164 [.int (nI (bn (decide ((nxS tx tt en) < (nxE tx tt en)) && alO tx (nxS tx tt en) (nxE tx tt en) 28 false)))]
    have h8 := h_16
    rw [al_wd hn2.1] at h8 ⊢
    refine gh_if_eqB hK d_Md_line_164 (tgt := 336) (by decide) (fun y => ?_) (fun y => ?_)
    · rw [if_neg (by rw [y]; decide)] at h8
      have e8 : (if (nxS tx tt en) < (nxE tx tt en) then (nxS tx tt en) - fr + 1 else tt - fr + 1) = (nxS tx tt en) - fr + 1 := by
        split
        · rfl
        · next q => rw [nx_end het q]
      rw [e8] at h8
      have hO : owO tx 28 tt en = false := by unfold owO; rw [y]; rfl
      have hQ : owS tx 28 tt en = (nxS tx tt en) := by unfold owS; rw [y]; rfl
      simp only [hO, hQ, Bool.false_eq_true, if_false] at htt
      subst htt
      exact gh_vret hK hE d_Md_line_336 (Nat.le_of_ble_eq_true rfl) (Nat.le_of_ble_eq_true rfl) ⟨rfl, _, _, _, _, _, _, _, h8, hI2, mm⟩
    rw [if_pos y] at h8
    have y2 := y
    rw [Bool.and_eq_true, decide_eq_true_iff] at y2
    have hwl : (nxW tx tt en).length = (nxE tx tt en) - (nxS tx tt en) := slice_len (by omega)
    refine gh_aload_n hK d_Md_line_167 rfl ?_
    refine gh_aload_n hK d_Md_line_168 rfl ?_
    refine gh_get (v := .int (nI (nxS tx tt en))) hK d_Md_line_169 in_Md rfl h8.1 17 (by decide) kf_Md_76 rfl rfl ?_
    refine gh_aload_n hK d_Md_line_172 rfl ?_
    refine gh_get (v := .int (nI (nxE tx tt en))) hK d_Md_line_173 in_Md rfl h8.1 18 (by decide) kf_Md_79 rfl rfl ?_
    refine gh_aload_n hK d_Md_line_176 rfl ?_
    refine gh_get (v := .int (nI (nxS tx tt en))) hK d_Md_line_177 in_Md rfl h8.1 17 (by decide) kf_Md_76 rfl rfl ?_
    refine gh_subN hK d_Md_line_180 (by omega) ?_
    rw [← hwl]
    refine gh_callV (rest := []) [.int (nI (nxS tx tt en)), .int (nI ((nxW tx tt en).length))] hK (c_Md_why l G h8 ht hto hn2.2 (by omega) hD hR1 hR2 (es2 := es2 es) ⟨by rw [wsD_es2]; exact hS, hPm⟩ (ws := (nxW tx tt en)) (f := (nxS tx tt en)) (ht.sl (s := (nxS tx tt en)) (k := (nxE tx tt en) - (nxS tx tt en)) (by omega)) (by rw [hwl]; omega)) Y_Md_why V_Md_why km_Md_174 h8.1 rfl rfl d_Md_line_181 rfl rfl (Nat.le_of_ble_eq_true rfl) ⟨(Nat.le_of_ble_eq_true rfl), (Nat.le_of_ble_eq_true rfl)⟩ ⟨(Nat.le_of_ble_eq_true rfl), (Nat.le_of_ble_eq_true rfl)⟩ (fun v g_17 hp => ?_)
    obtain ⟨rfl, mk9, F9, h9, hF9, mx⟩ := hp
    have mm := mm.tr mx
    rw [why_eq hub1 hub2 hS h16 hu1 hu2] at h9
    show gh_W l G _ X g_17 0 0 [some (.ref (B 0)), none] 184 []
    refine gh_goto (tgt := 336) hK d_Md_line_184 (by decide) ?_
    by_cases x : (nxS tx tt (nxE tx tt en)) < (nxE tx tt (nxE tx tt en))
    · have hO : owO tx 28 tt en = false := by unfold owO; rw [y, decide_eq_false (by omega)]; rfl
      have hQ : owS tx 28 tt en = (nxS tx tt (nxE tx tt en)) := by unfold owS; rw [if_pos y]
      simp only [hO, hQ, Bool.false_eq_true, if_false] at htt
      subst htt
      simp only [if_pos x] at h9
      exact gh_vret hK hE d_Md_line_336 (Nat.le_of_ble_eq_true rfl) (Nat.le_of_ble_eq_true rfl) ⟨rfl, _, _, _, _, _, _, _, h9, hI2.Y hF9.y, mm⟩
    · have hO : owO tx 28 tt en = true := by unfold owO; rw [y, decide_eq_true (by omega)]; rfl
      simp only [hO, if_true] at htt
      subst htt
      simp only [if_neg x] at h9
      exact gh_vret hK hE d_Md_line_336 (Nat.le_of_ble_eq_true rfl) (Nat.le_of_ble_eq_true rfl) ⟨rfl, _, _, _, _, _, _, _, h9, hI2.Y hF9.y, mm⟩
  rw [if_neg (by rw [z11]; decide)] at htt
  refine gh_aload_n hK d_Md_line_187 rfl ?_
  refine gh_ldc2 (v := 495757455206) hK d_Md_line_188 (gt_in (i := 1377) (by decide +kernel) rfl) ?_
  refine gh_callV (rest := []) [(.long 495757455206)] hK (c_Md_is l G h (w := 495757455206) ht (by omega) (by omega)) Y_Md_is V_Md_is km_Md_139 h.1 rfl rfl d_Md_line_191 rfl rfl (Nat.le_of_ble_eq_true rfl) ⟨(Nat.le_of_ble_eq_true rfl), (Nat.le_of_ble_eq_true rfl)⟩ ⟨(Nat.le_of_ble_eq_true rfl), (Nat.le_of_ble_eq_true rfl)⟩ (fun v gp_18 hp => ?_)
  obtain ⟨rfl, hgp⟩ := hp
  rw [hgp]
  show gh_W l G _ X g 0 0 [some (.ref (B 0)), none] 194 [.int (nI (bn (decide (en - fi ≤ 8) && decide (pkL ((tx.drop fi).take (en - fi)) = 495757455206))))]
  rw [is_pc ht (by omega) (by omega) (w := st_txt.getD 15 []) (by decide) (by decide) (by decide)]
  refine gh_if_eqB hK d_Md_line_194 (tgt := 226) (by decide) (fun z15 => ?_) (fun z15 => ?_)
  rotate_left
  · rw [if_pos z15] at htt
    refine gh_aload_n hK d_Md_line_197 rfl ?_
    refine gh_bipush (v := nI 16) hK d_Md_line_198 (by decide) ?_
    refine gh_callV (rest := []) [.int (nI 16)] hK (c_Md_word l G h ht hto het (by omega) (most := 16) (by decide)) Y_Md_word V_Md_word km_Md_148 h.1 rfl rfl d_Md_line_200 rfl rfl (Nat.le_of_ble_eq_true rfl) ⟨(Nat.le_of_ble_eq_true rfl), (Nat.le_of_ble_eq_true rfl)⟩ ⟨(Nat.le_of_ble_eq_true rfl), (Nat.le_of_ble_eq_true rfl)⟩ (fun v g_19 hp => ?_)
    obtain ⟨rfl, h_19, mx⟩ := hp
    have mm := mm.tr mx
    show gh_W l G _ X g_19 0 0 [some (.ref (B 0)), none] 203 [.int (nI (bn (decide ((nxS tx tt en) < (nxE tx tt en)) && alO tx (nxS tx tt en) (nxE tx tt en) 16 false)))]
    have h8 := h_19
    rw [al_wd hn2.1] at h8 ⊢
    refine gh_if_eqB hK d_Md_line_203 (tgt := 336) (by decide) (fun y => ?_) (fun y => ?_)
    · rw [if_neg (by rw [y]; decide)] at h8
      have e8 : (if (nxS tx tt en) < (nxE tx tt en) then (nxS tx tt en) - fr + 1 else tt - fr + 1) = (nxS tx tt en) - fr + 1 := by
        split
        · rfl
        · next q => rw [nx_end het q]
      rw [e8] at h8
      have hO : owO tx 16 tt en = false := by unfold owO; rw [y]; rfl
      have hQ : owS tx 16 tt en = (nxS tx tt en) := by unfold owS; rw [y]; rfl
      simp only [hO, hQ, Bool.false_eq_true, if_false] at htt
      subst htt
      exact gh_vret hK hE d_Md_line_336 (Nat.le_of_ble_eq_true rfl) (Nat.le_of_ble_eq_true rfl) ⟨rfl, _, _, _, _, _, _, _, h8, hI2, mm⟩
    rw [if_pos y] at h8
    have y2 := y
    rw [Bool.and_eq_true, decide_eq_true_iff] at y2
    have hwl : (nxW tx tt en).length = (nxE tx tt en) - (nxS tx tt en) := slice_len (by omega)
    refine gh_aload_n hK d_Md_line_206 rfl ?_
    refine gh_aload_n hK d_Md_line_207 rfl ?_
    refine gh_get (v := .int (nI (nxS tx tt en))) hK d_Md_line_208 in_Md rfl h8.1 17 (by decide) kf_Md_76 rfl rfl ?_
    refine gh_aload_n hK d_Md_line_211 rfl ?_
    refine gh_get (v := .int (nI (nxE tx tt en))) hK d_Md_line_212 in_Md rfl h8.1 18 (by decide) kf_Md_79 rfl rfl ?_
    refine gh_aload_n hK d_Md_line_215 rfl ?_
    refine gh_get (v := .int (nI (nxS tx tt en))) hK d_Md_line_216 in_Md rfl h8.1 17 (by decide) kf_Md_76 rfl rfl ?_
    refine gh_subN hK d_Md_line_219 (by omega) ?_
    rw [← hwl]
    refine gh_callV (rest := []) [.int (nI (nxS tx tt en)), .int (nI ((nxW tx tt en).length))] hK (c_Md_formsOf l G h8 ht hto hn2.2 (by omega) hD hR1 hR2 (ws := (nxW tx tt en)) (f := (nxS tx tt en)) (ht.sl (s := (nxS tx tt en)) (k := (nxE tx tt en) - (nxS tx tt en)) (by omega)) (by rw [hwl]; omega) (ss := frW es us1 us2 (nxW tx tt en)) frW_srt (frX_yes hS hPm) (frX_no hS hPm)) Y_Md_formsOf V_Md_formsOf km_Md_179 h8.1 rfl rfl d_Md_line_220 rfl rfl (Nat.le_of_ble_eq_true rfl) ⟨(Nat.le_of_ble_eq_true rfl), (Nat.le_of_ble_eq_true rfl)⟩ ⟨(Nat.le_of_ble_eq_true rfl), (Nat.le_of_ble_eq_true rfl)⟩ (fun v g_20 hp => ?_)
    obtain ⟨rfl, mk9, wd9, F9, h9, hF9, mx⟩ := hp
    have mm := mm.tr mx
    show gh_W l G _ X g_20 0 0 [some (.ref (B 0)), none] 223 []
    refine gh_goto (tgt := 336) hK d_Md_line_223 (by decide) ?_
    by_cases x : (nxS tx tt (nxE tx tt en)) < (nxE tx tt (nxE tx tt en))
    · have hO : owO tx 16 tt en = false := by unfold owO; rw [y, decide_eq_false (by omega)]; rfl
      have hQ : owS tx 16 tt en = (nxS tx tt (nxE tx tt en)) := by unfold owS; rw [if_pos y]
      simp only [hO, hQ, Bool.false_eq_true, if_false] at htt
      subst htt
      simp only [if_pos x] at h9
      exact gh_vret hK hE d_Md_line_336 (Nat.le_of_ble_eq_true rfl) (Nat.le_of_ble_eq_true rfl) ⟨rfl, _, _, _, _, _, _, _, h9, hI2.Y hF9, mm⟩
    · have hO : owO tx 16 tt en = true := by unfold owO; rw [y, decide_eq_true (by omega)]; rfl
      simp only [hO, if_true] at htt
      subst htt
      simp only [if_neg x] at h9
      exact gh_vret hK hE d_Md_line_336 (Nat.le_of_ble_eq_true rfl) (Nat.le_of_ble_eq_true rfl) ⟨rfl, _, _, _, _, _, _, _, h9, hI2.Y hF9, mm⟩
  rw [if_neg (by rw [z15]; decide)] at htt
  refine gh_aload_n hK d_Md_line_226 rfl ?_
  refine gh_ldc2 (v := 500069396323) hK d_Md_line_227 (gt_in (i := 1382) (by decide +kernel) rfl) ?_
  refine gh_callV (rest := []) [(.long 500069396323)] hK (c_Md_is l G h (w := 500069396323) ht (by omega) (by omega)) Y_Md_is V_Md_is km_Md_139 h.1 rfl rfl d_Md_line_230 rfl rfl (Nat.le_of_ble_eq_true rfl) ⟨(Nat.le_of_ble_eq_true rfl), (Nat.le_of_ble_eq_true rfl)⟩ ⟨(Nat.le_of_ble_eq_true rfl), (Nat.le_of_ble_eq_true rfl)⟩ (fun v gp_21 hp => ?_)
  obtain ⟨rfl, hgp⟩ := hp
  rw [hgp]
  show gh_W l G _ X g 0 0 [some (.ref (B 0)), none] 233 [.int (nI (bn (decide (en - fi ≤ 8) && decide (pkL ((tx.drop fi).take (en - fi)) = 500069396323))))]
  rw [is_pc ht (by omega) (by omega) (w := st_txt.getD 16 []) (by decide) (by decide) (by decide)]
  refine gh_if_eqB hK d_Md_line_233 (tgt := 287) (by decide) (fun z16 => ?_) (fun z16 => ?_)
  rotate_left
  · rw [if_pos z16] at htt
    refine gh_aload_n hK d_Md_line_236 rfl ?_
    refine gh_callV (rest := []) [] hK (c_Md_mustEnd l G h ht hto het (by omega)) Y_Md_mustEnd V_Md_mustEnd km_Md_184 h.1 rfl rfl d_Md_line_237 rfl rfl (Nat.le_of_ble_eq_true rfl) ⟨(Nat.le_of_ble_eq_true rfl), (Nat.le_of_ble_eq_true rfl)⟩ ⟨(Nat.le_of_ble_eq_true rfl), (Nat.le_of_ble_eq_true rfl)⟩ (fun v g_22 hp => ?_)
    obtain ⟨rfl, h_22, mx⟩ := hp
    have mm := mm.tr mx
    show gh_W l G _ X g_22 0 0 [some (.ref (B 0)), none] 240 [.int (nI (bn (decide ((nxE tx tt en) ≤ (nxS tx tt en)))))]
    have h8 := h_22
    refine gh_if_neB hK d_Md_line_240 (tgt := 244) (by decide) (fun y => ?_) (fun y => ?_)
    rotate_left
    · have y2 := of_decide_eq_false y
      rw [if_pos (by omega)] at h8
      simp only [y, Bool.false_eq_true, if_false] at htt
      subst htt
      exact gh_vret hK hE d_Md_line_243 (Nat.le_of_ble_eq_true rfl) (Nat.le_of_ble_eq_true rfl) ⟨rfl, _, _, _, _, _, _, _, h8, hI2, mm⟩
    have y2 := of_decide_eq_true y
    rw [if_neg (by omega)] at h8
    simp only [y, if_true] at htt
    subst htt
    refine gh_aload_n hK d_Md_line_244 rfl ?_
    refine gh_aload_n hK d_Md_line_245 rfl ?_
    refine gh_get (v := .int (nI ds.length)) hK d_Md_line_246 in_Md rfl h8.1 6 (by decide) kf_Md_106 rfl rfl ?_
    refine gh_callV (rest := []) [.int (nI ds.length)] hK (c_Md_putNumber l G h8 (x := ds.length) (by omega)) Y_Md_putNumber V_Md_putNumber km_Md_134 h8.1 rfl rfl d_Md_line_249 rfl rfl (Nat.le_of_ble_eq_true rfl) ⟨(Nat.le_of_ble_eq_true rfl), (Nat.le_of_ble_eq_true rfl)⟩ ⟨(Nat.le_of_ble_eq_true rfl), (Nat.le_of_ble_eq_true rfl)⟩ (fun v g_23 hp => ?_)
    obtain ⟨rfl, h_23, mx⟩ := hp
    have mm := mm.tr mx
    show gh_W l G _ X g_23 0 0 [some (.ref (B 0)), none] 252 []
    refine gh_aload_n hK d_Md_line_252 rfl ?_
    refine gh_bipush (v := nI 32) hK d_Md_line_253 (by decide) ?_
    refine gh_callV (rest := []) [.int (nI 32)] hK (c_Md_put l G h_23 (c := 32) (by decide)) Y_Md_put V_Md_put km_Md_66 h_23.1 rfl rfl d_Md_line_255 rfl rfl (Nat.le_of_ble_eq_true rfl) ⟨(Nat.le_of_ble_eq_true rfl), (Nat.le_of_ble_eq_true rfl)⟩ ⟨(Nat.le_of_ble_eq_true rfl), (Nat.le_of_ble_eq_true rfl)⟩ (fun v g_24 hp => ?_)
    obtain ⟨rfl, h_24, mx⟩ := hp
    have mm := mm.tr mx
    show gh_W l G _ X g_24 0 0 [some (.ref (B 0)), none] 258 []
    refine gh_aload_n hK d_Md_line_258 rfl ?_
    refine gh_aload_n hK d_Md_line_259 rfl ?_
    refine gh_get (v := .ref (B 6)) hK d_Md_line_260 in_Md rfl h_24.1 10 (by decide) kf_Md_25 rfl rfl ?_
    refine gh_iconst (v := nI 0) hK d_Md_line_263 (by decide) ?_
    refine gh_mald hK d_Md_line_264 h_24 6 (by decide) (i := 0) (x := (nI ((rs2 us1).length))) (by show 0 < 2; omega) hR1.2.1 ?_
    refine gh_callV (rest := []) [.int (nI ((rs2 us1).length))] hK (c_Md_putNumber l G h_24 (x := (rs2 us1).length) (by omega)) Y_Md_putNumber V_Md_putNumber km_Md_134 h_24.1 rfl rfl d_Md_line_265 rfl rfl (Nat.le_of_ble_eq_true rfl) ⟨(Nat.le_of_ble_eq_true rfl), (Nat.le_of_ble_eq_true rfl)⟩ ⟨(Nat.le_of_ble_eq_true rfl), (Nat.le_of_ble_eq_true rfl)⟩ (fun v g_25 hp => ?_)
    obtain ⟨rfl, h_25, mx⟩ := hp
    have mm := mm.tr mx
    show gh_W l G _ X g_25 0 0 [some (.ref (B 0)), none] 268 []
    refine gh_aload_n hK d_Md_line_268 rfl ?_
    refine gh_bipush (v := nI 32) hK d_Md_line_269 (by decide) ?_
    refine gh_callV (rest := []) [.int (nI 32)] hK (c_Md_put l G h_25 (c := 32) (by decide)) Y_Md_put V_Md_put km_Md_66 h_25.1 rfl rfl d_Md_line_271 rfl rfl (Nat.le_of_ble_eq_true rfl) ⟨(Nat.le_of_ble_eq_true rfl), (Nat.le_of_ble_eq_true rfl)⟩ ⟨(Nat.le_of_ble_eq_true rfl), (Nat.le_of_ble_eq_true rfl)⟩ (fun v g_26 hp => ?_)
    obtain ⟨rfl, h_26, mx⟩ := hp
    have mm := mm.tr mx
    show gh_W l G _ X g_26 0 0 [some (.ref (B 0)), none] 274 []
    refine gh_aload_n hK d_Md_line_274 rfl ?_
    refine gh_aload_n hK d_Md_line_275 rfl ?_
    refine gh_get (v := .ref (B 6)) hK d_Md_line_276 in_Md rfl h_26.1 10 (by decide) kf_Md_25 rfl rfl ?_
    refine gh_iconst (v := nI 1) hK d_Md_line_279 (by decide) ?_
    refine gh_mald hK d_Md_line_280 h_26 6 (by decide) (i := 1) (x := (nI ((rs2 us2).length))) (by show 1 < 2; omega) hR2.2.1 ?_
    refine gh_callV (rest := []) [.int (nI ((rs2 us2).length))] hK (c_Md_putNumber l G h_26 (x := (rs2 us2).length) (by omega)) Y_Md_putNumber V_Md_putNumber km_Md_134 h_26.1 rfl rfl d_Md_line_281 rfl rfl (Nat.le_of_ble_eq_true rfl) ⟨(Nat.le_of_ble_eq_true rfl), (Nat.le_of_ble_eq_true rfl)⟩ ⟨(Nat.le_of_ble_eq_true rfl), (Nat.le_of_ble_eq_true rfl)⟩ (fun v g_27 hp => ?_)
    obtain ⟨rfl, h_27, mx⟩ := hp
    have mm := mm.tr mx
    show gh_W l G _ X g_27 0 0 [some (.ref (B 0)), none] 284 []
    refine gh_goto (tgt := 336) hK d_Md_line_284 (by decide) ?_
    have h9 := h_27
    rw [hl1, hl2, ← hel] at h9
    have e9 : prs o (decL es.length ++ 32 :: (decL us1.length ++ 32 :: decL us2.length)) = prs (prt (prs (prt (prs o (decL es.length)) 32) (decL us1.length)) 32) (decL us2.length) := by rw [prs_app, prs_cons, prs_app, prs_cons]
    rw [← e9] at h9
    skip
    exact gh_vret hK hE d_Md_line_336 (Nat.le_of_ble_eq_true rfl) (Nat.le_of_ble_eq_true rfl) ⟨rfl, _, _, _, _, _, _, ds, by rw [← hel]; exact h9, hI2, mm⟩
  rw [if_neg (by rw [z16]; decide)] at htt
  refine gh_aload_n hK d_Md_line_287 rfl ?_
  refine gh_ldc2 (v := 491260308579) hK d_Md_line_288 (gt_in (i := 1383) (by decide +kernel) rfl) ?_
  refine gh_callV (rest := []) [(.long 491260308579)] hK (c_Md_is l G h (w := 491260308579) ht (by omega) (by omega)) Y_Md_is V_Md_is km_Md_139 h.1 rfl rfl d_Md_line_291 rfl rfl (Nat.le_of_ble_eq_true rfl) ⟨(Nat.le_of_ble_eq_true rfl), (Nat.le_of_ble_eq_true rfl)⟩ ⟨(Nat.le_of_ble_eq_true rfl), (Nat.le_of_ble_eq_true rfl)⟩ (fun v gp_28 hp => ?_)
  obtain ⟨rfl, hgp⟩ := hp
  rw [hgp]
  show gh_W l G _ X g 0 0 [some (.ref (B 0)), none] 294 [.int (nI (bn (decide (en - fi ≤ 8) && decide (pkL ((tx.drop fi).take (en - fi)) = 491260308579))))]
  rw [is_pc ht (by omega) (by omega) (w := st_txt.getD 17 []) (by decide) (by decide) (by decide)]
  refine gh_if_eqB hK d_Md_line_294 (tgt := 331) (by decide) (fun z17 => ?_) (fun z17 => ?_)
  rotate_left
  · rw [if_pos z17] at htt
    refine gh_aload_n hK d_Md_line_297 rfl ?_
    refine gh_callV (rest := []) [] hK (c_Md_mustEnd l G h ht hto het (by omega)) Y_Md_mustEnd V_Md_mustEnd km_Md_184 h.1 rfl rfl d_Md_line_298 rfl rfl (Nat.le_of_ble_eq_true rfl) ⟨(Nat.le_of_ble_eq_true rfl), (Nat.le_of_ble_eq_true rfl)⟩ ⟨(Nat.le_of_ble_eq_true rfl), (Nat.le_of_ble_eq_true rfl)⟩ (fun v g_29 hp => ?_)
    obtain ⟨rfl, h_29, mx⟩ := hp
    have mm := mm.tr mx
    show gh_W l G _ X g_29 0 0 [some (.ref (B 0)), none] 301 [.int (nI (bn (decide ((nxE tx tt en) ≤ (nxS tx tt en)))))]
    have h8 := h_29
    refine gh_if_neB hK d_Md_line_301 (tgt := 305) (by decide) (fun y => ?_) (fun y => ?_)
    rotate_left
    · have y2 := of_decide_eq_false y
      rw [if_pos (by omega)] at h8
      simp only [y, Bool.false_eq_true, if_false] at htt
      subst htt
      exact gh_vret hK hE d_Md_line_304 (Nat.le_of_ble_eq_true rfl) (Nat.le_of_ble_eq_true rfl) ⟨rfl, _, _, _, _, _, _, _, h8, hI2, mm⟩
    have y2 := of_decide_eq_true y
    rw [if_neg (by omega)] at h8
    simp only [y, if_true] at htt
    subst htt
    refine gh_aload_n hK d_Md_line_305 rfl ?_
    refine gh_iconst (v := nI 0) hK d_Md_line_306 (by decide) ?_
    refine gh_mput hK d_Md_line_307 h8 6 (mS cd ty 0 fr tt (nxE tx tt en) (nxS tx tt en) (nxE tx tt en) 0 mk wd) rfl (by decide) kf_Md_106 rfl rfl rfl rfl (by decide) (fun g_30 h_30 mx => ?_)
    have mm := mm.tr mx
    show gh_W l G _ X g_30 0 0 [some (.ref (B 0)), none] 310 []
    refine gh_aload_n hK d_Md_line_310 rfl ?_
    refine gh_get (v := .ref (B 6)) hK d_Md_line_311 in_Md rfl h_30.1 10 (by decide) kf_Md_25 rfl rfl ?_
    refine gh_iconst (v := nI 0) hK d_Md_line_314 (by decide) ?_
    refine gh_iconst (v := nI 0) hK d_Md_line_315 (by decide) ?_
    refine gh_mast hK d_Md_line_316 h_30 6 (by decide) (i := 0) (by show 0 < 2; omega) (fun g_31 h_31 mx => ?_)
    have mm := mm.tr mx
    show gh_W l G _ X g_31 0 0 [some (.ref (B 0)), none] 317 []
    refine gh_aload_n hK d_Md_line_317 rfl ?_
    refine gh_get (v := .ref (B 6)) hK d_Md_line_318 in_Md rfl h_31.1 10 (by decide) kf_Md_25 rfl rfl ?_
    refine gh_iconst (v := nI 1) hK d_Md_line_321 (by decide) ?_
    refine gh_iconst (v := nI 0) hK d_Md_line_322 (by decide) ?_
    refine gh_mast hK d_Md_line_323 h_31 6 (by decide) (i := 1) (by show 1 < 2; omega) (fun g_32 h_32 mx => ?_)
    have mm := mm.tr mx
    show gh_W l G _ X g_32 0 0 [some (.ref (B 0)), none] 324 []
    refine gh_aload_n hK d_Md_line_324 rfl ?_
    refine gh_callV (rest := []) [] hK (c_Md_ok l G h_32) Y_Md_ok V_Md_ok km_Md_189 h_32.1 rfl rfl d_Md_line_325 rfl rfl (Nat.le_of_ble_eq_true rfl) ⟨(Nat.le_of_ble_eq_true rfl), (Nat.le_of_ble_eq_true rfl)⟩ ⟨(Nat.le_of_ble_eq_true rfl), (Nat.le_of_ble_eq_true rfl)⟩ (fun v g_33 hp => ?_)
    obtain ⟨rfl, h_33, mx⟩ := hp
    have mm := mm.tr mx
    show gh_W l G _ X g_33 0 0 [some (.ref (B 0)), none] 328 []
    refine gh_goto (tgt := 336) hK d_Md_line_328 (by decide) ?_
    refine gh_vret hK hE d_Md_line_336 (Nat.le_of_ble_eq_true rfl) (Nat.le_of_ble_eq_true rfl) ⟨rfl, _, _, _, _, _, _, [], h_33, ⟨ht.eq (by rw [upF_n (by decide), upF_n (by decide)]), ⟨Nat.zero_le _, fun e x hx => (by cases hx)⟩, List.Perm.refl _, ⟨Nat.zero_le _, ?_, fun j u hu => (by cases hu)⟩, ⟨Nat.zero_le _, ?_, fun j u hu => (by cases hu)⟩⟩, mm⟩
    · rw [upF_s, pk_un (by decide), upF_s, pk_us]; rfl
    · rw [upF_s, pk_us]; rfl
  rw [if_neg (by rw [z17]; decide)] at htt
  subst htt
  refine gh_aload_n hK d_Md_line_331 rfl ?_
  refine gh_callV (rest := []) [] hK (c_Md_refuse l G h (by omega)) Y_Md_refuse V_Md_refuse km_Md_92 h.1 rfl rfl d_Md_line_332 rfl rfl (Nat.le_of_ble_eq_true rfl) ⟨(Nat.le_of_ble_eq_true rfl), (Nat.le_of_ble_eq_true rfl)⟩ ⟨(Nat.le_of_ble_eq_true rfl), (Nat.le_of_ble_eq_true rfl)⟩ (fun v g_34 hp => ?_)
  obtain ⟨rfl, h_34, mx⟩ := hp
  have mm := mm.tr mx
  show gh_W l G _ X g_34 0 0 [some (.ref (B 0)), none] 335 [.int (nI 0)]
  refine gh_istore_n (lv' := [some (.ref (B 0)), some (.int (nI 0))]) hK d_Md_line_335 (Nat.le_of_ble_eq_true rfl) rfl ?_
  exact gh_vret hK hE d_Md_line_336 (Nat.le_of_ble_eq_true rfl) (Nat.le_of_ble_eq_true rfl) ⟨rfl, _, _, _, _, _, _, _, h_34, hI2, mm⟩
