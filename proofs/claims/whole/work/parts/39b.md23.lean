/-! THE LINES of the reference are those of the class -/
def lnT (tx : List Nat) (st : Nat) : Nat := sc (fun i => decide (tx.getD i 0 ≠ 10)) tx.length st
theorem lns_go {tx : List Nat} {st : Nat} (hst : st < tx.length) : ∀ (m i : Nat), i + m = lnT tx st → st ≤ i → lnsG tx (tx.length - i) i st = (st, lnT tx st) :: lnsG tx (tx.length - (lnT tx st + 1)) (lnT tx st + 1) (lnT tx st + 1)
  | 0, i, hi, hs => by
    have hle : lnT tx st ≤ tx.length := sc_le (by omega)
    have hi2 : i = lnT tx st := by omega
    subst hi2
    by_cases z : lnT tx st < tx.length
    · have h10 : tx.getD (lnT tx st) 0 = 10 := by
        have := sc_stop (p := fun i => decide (tx.getD i 0 ≠ 10)) (e := tx.length) (i := st) z (by omega)
        simpa [lnT] using this
      rw [show tx.length - lnT tx st = (tx.length - (lnT tx st + 1)) + 1 by omega, lnsG, if_pos h10]
    · rw [show tx.length - lnT tx st = 0 by omega, show tx.length - (lnT tx st + 1) = 0 by omega, lnsG, lnsG, if_pos (by omega), if_neg (by omega)]
  | m + 1, i, hi, hs => by
    have hle : lnT tx st ≤ tx.length := sc_le (by omega)
    have hp := sc_all (p := fun i => decide (tx.getD i 0 ≠ 10)) (e := tx.length) (i := st) (j := i) hs (by show i < lnT tx st; omega)
    rw [show tx.length - i = (tx.length - (i + 1)) + 1 by omega, lnsG, if_neg (of_decide_eq_true hp)]
    exact lns_go hst m (i + 1) (by omega) (by omega)
theorem lns_step {tx : List Nat} {st : Nat} (hst : st < tx.length) : lnsG tx (tx.length - st) st st = (st, lnT tx st) :: lnsG tx (tx.length - (lnT tx st + 1)) (lnT tx st + 1) (lnT tx st + 1) := lns_go hst (lnT tx st - st) st (by have := sc_ge (fun i => decide (tx.getD i 0 ≠ 10)) tx.length st; unfold lnT; omega) (Nat.le_refl _)
theorem lns_end {tx : List Nat} {st : Nat} (hst : tx.length ≤ st) : lnsG tx (tx.length - st) st st = [] := by
  rw [show tx.length - st = 0 by omega, lnsG, if_neg (by omega)]
theorem lnC_in {a : Nat} {es : List (Nat × List Nat × Nat)} {us1 us2 : List (Nat × RuR)} {tx : List Nat} {o : List Nat × Nat} {le s e : Nat} (hs : s ≤ e) (he : e ≤ le) (h : (lnC a es us1 us2 tx o le s e).1 = false) : (lnC a es us1 us2 tx o le s e).2.1 ≤ le := by
  have n1 := nxS_le (tx := tx) he
  unfold lnC at h ⊢
  by_cases z0 : pcI tx s e (st_txt.getD 0 []) = true
  · rw [if_pos z0]; exact (adQ_in he).2
  rw [if_neg z0] at h ⊢
  by_cases z4 : pcI tx s e (st_txt.getD 4 []) = true
  · rw [if_pos z4]; exact (owS_in he).2
  rw [if_neg z4] at h ⊢
  by_cases z6 : pcI tx s e (st_txt.getD 6 []) = true
  · rw [if_pos z6]; exact (rdR_in he).2
  rw [if_neg z6] at h ⊢
  by_cases z8 : pcI tx s e (st_txt.getD 8 []) = true
  · rw [if_pos z8]; exact (rdR_in he).2
  rw [if_neg z8] at h ⊢
  by_cases z9 : pcI tx s e (st_txt.getD 9 []) = true
  · rw [if_pos z9] at h ⊢
    dsimp only at h ⊢
    cases hc : (ckA tx le e).1 with
    | none => rw [hc] at h; cases h
    | some q => exact (ckA_in he hc).2
  rw [if_neg z9] at h ⊢
  by_cases z10 : pcI tx s e (st_txt.getD 10 []) = true
  · rw [if_pos z10]; exact (owS_in he).2
  rw [if_neg z10] at h ⊢
  by_cases z11 : pcI tx s e (st_txt.getD 11 []) = true
  · rw [if_pos z11]; exact (owS_in he).2
  rw [if_neg z11] at h ⊢
  by_cases z15 : pcI tx s e (st_txt.getD 15 []) = true
  · rw [if_pos z15]; exact (owS_in he).2
  rw [if_neg z15] at h ⊢
  by_cases z16 : pcI tx s e (st_txt.getD 16 []) = true
  · rw [if_pos z16]; exact n1.2
  rw [if_neg z16] at h ⊢
  by_cases z17 : pcI tx s e (st_txt.getD 17 []) = true
  · rw [if_pos z17]; exact n1.2
  rw [if_neg z17] at h ⊢
  show s ≤ le
  omega
set_option maxRecDepth 20000 in
set_option maxHeartbeats 4000000 in
theorem c_Md_run (l : Launch) (G : GG) {ds : List (List Nat × Nat)} {es : List (Nat × List Nat × Nat)} {us1 us2 : List (Nat × RuR)} {tx : List Nat} {t : DkS} {g : GH} {B : Nat → Nat} {cd fr tt ap fi en wr mk wd : Nat} {F : Nat → Nat → Int32} {o : List Nat × Nat} (h : Md G g B (mS cd tx.length ds.length fr tt ap fi en wr mk wd) F o) (hI2 : RfI F tx ds es us1 us2) (hr : rnS tx (lnsG tx tx.length 0 0) (es, us1, us2, o) t) : gMet l G y_Md_run b_Md_run 2 (some .int) (rmk 5 0 0 124) [.ref (B 0)] g (fun v g' => v = some (.int (nI (lnsG tx tx.length 0 0).length)) ∧ ∃ fr' tt' ap' fi' en' wr' mk' wd' F' ds', Md G g' B (mS 0 0 ds'.length fr' tt' ap' fi' en' wr' mk' wd') F' t.2.2.2 ∧ RfI F' [] ds' t.1 t.2.1 t.2.2.1 ∧ gh_M MDT g g') := by
  refine gMet.of [some (.ref (B 0)), none] (by decide +kernel) rfl (Nat.le_of_ble_eq_true rfl) rfl (fun X hK hI hE => ?_)
  have mm : gh_M MDT g g := gh_M.rf
  have htl := hI2.1.1
  have lp : ∀ (k c st : Nat) (s : DkS) (dd : List (List Nat × Nat)) (g1 : GH) (F1 : Nat → Nat → Int32) (t1 a1 f1 e1 w1 m1 x1 : Nat) (h : Md G g1 B (mS 0 tx.length dd.length st t1 a1 f1 e1 w1 m1 x1) F1 s.2.2.2) (hI : RfI F1 tx dd s.1 s.2.1 s.2.2.1) (mm : gh_M MDT g g1), tx.length + 1 - st ≤ k → st ≤ tx.length + 1 → rnS tx (lnsG tx (tx.length - st) st st) s t → c + (lnsG tx (tx.length - st) st st).length = (lnsG tx tx.length 0 0).length → gh_W l G (rmk 5 0 0 124) X g1 0 0 [some (.ref (B 0)), some (.int (nI c))] 12 [] := by
    intro k
    induction k with
    | zero =>
      intro c st s dd g1 F1 t1 a1 f1 e1 w1 m1 x1 h hI mm hk hst hrs hc
      have hst2 : st = tx.length + 1 := by omega
      rw [lns_end (by omega)] at hrs hc
      have hrs : t = s := hrs
      subst hrs
      have hc : c = (lnsG tx tx.length 0 0).length := hc
      subst hc
      refine gh_aload_n hK d_Md_run_12 rfl ?_
      refine gh_get (v := .int (nI st)) hK d_Md_run_13 in_Md rfl h.1 14 (by decide) kf_Md_86 rfl rfl ?_
      refine gh_aload_n hK d_Md_run_16 rfl ?_
      refine gh_get (v := .int (nI tx.length)) hK d_Md_run_17 in_Md rfl h.1 1 (by decide) kf_Md_57 rfl rfl ?_
      refine gh_icmp_geN hK d_Md_run_20 (tgt := 142) (by decide) (by omega) (by omega) (fun _ => ?_) (fun q => by omega)
      refine gh_aload_n hK d_Md_run_142 rfl ?_
      refine gh_iconst (v := nI 0) hK d_Md_run_143 (by decide) ?_
      refine gh_mput hK d_Md_run_144 h 1 (mS 0 0 dd.length st t1 a1 f1 e1 w1 m1 x1) rfl (by decide) kf_Md_57 rfl rfl rfl rfl (by decide) (fun g_1 h_1 mx => ?_)
      have mm := mm.tr mx
      show gh_W l G _ X g_1 0 0 [some (.ref (B 0)), some (.int (nI ((lnsG tx tx.length 0 0).length)))] 147 []
      refine gh_iload_n hK d_Md_run_147 rfl ?_
      exact gh_iret hK hE d_Md_run_148 (Nat.le_of_ble_eq_true rfl) (Nat.le_of_ble_eq_true rfl) ⟨rfl, _, _, _, _, _, _, _, _, _, _, h_1, ⟨⟨Nat.zero_le _, fun i hi => absurd hi (Nat.not_lt_zero _)⟩, hI.2⟩, mm⟩
    | succ k ih =>
      intro c st s dd g1 F1 t1 a1 f1 e1 w1 m1 x1 h hI mm hk hst hrs hc
      by_cases hend : tx.length ≤ st
      · rw [lns_end hend] at hrs hc
        have hrs : t = s := hrs
        subst hrs
        have hc : c = (lnsG tx tx.length 0 0).length := hc
        subst hc
        refine gh_aload_n hK d_Md_run_12 rfl ?_
        refine gh_get (v := .int (nI st)) hK d_Md_run_13 in_Md rfl h.1 14 (by decide) kf_Md_86 rfl rfl ?_
        refine gh_aload_n hK d_Md_run_16 rfl ?_
        refine gh_get (v := .int (nI tx.length)) hK d_Md_run_17 in_Md rfl h.1 1 (by decide) kf_Md_57 rfl rfl ?_
        refine gh_icmp_geN hK d_Md_run_20 (tgt := 142) (by decide) (by omega) (by omega) (fun _ => ?_) (fun q => by omega)
        refine gh_aload_n hK d_Md_run_142 rfl ?_
        refine gh_iconst (v := nI 0) hK d_Md_run_143 (by decide) ?_
        refine gh_mput hK d_Md_run_144 h 1 (mS 0 0 dd.length st t1 a1 f1 e1 w1 m1 x1) rfl (by decide) kf_Md_57 rfl rfl rfl rfl (by decide) (fun g_1 h_1 mx => ?_)
        have mm := mm.tr mx
        show gh_W l G _ X g_1 0 0 [some (.ref (B 0)), some (.int (nI ((lnsG tx tx.length 0 0).length)))] 147 []
        refine gh_iload_n hK d_Md_run_147 rfl ?_
        exact gh_iret hK hE d_Md_run_148 (Nat.le_of_ble_eq_true rfl) (Nat.le_of_ble_eq_true rfl) ⟨rfl, _, _, _, _, _, _, _, _, _, _, h_1, ⟨⟨Nat.zero_le _, fun i hi => absurd hi (Nat.not_lt_zero _)⟩, hI.2⟩, mm⟩
      have hsl : st < tx.length := by omega
      rw [lns_step hsl] at hrs hc
      rw [List.length_cons] at hc
      obtain ⟨a, hSb, hrs⟩ := hrs
      have hT1 : st ≤ lnT tx st := sc_ge _ _ _
      have hT2 : lnT tx st ≤ tx.length := sc_le (by omega)
      generalize hTX : lnT tx st = TX at *
      obtain ⟨es, us1, us2, o1⟩ := s
      have ht := hI.1
      dsimp only at h hI hSb hrs
      have n1 := nxS_le (tx := tx) hT1
      have n2 := nxE_le (tx := tx) hT1
      have t126 : ∀ (s2 : DkS) (dd : List (List Nat × Nat)) (g1 : GH) (F1 : Nat → Nat → Int32) (a1 f1 e1 w1 m1 x1 : Nat) (h : Md G g1 B (mS 0 tx.length dd.length st TX a1 f1 e1 w1 m1 x1) F1 s2.2.2.2) (hI : RfI F1 tx dd s2.1 s2.2.1 s2.2.2.1) (mm : gh_M MDT g g1), s2 = lnX a es us1 us2 tx o1 st TX → gh_W l G (rmk 5 0 0 124) X g1 0 0 [some (.ref (B 0)), some (.int (nI c))] 126 [] := by
        intro s2 dd g1 F1 a1 f1 e1 w1 m1 x1 h hI mm hs2
        subst hs2
        refine gh_incN (lv' := [some (.ref (B 0)), some (.int (nI (c + 1)))]) hK d_Md_run_126 rfl rfl ?_
        refine gh_aload_n hK d_Md_run_129 rfl ?_
        refine gh_aload_n hK d_Md_run_130 rfl ?_
        refine gh_get (v := .int (nI TX)) hK d_Md_run_131 in_Md rfl h.1 15 (by decide) kf_Md_73 rfl rfl ?_
        refine gh_iconst (v := nI 1) hK d_Md_run_134 (by decide) ?_
        refine gh_addN hK d_Md_run_135 ?_
        refine gh_mput hK d_Md_run_136 h 14 (mS 0 tx.length dd.length (TX + 1) TX a1 f1 e1 w1 m1 x1) rfl (by decide) kf_Md_86 rfl rfl rfl rfl (by decide) (fun g_1 h_1 mx => ?_)
        have mm := mm.tr mx
        show gh_W l G _ X g_1 0 0 [some (.ref (B 0)), some (.int (nI (c + 1)))] 139 []
        refine gh_goto (tgt := 12) hK d_Md_run_139 (by decide) ?_
        exact ih (c + 1) (TX + 1) _ dd g_1 F1 _ _ _ _ _ _ _ h_1 hI mm (by omega) (by omega) hrs (by omega)
      have t120 : ∀ (dd : List (List Nat × Nat)) (g1 : GH) (F1 : Nat → Nat → Int32) (a1 f1 e1 w1 m1 x1 : Nat) (o2 : List Nat × Nat) (h : Md G g1 B (mS 0 tx.length dd.length st TX a1 f1 e1 w1 m1 x1) F1 o2) (hI : RfI F1 tx dd (lnC a es us1 us2 tx o1 TX (nxS tx TX st) (nxE tx TX st)).2.2.1 (lnC a es us1 us2 tx o1 TX (nxS tx TX st) (nxE tx TX st)).2.2.2.1 (lnC a es us1 us2 tx o1 TX (nxS tx TX st) (nxE tx TX st)).2.2.2.2.1) (mm : gh_M MDT g g1), (nxS tx TX st) < (nxE tx TX st) → prt o2 10 = lnO st (lnC a es us1 us2 tx o1 TX (nxS tx TX st) (nxE tx TX st)) → gh_W l G (rmk 5 0 0 124) X g1 0 0 [some (.ref (B 0)), some (.int (nI c))] 120 [] := by
        intro dd g1 F1 a1 f1 e1 w1 m1 x1 o2 h hI mm hse ho
        refine gh_aload_n hK d_Md_run_120 rfl ?_
        refine gh_bipush (v := nI 10) hK d_Md_run_121 (by decide) ?_
        refine gh_callV (rest := []) [.int (nI 10)] hK (c_Md_put l G h (c := 10) (by decide)) Y_Md_put V_Md_put km_Md_66 h.1 rfl rfl d_Md_run_123 rfl rfl (Nat.le_of_ble_eq_true rfl) ⟨(Nat.le_of_ble_eq_true rfl), (Nat.le_of_ble_eq_true rfl)⟩ ⟨(Nat.le_of_ble_eq_true rfl), (Nat.le_of_ble_eq_true rfl)⟩ (fun v g_1 hp => ?_)
        obtain ⟨rfl, h_1, mx⟩ := hp
        have mm := mm.tr mx
        show gh_W l G _ X g_1 0 0 [some (.ref (B 0)), some (.int (nI c))] 126 []
        refine t126 ((lnC a es us1 us2 tx o1 TX (nxS tx TX st) (nxE tx TX st)).2.2.1, (lnC a es us1 us2 tx o1 TX (nxS tx TX st) (nxE tx TX st)).2.2.2.1, (lnC a es us1 us2 tx o1 TX (nxS tx TX st) (nxE tx TX st)).2.2.2.2.1, lnO st (lnC a es us1 us2 tx o1 TX (nxS tx TX st) (nxE tx TX st))) dd g_1 F1 _ _ _ _ _ _ (by rw [← ho]; exact h_1) hI mm ?_
        rw [lnX, if_pos hse]
      have t69 : ∀ (g1 : GH) (h : Md G g1 B (mS 0 tx.length dd.length st TX a1 f1 e1 w1 m1 x1) F1 o1) (mm : gh_M MDT g g1), gh_W l G (rmk 5 0 0 124) X g1 0 0 [some (.ref (B 0)), some (.int (nI c))] 69 [] := by
        intro g1 h mm
        refine gh_aload_n hK d_Md_run_69 rfl ?_
        refine gh_aload_n hK d_Md_run_70 rfl ?_
        refine gh_get (v := .int (nI st)) hK d_Md_run_71 in_Md rfl h.1 14 (by decide) kf_Md_86 rfl rfl ?_
        refine gh_mput hK d_Md_run_74 h 16 (mS 0 tx.length dd.length st TX st f1 e1 w1 m1 x1) rfl (by decide) kf_Md_70 rfl rfl rfl rfl (by decide) (fun g_1 h_1 mx => ?_)
        have mm := mm.tr mx
        show gh_W l G _ X g_1 0 0 [some (.ref (B 0)), some (.int (nI c))] 77 []
        refine gh_aload_n hK d_Md_run_77 rfl ?_
        refine gh_callV (rest := []) [] hK (c_Md_next l G h_1 ht hT2 hT1) Y_Md_next V_Md_next km_Md_82 h_1.1 rfl rfl d_Md_run_78 rfl rfl (Nat.le_of_ble_eq_true rfl) ⟨(Nat.le_of_ble_eq_true rfl), (Nat.le_of_ble_eq_true rfl)⟩ ⟨(Nat.le_of_ble_eq_true rfl), (Nat.le_of_ble_eq_true rfl)⟩ (fun v g_2 hp => ?_)
        obtain ⟨rfl, h_2, mx⟩ := hp
        have mm := mm.tr mx
        show gh_W l G _ X g_2 0 0 [some (.ref (B 0)), some (.int (nI c))] 81 [.int (nI (bn (decide ((nxS tx TX st) < (nxE tx TX st)))))]
        refine gh_if_eqB hK d_Md_run_81 (tgt := 126) (by decide) (fun z => ?_) (fun z => ?_)
        · exact t126 (es, us1, us2, o1) dd g_2 F1 _ _ _ _ _ _ h_2 hI mm (by rw [lnX, if_neg (of_decide_eq_false z)])
        have zz := of_decide_eq_true z
        refine gh_aload_n hK d_Md_run_84 rfl ?_
        refine gh_iconst (v := nI 0) hK d_Md_run_85 (by decide) ?_
        refine gh_mput hK d_Md_run_86 h_2 19 (mS 0 tx.length dd.length st TX (nxE tx TX st) (nxS tx TX st) (nxE tx TX st) 0 m1 x1) rfl (by decide) kf_Md_89 rfl rfl rfl rfl (by decide) (fun g_3 h_3 mx => ?_)
        have mm := mm.tr mx
        show gh_W l G _ X g_3 0 0 [some (.ref (B 0)), some (.int (nI c))] 89 []
        refine gh_aload_n hK d_Md_run_89 rfl ?_
        refine gh_callV (rest := []) [] hK (c_Md_line l G h_3 (a := a) hI hSb zz n2.2 hT2 n1.1) Y_Md_line V_Md_line km_Md_131 h_3.1 rfl rfl d_Md_run_90 rfl rfl (Nat.le_of_ble_eq_true rfl) ⟨(Nat.le_of_ble_eq_true rfl), (Nat.le_of_ble_eq_true rfl)⟩ ⟨(Nat.le_of_ble_eq_true rfl), (Nat.le_of_ble_eq_true rfl)⟩ (fun v g_4 hp => ?_)
        obtain ⟨rfl, ap9, fi9, en9, mk9, wd9, F9, ds9, h9, hI9, mx⟩ := hp
        have mm := mm.tr mx
        show gh_W l G _ X g_4 0 0 [some (.ref (B 0)), some (.int (nI c))] 93 []
        have hin := lnC_in (a := a) (es := es) (us1 := us1) (us2 := us2) (o := o1) (tx := tx) n2.1 n2.2
        have hlo : lnO st (lnC a es us1 us2 tx o1 TX (nxS tx TX st) (nxE tx TX st)) = prt (if (lnC a es us1 us2 tx o1 TX (nxS tx TX st) (nxE tx TX st)).1 = true then (lnC a es us1 us2 tx o1 TX (nxS tx TX st) (nxE tx TX st)).2.2.2.2.2 else prs (lnC a es us1 us2 tx o1 TX (nxS tx TX st) (nxE tx TX st)).2.2.2.2.2 (st_txt.getD 18 [] ++ decL ((lnC a es us1 us2 tx o1 TX (nxS tx TX st) (nxE tx TX st)).2.1 - st + 1))) 10 := rfl
        generalize hL : (lnC a es us1 us2 tx o1 TX (nxS tx TX st) (nxE tx TX st)) = L at *
        cases hl : L.1 with
        | true =>
          rw [hl, if_pos rfl] at h9 hlo
          refine gh_aload_n hK d_Md_run_93 rfl ?_
          refine gh_get (v := .int (nI 0)) hK d_Md_run_94 in_Md rfl h9.1 19 (by decide) kf_Md_89 rfl rfl ?_
          refine gh_if_leN hK d_Md_run_97 (tgt := 120) (by decide) (by decide) (fun _ => ?_) (fun q => absurd q (by decide))
          exact t120 ds9 g_4 F9 _ _ _ _ _ _ _ h9 hI9 mm zz hlo.symm
        | false =>
          have hq := hin hl
          rw [hl, if_neg (by decide)] at h9 hlo
          refine gh_aload_n hK d_Md_run_93 rfl ?_
          refine gh_get (v := .int (nI (L.2.1 - st + 1))) hK d_Md_run_94 in_Md rfl h9.1 19 (by decide) kf_Md_89 rfl rfl ?_
          refine gh_if_leN hK d_Md_run_97 (tgt := 120) (by decide) (by omega) (fun q => by omega) (fun _ => ?_)
          refine gh_aload_n hK d_Md_run_100 rfl ?_
          refine gh_bipush (v := nI 63) hK d_Md_run_101 (by decide) ?_
          refine gh_callV (rest := []) [.int (nI 63)] hK (c_Md_put l G h9 (c := 63) (by decide)) Y_Md_put V_Md_put km_Md_66 h9.1 rfl rfl d_Md_run_103 rfl rfl (Nat.le_of_ble_eq_true rfl) ⟨(Nat.le_of_ble_eq_true rfl), (Nat.le_of_ble_eq_true rfl)⟩ ⟨(Nat.le_of_ble_eq_true rfl), (Nat.le_of_ble_eq_true rfl)⟩ (fun v g_5 hp => ?_)
          obtain ⟨rfl, h_5, mx⟩ := hp
          have mm := mm.tr mx
          show gh_W l G _ X g_5 0 0 [some (.ref (B 0)), some (.int (nI c))] 106 []
          refine gh_aload_n hK d_Md_run_106 rfl ?_
          refine gh_bipush (v := nI 32) hK d_Md_run_107 (by decide) ?_
          refine gh_callV (rest := []) [.int (nI 32)] hK (c_Md_put l G h_5 (c := 32) (by decide)) Y_Md_put V_Md_put km_Md_66 h_5.1 rfl rfl d_Md_run_109 rfl rfl (Nat.le_of_ble_eq_true rfl) ⟨(Nat.le_of_ble_eq_true rfl), (Nat.le_of_ble_eq_true rfl)⟩ ⟨(Nat.le_of_ble_eq_true rfl), (Nat.le_of_ble_eq_true rfl)⟩ (fun v g_6 hp => ?_)
          obtain ⟨rfl, h_6, mx⟩ := hp
          have mm := mm.tr mx
          show gh_W l G _ X g_6 0 0 [some (.ref (B 0)), some (.int (nI c))] 112 []
          refine gh_aload_n hK d_Md_run_112 rfl ?_
          refine gh_aload_n hK d_Md_run_113 rfl ?_
          refine gh_get (v := .int (nI (L.2.1 - st + 1))) hK d_Md_run_114 in_Md rfl h_6.1 19 (by decide) kf_Md_89 rfl rfl ?_
          refine gh_callV (rest := []) [.int (nI (L.2.1 - st + 1))] hK (c_Md_putNumber l G h_6 (x := L.2.1 - st + 1) (by omega)) Y_Md_putNumber V_Md_putNumber km_Md_134 h_6.1 rfl rfl d_Md_run_117 rfl rfl (Nat.le_of_ble_eq_true rfl) ⟨(Nat.le_of_ble_eq_true rfl), (Nat.le_of_ble_eq_true rfl)⟩ ⟨(Nat.le_of_ble_eq_true rfl), (Nat.le_of_ble_eq_true rfl)⟩ (fun v g_7 hp => ?_)
          obtain ⟨rfl, h_7, mx⟩ := hp
          have mm := mm.tr mx
          show gh_W l G _ X g_7 0 0 [some (.ref (B 0)), some (.int (nI c))] 120 []
          exact t120 ds9 g_7 F9 _ _ _ _ _ _ _ h_7 hI9 mm zz (by rw [hlo, prs_app]; rfl)
      have lpT : ∀ (m k2 : Nat) (g1 : GH) (h : Md G g1 B (mS 0 tx.length dd.length st k2 a1 f1 e1 w1 m1 x1) F1 o1) (mm : gh_M MDT g g1), k2 + m = tx.length → sc (fun i => decide (tx.getD i 0 ≠ 10)) tx.length k2 = TX → gh_W l G (rmk 5 0 0 124) X g1 0 0 [some (.ref (B 0)), some (.int (nI c))] 31 [] := by
        intro m
        induction m with
        | zero =>
          intro k2 g1 h mm hk hs
          rw [sc_out (by omega)] at hs
          subst hs
          refine gh_aload_n hK d_Md_run_31 rfl ?_
          refine gh_get (v := .int (nI k2)) hK d_Md_run_32 in_Md rfl h.1 15 (by decide) kf_Md_73 rfl rfl ?_
          refine gh_aload_n hK d_Md_run_35 rfl ?_
          refine gh_get (v := .int (nI tx.length)) hK d_Md_run_36 in_Md rfl h.1 1 (by decide) kf_Md_57 rfl rfl ?_
          refine gh_icmp_geN hK d_Md_run_39 (tgt := 69) (by decide) (by omega) (by omega) (fun _ => t69 g1 h mm) (fun q => by omega)
        | succ m ihc =>
          intro k2 g1 h mm hk hs
          have hc2 := ht.2 k2 (by omega)
          refine gh_aload_n hK d_Md_run_31 rfl ?_
          refine gh_get (v := .int (nI k2)) hK d_Md_run_32 in_Md rfl h.1 15 (by decide) kf_Md_73 rfl rfl ?_
          refine gh_aload_n hK d_Md_run_35 rfl ?_
          refine gh_get (v := .int (nI tx.length)) hK d_Md_run_36 in_Md rfl h.1 1 (by decide) kf_Md_57 rfl rfl ?_
          refine gh_icmp_geN hK d_Md_run_39 (tgt := 69) (by decide) (by omega) (by omega) (fun q => by omega) (fun _ => ?_)
          refine gh_aload_n hK d_Md_run_42 rfl ?_
          refine gh_get (v := .ref (B 1)) hK d_Md_run_43 in_Md rfl h.1 2 (by decide) kf_Md_7 rfl rfl ?_
          refine gh_aload_n hK d_Md_run_46 rfl ?_
          refine gh_get (v := .int (nI k2)) hK d_Md_run_47 in_Md rfl h.1 15 (by decide) kf_Md_73 rfl rfl ?_
          refine gh_mald hK d_Md_run_50 h 1 (by decide) (i := k2) (x := (nI (tx.getD k2 0))) (by show k2 < 2048; omega) hc2.1 ?_
          refine gh_bipush (v := nI 10) hK d_Md_run_51 (by decide) ?_
          refine gh_icmp_eqN hK d_Md_run_53 (tgt := 69) (by decide) (by omega) (by decide) (fun z => ?_) (fun z => ?_)
          · rw [sc_no (by simpa using z)] at hs
            subst hs
            exact t69 g1 h mm
          refine gh_aload_n hK d_Md_run_56 rfl ?_
          refine gh_dup hK d_Md_run_57 rfl ?_
          refine gh_get (v := .int (nI k2)) hK d_Md_run_58 in_Md rfl h.1 15 (by decide) kf_Md_73 rfl rfl ?_
          refine gh_iconst (v := nI 1) hK d_Md_run_61 (by decide) ?_
          refine gh_addN hK d_Md_run_62 ?_
          refine gh_mput hK d_Md_run_63 h 15 (mS 0 tx.length dd.length st (k2 + 1) a1 f1 e1 w1 m1 x1) rfl (by decide) kf_Md_73 rfl rfl rfl rfl (by decide) (fun g_1 h_1 mx => ?_)
          have mm := mm.tr mx
          show gh_W l G _ X g_1 0 0 [some (.ref (B 0)), some (.int (nI c))] 66 []
          refine gh_goto (tgt := 31) hK d_Md_run_66 (by decide) ?_
          exact ihc (k2 + 1) g_1 h_1 mm (by omega) (by rw [← hs]; exact (sc_yes (by omega) (by simpa using z)).symm)
      refine gh_aload_n hK d_Md_run_12 rfl ?_
      refine gh_get (v := .int (nI st)) hK d_Md_run_13 in_Md rfl h.1 14 (by decide) kf_Md_86 rfl rfl ?_
      refine gh_aload_n hK d_Md_run_16 rfl ?_
      refine gh_get (v := .int (nI tx.length)) hK d_Md_run_17 in_Md rfl h.1 1 (by decide) kf_Md_57 rfl rfl ?_
      refine gh_icmp_geN hK d_Md_run_20 (tgt := 142) (by decide) (by omega) (by omega) (fun q => by omega) (fun _ => ?_)
      refine gh_aload_n hK d_Md_run_23 rfl ?_
      refine gh_aload_n hK d_Md_run_24 rfl ?_
      refine gh_get (v := .int (nI st)) hK d_Md_run_25 in_Md rfl h.1 14 (by decide) kf_Md_86 rfl rfl ?_
      refine gh_mput hK d_Md_run_28 h 15 (mS 0 tx.length dd.length st st a1 f1 e1 w1 m1 x1) rfl (by decide) kf_Md_73 rfl rfl rfl rfl (by decide) (fun g_1 h_1 mx => ?_)
      have mm := mm.tr mx
      show gh_W l G _ X g_1 0 0 [some (.ref (B 0)), some (.int (nI c))] 31 []
      exact lpT (tx.length - st) st g_1 h_1 mm (by omega) hTX
  refine gh_aload_n hK d_Md_run_0 rfl ?_
  refine gh_iconst (v := nI 0) hK d_Md_run_1 (by decide) ?_
  refine gh_mput hK d_Md_run_2 h 0 (mS 0 tx.length ds.length fr tt ap fi en wr mk wd) rfl (by decide) kf_Md_49 rfl rfl rfl rfl (by decide) (fun g_1 h_1 mx => ?_)
  have mm := mm.tr mx
  show gh_W l G _ X g_1 0 0 [some (.ref (B 0)), none] 5 []
  refine gh_iconst (v := nI 0) hK d_Md_run_5 (by decide) ?_
  refine gh_istore_n (lv' := [some (.ref (B 0)), some (.int (nI 0))]) hK d_Md_run_6 (Nat.le_of_ble_eq_true rfl) rfl ?_
  refine gh_aload_n hK d_Md_run_7 rfl ?_
  refine gh_iconst (v := nI 0) hK d_Md_run_8 (by decide) ?_
  refine gh_mput hK d_Md_run_9 h_1 14 (mS 0 tx.length ds.length 0 tt ap fi en wr mk wd) rfl (by decide) kf_Md_86 rfl rfl rfl rfl (by decide) (fun g_2 h_2 mx => ?_)
  have mm := mm.tr mx
  show gh_W l G _ X g_2 0 0 [some (.ref (B 0)), some (.int (nI 0))] 12 []
  exact lp (tx.length + 1) 0 0 (es, us1, us2, o) ds g_2 F _ _ _ _ _ _ _ h_2 hI2 mm (by omega) (by omega) hr (by rw [Nat.zero_add]; rfl)
