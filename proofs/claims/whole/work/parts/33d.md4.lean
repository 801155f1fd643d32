set_option maxRecDepth 20000 in
set_option maxHeartbeats 4000000 in
theorem c_Md_putNumber (l : Launch) (G : GG) {g : GH} {B : Nat → Nat} {cd ty ne fr tt ap fi en wr mk wd : Nat} {F : Nat → Nat → Int32} {o : List Nat × Nat} {x : Nat} (h : Md G g B (mS cd ty ne fr tt ap fi en wr mk wd) F o) (hx : x < 10000) : gMet l G y_Md_putNumber b_Md_putNumber 3 none (rmk 1 0 0 21) [.ref (B 0), .int (nI x)] g (fun v g' => v = none ∧ Md G g' B (mS cd ty ne fr tt ap fi en wr mk wd) F (prs o (decL x)) ∧ gh_M MDT g g') := by
  refine gMet.of [some (.ref (B 0)), some (.int (nI x)), none] (by decide +kernel) rfl (Nat.le_of_ble_eq_true rfl) rfl (fun X hK hI hE => ?_)
  have mm : gh_M MDT g g := gh_M.rf
  have r0 : ∀ (g1 : GH) (o1 : List Nat × Nat) (h : Md G g1 B (mS cd ty ne fr tt ap fi en wr mk wd) F o1) (mm : gh_M MDT g g1), o1 = prs o (decL x) → gh_W l G (rmk 1 0 0 21) X g1 0 0 [some (.ref (B 0)), some (.int (nI x)), some (.int (nI 0))] 18 [] := by
    intro g1 o1 h mm e
    refine gh_iload_n hK d_Md_putNumber_18 rfl ?_
    refine gh_if_leN hK d_Md_putNumber_19 (tgt := 43) (by decide) (by decide) (fun _ => ?_) (fun z => absurd z (by decide))
    subst e
    exact gh_vret hK hE d_Md_putNumber_43 (Nat.le_of_ble_eq_true rfl) (Nat.le_of_ble_eq_true rfl) ⟨rfl, h, mm⟩
  have r1 : ∀ (g1 : GH) (o1 : List Nat × Nat) (h : Md G g1 B (mS cd ty ne fr tt ap fi en wr mk wd) F o1) (mm : gh_M MDT g g1), prs o1 (dgs 0 x) = prs o (decL x) → gh_W l G (rmk 1 0 0 21) X g1 0 0 [some (.ref (B 0)), some (.int (nI x)), some (.int (nI 1))] 18 [] := by
    intro g1 o1 h mm e
    refine gh_iload_n hK d_Md_putNumber_18 rfl ?_
    refine gh_if_leN hK d_Md_putNumber_19 (tgt := 43) (by decide) (by decide) (fun z => absurd z (by decide)) (fun _ => ?_)
    refine gh_aload_n hK d_Md_putNumber_22 rfl ?_
    refine gh_bipush (v := nI 48) hK d_Md_putNumber_23 (by decide) ?_
    refine gh_iload_n hK d_Md_putNumber_25 rfl ?_
    refine gh_iload_n hK d_Md_putNumber_26 rfl ?_
    refine gh_divN hK d_Md_putNumber_27 (by omega) (by omega) (by omega) ?_
    refine gh_bipush (v := nI 10) hK d_Md_putNumber_28 (by decide) ?_
    refine gh_remN hK d_Md_putNumber_30 (by omega) (by omega) (by omega) ?_
    refine gh_addN hK d_Md_putNumber_31 ?_
    refine gh_callV (rest := []) [.int (nI (48 + ((x / 1) % 10)))] hK (c_Md_put l G h (c := 48 + x / 1 % 10) (by omega)) Y_Md_put V_Md_put km_Md_66 h.1 rfl rfl d_Md_putNumber_32 rfl rfl (Nat.le_of_ble_eq_true rfl) ⟨(Nat.le_of_ble_eq_true rfl), (Nat.le_of_ble_eq_true rfl)⟩ ⟨(Nat.le_of_ble_eq_true rfl), (Nat.le_of_ble_eq_true rfl)⟩ (fun v g_1 hp => ?_)
    obtain ⟨rfl, h_1, mx⟩ := hp
    have mm := mm.tr mx
    show gh_W l G _ X g_1 0 0 [some (.ref (B 0)), some (.int (nI x)), some (.int (nI 1))] 35 []
    refine gh_iload_n hK d_Md_putNumber_35 rfl ?_
    refine gh_bipush (v := nI 10) hK d_Md_putNumber_36 (by decide) ?_
    refine gh_divN hK d_Md_putNumber_38 (by omega) (by omega) (by omega) ?_
    refine gh_istore_n (lv' := [some (.ref (B 0)), some (.int (nI x)), some (.int (nI (1 / 10)))]) hK d_Md_putNumber_39 (Nat.le_of_ble_eq_true rfl) rfl ?_
    refine gh_goto (tgt := 18) hK d_Md_putNumber_40 (by decide) ?_
    show gh_W l G _ X g_1 0 0 [some (.ref (B 0)), some (.int (nI x)), some (.int (nI 0))] 18 []
    exact r0 g_1 _ h_1 mm (by rw [← e]; show _ = prs o1 [48 + x % 10]; rw [Nat.div_one]; rfl)
  have r2 : ∀ (g1 : GH) (o1 : List Nat × Nat) (h : Md G g1 B (mS cd ty ne fr tt ap fi en wr mk wd) F o1) (mm : gh_M MDT g g1), prs o1 (dgs 1 x) = prs o (decL x) → gh_W l G (rmk 1 0 0 21) X g1 0 0 [some (.ref (B 0)), some (.int (nI x)), some (.int (nI 10))] 18 [] := by
    intro g1 o1 h mm e
    refine gh_iload_n hK d_Md_putNumber_18 rfl ?_
    refine gh_if_leN hK d_Md_putNumber_19 (tgt := 43) (by decide) (by decide) (fun z => absurd z (by decide)) (fun _ => ?_)
    refine gh_aload_n hK d_Md_putNumber_22 rfl ?_
    refine gh_bipush (v := nI 48) hK d_Md_putNumber_23 (by decide) ?_
    refine gh_iload_n hK d_Md_putNumber_25 rfl ?_
    refine gh_iload_n hK d_Md_putNumber_26 rfl ?_
    refine gh_divN hK d_Md_putNumber_27 (by omega) (by omega) (by omega) ?_
    refine gh_bipush (v := nI 10) hK d_Md_putNumber_28 (by decide) ?_
    refine gh_remN hK d_Md_putNumber_30 (by omega) (by omega) (by omega) ?_
    refine gh_addN hK d_Md_putNumber_31 ?_
    refine gh_callV (rest := []) [.int (nI (48 + ((x / 10) % 10)))] hK (c_Md_put l G h (c := 48 + x / 10 % 10) (by omega)) Y_Md_put V_Md_put km_Md_66 h.1 rfl rfl d_Md_putNumber_32 rfl rfl (Nat.le_of_ble_eq_true rfl) ⟨(Nat.le_of_ble_eq_true rfl), (Nat.le_of_ble_eq_true rfl)⟩ ⟨(Nat.le_of_ble_eq_true rfl), (Nat.le_of_ble_eq_true rfl)⟩ (fun v g_1 hp => ?_)
    obtain ⟨rfl, h_1, mx⟩ := hp
    have mm := mm.tr mx
    show gh_W l G _ X g_1 0 0 [some (.ref (B 0)), some (.int (nI x)), some (.int (nI 10))] 35 []
    refine gh_iload_n hK d_Md_putNumber_35 rfl ?_
    refine gh_bipush (v := nI 10) hK d_Md_putNumber_36 (by decide) ?_
    refine gh_divN hK d_Md_putNumber_38 (by omega) (by omega) (by omega) ?_
    refine gh_istore_n (lv' := [some (.ref (B 0)), some (.int (nI x)), some (.int (nI (10 / 10)))]) hK d_Md_putNumber_39 (Nat.le_of_ble_eq_true rfl) rfl ?_
    refine gh_goto (tgt := 18) hK d_Md_putNumber_40 (by decide) ?_
    show gh_W l G _ X g_1 0 0 [some (.ref (B 0)), some (.int (nI x)), some (.int (nI 1))] 18 []
    exact r1 g_1 _ h_1 mm (by rw [show dgs 1 x = (48 + x / 10 % 10) :: dgs 0 x from rfl] at e; exact e)
  have r3 : ∀ (g1 : GH) (o1 : List Nat × Nat) (h : Md G g1 B (mS cd ty ne fr tt ap fi en wr mk wd) F o1) (mm : gh_M MDT g g1), prs o1 (dgs 2 x) = prs o (decL x) → gh_W l G (rmk 1 0 0 21) X g1 0 0 [some (.ref (B 0)), some (.int (nI x)), some (.int (nI 100))] 18 [] := by
    intro g1 o1 h mm e
    refine gh_iload_n hK d_Md_putNumber_18 rfl ?_
    refine gh_if_leN hK d_Md_putNumber_19 (tgt := 43) (by decide) (by decide) (fun z => absurd z (by decide)) (fun _ => ?_)
    refine gh_aload_n hK d_Md_putNumber_22 rfl ?_
    refine gh_bipush (v := nI 48) hK d_Md_putNumber_23 (by decide) ?_
    refine gh_iload_n hK d_Md_putNumber_25 rfl ?_
    refine gh_iload_n hK d_Md_putNumber_26 rfl ?_
    refine gh_divN hK d_Md_putNumber_27 (by omega) (by omega) (by omega) ?_
    refine gh_bipush (v := nI 10) hK d_Md_putNumber_28 (by decide) ?_
    refine gh_remN hK d_Md_putNumber_30 (by omega) (by omega) (by omega) ?_
    refine gh_addN hK d_Md_putNumber_31 ?_
    refine gh_callV (rest := []) [.int (nI (48 + ((x / 100) % 10)))] hK (c_Md_put l G h (c := 48 + x / 100 % 10) (by omega)) Y_Md_put V_Md_put km_Md_66 h.1 rfl rfl d_Md_putNumber_32 rfl rfl (Nat.le_of_ble_eq_true rfl) ⟨(Nat.le_of_ble_eq_true rfl), (Nat.le_of_ble_eq_true rfl)⟩ ⟨(Nat.le_of_ble_eq_true rfl), (Nat.le_of_ble_eq_true rfl)⟩ (fun v g_1 hp => ?_)
    obtain ⟨rfl, h_1, mx⟩ := hp
    have mm := mm.tr mx
    show gh_W l G _ X g_1 0 0 [some (.ref (B 0)), some (.int (nI x)), some (.int (nI 100))] 35 []
    refine gh_iload_n hK d_Md_putNumber_35 rfl ?_
    refine gh_bipush (v := nI 10) hK d_Md_putNumber_36 (by decide) ?_
    refine gh_divN hK d_Md_putNumber_38 (by omega) (by omega) (by omega) ?_
    refine gh_istore_n (lv' := [some (.ref (B 0)), some (.int (nI x)), some (.int (nI (100 / 10)))]) hK d_Md_putNumber_39 (Nat.le_of_ble_eq_true rfl) rfl ?_
    refine gh_goto (tgt := 18) hK d_Md_putNumber_40 (by decide) ?_
    show gh_W l G _ X g_1 0 0 [some (.ref (B 0)), some (.int (nI x)), some (.int (nI 10))] 18 []
    exact r2 g_1 _ h_1 mm (by rw [show dgs 2 x = (48 + x / 100 % 10) :: dgs 1 x from rfl] at e; exact e)
  have r4 : ∀ (g1 : GH) (o1 : List Nat × Nat) (h : Md G g1 B (mS cd ty ne fr tt ap fi en wr mk wd) F o1) (mm : gh_M MDT g g1), prs o1 (dgs 3 x) = prs o (decL x) → gh_W l G (rmk 1 0 0 21) X g1 0 0 [some (.ref (B 0)), some (.int (nI x)), some (.int (nI 1000))] 18 [] := by
    intro g1 o1 h mm e
    refine gh_iload_n hK d_Md_putNumber_18 rfl ?_
    refine gh_if_leN hK d_Md_putNumber_19 (tgt := 43) (by decide) (by decide) (fun z => absurd z (by decide)) (fun _ => ?_)
    refine gh_aload_n hK d_Md_putNumber_22 rfl ?_
    refine gh_bipush (v := nI 48) hK d_Md_putNumber_23 (by decide) ?_
    refine gh_iload_n hK d_Md_putNumber_25 rfl ?_
    refine gh_iload_n hK d_Md_putNumber_26 rfl ?_
    refine gh_divN hK d_Md_putNumber_27 (by omega) (by omega) (by omega) ?_
    refine gh_bipush (v := nI 10) hK d_Md_putNumber_28 (by decide) ?_
    refine gh_remN hK d_Md_putNumber_30 (by omega) (by omega) (by omega) ?_
    refine gh_addN hK d_Md_putNumber_31 ?_
    refine gh_callV (rest := []) [.int (nI (48 + ((x / 1000) % 10)))] hK (c_Md_put l G h (c := 48 + x / 1000 % 10) (by omega)) Y_Md_put V_Md_put km_Md_66 h.1 rfl rfl d_Md_putNumber_32 rfl rfl (Nat.le_of_ble_eq_true rfl) ⟨(Nat.le_of_ble_eq_true rfl), (Nat.le_of_ble_eq_true rfl)⟩ ⟨(Nat.le_of_ble_eq_true rfl), (Nat.le_of_ble_eq_true rfl)⟩ (fun v g_1 hp => ?_)
    obtain ⟨rfl, h_1, mx⟩ := hp
    have mm := mm.tr mx
    show gh_W l G _ X g_1 0 0 [some (.ref (B 0)), some (.int (nI x)), some (.int (nI 1000))] 35 []
    refine gh_iload_n hK d_Md_putNumber_35 rfl ?_
    refine gh_bipush (v := nI 10) hK d_Md_putNumber_36 (by decide) ?_
    refine gh_divN hK d_Md_putNumber_38 (by omega) (by omega) (by omega) ?_
    refine gh_istore_n (lv' := [some (.ref (B 0)), some (.int (nI x)), some (.int (nI (1000 / 10)))]) hK d_Md_putNumber_39 (Nat.le_of_ble_eq_true rfl) rfl ?_
    refine gh_goto (tgt := 18) hK d_Md_putNumber_40 (by decide) ?_
    show gh_W l G _ X g_1 0 0 [some (.ref (B 0)), some (.int (nI x)), some (.int (nI 100))] 18 []
    exact r3 g_1 _ h_1 mm (by rw [show dgs 3 x = (48 + x / 1000 % 10) :: dgs 2 x from rfl] at e; exact e)
  have u3 : 1000 ≤ x → gh_W l G (rmk 1 0 0 21) X g 0 0 [some (.ref (B 0)), some (.int (nI x)), some (.int (nI 1000))] 2 [] := by
    intro hk
    refine gh_iload_n hK d_Md_putNumber_2 rfl ?_
    refine gh_iload_n hK d_Md_putNumber_3 rfl ?_
    refine gh_divN hK d_Md_putNumber_4 (by omega) (by omega) (by omega) ?_
    refine gh_bipush (v := nI 9) hK d_Md_putNumber_5 (by decide) ?_
    refine gh_icmp_leN hK d_Md_putNumber_7 (tgt := 18) (by decide) (by omega) (by omega) (fun z => ?_) (fun z => ?_)
    · exact r4 g o h mm (by rw [decL, ← nkd_of (k := 3) (by omega) (Or.inr hk) (by show x < 10000; omega)])
    · omega
  have u2 : 100 ≤ x → gh_W l G (rmk 1 0 0 21) X g 0 0 [some (.ref (B 0)), some (.int (nI x)), some (.int (nI 100))] 2 [] := by
    intro hk
    refine gh_iload_n hK d_Md_putNumber_2 rfl ?_
    refine gh_iload_n hK d_Md_putNumber_3 rfl ?_
    refine gh_divN hK d_Md_putNumber_4 (by omega) (by omega) (by omega) ?_
    refine gh_bipush (v := nI 9) hK d_Md_putNumber_5 (by decide) ?_
    refine gh_icmp_leN hK d_Md_putNumber_7 (tgt := 18) (by decide) (by omega) (by omega) (fun z => ?_) (fun z => ?_)
    · exact r3 g o h mm (by rw [decL, ← nkd_of (k := 2) (by omega) (Or.inr hk) (by show x < 1000; omega)])
    refine gh_bipush (v := nI 10) hK d_Md_putNumber_10 (by decide) ?_
    refine gh_iload_n hK d_Md_putNumber_12 rfl ?_
    refine gh_mulN hK d_Md_putNumber_13 ?_
    refine gh_istore_n (lv' := [some (.ref (B 0)), some (.int (nI x)), some (.int (nI (10 * 100)))]) hK d_Md_putNumber_14 (Nat.le_of_ble_eq_true rfl) rfl ?_
    refine gh_goto (tgt := 2) hK d_Md_putNumber_15 (by decide) ?_
    exact u3 (by omega)
  have u1 : 10 ≤ x → gh_W l G (rmk 1 0 0 21) X g 0 0 [some (.ref (B 0)), some (.int (nI x)), some (.int (nI 10))] 2 [] := by
    intro hk
    refine gh_iload_n hK d_Md_putNumber_2 rfl ?_
    refine gh_iload_n hK d_Md_putNumber_3 rfl ?_
    refine gh_divN hK d_Md_putNumber_4 (by omega) (by omega) (by omega) ?_
    refine gh_bipush (v := nI 9) hK d_Md_putNumber_5 (by decide) ?_
    refine gh_icmp_leN hK d_Md_putNumber_7 (tgt := 18) (by decide) (by omega) (by omega) (fun z => ?_) (fun z => ?_)
    · exact r2 g o h mm (by rw [decL, ← nkd_of (k := 1) (by omega) (Or.inr hk) (by show x < 100; omega)])
    refine gh_bipush (v := nI 10) hK d_Md_putNumber_10 (by decide) ?_
    refine gh_iload_n hK d_Md_putNumber_12 rfl ?_
    refine gh_mulN hK d_Md_putNumber_13 ?_
    refine gh_istore_n (lv' := [some (.ref (B 0)), some (.int (nI x)), some (.int (nI (10 * 10)))]) hK d_Md_putNumber_14 (Nat.le_of_ble_eq_true rfl) rfl ?_
    refine gh_goto (tgt := 2) hK d_Md_putNumber_15 (by decide) ?_
    exact u2 (by omega)
  have u0 : True → gh_W l G (rmk 1 0 0 21) X g 0 0 [some (.ref (B 0)), some (.int (nI x)), some (.int (nI 1))] 2 [] := by
    intro hk
    refine gh_iload_n hK d_Md_putNumber_2 rfl ?_
    refine gh_iload_n hK d_Md_putNumber_3 rfl ?_
    refine gh_divN hK d_Md_putNumber_4 (by omega) (by omega) (by omega) ?_
    refine gh_bipush (v := nI 9) hK d_Md_putNumber_5 (by decide) ?_
    refine gh_icmp_leN hK d_Md_putNumber_7 (tgt := 18) (by decide) (by omega) (by omega) (fun z => ?_) (fun z => ?_)
    · exact r1 g o h mm (by rw [decL, ← nkd_of (k := 0) (by omega) (Or.inl rfl) (by show x < 10; omega)])
    refine gh_bipush (v := nI 10) hK d_Md_putNumber_10 (by decide) ?_
    refine gh_iload_n hK d_Md_putNumber_12 rfl ?_
    refine gh_mulN hK d_Md_putNumber_13 ?_
    refine gh_istore_n (lv' := [some (.ref (B 0)), some (.int (nI x)), some (.int (nI (10 * 1)))]) hK d_Md_putNumber_14 (Nat.le_of_ble_eq_true rfl) rfl ?_
    refine gh_goto (tgt := 2) hK d_Md_putNumber_15 (by decide) ?_
    exact u1 (by omega)
  refine gh_iconst (v := nI 1) hK d_Md_putNumber_0 (by decide) ?_
  refine gh_istore_n (lv' := [some (.ref (B 0)), some (.int (nI x)), some (.int (nI 1))]) hK d_Md_putNumber_1 (Nat.le_of_ble_eq_true rfl) rfl ?_
  exact u0 trivial
def alO (tx : List Nat) (f t most : Nat) (b : Bool) : Bool := (decide (f < t) && decide (t - f ≤ most)) && decide (sc (ptL tx b) t f = t)
theorem al_step {p : Nat → Bool} {f t k : Nat} (hf : f ≤ k) (hk : k < t) (c : Bool) : (c && decide (k ≤ sc p t f) && p k) = (c && decide (k + 1 ≤ sc p t f)) := by
  cases c
  · rfl
  · rw [Bool.true_and, Bool.true_and]
    by_cases h : k ≤ sc p t f
    · rw [decide_eq_true h, Bool.true_and]
      by_cases h2 : k + 1 ≤ sc p t f
      · rw [decide_eq_true h2]
        exact sc_all (e := t) hf (by omega)
      · rw [decide_eq_false h2]
        have e : sc p t f = k := by omega
        have := sc_stop (p := p) (e := t) (i := f) (by omega) (by omega)
        rw [e] at this
        exact this
    · rw [decide_eq_false h, decide_eq_false (by omega)]
      rfl
set_option maxRecDepth 20000 in
set_option maxHeartbeats 4000000 in
theorem c_Md_areLetters (l : Launch) (G : GG) {g : GH} {B : Nat → Nat} {cd ty ne fr tt ap fi en wr mk wd : Nat} {F : Nat → Nat → Int32} {o : List Nat × Nat} {tx : List Nat} {f t most : Nat} {b : Bool} (h : Md G g B (mS cd ty ne fr tt ap fi en wr mk wd) F o) (ht : TxA F tx) (hf : f ≤ t) (htl2 : t ≤ tx.length) (hm : most < 100) : gMet l G y_Md_areLetters b_Md_areLetters 7 (some .boolean) (rmk 1 0 0 20) [.ref (B 0), .int (nI f), .int (nI t), .int (nI most), .int (nI (bn b))] g (fun v g' => v = some (.int (nI (bn (alO tx f t most b)))) ∧ g' = g) := by
  refine gMet.of [some (.ref (B 0)), some (.int (nI f)), some (.int (nI t)), some (.int (nI most)), some (.int (nI (bn b))), none, none] (by decide +kernel) rfl (Nat.le_of_ble_eq_true rfl) rfl (fun X hK hI hE => ?_)
  have mm : gh_M MDT g g := gh_M.rf
  have htl := ht.1
  have lp : ∀ (m k : Nat), k + m = t → f ≤ k → gh_W l G (rmk 1 0 0 20) X g 0 0 [some (.ref (B 0)), some (.int (nI f)), some (.int (nI t)), some (.int (nI most)), some (.int (nI (bn b))), some (.int (nI (bn ((decide (f < t) && decide (t - f ≤ most)) && decide (k ≤ sc (ptL tx b) t f))))), some (.int (nI k))] 22 [] := by
    intro m
    induction m with
    | zero =>
      intro k hk hfk
      have hk : k = t := by omega
      subst hk
      refine gh_iload hK d_Md_areLetters_22 rfl ?_
      refine gh_iload_n hK d_Md_areLetters_24 rfl ?_
      refine gh_icmp_geN hK d_Md_areLetters_25 (tgt := 76) (by decide) (by omega) (by omega) (fun z => ?_) (fun z => by omega)
      refine gh_iload hK d_Md_areLetters_76 rfl ?_
      have hsl := sc_le (p := ptL tx b) (e := k) (i := f) hfk
      have e : ((decide (f < k) && decide (k - f ≤ most)) && decide (k ≤ sc (ptL tx b) k f)) = alO tx f k most b := by unfold alO; congr 1; exact decide_eq_decide.mpr (by omega)
      exact gh_zret (by rw [e]; cases alO tx f k most b <;> decide) hK hE d_Md_areLetters_78 (Nat.le_of_ble_eq_true rfl) (Nat.le_of_ble_eq_true rfl) ⟨by rw [e], rfl⟩
    | succ m ih =>
      intro k hk hfk
      have hc := ht.2 k (by omega)
      refine gh_iload hK d_Md_areLetters_22 rfl ?_
      refine gh_iload_n hK d_Md_areLetters_24 rfl ?_
      refine gh_icmp_geN hK d_Md_areLetters_25 (tgt := 76) (by decide) (by omega) (by omega) (fun z => by omega) (fun z => ?_)
      have tail : ∀ q : Bool, q = (((decide (f < t) && decide (t - f ≤ most)) && decide (k ≤ sc (ptL tx b) t f)) && ptL tx b k) → gh_W l G (rmk 1 0 0 20) X g 0 0 [some (.ref (B 0)), some (.int (nI f)), some (.int (nI t)), some (.int (nI most)), some (.int (nI (bn b))), some (.int (nI (bn ((decide (f < t) && decide (t - f ≤ most)) && decide (k ≤ sc (ptL tx b) t f))))), some (.int (nI k))] 68 [.int (nI (bn q))] := by
        intro q hq
        rw [al_step hfk (by omega)] at hq
        subst hq
        refine gh_istore (lv' := [some (.ref (B 0)), some (.int (nI f)), some (.int (nI t)), some (.int (nI most)), some (.int (nI (bn b))), some (.int (nI (bn ((decide (f < t) && decide (t - f ≤ most)) && decide ((k + 1) ≤ sc (ptL tx b) t f))))), some (.int (nI k))]) hK d_Md_areLetters_68 (Nat.le_of_ble_eq_true rfl) rfl ?_
        refine gh_incN (lv' := [some (.ref (B 0)), some (.int (nI f)), some (.int (nI t)), some (.int (nI most)), some (.int (nI (bn b))), some (.int (nI (bn ((decide (f < t) && decide (t - f ≤ most)) && decide ((k + 1) ≤ sc (ptL tx b) t f))))), some (.int (nI (k + 1)))]) hK d_Md_areLetters_70 rfl rfl ?_
        refine gh_goto (tgt := 22) hK d_Md_areLetters_73 (by decide) ?_
        exact ih (k + 1) (by omega) (by omega)
      refine gh_iload hK d_Md_areLetters_28 rfl ?_
      refine gh_if_eqB hK d_Md_areLetters_30 (tgt := 67) (by decide) (fun z1 => ?_) (fun z1 => ?_)
      · refine gh_iconst (v := nI 0) hK d_Md_areLetters_67 (by decide) ?_
        exact tail false (by rw [z1]; rfl)
      refine gh_aload_n hK d_Md_areLetters_33 rfl ?_
      refine gh_get (v := .ref (B 1)) hK d_Md_areLetters_34 in_Md rfl h.1 2 (by decide) kf_Md_7 rfl rfl ?_
      refine gh_iload hK d_Md_areLetters_37 rfl ?_
      refine gh_mald hK d_Md_areLetters_39 h 1 (by decide) (i := k) (x := (nI (tx.getD k 0))) (by show k < 2048; omega) (ht.2 k (by omega)).1 ?_
      refine gh_callS (rest := []) [.int (nI (tx.getD k 0))] hK (c_Md_isLetter l G (g := g) (c := tx.getD k 0) (by omega)) Y_Md_isLetter V_Md_isLetter km_Md_95 rfl d_Md_areLetters_40 rfl rfl (Nat.le_of_ble_eq_true rfl) ⟨(Nat.le_of_ble_eq_true rfl), (Nat.le_of_ble_eq_true rfl)⟩ ⟨(Nat.le_of_ble_eq_true rfl), (Nat.le_of_ble_eq_true rfl)⟩ (fun v g' hp => ?_)
      rw [hp.1, hp.2]
      show gh_W l G _ X g 0 0 [some (.ref (B 0)), some (.int (nI f)), some (.int (nI t)), some (.int (nI most)), some (.int (nI (bn b))), some (.int (nI (bn ((decide (f < t) && decide (t - f ≤ most)) && decide (k ≤ sc (ptL tx b) t f))))), some (.int (nI k))] 43 [.int (nI (bn (isLet (tx.getD k 0))))]
      refine gh_if_neB hK d_Md_areLetters_43 (tgt := 63) (by decide) (fun z2 => ?_) (fun z2 => ?_)
      · refine gh_iconst (v := nI 1) hK d_Md_areLetters_63 (by decide) ?_
        refine gh_goto (tgt := 68) hK d_Md_areLetters_64 (by decide) ?_
        exact tail true (by rw [z1, ptL, z2]; rfl)
      refine gh_iload hK d_Md_areLetters_46 rfl ?_
      refine gh_if_eqB hK d_Md_areLetters_48 (tgt := 67) (by decide) (fun z3 => ?_) (fun z3 => ?_)
      · refine gh_iconst (v := nI 0) hK d_Md_areLetters_67 (by decide) ?_
        exact tail false (by rw [z1, ptL, z2, z3]; rfl)
      refine gh_aload_n hK d_Md_areLetters_51 rfl ?_
      refine gh_get (v := .ref (B 1)) hK d_Md_areLetters_52 in_Md rfl h.1 2 (by decide) kf_Md_7 rfl rfl ?_
      refine gh_iload hK d_Md_areLetters_55 rfl ?_
      refine gh_mald hK d_Md_areLetters_57 h 1 (by decide) (i := k) (x := (nI (tx.getD k 0))) (by show k < 2048; omega) (ht.2 k (by omega)).1 ?_
      refine gh_bipush (v := nI 46) hK d_Md_areLetters_58 (by decide) ?_
      refine gh_icmp_neN hK d_Md_areLetters_60 (tgt := 67) (by decide) (by omega) (by omega) (fun z4 => ?_) (fun z4 => ?_)
      · refine gh_iconst (v := nI 0) hK d_Md_areLetters_67 (by decide) ?_
        exact tail false (by rw [z1, ptL, z2, z3, decide_eq_false z4]; rfl)
      · refine gh_iconst (v := nI 1) hK d_Md_areLetters_63 (by decide) ?_
        refine gh_goto (tgt := 68) hK d_Md_areLetters_64 (by decide) ?_
        exact tail true (by rw [z1, ptL, z2, z3, decide_eq_true z4]; rfl)
  have st0 : ∀ q : Bool, q = (decide (f < t) && decide (t - f ≤ most)) → gh_W l G (rmk 1 0 0 20) X g 0 0 [some (.ref (B 0)), some (.int (nI f)), some (.int (nI t)), some (.int (nI most)), some (.int (nI (bn b))), none, none] 17 [.int (nI (bn q))] := by
    intro q hq
    refine gh_istore (lv' := [some (.ref (B 0)), some (.int (nI f)), some (.int (nI t)), some (.int (nI most)), some (.int (nI (bn b))), some (.int (nI (bn q))), none]) hK d_Md_areLetters_17 (Nat.le_of_ble_eq_true rfl) rfl ?_
    refine gh_iload_n hK d_Md_areLetters_19 rfl ?_
    refine gh_istore (lv' := [some (.ref (B 0)), some (.int (nI f)), some (.int (nI t)), some (.int (nI most)), some (.int (nI (bn b))), some (.int (nI (bn q))), some (.int (nI f))]) hK d_Md_areLetters_20 (Nat.le_of_ble_eq_true rfl) rfl ?_
    have e : q = ((decide (f < t) && decide (t - f ≤ most)) && decide (f ≤ sc (ptL tx b) t f)) := by rw [decide_eq_true (sc_ge (ptL tx b) t f), Bool.and_true]; exact hq
    rw [e]
    exact lp (t - f) f (by omega) (Nat.le_refl _)
  refine gh_iload_n hK d_Md_areLetters_0 rfl ?_
  refine gh_iload_n hK d_Md_areLetters_1 rfl ?_
  refine gh_icmp_leN hK d_Md_areLetters_2 (tgt := 16) (by decide) (by omega) (by omega) (fun z => ?_) (fun z => ?_)
  · refine gh_iconst (v := nI 0) hK d_Md_areLetters_16 (by decide) ?_
    exact st0 false (by rw [decide_eq_false (by omega)]; rfl)
  refine gh_iload_n hK d_Md_areLetters_5 rfl ?_
  refine gh_iload_n hK d_Md_areLetters_6 rfl ?_
  refine gh_subN hK d_Md_areLetters_7 (by omega) ?_
  refine gh_iload_n hK d_Md_areLetters_8 rfl ?_
  refine gh_icmp_gtN hK d_Md_areLetters_9 (tgt := 16) (by decide) (by omega) (by omega) (fun z2 => ?_) (fun z2 => ?_)
  · refine gh_iconst (v := nI 0) hK d_Md_areLetters_16 (by decide) ?_
    exact st0 false (by rw [decide_eq_false (show ¬ t - f ≤ most by omega), Bool.and_false])
  · refine gh_iconst (v := nI 1) hK d_Md_areLetters_12 (by decide) ?_
    refine gh_goto (tgt := 17) hK d_Md_areLetters_13 (by decide) ?_
    exact st0 true (by rw [decide_eq_true z, decide_eq_true z2]; rfl)
set_option maxRecDepth 20000 in
set_option maxHeartbeats 4000000 in
theorem c_Md_word (l : Launch) (G : GG) {g : GH} {B : Nat → Nat} {cd ty ne fr tt ap fi en wr mk wd : Nat} {F : Nat → Nat → Int32} {o : List Nat × Nat} {tx : List Nat} {most : Nat} (h : Md G g B (mS cd ty ne fr tt ap fi en wr mk wd) F o) (ht : TxA F tx) (hto : tt ≤ tx.length) (hat : ap ≤ tt) (hft : fr ≤ ap) (hm : most < 100) : gMet l G y_Md_word b_Md_word 2 (some .boolean) (rmk 2 0 0 46) [.ref (B 0), .int (nI most)] g (fun v g' => v = some (.int (nI (bn (decide ((nxS tx tt ap) < (nxE tx tt ap)) && alO tx (nxS tx tt ap) (nxE tx tt ap) most false)))) ∧ Md G g' B (mS cd ty ne fr tt (nxE tx tt ap) (nxS tx tt ap) (nxE tx tt ap) (if (decide ((nxS tx tt ap) < (nxE tx tt ap)) && alO tx (nxS tx tt ap) (nxE tx tt ap) most false) = true then wr else if (nxS tx tt ap) < (nxE tx tt ap) then (nxS tx tt ap) - fr + 1 else tt - fr + 1) mk wd) F o ∧ gh_M MDT g g') := by
  refine gMet.of [some (.ref (B 0)), some (.int (nI most))] (by decide +kernel) rfl (Nat.le_of_ble_eq_true rfl) rfl (fun X hK hI hE => ?_)
  have mm : gh_M MDT g g := gh_M.rf
  have hb := nxS_le (tx := tx) hat
  have hb2 := nxE_le (tx := tx) hat
  refine gh_aload_n hK d_Md_word_0 rfl ?_
  refine gh_callV (rest := []) [] hK (c_Md_must l G h ht hto hat (by omega)) Y_Md_must V_Md_must km_Md_99 h.1 rfl rfl d_Md_word_1 rfl rfl (Nat.le_of_ble_eq_true rfl) ⟨(Nat.le_of_ble_eq_true rfl), (Nat.le_of_ble_eq_true rfl)⟩ ⟨(Nat.le_of_ble_eq_true rfl), (Nat.le_of_ble_eq_true rfl)⟩ (fun v g_1 hp => ?_)
  obtain ⟨rfl, h_1, mx⟩ := hp
  have mm := mm.tr mx
  show gh_W l G _ X g_1 0 0 [some (.ref (B 0)), some (.int (nI most))] 4 [.int (nI (bn (decide ((nxS tx tt ap) < (nxE tx tt ap)))))]
  refine gh_if_eqB hK d_Md_word_4 (tgt := 35) (by decide) (fun z => ?_) (fun z => ?_)
  · have zz := of_decide_eq_false z
    refine gh_iconst (v := nI 0) hK d_Md_word_35 (by decide) ?_
    exact gh_zret (by decide) hK hE d_Md_word_36 (Nat.le_of_ble_eq_true rfl) (Nat.le_of_ble_eq_true rfl) ⟨by rw [z]; rfl, by have q := h_1; rw [if_neg zz] at q; rw [z, if_neg (by simp), if_neg zz]; exact q, mm⟩
  have zz := of_decide_eq_true z
  refine gh_aload_n hK d_Md_word_7 rfl ?_
  refine gh_aload_n hK d_Md_word_8 rfl ?_
  refine gh_get (v := .int (nI (nxS tx tt ap))) hK d_Md_word_9 in_Md rfl h_1.1 17 (by decide) kf_Md_76 rfl rfl ?_
  refine gh_aload_n hK d_Md_word_12 rfl ?_
  refine gh_get (v := .int (nI (nxE tx tt ap))) hK d_Md_word_13 in_Md rfl h_1.1 18 (by decide) kf_Md_79 rfl rfl ?_
  refine gh_iload_n hK d_Md_word_16 rfl ?_
  refine gh_iconst (v := nI 0) hK d_Md_word_17 (by decide) ?_
  have q := h_1
  rw [if_pos zz] at q
  refine gh_callV (rest := []) [.int (nI (nxS tx tt ap)), .int (nI (nxE tx tt ap)), .int (nI most), .int (nI 0)] hK (c_Md_areLetters l G q (most := most) (b := false) ht hb2.1 (by omega) hm) Y_Md_areLetters V_Md_areLetters km_Md_102 q.1 rfl rfl d_Md_word_18 rfl rfl (Nat.le_of_ble_eq_true rfl) ⟨(Nat.le_of_ble_eq_true rfl), (Nat.le_of_ble_eq_true rfl)⟩ ⟨(Nat.le_of_ble_eq_true rfl), (Nat.le_of_ble_eq_true rfl)⟩ (fun v gp_2 hp => ?_)
  obtain ⟨rfl, hgp⟩ := hp
  rw [hgp]
  show gh_W l G _ X g_1 0 0 [some (.ref (B 0)), some (.int (nI most))] 21 [.int (nI (bn (alO tx (nxS tx tt ap) (nxE tx tt ap) most false)))]
  refine gh_if_neB hK d_Md_word_21 (tgt := 31) (by decide) (fun z2 => ?_) (fun z2 => ?_)
  · refine gh_iconst (v := nI 1) hK d_Md_word_31 (by decide) ?_
    refine gh_goto (tgt := 36) hK d_Md_word_32 (by decide) ?_
    exact gh_zret (by decide) hK hE d_Md_word_36 (Nat.le_of_ble_eq_true rfl) (Nat.le_of_ble_eq_true rfl) ⟨by rw [z, z2]; rfl, by rw [z, z2, if_pos (by decide)]; exact q, mm⟩
  refine gh_aload_n hK d_Md_word_24 rfl ?_
  refine gh_callV (rest := []) [] hK (c_Md_refuse l G q (by omega)) Y_Md_refuse V_Md_refuse km_Md_92 q.1 rfl rfl d_Md_word_25 rfl rfl (Nat.le_of_ble_eq_true rfl) ⟨(Nat.le_of_ble_eq_true rfl), (Nat.le_of_ble_eq_true rfl)⟩ ⟨(Nat.le_of_ble_eq_true rfl), (Nat.le_of_ble_eq_true rfl)⟩ (fun v g_3 hp => ?_)
  obtain ⟨rfl, h_3, mx⟩ := hp
  have mm := mm.tr mx
  show gh_W l G _ X g_3 0 0 [some (.ref (B 0)), some (.int (nI most))] 28 [.int (nI 0)]
  refine gh_if_eqN hK d_Md_word_28 (tgt := 35) (by decide) (by decide) (fun _ => ?_) (fun z3 => absurd z3 (by decide))
  refine gh_iconst (v := nI 0) hK d_Md_word_35 (by decide) ?_
  exact gh_zret (by decide) hK hE d_Md_word_36 (Nat.le_of_ble_eq_true rfl) (Nat.le_of_ble_eq_true rfl) ⟨by rw [z, z2]; rfl, by rw [z, z2, if_neg (by decide), if_pos zz]; exact h_3, mm⟩
