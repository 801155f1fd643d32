/-- the text lies in array 1 -/
def TxA (F : Nat → Nat → Int32) (tx : List Nat) : Prop := tx.length ≤ 2048 ∧ ∀ i, i < tx.length → F 1 i = nI (tx.getD i 0) ∧ 0 < tx.getD i 0 ∧ tx.getD i 0 < 256
theorem TxA.eq {F F' : Nat → Nat → Int32} {tx : List Nat} (h : TxA F tx) (e : F' 1 = F 1) : TxA F' tx := ⟨h.1, fun i hi => by rw [e]; exact h.2 i hi⟩
/-- a word lies in an array, from place b -/
def sA (f : Nat → Int32) (b : Nat) (xs : List Nat) : Prop := ∀ i, i < xs.length → f (b + i) = nI (xs.getD i 0) ∧ xs.getD i 0 < 65536
theorem TxA.sl {F : Nat → Nat → Int32} {tx : List Nat} (h : TxA F tx) {s k : Nat} (hk : s + k ≤ tx.length) : sA (F 1) s ((tx.drop s).take k) := fun i hi => by
  rw [slice_len hk] at hi
  rw [slice_getD hk hi]
  obtain ⟨h1, h2, h3⟩ := h.2 (s + i) (by omega)
  exact ⟨h1, by omega⟩
theorem sA.take {f : Nat → Int32} {b : Nat} {xs : List Nat} (h : sA f b xs) (k : Nat) : sA f b (xs.take k) := fun i hi => by
  rw [List.length_take] at hi
  have := h i (by omega)
  rwa [List.getD_eq_getElem?_getD, List.getElem?_take_of_lt (by omega), ← List.getD_eq_getElem?_getD]
theorem mcp_le {j : Nat} (hj : j ∈ mAr) : mcp j ≤ 4800 := by
  simp [mAr] at hj
  rcases hj with rfl | rfl | rfl | rfl | rfl | rfl | rfl | rfl | rfl | rfl | rfl | rfl <;> decide
theorem drop_D {xs : List Nat} {i : Nat} (h : i < xs.length) : xs.drop i = xs.getD i 0 :: xs.drop (i + 1) := by
  rw [List.drop_eq_getElem_cons h, List.getD_eq_getElem?_getD, List.getElem?_eq_getElem h]
  rfl
set_option maxRecDepth 20000 in
set_option maxHeartbeats 4000000 in
theorem c_Md_next (l : Launch) (G : GG) {g : GH} {B : Nat → Nat} {cd ty ne fr tt ap fi en wr mk wd : Nat} {F : Nat → Nat → Int32} {o : List Nat × Nat} {tx : List Nat} (h : Md G g B (mS cd ty ne fr tt ap fi en wr mk wd) F o) (ht : TxA F tx) (hto : tt ≤ tx.length) (hat : ap ≤ tt) : gMet l G y_Md_next b_Md_next 1 (some .boolean) (rmk 0 0 0 0) [.ref (B 0)] g (fun v g' => v = some (.int (nI (bn (decide ((nxS tx tt ap) < (nxE tx tt ap)))))) ∧ Md G g' B (mS cd ty ne fr tt (nxE tx tt ap) (nxS tx tt ap) (nxE tx tt ap) wr mk wd) F o ∧ gh_M MDT g g') := by
  refine gMet.of [some (.ref (B 0))] (by decide +kernel) rfl (Nat.le_of_ble_eq_true rfl) rfl (fun X hK hI hE => ?_)
  have mm : gh_M MDT g g := gh_M.rf
  have htl := ht.1
  have fin : ∀ (g1 : GH) (a : Nat) (h : Md G g1 B (mS cd ty ne fr tt a (nxS tx tt ap) en wr mk wd) F o) (mm : gh_M MDT g g1), a = (nxE tx tt ap) → a ≤ tt → gh_W l G (rmk 0 0 0 0) X g1 0 0 [some (.ref (B 0))] 84 [] := by
    intro g1 a h mm ha hb
    have hs := (nxS_le (tx := tx) hat).2
    refine gh_aload_n hK d_Md_next_84 rfl ?_
    refine gh_aload_n hK d_Md_next_85 rfl ?_
    refine gh_get (v := .int (nI a)) hK d_Md_next_86 in_Md rfl h.1 16 (by decide) kf_Md_70 rfl rfl ?_
    refine gh_mput hK d_Md_next_89 h 18 (mS cd ty ne fr tt a (nxS tx tt ap) a wr mk wd) rfl (by decide) kf_Md_79 rfl rfl rfl rfl (by decide) (fun g_1 h_1 mx => ?_)
    have mm := mm.tr mx
    show gh_W l G _ X g_1 0 0 [some (.ref (B 0))] 92 []
    refine gh_aload_n hK d_Md_next_92 rfl ?_
    refine gh_get (v := .int (nI a)) hK d_Md_next_93 in_Md rfl h_1.1 18 (by decide) kf_Md_79 rfl rfl ?_
    refine gh_aload_n hK d_Md_next_96 rfl ?_
    refine gh_get (v := .int (nI (nxS tx tt ap))) hK d_Md_next_97 in_Md rfl h_1.1 17 (by decide) kf_Md_76 rfl rfl ?_
    refine gh_icmp_leN hK d_Md_next_100 (tgt := 107) (by decide) (by omega) (by omega) (fun z => ?_) (fun z => ?_)
    · refine gh_iconst (v := nI 0) hK d_Md_next_107 (by decide) ?_
      subst ha
      exact gh_zret (by decide) hK hE d_Md_next_108 (Nat.le_of_ble_eq_true rfl) (Nat.le_of_ble_eq_true rfl) ⟨by rw [decide_eq_false (by omega)]; rfl, h_1, mm⟩
    · refine gh_iconst (v := nI 1) hK d_Md_next_103 (by decide) ?_
      refine gh_goto (tgt := 108) hK d_Md_next_104 (by decide) ?_
      subst ha
      exact gh_zret (by decide) hK hE d_Md_next_108 (Nat.le_of_ble_eq_true rfl) (Nat.le_of_ble_eq_true rfl) ⟨by rw [decide_eq_true z]; rfl, h_1, mm⟩
  have lp2 : ∀ (m a : Nat) (g1 : GH) (h : Md G g1 B (mS cd ty ne fr tt a (nxS tx tt ap) en wr mk wd) F o) (mm : gh_M MDT g g1), a + m = tt → sc (fun i => !isSpc tx i) tt a = (nxE tx tt ap) → gh_W l G (rmk 0 0 0 0) X g1 0 0 [some (.ref (B 0))] 46 [] := by
    intro m
    induction m with
    | zero =>
      intro a g1 h mm hm hs
      rw [sc_out (by omega)] at hs
      refine gh_aload_n hK d_Md_next_46 rfl ?_
      refine gh_get (v := .int (nI a)) hK d_Md_next_47 in_Md rfl h.1 16 (by decide) kf_Md_70 rfl rfl ?_
      refine gh_aload_n hK d_Md_next_50 rfl ?_
      refine gh_get (v := .int (nI tt)) hK d_Md_next_51 in_Md rfl h.1 15 (by decide) kf_Md_73 rfl rfl ?_
      refine gh_icmp_geN hK d_Md_next_54 (tgt := 84) (by decide) (by omega) (by omega) (fun z => ?_) (fun z => by omega)
      exact fin g1 a h mm hs (by omega)
    | succ m ih =>
      intro a g1 h mm hm hs
      have hc := ht.2 a (by omega)
      refine gh_aload_n hK d_Md_next_46 rfl ?_
      refine gh_get (v := .int (nI a)) hK d_Md_next_47 in_Md rfl h.1 16 (by decide) kf_Md_70 rfl rfl ?_
      refine gh_aload_n hK d_Md_next_50 rfl ?_
      refine gh_get (v := .int (nI tt)) hK d_Md_next_51 in_Md rfl h.1 15 (by decide) kf_Md_73 rfl rfl ?_
      refine gh_icmp_geN hK d_Md_next_54 (tgt := 84) (by decide) (by omega) (by omega) (fun z => by omega) (fun z => ?_)
      refine gh_aload_n hK d_Md_next_57 rfl ?_
      refine gh_get (v := .ref (B 1)) hK d_Md_next_58 in_Md rfl h.1 2 (by decide) kf_Md_7 rfl rfl ?_
      refine gh_aload_n hK d_Md_next_61 rfl ?_
      refine gh_get (v := .int (nI a)) hK d_Md_next_62 in_Md rfl h.1 16 (by decide) kf_Md_70 rfl rfl ?_
      refine gh_mald hK d_Md_next_65 h 1 (by decide) (i := a) (x := (nI (tx.getD a 0))) (by show a < 2048; omega) (ht.2 a (by omega)).1 ?_
      refine gh_bipush (v := nI 32) hK d_Md_next_66 (by decide) ?_
      refine gh_icmp_eqN hK d_Md_next_68 (tgt := 84) (by decide) (by omega) (by omega) (fun z2 => ?_) (fun z2 => ?_)
      rotate_left
      · refine gh_aload_n hK d_Md_next_71 rfl ?_
        refine gh_dup hK d_Md_next_72 rfl ?_
        refine gh_get (v := .int (nI a)) hK d_Md_next_73 in_Md rfl h.1 16 (by decide) kf_Md_70 rfl rfl ?_
        refine gh_iconst (v := nI 1) hK d_Md_next_76 (by decide) ?_
        refine gh_addN hK d_Md_next_77 ?_
        refine gh_mput hK d_Md_next_78 h 16 (mS cd ty ne fr tt (a + 1) (nxS tx tt ap) en wr mk wd) rfl (by decide) kf_Md_70 rfl rfl rfl rfl (by decide) (fun g_1 h_1 mx => ?_)
        have mm := mm.tr mx
        show gh_W l G _ X g_1 0 0 [some (.ref (B 0))] 81 []
        refine gh_goto (tgt := 46) hK d_Md_next_81 (by decide) ?_
        exact ih (a + 1) g_1 h_1 mm (by omega) (by rw [← hs]; exact (sc_yes (by omega) (by simp [isSpc]; exact z2)).symm)
      rw [sc_no (by simp [isSpc]; exact z2)] at hs
      exact fin g1 a h mm hs (by omega)
  have lp1 : ∀ (m a : Nat) (g1 : GH) (h : Md G g1 B (mS cd ty ne fr tt a fi en wr mk wd) F o) (mm : gh_M MDT g g1), a + m = tt → sc (isSpc tx) tt a = (nxS tx tt ap) → gh_W l G (rmk 0 0 0 0) X g1 0 0 [some (.ref (B 0))] 0 [] := by
    intro m
    induction m with
    | zero =>
      intro a g1 h mm hm hs
      rw [sc_out (by omega)] at hs
      refine gh_aload_n hK d_Md_next_0 rfl ?_
      refine gh_get (v := .int (nI a)) hK d_Md_next_1 in_Md rfl h.1 16 (by decide) kf_Md_70 rfl rfl ?_
      refine gh_aload_n hK d_Md_next_4 rfl ?_
      refine gh_get (v := .int (nI tt)) hK d_Md_next_5 in_Md rfl h.1 15 (by decide) kf_Md_73 rfl rfl ?_
      refine gh_icmp_geN hK d_Md_next_8 (tgt := 38) (by decide) (by omega) (by omega) (fun z => ?_) (fun z => by omega)
      refine gh_aload_n hK d_Md_next_38 rfl ?_
      refine gh_aload_n hK d_Md_next_39 rfl ?_
      refine gh_get (v := .int (nI a)) hK d_Md_next_40 in_Md rfl h.1 16 (by decide) kf_Md_70 rfl rfl ?_
      refine gh_mput hK d_Md_next_43 h 17 (mS cd ty ne fr tt a a en wr mk wd) rfl (by decide) kf_Md_76 rfl rfl rfl rfl (by decide) (fun g_1 h_1 mx => ?_)
      have mm := mm.tr mx
      show gh_W l G _ X g_1 0 0 [some (.ref (B 0))] 46 []
      exact lp2 0 a g_1 (by rw [← hs]; exact h_1) mm (by omega) (by rw [hs]; rfl)
    | succ m ih =>
      intro a g1 h mm hm hs
      have hc := ht.2 a (by omega)
      refine gh_aload_n hK d_Md_next_0 rfl ?_
      refine gh_get (v := .int (nI a)) hK d_Md_next_1 in_Md rfl h.1 16 (by decide) kf_Md_70 rfl rfl ?_
      refine gh_aload_n hK d_Md_next_4 rfl ?_
      refine gh_get (v := .int (nI tt)) hK d_Md_next_5 in_Md rfl h.1 15 (by decide) kf_Md_73 rfl rfl ?_
      refine gh_icmp_geN hK d_Md_next_8 (tgt := 38) (by decide) (by omega) (by omega) (fun z => by omega) (fun z => ?_)
      refine gh_aload_n hK d_Md_next_11 rfl ?_
      refine gh_get (v := .ref (B 1)) hK d_Md_next_12 in_Md rfl h.1 2 (by decide) kf_Md_7 rfl rfl ?_
      refine gh_aload_n hK d_Md_next_15 rfl ?_
      refine gh_get (v := .int (nI a)) hK d_Md_next_16 in_Md rfl h.1 16 (by decide) kf_Md_70 rfl rfl ?_
      refine gh_mald hK d_Md_next_19 h 1 (by decide) (i := a) (x := (nI (tx.getD a 0))) (by show a < 2048; omega) (ht.2 a (by omega)).1 ?_
      refine gh_bipush (v := nI 32) hK d_Md_next_20 (by decide) ?_
      refine gh_icmp_neN hK d_Md_next_22 (tgt := 38) (by decide) (by omega) (by omega) (fun z2 => ?_) (fun z2 => ?_)
      rotate_left
      · refine gh_aload_n hK d_Md_next_25 rfl ?_
        refine gh_dup hK d_Md_next_26 rfl ?_
        refine gh_get (v := .int (nI a)) hK d_Md_next_27 in_Md rfl h.1 16 (by decide) kf_Md_70 rfl rfl ?_
        refine gh_iconst (v := nI 1) hK d_Md_next_30 (by decide) ?_
        refine gh_addN hK d_Md_next_31 ?_
        refine gh_mput hK d_Md_next_32 h 16 (mS cd ty ne fr tt (a + 1) fi en wr mk wd) rfl (by decide) kf_Md_70 rfl rfl rfl rfl (by decide) (fun g_1 h_1 mx => ?_)
        have mm := mm.tr mx
        show gh_W l G _ X g_1 0 0 [some (.ref (B 0))] 35 []
        refine gh_goto (tgt := 0) hK d_Md_next_35 (by decide) ?_
        exact ih (a + 1) g_1 h_1 mm (by omega) (by rw [← hs]; exact (sc_yes (by omega) (by simp [isSpc]; exact z2)).symm)
      rw [sc_no (by simp [isSpc]; exact z2)] at hs
      refine gh_aload_n hK d_Md_next_38 rfl ?_
      refine gh_aload_n hK d_Md_next_39 rfl ?_
      refine gh_get (v := .int (nI a)) hK d_Md_next_40 in_Md rfl h.1 16 (by decide) kf_Md_70 rfl rfl ?_
      refine gh_mput hK d_Md_next_43 h 17 (mS cd ty ne fr tt a a en wr mk wd) rfl (by decide) kf_Md_76 rfl rfl rfl rfl (by decide) (fun g_2 h_2 mx => ?_)
      have mm := mm.tr mx
      show gh_W l G _ X g_2 0 0 [some (.ref (B 0))] 46 []
      exact lp2 (m + 1) a g_2 (by rw [← hs]; exact h_2) mm (by omega) (by rw [hs]; rfl)
  exact lp1 (tt - ap) ap g h mm (by omega) rfl
set_option maxRecDepth 20000 in
set_option maxHeartbeats 4000000 in
theorem c_Md_must (l : Launch) (G : GG) {g : GH} {B : Nat → Nat} {cd ty ne fr tt ap fi en wr mk wd : Nat} {F : Nat → Nat → Int32} {o : List Nat × Nat} {tx : List Nat} (h : Md G g B (mS cd ty ne fr tt ap fi en wr mk wd) F o) (ht : TxA F tx) (hto : tt ≤ tx.length) (hat : ap ≤ tt) (hft : fr ≤ tt) : gMet l G y_Md_must b_Md_must 2 (some .boolean) (rmk 1 0 0 20) [.ref (B 0)] g (fun v g' => v = some (.int (nI (bn (decide ((nxS tx tt ap) < (nxE tx tt ap)))))) ∧ Md G g' B (mS cd ty ne fr tt (nxE tx tt ap) (nxS tx tt ap) (nxE tx tt ap) (if (nxS tx tt ap) < (nxE tx tt ap) then wr else tt - fr + 1) mk wd) F o ∧ gh_M MDT g g') := by
  refine gMet.of [some (.ref (B 0)), none] (by decide +kernel) rfl (Nat.le_of_ble_eq_true rfl) rfl (fun X hK hI hE => ?_)
  have mm : gh_M MDT g g := gh_M.rf
  refine gh_aload_n hK d_Md_must_0 rfl ?_
  refine gh_callV (rest := []) [] hK (c_Md_next l G h ht hto hat) Y_Md_next V_Md_next km_Md_82 h.1 rfl rfl d_Md_must_1 rfl rfl (Nat.le_of_ble_eq_true rfl) ⟨(Nat.le_of_ble_eq_true rfl), (Nat.le_of_ble_eq_true rfl)⟩ ⟨(Nat.le_of_ble_eq_true rfl), (Nat.le_of_ble_eq_true rfl)⟩ (fun v g_1 hp => ?_)
  obtain ⟨rfl, h_1, mx⟩ := hp
  have mm := mm.tr mx
  show gh_W l G _ X g_1 0 0 [some (.ref (B 0)), none] 4 [.int (nI (bn (decide ((nxS tx tt ap) < (nxE tx tt ap)))))]
  refine gh_istore_n (lv' := [some (.ref (B 0)), some (.int (nI (bn (decide ((nxS tx tt ap) < (nxE tx tt ap))))))]) hK d_Md_must_4 (Nat.le_of_ble_eq_true rfl) rfl ?_
  refine gh_iload_n hK d_Md_must_5 rfl ?_
  refine gh_if_neB hK d_Md_must_6 (tgt := 24) (by decide) (fun z => ?_) (fun z => ?_)
  · have zz := of_decide_eq_true z
    refine gh_iload_n hK d_Md_must_24 rfl ?_
    exact gh_zret (by rw [z]; decide) hK hE d_Md_must_25 (Nat.le_of_ble_eq_true rfl) (Nat.le_of_ble_eq_true rfl) ⟨rfl, by rw [if_pos zz]; exact h_1, mm⟩
  · have zz := of_decide_eq_false z
    refine gh_aload_n hK d_Md_must_9 rfl ?_
    refine gh_aload_n hK d_Md_must_10 rfl ?_
    refine gh_get (v := .int (nI tt)) hK d_Md_must_11 in_Md rfl h_1.1 15 (by decide) kf_Md_73 rfl rfl ?_
    refine gh_aload_n hK d_Md_must_14 rfl ?_
    refine gh_get (v := .int (nI fr)) hK d_Md_must_15 in_Md rfl h_1.1 14 (by decide) kf_Md_86 rfl rfl ?_
    refine gh_subN hK d_Md_must_18 (by omega) ?_
    refine gh_iconst (v := nI 1) hK d_Md_must_19 (by decide) ?_
    refine gh_addN hK d_Md_must_20 ?_
    refine gh_mput hK d_Md_must_21 h_1 19 (mS cd ty ne fr tt (nxE tx tt ap) (nxS tx tt ap) (nxE tx tt ap) ((tt - fr) + 1) mk wd) rfl (by decide) kf_Md_89 rfl rfl rfl rfl (by decide) (fun g_2 h_2 mx => ?_)
    have mm := mm.tr mx
    show gh_W l G _ X g_2 0 0 [some (.ref (B 0)), some (.int (nI (bn (decide ((nxS tx tt ap) < (nxE tx tt ap))))))] 24 []
    refine gh_iload_n hK d_Md_must_24 rfl ?_
    exact gh_zret (by rw [z]; decide) hK hE d_Md_must_25 (Nat.le_of_ble_eq_true rfl) (Nat.le_of_ble_eq_true rfl) ⟨rfl, by rw [if_neg zz]; exact h_2, mm⟩
set_option maxRecDepth 20000 in
set_option maxHeartbeats 4000000 in
theorem c_Md_mustEnd (l : Launch) (G : GG) {g : GH} {B : Nat → Nat} {cd ty ne fr tt ap fi en wr mk wd : Nat} {F : Nat → Nat → Int32} {o : List Nat × Nat} {tx : List Nat} (h : Md G g B (mS cd ty ne fr tt ap fi en wr mk wd) F o) (ht : TxA F tx) (hto : tt ≤ tx.length) (hat : ap ≤ tt) (hft : fr ≤ ap) : gMet l G y_Md_mustEnd b_Md_mustEnd 1 (some .boolean) (rmk 1 0 0 20) [.ref (B 0)] g (fun v g' => v = some (.int (nI (bn (decide ((nxE tx tt ap) ≤ (nxS tx tt ap)))))) ∧ Md G g' B (mS cd ty ne fr tt (nxE tx tt ap) (nxS tx tt ap) (nxE tx tt ap) (if (nxS tx tt ap) < (nxE tx tt ap) then (nxS tx tt ap) - fr + 1 else wr) mk wd) F o ∧ gh_M MDT g g') := by
  refine gMet.of [some (.ref (B 0))] (by decide +kernel) rfl (Nat.le_of_ble_eq_true rfl) rfl (fun X hK hI hE => ?_)
  have mm : gh_M MDT g g := gh_M.rf
  have hb := nxS_le (tx := tx) hat
  refine gh_aload_n hK d_Md_mustEnd_0 rfl ?_
  refine gh_callV (rest := []) [] hK (c_Md_next l G h ht hto hat) Y_Md_next V_Md_next km_Md_82 h.1 rfl rfl d_Md_mustEnd_1 rfl rfl (Nat.le_of_ble_eq_true rfl) ⟨(Nat.le_of_ble_eq_true rfl), (Nat.le_of_ble_eq_true rfl)⟩ ⟨(Nat.le_of_ble_eq_true rfl), (Nat.le_of_ble_eq_true rfl)⟩ (fun v g_1 hp => ?_)
  obtain ⟨rfl, h_1, mx⟩ := hp
  have mm := mm.tr mx
  show gh_W l G _ X g_1 0 0 [some (.ref (B 0))] 4 [.int (nI (bn (decide ((nxS tx tt ap) < (nxE tx tt ap)))))]
  refine gh_if_eqB hK d_Md_mustEnd_4 (tgt := 14) (by decide) (fun z => ?_) (fun z => ?_)
  · have zz := of_decide_eq_false z
    refine gh_iconst (v := nI 1) hK d_Md_mustEnd_14 (by decide) ?_
    refine gh_goto (tgt := 19) hK d_Md_mustEnd_15 (by decide) ?_
    exact gh_zret (by decide) hK hE d_Md_mustEnd_19 (Nat.le_of_ble_eq_true rfl) (Nat.le_of_ble_eq_true rfl) ⟨by rw [decide_eq_true (by omega)]; rfl, by rw [if_neg zz]; exact h_1, mm⟩
  · have zz := of_decide_eq_true z
    refine gh_aload_n hK d_Md_mustEnd_7 rfl ?_
    refine gh_callV (rest := []) [] hK (c_Md_refuse l G h_1 (by omega)) Y_Md_refuse V_Md_refuse km_Md_92 h_1.1 rfl rfl d_Md_mustEnd_8 rfl rfl (Nat.le_of_ble_eq_true rfl) ⟨(Nat.le_of_ble_eq_true rfl), (Nat.le_of_ble_eq_true rfl)⟩ ⟨(Nat.le_of_ble_eq_true rfl), (Nat.le_of_ble_eq_true rfl)⟩ (fun v g_2 hp => ?_)
    obtain ⟨rfl, h_2, mx⟩ := hp
    have mm := mm.tr mx
    show gh_W l G _ X g_2 0 0 [some (.ref (B 0))] 11 [.int (nI 0)]
    refine gh_if_eqN hK d_Md_mustEnd_11 (tgt := 18) (by decide) (by decide) (fun _ => ?_) (fun z3 => absurd z3 (by decide))
    refine gh_iconst (v := nI 0) hK d_Md_mustEnd_18 (by decide) ?_
    exact gh_zret (by decide) hK hE d_Md_mustEnd_19 (Nat.le_of_ble_eq_true rfl) (Nat.le_of_ble_eq_true rfl) ⟨by rw [decide_eq_false (by omega)]; rfl, by rw [if_pos zz]; exact h_2, mm⟩
set_option maxRecDepth 20000 in
set_option maxHeartbeats 4000000 in
theorem c_Md_isLetter (l : Launch) (G : GG) {g : GH} {c : Nat} (hc : c < 65536) : gMet l G y_Md_isLetter b_Md_isLetter 1 (some .boolean) (rmk 0 0 0 0) [.int (nI c)] g (fun v g' => v = some (.int (nI (bn (isLet c)))) ∧ g' = g) := by
  refine gMet.of [some (.int (nI c))] (by decide +kernel) rfl (Nat.le_of_ble_eq_true rfl) rfl (fun X hK hI hE => ?_)
  refine gh_iload_n hK d_Md_isLetter_0 rfl ?_
  refine gh_bipush (v := nI 97) hK d_Md_isLetter_1 (by decide) ?_
  refine gh_icmp_ltN hK d_Md_isLetter_3 (tgt := 16) (by decide) (by omega) (by omega) (fun z => ?_) (fun z => ?_)
  · refine gh_iconst (v := nI 0) hK d_Md_isLetter_16 (by decide) ?_
    exact gh_zret (by decide) hK hE d_Md_isLetter_17 (Nat.le_of_ble_eq_true rfl) (Nat.le_of_ble_eq_true rfl) ⟨by rw [show isLet c = false from decide_eq_false (by omega)]; rfl, rfl⟩
  · refine gh_iload_n hK d_Md_isLetter_6 rfl ?_
    refine gh_bipush (v := nI 122) hK d_Md_isLetter_7 (by decide) ?_
    refine gh_icmp_gtN hK d_Md_isLetter_9 (tgt := 16) (by decide) (by omega) (by omega) (fun z2 => ?_) (fun z2 => ?_)
    · refine gh_iconst (v := nI 0) hK d_Md_isLetter_16 (by decide) ?_
      exact gh_zret (by decide) hK hE d_Md_isLetter_17 (Nat.le_of_ble_eq_true rfl) (Nat.le_of_ble_eq_true rfl) ⟨by rw [show isLet c = false from decide_eq_false (by omega)]; rfl, rfl⟩
    · refine gh_iconst (v := nI 1) hK d_Md_isLetter_12 (by decide) ?_
      refine gh_goto (tgt := 17) hK d_Md_isLetter_13 (by decide) ?_
      exact gh_zret (by decide) hK hE d_Md_isLetter_17 (Nat.le_of_ble_eq_true rfl) (Nat.le_of_ble_eq_true rfl) ⟨by rw [show isLet c = true from decide_eq_true (by omega)]; rfl, rfl⟩
set_option maxRecDepth 20000 in
set_option maxHeartbeats 4000000 in
theorem c_Md_isCapital (l : Launch) (G : GG) {g : GH} {c : Nat} (hc : c < 65536) : gMet l G y_Md_isCapital b_Md_isCapital 1 (some .boolean) (rmk 0 0 0 0) [.int (nI c)] g (fun v g' => v = some (.int (nI (bn (isCap c)))) ∧ g' = g) := by
  refine gMet.of [some (.int (nI c))] (by decide +kernel) rfl (Nat.le_of_ble_eq_true rfl) rfl (fun X hK hI hE => ?_)
  refine gh_iload_n hK d_Md_isCapital_0 rfl ?_
  refine gh_bipush (v := nI 65) hK d_Md_isCapital_1 (by decide) ?_
  refine gh_icmp_ltN hK d_Md_isCapital_3 (tgt := 16) (by decide) (by omega) (by omega) (fun z => ?_) (fun z => ?_)
  · refine gh_iconst (v := nI 0) hK d_Md_isCapital_16 (by decide) ?_
    exact gh_zret (by decide) hK hE d_Md_isCapital_17 (Nat.le_of_ble_eq_true rfl) (Nat.le_of_ble_eq_true rfl) ⟨by rw [show isCap c = false from decide_eq_false (by omega)]; rfl, rfl⟩
  · refine gh_iload_n hK d_Md_isCapital_6 rfl ?_
    refine gh_bipush (v := nI 90) hK d_Md_isCapital_7 (by decide) ?_
    refine gh_icmp_gtN hK d_Md_isCapital_9 (tgt := 16) (by decide) (by omega) (by omega) (fun z2 => ?_) (fun z2 => ?_)
    · refine gh_iconst (v := nI 0) hK d_Md_isCapital_16 (by decide) ?_
      exact gh_zret (by decide) hK hE d_Md_isCapital_17 (Nat.le_of_ble_eq_true rfl) (Nat.le_of_ble_eq_true rfl) ⟨by rw [show isCap c = false from decide_eq_false (by omega)]; rfl, rfl⟩
    · refine gh_iconst (v := nI 1) hK d_Md_isCapital_12 (by decide) ?_
      refine gh_goto (tgt := 17) hK d_Md_isCapital_13 (by decide) ?_
      exact gh_zret (by decide) hK hE d_Md_isCapital_17 (Nat.le_of_ble_eq_true rfl) (Nat.le_of_ble_eq_true rfl) ⟨by rw [show isCap c = true from decide_eq_true (by omega)]; rfl, rfl⟩
