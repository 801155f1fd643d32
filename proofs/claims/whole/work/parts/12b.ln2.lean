/-! flags as bits -/
theorem nI_and (a b : Nat) : nI a &&& nI b = nI (a &&& b) := by
  apply Int32.toBitVec.inj
  rw [Int32.toBitVec_and]
  show BitVec.ofNat 32 a &&& BitVec.ofNat 32 b = BitVec.ofNat 32 (a &&& b)
  apply BitVec.eq_of_toNat_eq
  simp [BitVec.toNat_and, Nat.and_mod_two_pow]
theorem nI_or (a b : Nat) : nI a ||| nI b = nI (a ||| b) := by
  apply Int32.toBitVec.inj
  rw [Int32.toBitVec_or]
  show BitVec.ofNat 32 a ||| BitVec.ofNat 32 b = BitVec.ofNat 32 (a ||| b)
  apply BitVec.eq_of_toNat_eq
  simp [BitVec.toNat_or, Nat.or_mod_two_pow]
theorem shl1 : ∀ k, k < 26 → nI 1 <<< (nI k &&& 31) = nI (2 ^ k) := by decide +kernel
theorem p2_26 {k : Nat} (h : k < 26) : 2 ^ k < 2 ^ 26 := Nat.pow_lt_pow_right (by omega) h
theorem and_p2 (m k : Nat) : m &&& 2 ^ k = 0 ↔ m.testBit k = false := by
  constructor
  · intro h
    have h1 : (m &&& 2 ^ k).testBit k = m.testBit k := by rw [Nat.testBit_and, Nat.testBit_two_pow_self, Bool.and_true]
    rw [← h1, h, Nat.zero_testBit]
  · intro h
    apply Nat.eq_of_testBit_eq
    intro i
    rw [Nat.testBit_and, Nat.testBit_two_pow, Nat.zero_testBit]
    by_cases e : k = i
    · subst e; rw [h]; rfl
    · rw [decide_eq_false e, Bool.and_false]
/-- the flag of a capital -/
def capB (c : Nat) : Nat := if isCap c = true then 2 ^ (c - 65) else 0
def fgF (tx : List Nat) : Nat → Nat → Nat → Option Nat
  | 0, _, m => some m
  | f + 1, i, m => if isCap (tx.getD i 0) = true ∧ m.testBit (tx.getD i 0 - 65) = false then fgF tx f (i + 1) (m ||| 2 ^ (tx.getD i 0 - 65)) else none
/-- the flags behind the letters, which end at sl -/
def flB (tx : List Nat) (e sl : Nat) : Option Nat := if sl = e then some 0 else if tx.getD sl 0 = 47 ∧ sl + 1 ≠ e then fgF tx (e - (sl + 1)) (sl + 1) 0 else none
def flV (o : Option Nat) : Int32 := match o with
  | some m => nI m
  | none => -1
theorem capB_lt (c : Nat) : capB c < 2 ^ 26 := by
  unfold capB
  split
  · next h =>
    have := of_decide_eq_true h
    exact p2_26 (by omega)
  · exact Nat.pow_pos (by omega)
theorem fgF_lt (tx : List Nat) : ∀ (f i m r : Nat), m < 2 ^ 26 → fgF tx f i m = some r → r < 2 ^ 26
  | 0, i, m, r, h, e => by cases e; exact h
  | f + 1, i, m, r, h, e => by
    rw [fgF] at e
    split at e
    · next hc =>
      have := of_decide_eq_true hc.1
      exact fgF_lt tx f (i + 1) _ r (Nat.or_lt_two_pow h (p2_26 (by omega))) e
    · cases e
theorem flB_lt {tx : List Nat} {e sl r : Nat} (h : flB tx e sl = some r) : r < 2 ^ 26 := by
  unfold flB at h
  split at h
  · cases h; exact Nat.pow_pos (by omega)
  · split at h
    · exact fgF_lt tx _ _ _ r (Nat.pow_pos (by omega)) h
    · cases h
/-- a piece that is the text w -/
def pcI (tx : List Nat) (s e : Nat) (w : List Nat) : Bool := decide ((tx.drop s).take (e - s) = w)
theorem pcI_len {tx : List Nat} {s e : Nat} {w : List Nat} (h : s ≤ e) (he : e ≤ tx.length) (hn : e - s ≠ w.length) : pcI tx s e w = false := decide_eq_false fun z => hn (by rw [← z, slice_len (by omega)])
/-- a part of a rule: letters, or points too -/
def ptL (tx : List Nat) (b : Bool) (i : Nat) : Bool := isLet (tx.getD i 0) || (b && decide (tx.getD i 0 = 46))
def ptO (tx : List Nat) (b : Bool) (s e : Nat) : Bool := decide (s < e) && (pcI tx s e [48] || (decide (sc (ptL tx b) e s = e) && decide (e - s ≤ 6)))
set_option maxRecDepth 20000 in
set_option maxHeartbeats 4000000 in
theorem c_Ln_is (l : Launch) (G : GG) {g : GH} {la ta ls le s e wf wl : Nat} {tb : Nat} {tx : List Nat} {i : Nat} (h : Ln g la ta ls le s e wf wl) (hT : Lt G g ta 1 tb 2 2048 tx) (hse : s ≤ e) (he : e ≤ tx.length) (hi : i < st_N) : gMet l G y_Ln_is b_Ln_is 3 (some .boolean) (rmk 4 0 0 85) [.ref la, .ref (G.2.2.1 i)] g (fun v g' => v = some (.int (nI (bn (pcI tx s e (st_txt.getD i []))))) ∧ g' = g) := by
  refine gMet.of [some (.ref la), some (.ref (G.2.2.1 i)), none] (by decide +kernel) rfl (Nat.le_of_ble_eq_true rfl) rfl (fun X hK hI hE => ?_)
  obtain ⟨ht1, ht2⟩ := hT.len
  obtain ⟨e1, e2, e3⟩ := st_all i hi
  have loop : ∀ (m j : Nat), e - s = (st_txt.getD i []).length → j + m = e - s → (tx.drop s).take j = (st_txt.getD i []).take j → gh_W l G (rmk 4 0 0 85) X g 0 0 [some (.ref la), some (.ref (G.2.2.1 i)), some (.int (nI j))] 20 [] := by
    intro m
    induction m with
    | zero =>
      intro j hl hj hq
      refine gh_iload_n hK d_Ln_is_20 rfl ?_
      refine gh_aload_n hK d_Ln_is_21 rfl ?_
      refine gh_callVs (i := i) (rest := [.int (nI j)]) [] hK (c_Str_length l G (g := g) hi) Y_Str_length V_Str_length km_Ln_44 hi rfl rfl d_Ln_is_22 rfl rfl (Nat.le_of_ble_eq_true rfl) ⟨(Nat.le_of_ble_eq_true rfl), (Nat.le_of_ble_eq_true rfl)⟩ ⟨(Nat.le_of_ble_eq_true rfl), (Nat.le_of_ble_eq_true rfl)⟩ (fun v g' hp => ?_)
      rw [hp.1, hp.2]
      show gh_W l G _ X g 0 0 [some (.ref la), some (.ref (G.2.2.1 i)), some (.int (nI j))] 25 [.int (nI ((st_txt.getD i []).length)), .int (nI j)]
      refine gh_icmp_geN hK d_Ln_is_25 (tgt := 57) (by decide) (by omega) (by omega) (fun z => ?_) (fun z => absurd z (by omega))
      refine gh_iconst (v := nI 1) hK d_Ln_is_57 (by decide) ?_
      refine gh_zret rfl hK hE d_Ln_is_58 (Nat.le_of_ble_eq_true rfl) (Nat.le_of_ble_eq_true rfl) ⟨?_, rfl⟩
      rw [show pcI tx s e (st_txt.getD i []) = true from decide_eq_true (by rw [show e - s = j by omega, hq, List.take_of_length_le (by omega)])]
      rfl
    | succ m ih =>
      intro j hl hj hq
      refine gh_iload_n hK d_Ln_is_20 rfl ?_
      refine gh_aload_n hK d_Ln_is_21 rfl ?_
      refine gh_callVs (i := i) (rest := [.int (nI j)]) [] hK (c_Str_length l G (g := g) hi) Y_Str_length V_Str_length km_Ln_44 hi rfl rfl d_Ln_is_22 rfl rfl (Nat.le_of_ble_eq_true rfl) ⟨(Nat.le_of_ble_eq_true rfl), (Nat.le_of_ble_eq_true rfl)⟩ ⟨(Nat.le_of_ble_eq_true rfl), (Nat.le_of_ble_eq_true rfl)⟩ (fun v g' hp => ?_)
      rw [hp.1, hp.2]
      show gh_W l G _ X g 0 0 [some (.ref la), some (.ref (G.2.2.1 i)), some (.int (nI j))] 25 [.int (nI ((st_txt.getD i []).length)), .int (nI j)]
      refine gh_icmp_geN hK d_Ln_is_25 (tgt := 57) (by decide) (by omega) (by omega) (fun z => absurd z (by omega)) (fun z => ?_)
      refine gh_aload_n hK d_Ln_is_28 rfl ?_
      refine gh_get hK d_Ln_is_29 in_Ln rfl h 0 (by decide) kf_Ln_9 rfl rfl ?_
      refine gh_aload_n hK d_Ln_is_32 rfl ?_
      refine gh_get hK d_Ln_is_33 in_Ln rfl h 3 (by decide) kf_Ln_22 rfl rfl ?_
      refine gh_iload_n hK d_Ln_is_36 rfl ?_
      refine gh_addN hK d_Ln_is_37 ?_
      refine gh_callV (rest := []) [.int (nI (s + j))] hK (c_Lt_at l G hT (j := s + j) (by omega)) Y_Lt_at V_Lt_at km_Ln_28 hT.ob rfl rfl d_Ln_is_38 rfl rfl (Nat.le_of_ble_eq_true rfl) ⟨(Nat.le_of_ble_eq_true rfl), (Nat.le_of_ble_eq_true rfl)⟩ ⟨(Nat.le_of_ble_eq_true rfl), (Nat.le_of_ble_eq_true rfl)⟩ (fun v g' hp => ?_)
      rw [hp.1, hp.2]
      show gh_W l G _ X g _ _ [some (.ref la), some (.ref (G.2.2.1 i)), some (.int (nI j))] 41 [.int (nI (tx.getD (s + j) 0))]
      refine gh_aload_n hK d_Ln_is_41 rfl ?_
      refine gh_iload_n hK d_Ln_is_42 rfl ?_
      refine gh_callVs (i := i) (rest := [.int (nI (tx.getD (s + j) 0))]) [.int (nI j)] hK (c_Str_charAt l G (g := g) hi (j := j) (by omega)) Y_Str_charAt V_Str_charAt km_Ln_50 hi rfl rfl d_Ln_is_43 rfl rfl (Nat.le_of_ble_eq_true rfl) ⟨(Nat.le_of_ble_eq_true rfl), (Nat.le_of_ble_eq_true rfl)⟩ ⟨(Nat.le_of_ble_eq_true rfl), (Nat.le_of_ble_eq_true rfl)⟩ (fun v g' hp => ?_)
      rw [hp.1, hp.2]
      show gh_W l G _ X g 0 0 [some (.ref la), some (.ref (G.2.2.1 i)), some (.int (nI j))] 46 [.int (nI ((st_txt.getD i []).getD j 0)), .int (nI (tx.getD (s + j) 0))]
      have hc1 := hT.getD (s + j)
      have hc2 := (e3 j (by omega)).2
      refine gh_icmp_eqN hK d_Ln_is_46 (tgt := 51) (by decide) (by omega) (by omega) (fun z2 => ?_) (fun z2 => ?_)
      · refine gh_incN (lv' := [some (.ref la), some (.ref (G.2.2.1 i)), some (.int (nI (j + 1)))]) hK d_Ln_is_51 rfl rfl ?_
        refine gh_goto (tgt := 20) hK d_Ln_is_54 (by decide) ?_
        exact ih (j + 1) hl (by omega) (by rw [slice_succ (by omega), take_succD (by omega), hq, z2])
      · refine gh_iconst (v := nI 0) hK d_Ln_is_49 (by decide) ?_
        refine gh_zret rfl hK hE d_Ln_is_50 (Nat.le_of_ble_eq_true rfl) (Nat.le_of_ble_eq_true rfl) ⟨?_, rfl⟩
        rw [show pcI tx s e (st_txt.getD i []) = false from decide_eq_false fun q => z2 (by rw [← q, slice_getD (by omega) (by omega)])]
        rfl
  refine gh_aload_n hK d_Ln_is_0 rfl ?_
  refine gh_get hK d_Ln_is_1 in_Ln rfl h 4 (by decide) kf_Ln_25 rfl rfl ?_
  refine gh_aload_n hK d_Ln_is_4 rfl ?_
  refine gh_get hK d_Ln_is_5 in_Ln rfl h 3 (by decide) kf_Ln_22 rfl rfl ?_
  refine gh_subN hK d_Ln_is_8 (by omega) ?_
  refine gh_aload_n hK d_Ln_is_9 rfl ?_
  refine gh_callVs (i := i) (rest := [.int (nI (e - s))]) [] hK (c_Str_length l G (g := g) hi) Y_Str_length V_Str_length km_Ln_44 hi rfl rfl d_Ln_is_10 rfl rfl (Nat.le_of_ble_eq_true rfl) ⟨(Nat.le_of_ble_eq_true rfl), (Nat.le_of_ble_eq_true rfl)⟩ ⟨(Nat.le_of_ble_eq_true rfl), (Nat.le_of_ble_eq_true rfl)⟩ (fun v g' hp => ?_)
  rw [hp.1, hp.2]
  show gh_W l G _ X g 0 0 [some (.ref la), some (.ref (G.2.2.1 i)), none] 13 [.int (nI ((st_txt.getD i []).length)), .int (nI (e - s))]
  refine gh_icmp_eqN hK d_Ln_is_13 (tgt := 18) (by decide) (by omega) (by omega) (fun z => ?_) (fun z => ?_)
  · refine gh_iconst (v := nI 0) hK d_Ln_is_18 (by decide) ?_
    refine gh_istore_n (lv' := [some (.ref la), some (.ref (G.2.2.1 i)), some (.int (nI 0))]) hK d_Ln_is_19 (Nat.le_of_ble_eq_true rfl) rfl ?_
    exact loop (e - s) 0 z (by omega) rfl
  · refine gh_iconst (v := nI 0) hK d_Ln_is_16 (by decide) ?_
    exact gh_zret rfl hK hE d_Ln_is_17 (Nat.le_of_ble_eq_true rfl) (Nat.le_of_ble_eq_true rfl) ⟨by rw [pcI_len hse he z]; rfl, rfl⟩
/-- the piece is a word of at most k letters -/
def wdO (tx : List Nat) (k s e : Nat) : Bool := decide (1 ≤ ldL tx e s - s ∧ ldL tx e s - s ≤ k ∧ ldL tx e s - s = e - s)
set_option maxRecDepth 20000 in
set_option maxHeartbeats 4000000 in
theorem c_Ln_isWord (l : Launch) (G : GG) {g : GH} {la ta ls le s e wf wl : Nat} {tb : Nat} {tx : List Nat} {k : Nat} (h : Ln g la ta ls le s e wf wl) (hT : Lt G g ta 1 tb 2 2048 tx) (hse : s ≤ e) (he : e ≤ tx.length) (hk : k < 2 ^ 31) : gMet l G y_Ln_isWord b_Ln_isWord 2 (some .boolean) (rmk 2 0 0 42) [.ref la, .int (nI k)] g (fun v g' => v = some (.int (nI (bn (wdO tx k s e)))) ∧ Ln g' la ta ls le s e s (ldL tx e s - s) ∧ gh_N [la] g g') := by
  refine gMet.of [some (.ref la), some (.int (nI k))] (by decide +kernel) rfl (Nat.le_of_ble_eq_true rfl) rfl (fun X hK hI hE => ?_)
  obtain ⟨ht1, ht2⟩ := hT.len
  have hb1 : s ≤ ldL tx e s := sc_ge _ _ _
  have hb2 : ldL tx e s ≤ e := sc_le hse
  refine gh_aload_n hK d_Ln_isWord_0 rfl ?_
  refine gh_aload_n hK d_Ln_isWord_1 rfl ?_
  refine gh_get hK d_Ln_isWord_2 in_Ln rfl h 3 (by decide) kf_Ln_22 rfl rfl ?_
  refine gh_put hK d_Ln_isWord_5 in_Ln t_Ln ty_Ln nm_Ln rfl h 5 (by decide) kf_Ln_38 rfl rfl rfl rfl (Nat.le_of_ble_eq_true rfl) rfl ?_
  refine gh_aload_n hK d_Ln_isWord_8 rfl ?_
  refine gh_aload_n hK d_Ln_isWord_9 rfl ?_
  have h1 : Ln (gh_up g la 3 (LnE ta ls le s e s wl)) la ta ls le s e s wl := gh_us
  have hT1 := h.T hT (gh_N.up (g := g) (t := 3) (e := LnE ta ls le s e s wl) (List.mem_singleton.mpr rfl))
  refine gh_callV (rest := [.ref la]) [] hK (c_Ln_leadingLetters l G h1 hT1 hse he) Y_Ln_leadingLetters V_Ln_leadingLetters km_Ln_57 h1 rfl rfl d_Ln_isWord_10 rfl rfl (Nat.le_of_ble_eq_true rfl) ⟨(Nat.le_of_ble_eq_true rfl), (Nat.le_of_ble_eq_true rfl)⟩ ⟨(Nat.le_of_ble_eq_true rfl), (Nat.le_of_ble_eq_true rfl)⟩ (fun v g' hp => ?_)
  rw [hp.1, hp.2]
  show gh_W l G _ X (gh_up g la 3 (LnE ta ls le s e s wl)) _ _ [some (.ref la), some (.int (nI k))] 13 [.int (nI (ldL tx e s - s)), .ref la]
  refine gh_put hK d_Ln_isWord_13 in_Ln t_Ln ty_Ln nm_Ln rfl gh_us 6 (by decide) kf_Ln_41 rfl rfl rfl rfl (Nat.le_of_ble_eq_true rfl) rfl ?_
  have hN : gh_N [la] g (gh_up (gh_up g la 3 (LnE ta ls le s e s wl)) la 3 (LnE ta ls le s e s (ldL tx e s - s))) := (gh_N.up (by simp)).tr (gh_N.up (by simp))
  refine gh_aload_n hK d_Ln_isWord_16 rfl ?_
  refine gh_get hK d_Ln_isWord_17 in_Ln rfl gh_us 6 (by decide) kf_Ln_41 rfl rfl ?_
  refine gh_iconst (v := nI 1) hK d_Ln_isWord_20 (by decide) ?_
  refine gh_icmp_ltN hK d_Ln_isWord_21 (tgt := 52) (by decide) (by omega) (by decide) (fun z => ?_) (fun z => ?_)
  · refine gh_iconst (v := nI 0) hK d_Ln_isWord_52 (by decide) ?_
    exact gh_zret rfl hK hE d_Ln_isWord_53 (Nat.le_of_ble_eq_true rfl) (Nat.le_of_ble_eq_true rfl) ⟨by rw [show wdO tx k s e = false from decide_eq_false (by omega)]; rfl, gh_us, hN⟩
  · refine gh_aload_n hK d_Ln_isWord_24 rfl ?_
    refine gh_get hK d_Ln_isWord_25 in_Ln rfl gh_us 6 (by decide) kf_Ln_41 rfl rfl ?_
    refine gh_iload_n hK d_Ln_isWord_28 rfl ?_
    refine gh_icmp_gtN hK d_Ln_isWord_29 (tgt := 52) (by decide) (by omega) hk (fun z2 => ?_) (fun z2 => ?_)
    · refine gh_iconst (v := nI 0) hK d_Ln_isWord_52 (by decide) ?_
      exact gh_zret rfl hK hE d_Ln_isWord_53 (Nat.le_of_ble_eq_true rfl) (Nat.le_of_ble_eq_true rfl) ⟨by rw [show wdO tx k s e = false from decide_eq_false (by omega)]; rfl, gh_us, hN⟩
    · refine gh_aload_n hK d_Ln_isWord_32 rfl ?_
      refine gh_get hK d_Ln_isWord_33 in_Ln rfl gh_us 6 (by decide) kf_Ln_41 rfl rfl ?_
      refine gh_aload_n hK d_Ln_isWord_36 rfl ?_
      refine gh_get hK d_Ln_isWord_37 in_Ln rfl gh_us 4 (by decide) kf_Ln_25 rfl rfl ?_
      refine gh_aload_n hK d_Ln_isWord_40 rfl ?_
      refine gh_get hK d_Ln_isWord_41 in_Ln rfl gh_us 3 (by decide) kf_Ln_22 rfl rfl ?_
      refine gh_subN hK d_Ln_isWord_44 (by omega) ?_
      refine gh_icmp_neN hK d_Ln_isWord_45 (tgt := 52) (by decide) (by omega) (by omega) (fun z3 => ?_) (fun z3 => ?_)
      · refine gh_iconst (v := nI 0) hK d_Ln_isWord_52 (by decide) ?_
        exact gh_zret rfl hK hE d_Ln_isWord_53 (Nat.le_of_ble_eq_true rfl) (Nat.le_of_ble_eq_true rfl) ⟨by rw [show wdO tx k s e = false from decide_eq_false (by omega)]; rfl, gh_us, hN⟩
      · refine gh_iconst (v := nI 1) hK d_Ln_isWord_48 (by decide) ?_
        refine gh_goto (tgt := 53) hK d_Ln_isWord_49 (by decide) ?_
        exact gh_zret rfl hK hE d_Ln_isWord_53 (Nat.le_of_ble_eq_true rfl) (Nat.le_of_ble_eq_true rfl) ⟨by rw [show wdO tx k s e = true from decide_eq_true ⟨by omega, by omega, z3⟩]; rfl, gh_us, hN⟩
/-- the word of a piece, kept -/
def wkF (tx : List Nat) (s e wf : Nat) : Nat := if s < e then s else wf
def wkL (tx : List Nat) (s e wl : Nat) : Nat := if s < e then ldL tx e s - s else wl
set_option maxRecDepth 20000 in
set_option maxHeartbeats 4000000 in
theorem c_Ln_nextIsWord (l : Launch) (G : GG) {g : GH} {la ta ls le s e wf wl : Nat} {tb : Nat} {tx : List Nat} {k : Nat} (h : Ln g la ta ls le s e wf wl) (hT : Lt G g ta 1 tb 2 2048 tx) (he : e ≤ le) (hle : le ≤ tx.length) (hk : k < 2 ^ 31) : gMet l G y_Ln_nextIsWord b_Ln_nextIsWord 2 (some .boolean) (rmk 3 0 0 63) [.ref la, .int (nI k)] g (fun v g' => v = some (.int (nI (bn (decide (nxS tx le e < nxE tx le e) && wdO tx k (nxS tx le e) (nxE tx le e))))) ∧ Ln g' la ta ls le (nxS tx le e) (nxE tx le e) (wkF tx (nxS tx le e) (nxE tx le e) wf) (wkL tx (nxS tx le e) (nxE tx le e) wl) ∧ gh_N [la] g g') := by
  refine gMet.of [some (.ref la), some (.int (nI k))] (by decide +kernel) rfl (Nat.le_of_ble_eq_true rfl) rfl (fun X hK hI hE => ?_)
  obtain ⟨b1, b2⟩ := nxS_le (tx := tx) he
  obtain ⟨b3, b4⟩ := nxE_le (tx := tx) he
  refine gh_aload_n hK d_Ln_nextIsWord_0 rfl ?_
  refine gh_callV (rest := []) [] hK (c_Ln_next l G h hT he hle) Y_Ln_next V_Ln_next km_Ln_34 h rfl rfl d_Ln_nextIsWord_1 rfl rfl (Nat.le_of_ble_eq_true rfl) ⟨(Nat.le_of_ble_eq_true rfl), (Nat.le_of_ble_eq_true rfl)⟩ ⟨(Nat.le_of_ble_eq_true rfl), (Nat.le_of_ble_eq_true rfl)⟩ (fun v g1 hp => ?_)
  obtain ⟨rfl, hp1, hpN⟩ := hp
  show gh_W l G _ X g1 _ _ [some (.ref la), some (.int (nI k))] 4 [.int (nI (bn (decide (nxS tx le e < nxE tx le e))))]
  refine gh_if_eqB hK d_Ln_nextIsWord_4 (tgt := 19) (by decide) (fun z => ?_) (fun z => ?_)
  · refine gh_iconst (v := nI 0) hK d_Ln_nextIsWord_19 (by decide) ?_
    have z1 : ¬ nxS tx le e < nxE tx le e := of_decide_eq_false z
    refine gh_zret rfl hK hE d_Ln_nextIsWord_20 (Nat.le_of_ble_eq_true rfl) (Nat.le_of_ble_eq_true rfl) ⟨by rw [z]; rfl, ?_, hpN⟩
    rw [wkF, wkL, if_neg z1, if_neg z1]
    exact hp1
  · refine gh_aload_n hK d_Ln_nextIsWord_7 rfl ?_
    refine gh_iload_n hK d_Ln_nextIsWord_8 rfl ?_
    have z1 : nxS tx le e < nxE tx le e := of_decide_eq_true z
    refine gh_callV (rest := []) [.int (nI k)] hK (c_Ln_isWord l G hp1 (h.T hT hpN) b3 (by omega) hk) Y_Ln_isWord V_Ln_isWord km_Ln_60 hp1 rfl rfl d_Ln_nextIsWord_9 rfl rfl (Nat.le_of_ble_eq_true rfl) ⟨(Nat.le_of_ble_eq_true rfl), (Nat.le_of_ble_eq_true rfl)⟩ ⟨(Nat.le_of_ble_eq_true rfl), (Nat.le_of_ble_eq_true rfl)⟩ (fun v g2 hp => ?_)
    obtain ⟨rfl, hp2, hpN2⟩ := hp
    show gh_W l G _ X g2 _ _ [some (.ref la), some (.int (nI k))] 12 [.int (nI (bn (wdO tx k (nxS tx le e) (nxE tx le e))))]
    refine gh_if_eqB hK d_Ln_nextIsWord_12 (tgt := 19) (by decide) (fun z2 => ?_) (fun z2 => ?_)
    · refine gh_iconst (v := nI 0) hK d_Ln_nextIsWord_19 (by decide) ?_
      refine gh_zret rfl hK hE d_Ln_nextIsWord_20 (Nat.le_of_ble_eq_true rfl) (Nat.le_of_ble_eq_true rfl) ⟨by rw [z, z2]; rfl, ?_, hpN.tr hpN2⟩
      rw [wkF, wkL, if_pos z1, if_pos z1]
      exact hp2
    · refine gh_iconst (v := nI 1) hK d_Ln_nextIsWord_15 (by decide) ?_
      refine gh_goto (tgt := 20) hK d_Ln_nextIsWord_16 (by decide) ?_
      refine gh_zret rfl hK hE d_Ln_nextIsWord_20 (Nat.le_of_ble_eq_true rfl) (Nat.le_of_ble_eq_true rfl) ⟨by rw [z, z2]; rfl, ?_, hpN.tr hpN2⟩
      rw [wkF, wkL, if_pos z1, if_pos z1]
      exact hp2
/-- what nextIsOnlyWord answers, and where the line then stands -/
def owO (tx : List Nat) (k le e : Nat) : Bool := (decide (nxS tx le e < nxE tx le e) && wdO tx k (nxS tx le e) (nxE tx le e)) && decide (nxE tx le (nxE tx le e) ≤ nxS tx le (nxE tx le e))
def owS (tx : List Nat) (k le e : Nat) : Nat := if (decide (nxS tx le e < nxE tx le e) && wdO tx k (nxS tx le e) (nxE tx le e)) = true then nxS tx le (nxE tx le e) else nxS tx le e
def owE (tx : List Nat) (k le e : Nat) : Nat := if (decide (nxS tx le e < nxE tx le e) && wdO tx k (nxS tx le e) (nxE tx le e)) = true then nxE tx le (nxE tx le e) else nxE tx le e
set_option maxRecDepth 20000 in
set_option maxHeartbeats 4000000 in
theorem c_Ln_nextIsOnlyWord (l : Launch) (G : GG) {g : GH} {la ta ls le s e wf wl : Nat} {tb : Nat} {tx : List Nat} {k : Nat} (h : Ln g la ta ls le s e wf wl) (hT : Lt G g ta 1 tb 2 2048 tx) (he : e ≤ le) (hle : le ≤ tx.length) (hk : k < 2 ^ 31) : gMet l G y_Ln_nextIsOnlyWord b_Ln_nextIsOnlyWord 2 (some .boolean) (rmk 3 0 0 63) [.ref la, .int (nI k)] g (fun v g' => v = some (.int (nI (bn (owO tx k le e)))) ∧ Ln g' la ta ls le (owS tx k le e) (owE tx k le e) (wkF tx (nxS tx le e) (nxE tx le e) wf) (wkL tx (nxS tx le e) (nxE tx le e) wl) ∧ gh_N [la] g g') := by
  refine gMet.of [some (.ref la), some (.int (nI k))] (by decide +kernel) rfl (Nat.le_of_ble_eq_true rfl) rfl (fun X hK hI hE => ?_)
  obtain ⟨b1, b2⟩ := nxS_le (tx := tx) he
  obtain ⟨b3, b4⟩ := nxE_le (tx := tx) he
  refine gh_aload_n hK d_Ln_nextIsOnlyWord_0 rfl ?_
  refine gh_callV (rest := []) [] hK (c_Ln_next l G h hT he hle) Y_Ln_next V_Ln_next km_Ln_34 h rfl rfl d_Ln_nextIsOnlyWord_1 rfl rfl (Nat.le_of_ble_eq_true rfl) ⟨(Nat.le_of_ble_eq_true rfl), (Nat.le_of_ble_eq_true rfl)⟩ ⟨(Nat.le_of_ble_eq_true rfl), (Nat.le_of_ble_eq_true rfl)⟩ (fun v g1 hp => ?_)
  obtain ⟨rfl, hp1, hpN⟩ := hp
  show gh_W l G _ X g1 _ _ [some (.ref la), some (.int (nI k))] 4 [.int (nI (bn (decide (nxS tx le e < nxE tx le e))))]
  refine gh_if_eqB hK d_Ln_nextIsOnlyWord_4 (tgt := 26) (by decide) (fun z => ?_) (fun z => ?_)
  · refine gh_iconst (v := nI 0) hK d_Ln_nextIsOnlyWord_26 (by decide) ?_
    have z1 : ¬ nxS tx le e < nxE tx le e := of_decide_eq_false z
    refine gh_zret rfl hK hE d_Ln_nextIsOnlyWord_27 (Nat.le_of_ble_eq_true rfl) (Nat.le_of_ble_eq_true rfl) ⟨by rw [owO, z]; rfl, ?_, hpN⟩
    rw [owS, owE, wkF, wkL, z, Bool.false_and, if_neg z1, if_neg z1]
    exact hp1
  · refine gh_aload_n hK d_Ln_nextIsOnlyWord_7 rfl ?_
    refine gh_iload_n hK d_Ln_nextIsOnlyWord_8 rfl ?_
    have z1 : nxS tx le e < nxE tx le e := of_decide_eq_true z
    have hT1 := h.T hT hpN
    refine gh_callV (rest := []) [.int (nI k)] hK (c_Ln_isWord l G hp1 hT1 b3 (by omega) hk) Y_Ln_isWord V_Ln_isWord km_Ln_60 hp1 rfl rfl d_Ln_nextIsOnlyWord_9 rfl rfl (Nat.le_of_ble_eq_true rfl) ⟨(Nat.le_of_ble_eq_true rfl), (Nat.le_of_ble_eq_true rfl)⟩ ⟨(Nat.le_of_ble_eq_true rfl), (Nat.le_of_ble_eq_true rfl)⟩ (fun v g2 hp => ?_)
    obtain ⟨rfl, hp2, hpN2⟩ := hp
    show gh_W l G _ X g2 _ _ [some (.ref la), some (.int (nI k))] 12 [.int (nI (bn (wdO tx k (nxS tx le e) (nxE tx le e))))]
    refine gh_if_eqB hK d_Ln_nextIsOnlyWord_12 (tgt := 26) (by decide) (fun z2 => ?_) (fun z2 => ?_)
    · refine gh_iconst (v := nI 0) hK d_Ln_nextIsOnlyWord_26 (by decide) ?_
      refine gh_zret rfl hK hE d_Ln_nextIsOnlyWord_27 (Nat.le_of_ble_eq_true rfl) (Nat.le_of_ble_eq_true rfl) ⟨by rw [owO, z, z2]; rfl, ?_, hpN.tr hpN2⟩
      rw [owS, owE, wkF, wkL, z, z2, if_pos z1, if_pos z1]
      exact hp2
    · refine gh_aload_n hK d_Ln_nextIsOnlyWord_15 rfl ?_
      refine gh_callV (rest := []) [] hK (c_Ln_ends l G hp2 (hp1.T hT1 hpN2) b4 hle) Y_Ln_ends V_Ln_ends km_Ln_64 hp2 rfl rfl d_Ln_nextIsOnlyWord_16 rfl rfl (Nat.le_of_ble_eq_true rfl) ⟨(Nat.le_of_ble_eq_true rfl), (Nat.le_of_ble_eq_true rfl)⟩ ⟨(Nat.le_of_ble_eq_true rfl), (Nat.le_of_ble_eq_true rfl)⟩ (fun v g3 hp => ?_)
      obtain ⟨rfl, hp3, hpN3⟩ := hp
      show gh_W l G _ X g3 _ _ [some (.ref la), some (.int (nI k))] 19 [.int (nI (bn (decide (nxE tx le (nxE tx le e) ≤ nxS tx le (nxE tx le e)))))]
      refine gh_if_eqB hK d_Ln_nextIsOnlyWord_19 (tgt := 26) (by decide) (fun z3 => ?_) (fun z3 => ?_)
      · refine gh_iconst (v := nI 0) hK d_Ln_nextIsOnlyWord_26 (by decide) ?_
        refine gh_zret rfl hK hE d_Ln_nextIsOnlyWord_27 (Nat.le_of_ble_eq_true rfl) (Nat.le_of_ble_eq_true rfl) ⟨by rw [owO, z, z2, z3]; rfl, ?_, (hpN.tr hpN2).tr hpN3⟩
        rw [owS, owE, wkF, wkL, z, z2, if_pos z1, if_pos z1]
        exact hp3
      · refine gh_iconst (v := nI 1) hK d_Ln_nextIsOnlyWord_22 (by decide) ?_
        refine gh_goto (tgt := 27) hK d_Ln_nextIsOnlyWord_23 (by decide) ?_
        refine gh_zret rfl hK hE d_Ln_nextIsOnlyWord_27 (Nat.le_of_ble_eq_true rfl) (Nat.le_of_ble_eq_true rfl) ⟨by rw [owO, z, z2, z3]; rfl, ?_, (hpN.tr hpN2).tr hpN3⟩
        rw [owS, owE, wkF, wkL, z, z2, if_pos z1, if_pos z1]
        exact hp3
set_option maxRecDepth 20000 in
set_option maxHeartbeats 4000000 in
theorem c_Ln_flagBit (l : Launch) (G : GG) {g : GH} {c : Nat} (hc : c < 65536) : gMet l G y_Ln_flagBit b_Ln_flagBit 1 (some .int) (rmk 0 0 0 0) [.int (nI c)] g (fun v g' => v = some (.int (nI (capB c))) ∧ g' = g) := by
  refine gMet.of [some (.int (nI c))] (by decide +kernel) rfl (Nat.le_of_ble_eq_true rfl) rfl (fun X hK hI hE => ?_)
  refine gh_iload_n hK d_Ln_flagBit_0 rfl ?_
  refine gh_bipush (v := nI 65) hK d_Ln_flagBit_1 (by decide) ?_
  refine gh_icmp_ltN hK d_Ln_flagBit_3 (tgt := 21) (by decide) (by omega) (by decide) (fun z => ?_) (fun z => ?_)
  · refine gh_iconst (v := nI 0) hK d_Ln_flagBit_21 (by decide) ?_
    exact gh_iret hK hE d_Ln_flagBit_22 (Nat.le_of_ble_eq_true rfl) (Nat.le_of_ble_eq_true rfl) ⟨by rw [capB, if_neg (by rw [show isCap c = false from decide_eq_false (by omega)]; decide)], rfl⟩
  · refine gh_iload_n hK d_Ln_flagBit_6 rfl ?_
    refine gh_bipush (v := nI 90) hK d_Ln_flagBit_7 (by decide) ?_
    refine gh_icmp_gtN hK d_Ln_flagBit_9 (tgt := 21) (by decide) (by omega) (by decide) (fun z2 => ?_) (fun z2 => ?_)
    · refine gh_iconst (v := nI 0) hK d_Ln_flagBit_21 (by decide) ?_
      exact gh_iret hK hE d_Ln_flagBit_22 (Nat.le_of_ble_eq_true rfl) (Nat.le_of_ble_eq_true rfl) ⟨by rw [capB, if_neg (by rw [show isCap c = false from decide_eq_false (by omega)]; decide)], rfl⟩
    · refine gh_iconst (v := nI 1) hK d_Ln_flagBit_12 (by decide) ?_
      refine gh_iload_n hK d_Ln_flagBit_13 rfl ?_
      refine gh_bipush (v := nI 65) hK d_Ln_flagBit_14 (by decide) ?_
      refine gh_subN hK d_Ln_flagBit_16 (by omega) ?_
      refine gh_ishl hK d_Ln_flagBit_17 ?_
      rw [shl1 (c - 65) (by omega)]
      refine gh_goto (tgt := 22) hK d_Ln_flagBit_18 (by decide) ?_
      exact gh_iret hK hE d_Ln_flagBit_22 (Nat.le_of_ble_eq_true rfl) (Nat.le_of_ble_eq_true rfl) ⟨by rw [capB, if_pos (show isCap c = true from decide_eq_true ⟨z, z2⟩)], rfl⟩
set_option maxRecDepth 20000 in
set_option maxHeartbeats 4000000 in
theorem c_Ln_flag (l : Launch) (G : GG) {g : GH} {la ta ls le s e wf wl : Nat} {tb : Nat} {tx : List Nat} (h : Ln g la ta ls le s e wf wl) (hT : Lt G g ta 1 tb 2 2048 tx) (hse : s ≤ e) (he : e ≤ tx.length) : gMet l G y_Ln_flag b_Ln_flag 1 (some .int) (rmk 1 0 0 21) [.ref la] g (fun v g' => v = some (.int (nI (if e - s = 1 then capB (tx.getD s 0) else 0))) ∧ g' = g) := by
  refine gMet.of [some (.ref la)] (by decide +kernel) rfl (Nat.le_of_ble_eq_true rfl) rfl (fun X hK hI hE => ?_)
  obtain ⟨ht1, ht2⟩ := hT.len
  refine gh_aload_n hK d_Ln_flag_0 rfl ?_
  refine gh_get hK d_Ln_flag_1 in_Ln rfl h 4 (by decide) kf_Ln_25 rfl rfl ?_
  refine gh_aload_n hK d_Ln_flag_4 rfl ?_
  refine gh_get hK d_Ln_flag_5 in_Ln rfl h 3 (by decide) kf_Ln_22 rfl rfl ?_
  refine gh_subN hK d_Ln_flag_8 (by omega) ?_
  refine gh_iconst (v := nI 1) hK d_Ln_flag_9 (by decide) ?_
  refine gh_icmp_neN hK d_Ln_flag_10 (tgt := 30) (by decide) (by omega) (by decide) (fun z => ?_) (fun z => ?_)
  · refine gh_iconst (v := nI 0) hK d_Ln_flag_30 (by decide) ?_
    exact gh_iret hK hE d_Ln_flag_31 (Nat.le_of_ble_eq_true rfl) (Nat.le_of_ble_eq_true rfl) ⟨by rw [if_neg z], rfl⟩
  · refine gh_aload_n hK d_Ln_flag_13 rfl ?_
    refine gh_get hK d_Ln_flag_14 in_Ln rfl h 0 (by decide) kf_Ln_9 rfl rfl ?_
    refine gh_aload_n hK d_Ln_flag_17 rfl ?_
    refine gh_get hK d_Ln_flag_18 in_Ln rfl h 3 (by decide) kf_Ln_22 rfl rfl ?_
    refine gh_callV (rest := []) [.int (nI s)] hK (c_Lt_at l G hT (j := s) (by omega)) Y_Lt_at V_Lt_at km_Ln_28 hT.ob rfl rfl d_Ln_flag_21 rfl rfl (Nat.le_of_ble_eq_true rfl) ⟨(Nat.le_of_ble_eq_true rfl), (Nat.le_of_ble_eq_true rfl)⟩ ⟨(Nat.le_of_ble_eq_true rfl), (Nat.le_of_ble_eq_true rfl)⟩ (fun v g' hp => ?_)
    rw [hp.1, hp.2]
    show gh_W l G _ X g _ _ [some (.ref la)] 24 [.int (nI (tx.getD s 0))]
    refine gh_callS (rest := []) [.int (nI (tx.getD s 0))] hK (c_Ln_flagBit l G (g := g) (hT.getD s)) Y_Ln_flagBit V_Ln_flagBit km_Ln_67 rfl d_Ln_flag_24 rfl rfl (Nat.le_of_ble_eq_true rfl) ⟨(Nat.le_of_ble_eq_true rfl), (Nat.le_of_ble_eq_true rfl)⟩ ⟨(Nat.le_of_ble_eq_true rfl), (Nat.le_of_ble_eq_true rfl)⟩ (fun v g' hp => ?_)
    rw [hp.1, hp.2]
    show gh_W l G _ X g _ _ [some (.ref la)] 27 [.int (nI (capB (tx.getD s 0)))]
    refine gh_goto (tgt := 31) hK d_Ln_flag_27 (by decide) ?_
    exact gh_iret hK hE d_Ln_flag_31 (Nat.le_of_ble_eq_true rfl) (Nat.le_of_ble_eq_true rfl) ⟨by rw [if_pos z], rfl⟩
