/-! the asked words -/
theorem mem_putL {f w : List Nat} {l : List (List Nat)} : w ∈ putL f l ↔ w = f ∨ w ∈ l := by
  unfold putL
  rw [List.mem_append, List.mem_cons]
  constructor
  · rintro (h | h | h)
    · exact Or.inr (List.mem_of_mem_take h)
    · exact Or.inl h
    · exact Or.inr (List.mem_of_mem_drop h)
  · rintro (h | h)
    · exact Or.inr (Or.inl h)
    · rw [← List.take_append_drop (rnkL f l) l, List.mem_append] at h
      rcases h with h | h
      · exact Or.inl h
      · exact Or.inr (Or.inr h)
theorem mem_addW {f w : List Nat} {l : List (List Nat)} : w ∈ addW f l ↔ w = f ∨ w ∈ l := by
  unfold addW
  split
  · next h =>
    constructor
    · exact Or.inr
    · rintro (e | e)
      · rw [e]; exact h
      · exact e
  · exact mem_putL
theorem al_wd {tx : List Nat} {s e k : Nat} (h : s ≤ e) : alO tx s e k false = wdO tx k s e := by
  have ep : ptL tx false = fun i => isLet (tx.getD i 0) := by funext i; rw [ptL, Bool.false_and, Bool.or_false]
  have hl := sc_ge (fun i => isLet (tx.getD i 0)) e s
  have hl2 := sc_le (p := fun i => isLet (tx.getD i 0)) h
  unfold alO wdO ldL
  rw [ep, ← Bool.decide_and, ← Bool.decide_and]
  exact decide_eq_decide.mpr ⟨fun ⟨⟨a, b⟩, c⟩ => by rw [c]; omega, fun ⟨a, b, c⟩ => by omega⟩
/-- no piece left: the place is the line's end -/
theorem nx_end {tx : List Nat} {le e : Nat} (he : e ≤ le) (h : ¬ nxS tx le e < nxE tx le e) : nxS tx le e = le := by
  have b1 := nxS_le (tx := tx) he
  by_cases z : nxS tx le e < le
  · exfalso
    have k := sc_stop (p := isSpc tx) (e := le) (i := e) z he
    have : nxE tx le e = sc (fun i => !isSpc tx i) le (nxS tx le e + 1) := sc_yes z (by show (!isSpc tx (sc (isSpc tx) le e)) = true; rw [k]; rfl)
    have := sc_ge (fun i => !isSpc tx i) le (nxS tx le e + 1)
    omega
  · omega
theorem WdA.add {F : Nat → Nat → Int32} {jw : Nat} {ws : List (List Nat)} {ps : Nat → Nat} {wd : List Nat} {s : Nat} (h : WdA F jw ws ps) (hj : jw ≠ 11 ∧ jw ≠ 12) (hs : sA (F jw) s wd) (hl : s + wd.length ≤ mcp jw) (hm : ws.length < 1024) : WdA (upF (upF F 11 (upd (F 11) ws.length (nI s))) 12 (upd ((upF F 11 (upd (F 11) ws.length (nI s))) 12) ws.length (nI wd.length))) jw (ws ++ [wd]) (fun k => if k = ws.length then s else ps k) := by
  obtain ⟨h1, h2⟩ := h
  have g1 : ∀ k, k < ws.length → (ws ++ [wd]).getD k [] = ws.getD k [] := fun k hk => by
    rw [List.getD_eq_getElem?_getD, List.getElem?_append_left hk, ← List.getD_eq_getElem?_getD]
  have g2 : (ws ++ [wd]).getD ws.length [] = wd := by
    rw [List.getD_eq_getElem?_getD, List.getElem?_append_right (Nat.le_refl _), Nat.sub_self]
    rfl
  refine ⟨by rw [List.length_append]; show ws.length + 1 ≤ _; omega, fun k hk => ?_⟩
  rw [List.length_append, List.length_singleton] at hk
  rw [upF_s, upF_n (i := jw) hj.2, upF_n (i := jw) hj.1, upF_n (i := 11) (by decide), upF_s, upF_n (i := 12) (by decide)]
  by_cases z : k = ws.length
  · subst z
    dsimp only
    rw [if_pos rfl, g2, pk_us, pk_us]
    exact ⟨rfl, rfl, hs, hl⟩
  · dsimp only
    rw [if_neg z, g1 k (by omega), pk_un z, pk_un z]
    exact h2 k (by omega)
/-- words kept, and those still to be looked at -/
def KpA (F : Nat → Nat → Int32) (ks : List (List Nat)) (qs : Nat → Nat) (ws : List (List Nat)) (ps : Nat → Nat) (k : Nat) : Prop := WdA F 1 ks qs ∧ (∀ i, k ≤ i → i < ws.length → F 11 i = nI (ps i) ∧ F 12 i = nI (ws.getD i []).length) ∧ ∀ i, i < ws.length → sA (F 1) (ps i) (ws.getD i []) ∧ ps i + (ws.getD i []).length ≤ 2048
theorem KpA.eq {F F' : Nat → Nat → Int32} {ks ws : List (List Nat)} {qs ps : Nat → Nat} {k : Nat} (h : KpA F ks qs ws ps k) (e : FmZ F F') : KpA F' ks qs ws ps k := by
  obtain ⟨⟨h1, h2⟩, h3, h4⟩ := h
  unfold KpA WdA
  rw [e 11 (by decide), e 12 (by decide), e 1 (by decide)]
  exact ⟨⟨h1, h2⟩, h3, h4⟩
set_option maxRecDepth 20000 in
set_option maxHeartbeats 4000000 in
theorem c_Md_check (l : Launch) (G : GG) {ds : List (List Nat × Nat)} {us1 us2 : List RuR} {tx : List Nat} {nck : List Nat → Bool} {g : GH} {B : Nat → Nat} {cd ty fr tt ap fi en wr mk wd : Nat} {F : Nat → Nat → Int32} {o : List Nat × Nat} (h : Md G g B (mS cd ty ds.length fr tt ap fi en wr mk wd) F o) (ht : TxA F tx) (hto : tt ≤ tx.length) (hat : ap ≤ tt) (hfa : fr ≤ ap) (hD : DcA F ds) (hR1 : RlA F 0 us1) (hR2 : RlA F 1 us2) (hck : ∀ w, nck w = true ↔ ¬ rgt ds us1 us2 w) : gMet l G y_Md_check b_Md_check 4 none (rmk 3 0 0 80) [.ref (B 0)] g (fun v g' => v = none ∧ ∃ ap' fi' en' mk' wd' F', Md G g' B (mS cd ty ds.length fr tt ap' fi' en' (match (ckA tx tt ap).1 with | some q => q - fr + 1 | none => wr) mk' wd') F' (match (ckA tx tt ap).1 with | some _ => o | none => prs o (jnI ((ckA tx tt ap).2.filter nck))) ∧ FmY F F' ∧ gh_M MDT g g') := by
  refine gMet.of [some (.ref (B 0)), none, none, none] (by decide +kernel) rfl (Nat.le_of_ble_eq_true rfl) rfl (fun X hK hI hE => ?_)
  have mm : gh_M MDT g g := gh_M.rf
  have htl := ht.1
  have hb1 := nxS_le (tx := tx) hat
  have hb2 := nxE_le (tx := tx) hat
  obtain ⟨R, hRR⟩ : ∃ x, x = (ckA tx tt ap) := ⟨_, rfl⟩
  rw [← hRR] at hE
  have t159 : ∀ (g1 : GH) (F1 : Nat → Nat → Int32) (a s0 en1 mk1 wd1 : Nat) (ks : List (List Nat)) (qs : Nat → Nat) (v1 v3 : Option Value) (h : Md G g1 B (mS cd ty ds.length fr tt a s0 en1 wr mk1 wd1) F1 o) (hF : FmY F F1) (hW : WdA F1 1 ks qs) (mm : gh_M MDT g g1), R.1 = none → srtL (R.2.filter nck) → (∀ w, w ∈ R.2.filter nck ↔ w ∈ ks) → gh_W l G (rmk 3 0 0 80) X g1 0 0 [some (.ref (B 0)), v1, some (.int (nI ks.length)), v3] 159 [] := by
    intro g1 F1 a s0 en1 mk1 wd1 ks qs v1 v3 h hF hW mm hr hs hm
    simp only [hr] at hE
    have hkl := hW.1
    refine gh_aload_n hK d_Md_check_159 rfl ?_
    refine gh_iload_n hK d_Md_check_160 rfl ?_
    refine gh_mput hK d_Md_check_161 h 22 (mS cd ty ds.length fr tt a s0 en1 wr mk1 ks.length) rfl (by decide) kf_Md_205 rfl rfl rfl rfl (by decide) (fun g_1 h_1 mx => ?_)
    have mm := mm.tr mx
    show gh_W l G _ X g_1 0 0 [some (.ref (B 0)), v1, some (.int (nI ks.length)), v3] 164 []
    refine gh_aload_n hK d_Md_check_164 rfl ?_
    refine gh_aload_n hK d_Md_check_165 rfl ?_
    refine gh_get (v := .ref (B 1)) hK d_Md_check_166 in_Md rfl h_1.1 2 (by decide) kf_Md_7 rfl rfl ?_
    refine gh_callV (rest := []) [.ref (B 1)] hK (c_Md_putWords l G h_1 (jw := 1) (by decide) hW hs hm) Y_Md_putWords V_Md_putWords km_Md_211 h_1.1 rfl rfl d_Md_check_169 rfl rfl (Nat.le_of_ble_eq_true rfl) ⟨(Nat.le_of_ble_eq_true rfl), (Nat.le_of_ble_eq_true rfl)⟩ ⟨(Nat.le_of_ble_eq_true rfl), (Nat.le_of_ble_eq_true rfl)⟩ (fun v g_2 hp => ?_)
    obtain ⟨rfl, h_2, mx⟩ := hp
    have mm := mm.tr mx
    show gh_W l G _ X g_2 0 0 [some (.ref (B 0)), v1, some (.int (nI ks.length)), v3] 172 []
    exact gh_vret hK hE d_Md_check_172 (Nat.le_of_ble_eq_true rfl) (Nat.le_of_ble_eq_true rfl) ⟨rfl, _, _, _, _, _, _, h_2, hF, mm⟩
  have lpF : ∀ (ws : List (List Nat)) (ps : Nat → Nat) (a s0 en1 : Nat) (v1 : Option Value), ws.length ≤ 1024 → R.1 = none → srtL (R.2.filter nck) → (∀ w, w ∈ R.2.filter nck ↔ w ∈ ws ∧ ¬ rgt ds us1 us2 w) → ∀ (m k : Nat) (g1 : GH) (F1 : Nat → Nat → Int32) (mk1 : Nat) (ks : List (List Nat)) (qs : Nat → Nat) (h : Md G g1 B (mS cd ty ds.length fr tt a s0 en1 wr mk1 ws.length) F1 o) (hF : FmY F F1) (hQ : KpA F1 ks qs ws ps k) (mm : gh_M MDT g g1), k + m = ws.length → ks.length ≤ k → (∀ w, w ∈ ks ↔ w ∈ ws.take k ∧ ¬ rgt ds us1 us2 w) → gh_W l G (rmk 3 0 0 80) X g1 0 0 [some (.ref (B 0)), v1, some (.int (nI ks.length)), some (.int (nI k))] 99 [] := by
    intro ws ps a s0 en1 v1 hwl hr hs hm m
    induction m with
    | zero =>
      intro k g1 F1 mk1 ks qs h hF hQ mm hk hkl hks
      rw [List.take_of_length_le (by omega)] at hks
      refine gh_iload_n hK d_Md_check_99 rfl ?_
      refine gh_aload_n hK d_Md_check_100 rfl ?_
      refine gh_get (v := .int (nI ws.length)) hK d_Md_check_101 in_Md rfl h.1 22 (by decide) kf_Md_205 rfl rfl ?_
      refine gh_icmp_geN hK d_Md_check_104 (tgt := 159) (by decide) (by omega) (by omega) (fun _ => ?_) (fun q => by omega)
      exact t159 g1 F1 a s0 en1 mk1 ws.length ks qs _ _ h hF hQ.1 mm hr hs (fun w => (hm w).trans (hks w).symm)
    | succ m ih =>
      intro k g1 F1 mk1 ks qs h hF hQ mm hk hkl hks
      have q1 := hQ.2.1 k (Nat.le_refl _) (by omega)
      have q2 := hQ.2.2 k (by omega)
      have tks : ∀ w, w ∈ ws.take (k + 1) ↔ w ∈ ws.take k ∨ w = ws.getD k [] := fun w => by
        rw [List.take_succ_eq_append_getElem (show k < ws.length by omega), List.mem_append, List.mem_singleton, List.getD_eq_getElem?_getD, List.getElem?_eq_getElem (show k < ws.length by omega)]
        exact Iff.rfl
      refine gh_iload_n hK d_Md_check_99 rfl ?_
      refine gh_aload_n hK d_Md_check_100 rfl ?_
      refine gh_get (v := .int (nI ws.length)) hK d_Md_check_101 in_Md rfl h.1 22 (by decide) kf_Md_205 rfl rfl ?_
      refine gh_icmp_geN hK d_Md_check_104 (tgt := 159) (by decide) (by omega) (by omega) (fun q => by omega) (fun _ => ?_)
      refine gh_aload_n hK d_Md_check_107 rfl ?_
      refine gh_aload_n hK d_Md_check_108 rfl ?_
      refine gh_get (v := .ref (B 11)) hK d_Md_check_109 in_Md rfl h.1 23 (by decide) kf_Md_40 rfl rfl ?_
      refine gh_iload_n hK d_Md_check_112 rfl ?_
      refine gh_mald hK d_Md_check_113 h 11 (by decide) (i := k) (x := (nI (ps k))) (by show k < 1024; omega) q1.1 ?_
      refine gh_aload_n hK d_Md_check_114 rfl ?_
      refine gh_get (v := .ref (B 12)) hK d_Md_check_115 in_Md rfl h.1 24 (by decide) kf_Md_43 rfl rfl ?_
      refine gh_iload_n hK d_Md_check_118 rfl ?_
      refine gh_mald hK d_Md_check_119 h 12 (by decide) (i := k) (x := (nI ((ws.getD k []).length))) (by show k < 1024; omega) q1.2 ?_
      refine gh_callV (rest := []) [.int (nI (ps k)), .int (nI ((ws.getD k []).length))] hK (c_Md_isRight l G h (hF.dc hD) (hF.rl hR1) (hF.rl hR2) (ws := (ws.getD k [])) (f := ps k) q2.1 q2.2) Y_Md_isRight V_Md_isRight km_Md_208 h.1 rfl rfl d_Md_check_120 rfl rfl (Nat.le_of_ble_eq_true rfl) ⟨(Nat.le_of_ble_eq_true rfl), (Nat.le_of_ble_eq_true rfl)⟩ ⟨(Nat.le_of_ble_eq_true rfl), (Nat.le_of_ble_eq_true rfl)⟩ (fun v g_1 hp => ?_)
      obtain ⟨b1, mk1, F1, rfl, h_1, hz1, hb1, mx⟩ := hp
      have mm := mm.tr mx
      have hF := hF.tr hz1
      have hQ := hQ.eq hz1
      have q1 := hQ.2.1 k (Nat.le_refl _) (by omega)
      have q2 := hQ.2.2 k (by omega)
      show gh_W l G _ X g_1 0 0 [some (.ref (B 0)), v1, some (.int (nI ks.length)), some (.int (nI k))] 123 [.int (nI (bn b1))]
      refine gh_if_neB hK d_Md_check_123 (tgt := 153) (by decide) (fun z => ?_) (fun z => ?_)
      · refine gh_incN (lv' := [some (.ref (B 0)), v1, some (.int (nI ks.length)), some (.int (nI (k + 1)))]) hK d_Md_check_153 rfl rfl ?_
        refine gh_goto (tgt := 99) hK d_Md_check_156 (by decide) ?_
        have hrg := hb1.mp z
        refine ih (k + 1) g_1 F1 _ ks qs h_1 hF ⟨hQ.1, fun i h1 h2 => hQ.2.1 i (by omega) h2, hQ.2.2⟩ mm (by omega) (by omega) (fun w => ?_)
        rw [hks w, tks]
        constructor
        · rintro ⟨p1, p2⟩; exact ⟨Or.inl p1, p2⟩
        · rintro ⟨p1 | p1, p2⟩
          · exact ⟨p1, p2⟩
          · rw [p1] at p2; exact absurd hrg p2
      have hrg : ¬ rgt ds us1 us2 (ws.getD k []) := fun q => by rw [hb1.mpr q] at z; cases z
      refine gh_aload_n hK d_Md_check_126 rfl ?_
      refine gh_get (v := .ref (B 11)) hK d_Md_check_127 in_Md rfl h_1.1 23 (by decide) kf_Md_40 rfl rfl ?_
      refine gh_iload_n hK d_Md_check_130 rfl ?_
      refine gh_aload_n hK d_Md_check_131 rfl ?_
      refine gh_get (v := .ref (B 11)) hK d_Md_check_132 in_Md rfl h_1.1 23 (by decide) kf_Md_40 rfl rfl ?_
      refine gh_iload_n hK d_Md_check_135 rfl ?_
      refine gh_mald hK d_Md_check_136 h_1 11 (by decide) (i := k) (x := (nI (ps k))) (by show k < 1024; omega) q1.1 ?_
      refine gh_mast hK d_Md_check_137 h_1 11 (by decide) (i := ks.length) (by show ks.length < 1024; omega) (fun g_2 h_2 mx => ?_)
      have mm := mm.tr mx
      show gh_W l G _ X g_2 0 0 [some (.ref (B 0)), v1, some (.int (nI ks.length)), some (.int (nI k))] 138 []
      refine gh_aload_n hK d_Md_check_138 rfl ?_
      refine gh_get (v := .ref (B 12)) hK d_Md_check_139 in_Md rfl h_2.1 24 (by decide) kf_Md_43 rfl rfl ?_
      refine gh_iload_n hK d_Md_check_142 rfl ?_
      refine gh_aload_n hK d_Md_check_143 rfl ?_
      refine gh_get (v := .ref (B 12)) hK d_Md_check_144 in_Md rfl h_2.1 24 (by decide) kf_Md_43 rfl rfl ?_
      refine gh_iload_n hK d_Md_check_147 rfl ?_
      refine gh_mald hK d_Md_check_148 h_2 12 (by decide) (i := k) (x := (nI ((ws.getD k []).length))) (by show k < 1024; omega) (by rw [upF_n (by decide)]; exact q1.2) ?_
      refine gh_mast hK d_Md_check_149 h_2 12 (by decide) (i := ks.length) (by show ks.length < 1024; omega) (fun g_3 h_3 mx => ?_)
      have mm := mm.tr mx
      show gh_W l G _ X g_3 0 0 [some (.ref (B 0)), v1, some (.int (nI ks.length)), some (.int (nI k))] 150 []
      refine gh_incN (lv' := [some (.ref (B 0)), v1, some (.int (nI (ks.length + 1))), some (.int (nI k))]) hK d_Md_check_150 rfl rfl ?_
      refine gh_incN (lv' := [some (.ref (B 0)), v1, some (.int (nI (ks.length + 1))), some (.int (nI (k + 1)))]) hK d_Md_check_153 rfl rfl ?_
      refine gh_goto (tgt := 99) hK d_Md_check_156 (by decide) ?_
      have e5 : ks.length + 1 = (ks ++ [(ws.getD k [])]).length := by rw [List.length_append]; rfl
      rw [e5]
      refine ih (k + 1) g_3 _ _ (ks ++ [(ws.getD k [])]) _ h_3 ((hF.up (by decide)).up (by decide)) ⟨hQ.1.add (by decide) q2.1 q2.2 (by omega), fun i h1 h2 => ?_, fun i h2 => ?_⟩ mm (by omega) (by omega) (fun w => ?_)
      · rw [upF_n (by decide), upF_s, upF_s, upF_n (by decide), pk_un (by omega), pk_un (by omega)]
        exact hQ.2.1 i (by omega) h2
      · rw [upF_n (by decide), upF_n (by decide)]
        exact hQ.2.2 i h2
      rw [List.mem_append, List.mem_singleton, hks w, tks]
      constructor
      · rintro (⟨p1, p2⟩ | p1)
        · exact ⟨Or.inl p1, p2⟩
        · exact ⟨Or.inr p1, by rw [p1]; exact hrg⟩
      · rintro ⟨p1 | p1, p2⟩
        · exact Or.inl ⟨p1, p2⟩
        · exact Or.inr p1
  have srtF : ∀ (l : List (List Nat)), srtL l → srtL (l.filter nck) := by
    intro l
    induction l with
    | nil => exact fun _ => trivial
    | cons x l ih =>
      intro hs
      rw [List.filter_cons]
      split
      · exact ⟨fun b hb => hs.1 b (List.mem_filter.mp hb).1, ih hs.2⟩
      · exact ih hs.2
  have lpW : ∀ (k a s0 : Nat) (ws acc : List (List Nat)) (ps : Nat → Nat) (g1 : GH) (F1 : Nat → Nat → Int32) (v2 v3 : Option Value) (h : Md G g1 B (mS cd ty ds.length fr tt a s0 a wr mk ws.length) F1 o) (hF : FmY F F1) (hW : WdA F1 1 ws ps) (mm : gh_M MDT g g1), tt - a < k → s0 < a → a ≤ tt → (a = tt ∨ isSpc tx a = true) → 2 * ws.length + 1 ≤ a → fr ≤ a → ckG tx tt k a (addW (pcW tx s0 a) acc) = R → srtL acc → (∀ w, w ∈ acc ↔ w ∈ ws) → gh_W l G (rmk 3 0 0 80) X g1 0 0 [some (.ref (B 0)), some (.int (nI 1)), v2, v3] 17 [] := by
    intro k
    induction k with
    | zero => intro a s0 ws acc ps g1 F1 v2 v3 h hF hW mm hk; exact absurd hk (Nat.not_lt_zero _)
    | succ k ih =>
      intro a s0 ws acc ps g1 F1 v2 v3 h hF hW mm hk hsa hat2 hsp hwn hfa2 hR hsr hmm
      have c1 := nxS_le (tx := tx) hat2
      have c2 := nxE_le (tx := tx) hat2
      have ht1 := hF.tx ht
      refine gh_iload_n hK d_Md_check_17 rfl ?_
      refine gh_if_eqN hK d_Md_check_18 (tgt := 95) (by decide) (by decide) (fun q => absurd q (by decide)) (fun _ => ?_)
      refine gh_aload_n hK d_Md_check_21 rfl ?_
      refine gh_get (v := .ref (B 11)) hK d_Md_check_22 in_Md rfl h.1 23 (by decide) kf_Md_40 rfl rfl ?_
      refine gh_aload_n hK d_Md_check_25 rfl ?_
      refine gh_get (v := .int (nI ws.length)) hK d_Md_check_26 in_Md rfl h.1 22 (by decide) kf_Md_205 rfl rfl ?_
      refine gh_aload_n hK d_Md_check_29 rfl ?_
      refine gh_get (v := .int (nI s0)) hK d_Md_check_30 in_Md rfl h.1 17 (by decide) kf_Md_76 rfl rfl ?_
      refine gh_mast hK d_Md_check_33 h 11 (by decide) (i := ws.length) (by show ws.length < 1024; omega) (fun g_1 h_1 mx => ?_)
      have mm := mm.tr mx
      show gh_W l G _ X g_1 0 0 [some (.ref (B 0)), some (.int (nI 1)), v2, v3] 34 []
      refine gh_aload_n hK d_Md_check_34 rfl ?_
      refine gh_get (v := .ref (B 12)) hK d_Md_check_35 in_Md rfl h_1.1 24 (by decide) kf_Md_43 rfl rfl ?_
      refine gh_aload_n hK d_Md_check_38 rfl ?_
      refine gh_get (v := .int (nI ws.length)) hK d_Md_check_39 in_Md rfl h_1.1 22 (by decide) kf_Md_205 rfl rfl ?_
      refine gh_aload_n hK d_Md_check_42 rfl ?_
      refine gh_get (v := .int (nI a)) hK d_Md_check_43 in_Md rfl h_1.1 18 (by decide) kf_Md_79 rfl rfl ?_
      refine gh_aload_n hK d_Md_check_46 rfl ?_
      refine gh_get (v := .int (nI s0)) hK d_Md_check_47 in_Md rfl h_1.1 17 (by decide) kf_Md_76 rfl rfl ?_
      refine gh_subN hK d_Md_check_50 (by omega) ?_
      refine gh_mast hK d_Md_check_51 h_1 12 (by decide) (i := ws.length) (by show ws.length < 1024; omega) (fun g_2 h_2 mx => ?_)
      have mm := mm.tr mx
      show gh_W l G _ X g_2 0 0 [some (.ref (B 0)), some (.int (nI 1)), v2, v3] 52 []
      refine gh_aload_n hK d_Md_check_52 rfl ?_
      refine gh_dup hK d_Md_check_53 rfl ?_
      refine gh_get (v := .int (nI ws.length)) hK d_Md_check_54 in_Md rfl h_2.1 22 (by decide) kf_Md_205 rfl rfl ?_
      refine gh_iconst (v := nI 1) hK d_Md_check_57 (by decide) ?_
      refine gh_addN hK d_Md_check_58 ?_
      refine gh_mput hK d_Md_check_59 h_2 22 (mS cd ty ds.length fr tt a s0 a wr mk (ws.length + 1)) rfl (by decide) kf_Md_205 rfl rfl rfl rfl (by decide) (fun g_3 h_3 mx => ?_)
      have mm := mm.tr mx
      show gh_W l G _ X g_3 0 0 [some (.ref (B 0)), some (.int (nI 1)), v2, v3] 62 []
      refine gh_aload_n hK d_Md_check_62 rfl ?_
      have hF2 : FmY F (upF (upF F1 11 (upd (F1 11) ws.length (nI s0))) 12 (upd ((upF F1 11 (upd (F1 11) ws.length (nI s0))) 12) ws.length (nI (a - s0)))) := (hF.up (by decide)).up (by decide)
      have hsl : (pcW tx s0 a).length = a - s0 := slice_len (by omega)
      have hW2 := hW.add (wd := pcW tx s0 a) (s := s0) (by decide) (ht1.sl (by omega)) (by rw [hsl]; show _ ≤ 2048; omega) (by omega)
      rw [hsl] at hW2
      have hmm2 : ∀ w, w ∈ addW (pcW tx s0 a) acc ↔ w ∈ ws ++ [pcW tx s0 a] := fun w => by rw [mem_addW, List.mem_append, List.mem_singleton, hmm w, or_comm]
      have hsr2 : srtL (addW (pcW tx s0 a) acc) := addW_srt hsr
      have e5 : ws.length + 1 = (ws ++ [pcW tx s0 a]).length := by rw [List.length_append]; rfl
      rw [ckG] at hR
      refine gh_callV (rest := []) [] hK (c_Md_next l G h_3 (hF2.tx ht) hto hat2) Y_Md_next V_Md_next km_Md_82 h_3.1 rfl rfl d_Md_check_63 rfl rfl (Nat.le_of_ble_eq_true rfl) ⟨(Nat.le_of_ble_eq_true rfl), (Nat.le_of_ble_eq_true rfl)⟩ ⟨(Nat.le_of_ble_eq_true rfl), (Nat.le_of_ble_eq_true rfl)⟩ (fun v g_4 hp => ?_)
      obtain ⟨rfl, h_4, mx⟩ := hp
      have mm := mm.tr mx
      show gh_W l G _ X g_4 0 0 [some (.ref (B 0)), some (.int (nI 1)), v2, v3] 66 [.int (nI (bn (decide ((nxS tx tt a) < (nxE tx tt a)))))]
      refine gh_istore_n (lv' := [some (.ref (B 0)), some (.int (nI (bn (decide ((nxS tx tt a) < (nxE tx tt a)))))), v2, v3]) hK d_Md_check_66 (Nat.le_of_ble_eq_true rfl) rfl ?_
      refine gh_iload_n hK d_Md_check_67 rfl ?_
      refine gh_if_eqB hK d_Md_check_68 (tgt := 17) (by decide) (fun z => ?_) (fun z => ?_)
      · have zz := of_decide_eq_false z
        rw [if_pos (by omega)] at hR
        refine gh_iload_n hK d_Md_check_17 rfl ?_
        refine gh_if_eqB hK d_Md_check_18 (tgt := 95) (by decide) (fun _ => ?_) (fun q => by rw [z] at q; cases q)
        refine gh_iconst (v := nI 0) hK d_Md_check_95 (by decide) ?_
        refine gh_istore_n (lv' := [some (.ref (B 0)), some (.int (nI (bn (decide ((nxS tx tt a) < (nxE tx tt a)))))), some (.int (nI 0)), v3]) hK d_Md_check_96 (Nat.le_of_ble_eq_true rfl) rfl ?_
        refine gh_iconst (v := nI 0) hK d_Md_check_97 (by decide) ?_
        refine gh_istore_n (lv' := [some (.ref (B 0)), some (.int (nI (bn (decide ((nxS tx tt a) < (nxE tx tt a)))))), some (.int (nI 0)), some (.int (nI 0))]) hK d_Md_check_98 (Nat.le_of_ble_eq_true rfl) rfl ?_
        have h9 := h_4
        rw [e5] at h9
        refine lpF (ws ++ [pcW tx s0 a]) _ _ _ _ _ hW2.1 (by rw [← hR]) (by rw [← hR]; exact srtF _ hsr2) (fun w => ?_) (ws ++ [pcW tx s0 a]).length 0 g_4 (upF (upF F1 11 (upd (F1 11) ws.length (nI s0))) 12 (upd ((upF F1 11 (upd (F1 11) ws.length (nI s0))) 12) ws.length (nI (a - s0)))) _ [] (fun _ => 0) h9 hF2 ⟨⟨Nat.zero_le _, fun k hk => absurd hk (Nat.not_lt_zero _)⟩, fun i _ h2 => ⟨(hW2.2 i h2).1, (hW2.2 i h2).2.1⟩, fun i h2 => ⟨(hW2.2 i h2).2.2.1, (hW2.2 i h2).2.2.2⟩⟩ mm (by omega) (Nat.zero_le _) (fun w => by rw [List.take_zero]; exact ⟨fun q => (by cases q), fun q => (by cases q.1)⟩)
        rw [← hR, List.mem_filter, hmm2 w, hck w]
      have zz := of_decide_eq_true z
      rw [if_neg (by omega)] at hR
      refine gh_aload_n hK d_Md_check_71 rfl ?_
      refine gh_aload_n hK d_Md_check_72 rfl ?_
      refine gh_get (v := .int (nI (nxS tx tt a))) hK d_Md_check_73 in_Md rfl h_4.1 17 (by decide) kf_Md_76 rfl rfl ?_
      refine gh_aload_n hK d_Md_check_76 rfl ?_
      refine gh_get (v := .int (nI (nxE tx tt a))) hK d_Md_check_77 in_Md rfl h_4.1 18 (by decide) kf_Md_79 rfl rfl ?_
      refine gh_bipush (v := nI 28) hK d_Md_check_80 (by decide) ?_
      refine gh_iconst (v := nI 0) hK d_Md_check_82 (by decide) ?_
      refine gh_callV (rest := []) [.int (nI (nxS tx tt a)), .int (nI (nxE tx tt a)), .int (nI 28), .int (nI 0)] hK (c_Md_areLetters l G h_4 (most := 28) (b := false) (hF2.tx ht) c2.1 (by omega) (by decide)) Y_Md_areLetters V_Md_areLetters km_Md_102 h_4.1 rfl rfl d_Md_check_83 rfl rfl (Nat.le_of_ble_eq_true rfl) ⟨(Nat.le_of_ble_eq_true rfl), (Nat.le_of_ble_eq_true rfl)⟩ ⟨(Nat.le_of_ble_eq_true rfl), (Nat.le_of_ble_eq_true rfl)⟩ (fun v gp_5 hp => ?_)
      obtain ⟨rfl, hgp⟩ := hp
      rw [hgp]
      show gh_W l G _ X g_4 0 0 [some (.ref (B 0)), some (.int (nI (bn (decide ((nxS tx tt a) < (nxE tx tt a)))))), v2, v3] 86 [.int (nI (bn (alO tx (nxS tx tt a) (nxE tx tt a) 28 false)))]
      rw [al_wd c2.1]
      refine gh_if_neB hK d_Md_check_86 (tgt := 17) (by decide) (fun z2 => ?_) (fun z2 => ?_)
      · rw [if_pos z2] at hR
        rw [z]
        have h9 := h_4
        rw [e5] at h9
        have hadv : a + 1 ≤ (nxS tx tt a) := by
          rcases hsp with q | q
          · omega
          · exact nx_adv (by omega) q
        exact ih (nxE tx tt a) (nxS tx tt a) (ws ++ [pcW tx s0 a]) _ _ g_4 (upF (upF F1 11 (upd (F1 11) ws.length (nI s0))) 12 (upd ((upF F1 11 (upd (F1 11) ws.length (nI s0))) 12) ws.length (nI (a - s0)))) _ _ h9 hF2 hW2 mm (by omega) zz c2.2 (by by_cases q : (nxE tx tt a) = tt; (exact Or.inl q); (exact Or.inr (nxE_sp hat2 (by omega)))) (by omega) (by omega) hR hsr2 hmm2
      rw [if_neg (by rw [z2]; decide)] at hR
      refine gh_aload_n hK d_Md_check_89 rfl ?_
      refine gh_callV (rest := []) [] hK (c_Md_refuse l G h_4 (by omega)) Y_Md_refuse V_Md_refuse km_Md_92 h_4.1 rfl rfl d_Md_check_90 rfl rfl (Nat.le_of_ble_eq_true rfl) ⟨(Nat.le_of_ble_eq_true rfl), (Nat.le_of_ble_eq_true rfl)⟩ ⟨(Nat.le_of_ble_eq_true rfl), (Nat.le_of_ble_eq_true rfl)⟩ (fun v g_6 hp => ?_)
      obtain ⟨rfl, h_6, mx⟩ := hp
      have mm := mm.tr mx
      show gh_W l G _ X g_6 0 0 [some (.ref (B 0)), some (.int (nI (bn (decide ((nxS tx tt a) < (nxE tx tt a)))))), v2, v3] 93 [.int (nI 0)]
      refine gh_istore_n (lv' := [some (.ref (B 0)), some (.int (nI 0)), v2, v3]) hK d_Md_check_93 (Nat.le_of_ble_eq_true rfl) rfl ?_
      have hr1 : R.1 = some (nxS tx tt a) := by rw [← hR]
      simp only [hr1] at hE
      exact gh_vret hK hE d_Md_check_94 (Nat.le_of_ble_eq_true rfl) (Nat.le_of_ble_eq_true rfl) ⟨rfl, _, _, _, _, _, _, h_6, hF2, mm⟩
  refine gh_aload_n hK d_Md_check_0 rfl ?_
  refine gh_iconst (v := nI 0) hK d_Md_check_1 (by decide) ?_
  refine gh_mput hK d_Md_check_2 h 22 (mS cd ty ds.length fr tt ap fi en wr mk 0) rfl (by decide) kf_Md_205 rfl rfl rfl rfl (by decide) (fun g_1 h_1 mx => ?_)
  have mm := mm.tr mx
  show gh_W l G _ X g_1 0 0 [some (.ref (B 0)), none, none, none] 5 []
  refine gh_aload_n hK d_Md_check_5 rfl ?_
  refine gh_bipush (v := nI 28) hK d_Md_check_6 (by decide) ?_
  refine gh_callV (rest := []) [.int (nI 28)] hK (c_Md_word l G h_1 ht hto hat hfa (most := 28) (by decide)) Y_Md_word V_Md_word km_Md_148 h_1.1 rfl rfl d_Md_check_8 rfl rfl (Nat.le_of_ble_eq_true rfl) ⟨(Nat.le_of_ble_eq_true rfl), (Nat.le_of_ble_eq_true rfl)⟩ ⟨(Nat.le_of_ble_eq_true rfl), (Nat.le_of_ble_eq_true rfl)⟩ (fun v g_2 hp => ?_)
  obtain ⟨rfl, h_2, mx⟩ := hp
  have mm := mm.tr mx
  show gh_W l G _ X g_2 0 0 [some (.ref (B 0)), none, none, none] 11 [.int (nI (bn (decide ((nxS tx tt ap) < (nxE tx tt ap)) && alO tx (nxS tx tt ap) (nxE tx tt ap) 28 false)))]
  refine gh_istore_n (lv' := [some (.ref (B 0)), some (.int (nI (bn (decide ((nxS tx tt ap) < (nxE tx tt ap)) && alO tx (nxS tx tt ap) (nxE tx tt ap) 28 false)))), none, none]) hK d_Md_check_11 (Nat.le_of_ble_eq_true rfl) rfl ?_
  refine gh_iload_n hK d_Md_check_12 rfl ?_
  refine gh_if_neB hK d_Md_check_13 (tgt := 17) (by decide) (fun z => ?_) (fun z => ?_)
  · rw [z]
    have h9 := h_2
    rw [if_pos z] at h9
    rw [Bool.and_eq_true, decide_eq_true_iff, al_wd hb2.1] at z
    rw [ckA, if_pos z] at hRR
    exact lpW 2048 (nxE tx tt ap) (nxS tx tt ap) [] [] (fun _ => 0) g_2 F _ _ h9 (fun _ _ => rfl) ⟨Nat.zero_le _, fun k hk => absurd hk (Nat.not_lt_zero _)⟩ mm (by omega) z.1 hb2.2 (by by_cases q : (nxE tx tt ap) = tt; (exact Or.inl q); (exact Or.inr (nxE_sp hat (by omega)))) (by show 0 + 1 ≤ _; omega) (by omega) hRR.symm trivial (fun w => Iff.rfl)
  have h9 := h_2
  rw [if_neg (by rw [z]; decide)] at h9
  have e8 : (if (nxS tx tt ap) < (nxE tx tt ap) then (nxS tx tt ap) - fr + 1 else tt - fr + 1) = (nxS tx tt ap) - fr + 1 := by
    split
    · rfl
    · next q => rw [nx_end hat q]
  rw [e8] at h9
  have z3 : ¬ ((nxS tx tt ap) < (nxE tx tt ap) ∧ wdO tx 28 (nxS tx tt ap) (nxE tx tt ap) = true) := fun q => by rw [decide_eq_true q.1, al_wd hb2.1, q.2] at z; cases z
  rw [ckA, if_neg z3] at hRR
  have hr1 : R.1 = some (nxS tx tt ap) := by rw [hRR]
  simp only [hr1] at hE
  exact gh_vret hK hE d_Md_check_16 (Nat.le_of_ble_eq_true rfl) (Nat.le_of_ble_eq_true rfl) ⟨rfl, _, _, _, _, _, _, h9, fun _ _ => rfl, mm⟩
