/-! A NEW RULE -/
/-- the arrays differ in the place of rule r alone -/
def RlW (F F' : Nat → Nat → Int32) (r : Nat) : Prop := (∀ j, j ≠ 8 → j ≠ 9 → F' j = F j) ∧ (∀ i, i < 3 * r ∨ 3 * r + 3 ≤ i → F' 8 i = F 8 i) ∧ ∀ i, i < 18 * r ∨ 18 * r + 18 ≤ i → F' 9 i = F 9 i
theorem RlW.rf {F : Nat → Nat → Int32} {r : Nat} : RlW F F r := ⟨fun _ _ _ => rfl, fun _ _ => rfl, fun _ _ => rfl⟩
theorem RlW.up8 {F F1 : Nat → Nat → Int32} {r i : Nat} {x : Int32} (h : RlW F F1 r) (h1 : 3 * r ≤ i) (h2 : i < 3 * r + 3) : RlW F (upF F1 8 (upd (F1 8) i x)) r := ⟨fun j h8 h9 => by rw [upF_n h8]; exact h.1 j h8 h9, fun k hk => by rw [upF_s, pk_un (by omega)]; exact h.2.1 k hk, fun k hk => by rw [upF_n (by decide)]; exact h.2.2 k hk⟩
theorem RlW.up9 {F F1 : Nat → Nat → Int32} {r i : Nat} {x : Int32} (h : RlW F F1 r) (h1 : 18 * r ≤ i) (h2 : i < 18 * r + 18) : RlW F (upF F1 9 (upd (F1 9) i x)) r := ⟨fun j h8 h9 => by rw [upF_n h9]; exact h.1 j h8 h9, fun k hk => by rw [upF_n (by decide)]; exact h.2.1 k hk, fun k hk => by rw [upF_s, pk_un (by omega)]; exact h.2.2 k hk⟩
theorem RuA.slot {F F' : Nat → Nat → Int32} {r q : Nat} {u : RuR} (h : RuA F q u) (hw : RlW F F' r) (hq : q ≠ r) : RuA F' q u := by
  obtain ⟨⟨b1, b2, b3⟩, h2, ⟨p1, p2, p3⟩, ⟨s1, s2, s3⟩, h5⟩ := h
  refine ⟨⟨b1, b2, b3⟩, by rw [hw.1 7 (by decide) (by decide)]; exact h2, ⟨?_, ?_, ?_⟩, ⟨?_, ?_, ?_⟩, h5⟩
  · rw [hw.2.1 _ (by omega)]; exact p1
  · rw [hw.2.1 _ (by omega)]; exact p2
  · rw [hw.2.1 _ (by omega)]; exact p3
  · intro k hk; rw [hw.2.2 _ (by omega)]; exact s1 k hk
  · intro k hk; rw [hw.2.2 _ (by omega)]; exact s2 k hk
  · intro k hk; rw [hw.2.2 _ (by omega)]; exact s3 k hk
theorem RlA.slot {F F' : Nat → Nat → Int32} {b r : Nat} {us : List RuR} (h : RlA F b us) (hw : RlW F F' r) (hr : r < 8 * b ∨ 8 * b + us.length ≤ r) : RlA F' b us := ⟨h.1, by rw [hw.1 6 (by decide) (by decide)]; exact h.2.1, fun j u hu => (h.2.2 j u hu).slot hw (by have := (List.getElem?_eq_some_iff.mp hu).1; omega)⟩
def PtS (F : Nat → Nat → Int32) (r i : Nat) (p : List Nat) : Prop := F 8 (3 * r + i) = nI p.length ∧ sA (F 9) (18 * r + 6 * i) p
theorem PtS.eq8 {F : Nat → Nat → Int32} {r i k : Nat} {p : List Nat} {x : Int32} (h : PtS F r i p) (hk : k ≠ 3 * r + i) : PtS (upF F 8 (upd (F 8) k x)) r i p := ⟨by rw [upF_s, pk_un (fun q => hk q.symm)]; exact h.1, by rw [upF_n (by decide)]; exact h.2⟩
theorem PtS.eq9 {F : Nat → Nat → Int32} {r i k : Nat} {p : List Nat} {x : Int32} (h : PtS F r i p) (hp : p.length ≤ 6) (hk : k < 18 * r + 6 * i ∨ 18 * r + 6 * i + 6 ≤ k) : PtS (upF F 9 (upd (F 9) k x)) r i p := ⟨by rw [upF_n (by decide)]; exact h.1, fun j hj => by rw [upF_s, pk_un (by omega)]; exact h.2 j hj⟩
theorem pcI_one {tx : List Nat} {s e : Nat} (hs : s < e) (he : e ≤ tx.length) : pcI tx s e [48] = (decide (e - s = 1) && decide (tx.getD s 0 = 48)) := by
  unfold pcI
  rw [slice_cons hs he, ← Bool.decide_and]
  refine decide_eq_decide.mpr ⟨fun q => ?_, fun ⟨q1, q2⟩ => ?_⟩
  · have h1 := (List.cons.inj q).1
    have h2 := congrArg List.length (List.cons.inj q).2
    rw [slice_len (by omega), List.length_nil] at h2
    exact ⟨by omega, h1⟩
  · rw [q2, show e - (s + 1) = 0 by omega, List.take_zero]
theorem ptO_al {tx : List Nat} {s e : Nat} {b : Bool} (hs : s < e) : ptO tx b s e = (pcI tx s e [48] || alO tx s e 6 b) := by
  unfold ptO alO
  rw [decide_eq_true hs, Bool.true_and, Bool.true_and]
  congr 1
  exact Bool.and_comm _ _
theorem ptW_len {tx : List Nat} {s e : Nat} {b : Bool} (he : e ≤ tx.length) (h : ptO tx b s e = true) : (ptW tx s e).length ≤ 6 := by
  unfold ptO at h
  rw [Bool.and_eq_true, decide_eq_true_iff] at h
  unfold ptW
  by_cases q : pcI tx s e [48] = true
  · rw [if_pos q]; exact Nat.zero_le _
  · rw [if_neg q, slice_len (by omega)]
    rcases Bool.or_eq_true_iff.mp h.2 with z | z
    · exact absurd z q
    · rw [Bool.and_eq_true, decide_eq_true_iff, decide_eq_true_iff] at z
      exact z.2
theorem ptW_nd {tx : List Nat} {s e : Nat} (he : e ≤ tx.length) (h : ptO tx false s e = true) : ∀ c, c ∈ ptW tx s e → c ≠ 46 := by
  unfold ptO at h
  rw [Bool.and_eq_true, decide_eq_true_iff] at h
  intro c hc
  unfold ptW at hc
  by_cases q : pcI tx s e [48] = true
  · rw [if_pos q] at hc; cases hc
  · rw [if_neg q] at hc
    rcases Bool.or_eq_true_iff.mp h.2 with z | z
    · exact absurd z q
    · rw [Bool.and_eq_true, decide_eq_true_iff, decide_eq_true_iff] at z
      obtain ⟨i, hi, e1⟩ := List.getElem_of_mem hc
      rw [slice_len (by omega)] at hi
      have h2 := sc_all (p := ptL tx false) (e := e) (i := s) (j := s + i) (by omega) (by omega)
      rw [ptL, Bool.false_and, Bool.or_false] at h2
      have h3 := of_decide_eq_true h2
      have h4 := slice_getD (ys := tx) (fr := s) (len := e - s) (i := i) (by omega) hi
      rw [List.getD_eq_getElem?_getD, List.getElem?_eq_getElem (by rw [slice_len (by omega)]; exact hi), Option.getD_some, e1] at h4
      omega
set_option maxRecDepth 20000 in
set_option maxHeartbeats 4000000 in
theorem c_Md_rule (l : Launch) (G : GG) {us us' : List RuR} {tx : List Nat} {b : Nat} {g : GH} {B : Nat → Nat} {cd ty ne fr tt ap fi en wr mk wd : Nat} {F : Nat → Nat → Int32} {o : List Nat × Nat} (h : Md G g B (mS cd ty ne fr tt ap fi en wr mk wd) F o) (ht : TxA F tx) (hto : tt ≤ tx.length) (hat : ap ≤ tt) (hfa : fr ≤ ap) (hb : b ≤ 1) (hR1 : RlA F b us) (hR2 : RlA F (1 - b) us') : gMet l G y_Md_rule b_Md_rule 8 none (rmk 2 0 0 46) [.ref (B 0), .int (nI b)] g (fun v g' => v = none ∧ ∃ ap' fi' en' F', Md G g' B (mS cd ty ne fr tt ap' fi' en' (if (rdR tx tt ap).1.isSome = true then wr else (rdR tx tt ap).2 - fr + 1) mk wd) F' (match (rdR tx tt ap).1 with | none => o | some _ => prs o (if us.length < 8 then st_txt.getD 3 [] else st_txt.getD 2 [])) ∧ RlA F' b (match (rdR tx tt ap).1 with | none => us | some u => if us.length < 8 then us ++ [u] else us) ∧ RlA F' (1 - b) us' ∧ (∀ j, j ≠ 6 → j ≠ 7 → j ≠ 8 → j ≠ 9 → F' j = F j) ∧ gh_M MDT g g') := by
  refine gMet.of [some (.ref (B 0)), some (.int (nI b)), none, none, none, none, none, none] (by decide +kernel) rfl (Nat.le_of_ble_eq_true rfl) rfl (fun X hK hI hE => ?_)
  have mm : gh_M MDT g g := gh_M.rf
  have htl := ht.1
  have hul := hR1.1
  have hul2 := hR2.1
  have hb1 := nxS_le (tx := tx) hat
  have hb2 := nxE_le (tx := tx) hat
  obtain ⟨R, hRR⟩ : ∃ x, x = (rdR tx tt ap) := ⟨_, rfl⟩
  rw [← hRR] at hE
  obtain ⟨r, hr⟩ : ∃ x, x = 8 * b + us.length := ⟨_, rfl⟩
  obtain ⟨rs, hrs1, hrs2⟩ : ∃ x, (us.length < 8 → x = r) ∧ (¬ us.length < 8 → x = 16) := ⟨if us.length < 8 then r else 16, fun q => if_pos q, fun q => if_neg q⟩
  have hq1 : 8 * b + us.length ≤ rs := by
    by_cases q : us.length < 8
    · rw [hrs1 q]; omega
    · rw [hrs2 q]; omega
  have hq2 : rs < 8 * (1 - b) ∨ 8 * (1 - b) + us'.length ≤ rs := by
    by_cases q : us.length < 8
    · rw [hrs1 q]; omega
    · rw [hrs2 q]; omega
  have bad : ∀ (q a s0 e0 : Nat) (g1 : GH) (F1 : Nat → Nat → Int32) (lv : List (Option Value)) (pc : Nat) (h : Md G g1 B (mS cd ty ne fr tt a s0 e0 (q - fr + 1) mk wd) F1 o) (mm : gh_M MDT g g1) (hw : RlW F F1 rs) (hd : decode b_Md_rule pc = .ok (.return_, 1)), R = (none, q) → gh_W l G (rmk 2 0 0 46) X g1 0 0 lv pc [] := by
    intro q a s0 e0 g1 F1 lv pc h mm hw hd e
    rw [e] at hE
    exact gh_vret hK hE hd (Nat.le_of_ble_eq_true rfl) (Nat.le_of_ble_eq_true rfl) ⟨rfl, _, _, _, _, h, hR1.slot hw (Or.inr hq1), hR2.slot hw hq2, fun j _ _ h8 h9 => hw.1 j h8 h9, mm⟩
  have t3 : ∀ (fl e : Nat) (p q c : List Nat) (g1 : GH) (F1 : Nat → Nat → Int32) (fi0 en0 : Nat) (v6 v7 : Option Value) (h : Md G g1 B (mS cd ty ne fr tt e fi0 en0 wr mk wd) F1 o) (mm : gh_M MDT g g1) (hw : RlW F F1 rs), fl < 26 → e ≤ tt → fr ≤ e → p.length ≤ 6 → q.length ≤ 6 → c.length ≤ 6 → (us.length < 8 → PtS F1 r 0 p) → (us.length < 8 → PtS F1 r 1 q) → (us.length < 8 → PtS F1 r 2 c) → (∀ x, x ∈ p → x ≠ 46) → (∀ x, x ∈ q → x ≠ 46) → rdR5 tx tt (2 ^ fl, p, q, c) e = R → gh_W l G (rmk 2 0 0 46) X g1 0 0 [some (.ref (B 0)), some (.int (nI b)), some (.int (nI fl)), some (.int (nI r)), some (.int (nI (bn (decide (us.length < 8))))), some (.int (nI 3)), v6, v7] 88 [] := by
    intro fl e p q c g1 F1 fi0 en0 v6 v7 h mm hw hfl he hfe lp lq lc sp sq sc dp dq hres
    have c1 := nxS_le (tx := tx) he
    refine gh_iload hK d_Md_rule_88 rfl ?_
    refine gh_iconst (v := nI 3) hK d_Md_rule_90 (by decide) ?_
    refine gh_icmp_geN hK d_Md_rule_91 (tgt := 272) (by decide) (by decide) (by decide) (fun _ => ?_) (fun q => absurd q (by decide))
    refine gh_aload_n hK d_Md_rule_272 rfl ?_
    refine gh_callV (rest := []) [] hK (c_Md_mustEnd l G h (ht.eq (hw.1 1 (by decide) (by decide))) hto he hfe) Y_Md_mustEnd V_Md_mustEnd km_Md_184 h.1 rfl rfl d_Md_rule_273 rfl rfl (Nat.le_of_ble_eq_true rfl) ⟨(Nat.le_of_ble_eq_true rfl), (Nat.le_of_ble_eq_true rfl)⟩ ⟨(Nat.le_of_ble_eq_true rfl), (Nat.le_of_ble_eq_true rfl)⟩ (fun v g_1 hp => ?_)
    obtain ⟨rfl, h_1, mx⟩ := hp
    have mm := mm.tr mx
    show gh_W l G _ X g_1 0 0 [some (.ref (B 0)), some (.int (nI b)), some (.int (nI fl)), some (.int (nI r)), some (.int (nI (bn (decide (us.length < 8))))), some (.int (nI 3)), v6, v7] 276 [.int (nI (bn (decide ((nxE tx tt e) ≤ (nxS tx tt e)))))]
    refine gh_if_neB hK d_Md_rule_276 (tgt := 280) (by decide) (fun z => ?_) (fun z => ?_)
    rotate_left
    · have zz := of_decide_eq_false z
      have h9 := h_1
      rw [if_pos (by omega)] at h9
      exact bad (nxS tx tt e) _ _ _ _ _ _ _ h9 mm hw d_Md_rule_279 (by rw [← hres, rdR5, if_neg (by omega)])
    have zz := of_decide_eq_true z
    have h9 := h_1
    rw [if_neg (by omega)] at h9
    rw [rdR5, if_pos zz] at hres
    subst hres
    refine gh_iload hK d_Md_rule_280 rfl ?_
    refine gh_if_eqB hK d_Md_rule_282 (tgt := 309) (by decide) (fun z2 => ?_) (fun z2 => ?_)
    · have z3 := of_decide_eq_false z2
      simp only [Option.isSome_some, if_true, if_neg z3] at hE
      refine gh_aload_n hK d_Md_rule_309 rfl ?_
      refine gh_callV (rest := []) [] hK (c_Md_full l G h9) Y_Md_full V_Md_full km_Md_199 h9.1 rfl rfl d_Md_rule_310 rfl rfl (Nat.le_of_ble_eq_true rfl) ⟨(Nat.le_of_ble_eq_true rfl), (Nat.le_of_ble_eq_true rfl)⟩ ⟨(Nat.le_of_ble_eq_true rfl), (Nat.le_of_ble_eq_true rfl)⟩ (fun v g_2 hp => ?_)
      obtain ⟨rfl, h_2, mx⟩ := hp
      have mm := mm.tr mx
      show gh_W l G _ X g_2 0 0 [some (.ref (B 0)), some (.int (nI b)), some (.int (nI fl)), some (.int (nI r)), some (.int (nI (bn (decide (us.length < 8))))), some (.int (nI 3)), v6, v7] 313 []
      exact gh_vret hK hE d_Md_rule_313 (Nat.le_of_ble_eq_true rfl) (Nat.le_of_ble_eq_true rfl) ⟨rfl, _, _, _, _, h_2, hR1.slot hw (Or.inr hq1), hR2.slot hw hq2, fun j _ _ h8 h9 => hw.1 j h8 h9, mm⟩
    have z3 := of_decide_eq_true z2
    have hrsr := hrs1 z3
    simp only [Option.isSome_some, if_true, if_pos z3] at hE
    refine gh_aload_n hK d_Md_rule_285 rfl ?_
    refine gh_get (v := .ref (B 7)) hK d_Md_rule_286 in_Md rfl h9.1 11 (by decide) kf_Md_28 rfl rfl ?_
    refine gh_iload_n hK d_Md_rule_289 rfl ?_
    refine gh_iload_n hK d_Md_rule_290 rfl ?_
    refine gh_mast hK d_Md_rule_291 h9 7 (by decide) (i := r) (by show r < 16; omega) (fun g_3 h_3 mx => ?_)
    have mm := mm.tr mx
    show gh_W l G _ X g_3 0 0 [some (.ref (B 0)), some (.int (nI b)), some (.int (nI fl)), some (.int (nI r)), some (.int (nI (bn (decide (us.length < 8))))), some (.int (nI 3)), v6, v7] 292 []
    refine gh_aload_n hK d_Md_rule_292 rfl ?_
    refine gh_get (v := .ref (B 6)) hK d_Md_rule_293 in_Md rfl h_3.1 10 (by decide) kf_Md_25 rfl rfl ?_
    refine gh_iload_n hK d_Md_rule_296 rfl ?_
    refine gh_dup2 hK d_Md_rule_297 rfl rfl ?_
    refine gh_mald hK d_Md_rule_298 h_3 6 (by decide) (i := b) (x := (nI us.length)) (by show b < 2; omega) (by rw [upF_n (by decide), hw.1 6 (by decide) (by decide)]; exact hR1.2.1) ?_
    refine gh_iconst (v := nI 1) hK d_Md_rule_299 (by decide) ?_
    refine gh_addN hK d_Md_rule_300 ?_
    refine gh_mast hK d_Md_rule_301 h_3 6 (by decide) (i := b) (by show b < 2; omega) (fun g_4 h_4 mx => ?_)
    have mm := mm.tr mx
    show gh_W l G _ X g_4 0 0 [some (.ref (B 0)), some (.int (nI b)), some (.int (nI fl)), some (.int (nI r)), some (.int (nI (bn (decide (us.length < 8))))), some (.int (nI 3)), v6, v7] 302 []
    refine gh_aload_n hK d_Md_rule_302 rfl ?_
    refine gh_callV (rest := []) [] hK (c_Md_ok l G h_4) Y_Md_ok V_Md_ok km_Md_189 h_4.1 rfl rfl d_Md_rule_303 rfl rfl (Nat.le_of_ble_eq_true rfl) ⟨(Nat.le_of_ble_eq_true rfl), (Nat.le_of_ble_eq_true rfl)⟩ ⟨(Nat.le_of_ble_eq_true rfl), (Nat.le_of_ble_eq_true rfl)⟩ (fun v g_5 hp => ?_)
    obtain ⟨rfl, h_5, mx⟩ := hp
    have mm := mm.tr mx
    show gh_W l G _ X g_5 0 0 [some (.ref (B 0)), some (.int (nI b)), some (.int (nI fl)), some (.int (nI r)), some (.int (nI (bn (decide (us.length < 8))))), some (.int (nI 3)), v6, v7] 306 []
    refine gh_goto (tgt := 313) hK d_Md_rule_306 (by decide) ?_
    refine gh_vret hK hE d_Md_rule_313 (Nat.le_of_ble_eq_true rfl) (Nat.le_of_ble_eq_true rfl) ⟨rfl, _, _, _, _, h_5, ⟨by rw [List.length_append]; show us.length + 1 ≤ 8; omega, ?_, fun j u hu => ?_⟩, ⟨hul2, ?_, fun j u hu => ?_⟩, fun j h6 h7 h8 h9 => ?_, mm⟩
    · rw [upF_s, pk_us, List.length_append]; rfl
    · by_cases q1 : j < us.length
      · rw [List.getElem?_append_left q1] at hu
        have k := (hR1.2.2 j u hu).slot hw (by omega)
        obtain ⟨k1, ⟨fl2, k2, k3, k4⟩, k5, k6, k7⟩ := k
        rw [RuA, upF_n (i := 7) (by decide), upF_s, upF_n (i := 8) (by decide), upF_n (i := 8) (by decide), upF_n (i := 9) (by decide), upF_n (i := 9) (by decide), pk_un (show 8 * b + j ≠ r by omega)]
        exact ⟨k1, ⟨fl2, k2, k3, k4⟩, k5, k6, k7⟩
      · rw [List.getElem?_append_right (by omega)] at hu
        have hz : j - us.length < 1 := (List.getElem?_eq_some_iff.mp hu).1
        rw [show j - us.length = 0 by omega] at hu
        cases hu
        rw [RuA, show 8 * b + j = r by omega, upF_n (i := 7) (by decide), upF_s, upF_n (i := 8) (by decide), upF_n (i := 8) (by decide), upF_n (i := 9) (by decide), upF_n (i := 9) (by decide), pk_us]
        exact ⟨⟨lp, lq, lc⟩, ⟨fl, hfl, rfl, rfl⟩, ⟨(sp z3).1, (sq z3).1, (sc z3).1⟩, ⟨(sp z3).2, (sq z3).2, (sc z3).2⟩, dp, dq⟩
    · rw [upF_s, pk_un (by omega), upF_n (i := 6) (by decide), hw.1 6 (by decide) (by decide)]; exact hR2.2.1
    · have hjl := (List.getElem?_eq_some_iff.mp hu).1
      have k := (hR2.2.2 j u hu).slot hw (by omega)
      obtain ⟨k1, ⟨fl2, k2, k3, k4⟩, k5, k6, k7⟩ := k
      rw [RuA, upF_n (i := 7) (by decide), upF_s, upF_n (i := 8) (by decide), upF_n (i := 8) (by decide), upF_n (i := 9) (by decide), upF_n (i := 9) (by decide), pk_un (show 8 * (1 - b) + j ≠ r by omega)]
      exact ⟨k1, ⟨fl2, k2, k3, k4⟩, k5, k6, k7⟩
    · rw [upF_n h6, upF_n h7]; exact hw.1 j h8 h9
  have t2 : ∀ (fl e : Nat) (p q : List Nat) (g1 : GH) (F1 : Nat → Nat → Int32) (fi0 en0 : Nat) (v6 v7 : Option Value) (h : Md G g1 B (mS cd ty ne fr tt e fi0 en0 wr mk wd) F1 o) (mm : gh_M MDT g g1) (hw : RlW F F1 rs), fl < 26 → e ≤ tt → fr ≤ e → p.length ≤ 6 → q.length ≤ 6 → (us.length < 8 → PtS F1 r 0 p) → (us.length < 8 → PtS F1 r 1 q) → (∀ x, x ∈ p → x ≠ 46) → (∀ x, x ∈ q → x ≠ 46) → rdR4 tx tt (2 ^ fl) p q e = R → gh_W l G (rmk 2 0 0 46) X g1 0 0 [some (.ref (B 0)), some (.int (nI b)), some (.int (nI fl)), some (.int (nI r)), some (.int (nI (bn (decide (us.length < 8))))), some (.int (nI 2)), v6, v7] 88 [] := by
    intro fl e p q g1 F1 fi0 en0 v6 v7 h mm hw hfl he hfe lp lq sp sq dp dq hres
    have c1 := nxS_le (tx := tx) he
    have c2 := nxE_le (tx := tx) he
    unfold rdR4 npW at hres
    refine gh_iload hK d_Md_rule_88 rfl ?_
    refine gh_iconst (v := nI 3) hK d_Md_rule_90 (by decide) ?_
    refine gh_icmp_geN hK d_Md_rule_91 (tgt := 272) (by decide) (by decide) (by decide) (fun q => absurd q (by decide)) (fun _ => ?_)
    refine gh_aload_n hK d_Md_rule_94 rfl ?_
    refine gh_callV (rest := []) [] hK (c_Md_must l G h (ht.eq (hw.1 1 (by decide) (by decide))) hto he (by omega)) Y_Md_must V_Md_must km_Md_99 h.1 rfl rfl d_Md_rule_95 rfl rfl (Nat.le_of_ble_eq_true rfl) ⟨(Nat.le_of_ble_eq_true rfl), (Nat.le_of_ble_eq_true rfl)⟩ ⟨(Nat.le_of_ble_eq_true rfl), (Nat.le_of_ble_eq_true rfl)⟩ (fun v g_1 hp => ?_)
    obtain ⟨rfl, h_1, mx⟩ := hp
    have mm := mm.tr mx
    show gh_W l G _ X g_1 0 0 [some (.ref (B 0)), some (.int (nI b)), some (.int (nI fl)), some (.int (nI r)), some (.int (nI (bn (decide (us.length < 8))))), some (.int (nI 2)), v6, v7] 98 [.int (nI (bn (decide ((nxS tx tt e) < (nxE tx tt e)))))]
    refine gh_if_neB hK d_Md_rule_98 (tgt := 102) (by decide) (fun z => ?_) (fun z => ?_)
    rotate_left
    · have zz := of_decide_eq_false z
      have h9 := h_1
      rw [if_neg zz, show tt - fr + 1 = (nxS tx tt e) - fr + 1 by rw [nx_end he zz]] at h9
      exact bad (nxS tx tt e) _ _ _ _ _ _ _ h9 mm hw d_Md_rule_101 (by rw [← hres, if_neg (fun q => by unfold ptO at q; rw [z] at q; cases q)])
    have zz := of_decide_eq_true z
    have h9 := h_1
    rw [if_pos zz] at h9
    have hpo := ptO_al (tx := tx) (b := true) zz
    have hp1 := pcI_one (tx := tx) zz (by omega)
    generalize hSE : (nxS tx tt e) = SX at *
    generalize hEE : (nxE tx tt e) = EX at *
    have t266 : ∀ (g2 : GH) (F2 : Nat → Nat → Int32) (v6 v7 : Option Value) (h : Md G g2 B (mS cd ty ne fr tt EX SX EX wr mk wd) F2 o) (mm : gh_M MDT g g2) (hw : RlW F F2 rs), ptO tx true SX EX = true → (us.length < 8 → PtS F2 r 0 p) → (us.length < 8 → PtS F2 r 1 q) → (us.length < 8 → PtS F2 r 2 (ptW tx SX EX)) → gh_W l G (rmk 2 0 0 46) X g2 0 0 [some (.ref (B 0)), some (.int (nI b)), some (.int (nI fl)), some (.int (nI r)), some (.int (nI (bn (decide (us.length < 8))))), some (.int (nI 2)), v6, v7] 266 [] := by
      intro g2 F2 v6 v7 h mm hw hok sp sq sc
      refine gh_incN (lv' := [some (.ref (B 0)), some (.int (nI b)), some (.int (nI fl)), some (.int (nI r)), some (.int (nI (bn (decide (us.length < 8))))), some (.int (nI 3)), v6, v7]) hK d_Md_rule_266 rfl rfl ?_
      refine gh_goto (tgt := 88) hK d_Md_rule_269 (by decide) ?_
      rw [if_pos hok] at hres
      exact t3 fl EX p q (ptW tx SX EX) g2 F2 SX EX _ _ h mm hw hfl (by omega) (by omega) lp lq (ptW_len (by omega) hok) sp sq sc dp dq hres
    have t176 : ∀ (v7 : Option Value), ptO tx true SX EX = true → gh_W l G (rmk 2 0 0 46) X g_1 0 0 [some (.ref (B 0)), some (.int (nI b)), some (.int (nI fl)), some (.int (nI r)), some (.int (nI (bn (decide (us.length < 8))))), some (.int (nI 2)), some (.int (nI (bn (pcI tx SX EX [48])))), v7] 176 [] := by
      intro v7 hok
      refine gh_iload hK d_Md_rule_176 rfl ?_
      refine gh_if_eqB hK d_Md_rule_178 (tgt := 266) (by decide) (fun z2 => ?_) (fun z2 => ?_)
      · exact t266 g_1 F1 _ _ h9 mm hw hok sp sq (fun q => by rw [decide_eq_true q] at z2; cases z2)
      have z3 := of_decide_eq_true z2
      have hrsr := hrs1 z3
      have lw := ptW_len (by omega) hok
      refine gh_aload_n hK d_Md_rule_181 rfl ?_
      refine gh_get (v := .ref (B 8)) hK d_Md_rule_182 in_Md rfl h9.1 12 (by decide) kf_Md_31 rfl rfl ?_
      refine gh_iconst (v := nI 3) hK d_Md_rule_185 (by decide) ?_
      refine gh_iload_n hK d_Md_rule_186 rfl ?_
      refine gh_mulN hK d_Md_rule_187 ?_
      refine gh_iload hK d_Md_rule_188 rfl ?_
      refine gh_addN hK d_Md_rule_190 ?_
      refine gh_iload hK d_Md_rule_191 rfl ?_
      have jn : gh_W l G (rmk 2 0 0 46) X g_1 0 0 [some (.ref (B 0)), some (.int (nI b)), some (.int (nI fl)), some (.int (nI r)), some (.int (nI (bn (decide (us.length < 8))))), some (.int (nI 2)), some (.int (nI (bn (pcI tx SX EX [48])))), v7] 209 [.int (nI (ptW tx SX EX).length), .int (nI (3 * r + 2)), .ref (B 8)] → gh_W l G (rmk 2 0 0 46) X g_1 0 0 [some (.ref (B 0)), some (.int (nI b)), some (.int (nI fl)), some (.int (nI r)), some (.int (nI (bn (decide (us.length < 8))))), some (.int (nI 2)), some (.int (nI (bn (pcI tx SX EX [48])))), v7] 193 [.int (nI (bn (pcI tx SX EX [48]))), .int (nI ((3 * r) + 2)), .ref (B 8)] := by
        intro kk
        refine gh_if_eqB hK d_Md_rule_193 (tgt := 200) (by decide) (fun z4 => ?_) (fun z4 => ?_)
        · refine gh_aload_n hK d_Md_rule_200 rfl ?_
          refine gh_get (v := .int (nI EX)) hK d_Md_rule_201 in_Md rfl h9.1 18 (by decide) kf_Md_79 rfl rfl ?_
          refine gh_aload_n hK d_Md_rule_204 rfl ?_
          refine gh_get (v := .int (nI SX)) hK d_Md_rule_205 in_Md rfl h9.1 17 (by decide) kf_Md_76 rfl rfl ?_
          refine gh_subN hK d_Md_rule_208 (by omega) ?_
          rw [show (ptW tx SX EX).length = EX - SX by unfold ptW; rw [if_neg (by rw [z4]; decide), slice_len (by omega)]] at kk
          exact kk
        · refine gh_iconst (v := nI 0) hK d_Md_rule_196 (by decide) ?_
          refine gh_goto (tgt := 209) hK d_Md_rule_197 (by decide) ?_
          rw [show (ptW tx SX EX).length = 0 by unfold ptW; rw [if_pos z4]; rfl] at kk
          exact kk
      refine jn ?_
      refine gh_mast hK d_Md_rule_209 h9 8 (by decide) (i := 3 * r + 2) (by show 3 * r + 2 < 48; omega) (fun g_2 h_2 mx => ?_)
      have mm := mm.tr mx
      show gh_W l G _ X g_2 0 0 [some (.ref (B 0)), some (.int (nI b)), some (.int (nI fl)), some (.int (nI r)), some (.int (nI (bn (decide (us.length < 8))))), some (.int (nI 2)), some (.int (nI (bn (pcI tx SX EX [48])))), v7] 210 []
      refine gh_aload_n hK d_Md_rule_210 rfl ?_
      refine gh_get (v := .int (nI SX)) hK d_Md_rule_211 in_Md rfl h_2.1 17 (by decide) kf_Md_76 rfl rfl ?_
      refine gh_istore (lv' := [some (.ref (B 0)), some (.int (nI b)), some (.int (nI fl)), some (.int (nI r)), some (.int (nI (bn (decide (us.length < 8))))), some (.int (nI 2)), some (.int (nI (bn (pcI tx SX EX [48])))), some (.int (nI SX))]) hK d_Md_rule_214 (Nat.le_of_ble_eq_true rfl) rfl ?_
      have hw8 : RlW F (upF F1 8 (upd (F1 8) (3 * r + 2) (nI ((ptW tx SX EX).length)))) rs := hw.up8 (by omega) (by omega)
      have cp : (pcI tx SX EX [48]) = false → ∀ (m k : Nat) (g2 : GH) (F2 : Nat → Nat → Int32) (h : Md G g2 B (mS cd ty ne fr tt EX SX EX wr mk wd) F2 o) (mm : gh_M MDT g g2) (hw : RlW F F2 rs), k + m = EX - SX → PtS F2 r 0 p → PtS F2 r 1 q → F2 8 (3 * r + 2) = nI (ptW tx SX EX).length → sA (F2 9) (18 * r + 6 * 2) ((ptW tx SX EX).take k) → gh_W l G (rmk 2 0 0 46) X g2 0 0 [some (.ref (B 0)), some (.int (nI b)), some (.int (nI fl)), some (.int (nI r)), some (.int (nI (bn (decide (us.length < 8))))), some (.int (nI 2)), some (.int (nI (bn (pcI tx SX EX [48])))), some (.int (nI (SX + k)))] 216 [] := by
        intro hem m
        have ew : (ptW tx SX EX) = (tx.drop SX).take (EX - SX) := by unfold ptW; rw [if_neg (by rw [hem]; decide)]
        have ewl : (ptW tx SX EX).length = EX - SX := by rw [ew, slice_len (by omega)]
        induction m with
        | zero =>
          intro k g2 F2 h mm hw hk sp sq s8 s9
          refine gh_iload hK d_Md_rule_216 rfl ?_
          refine gh_aload_n hK d_Md_rule_218 rfl ?_
          refine gh_get (v := .int (nI EX)) hK d_Md_rule_219 in_Md rfl h.1 18 (by decide) kf_Md_79 rfl rfl ?_
          refine gh_icmp_geN hK d_Md_rule_222 (tgt := 266) (by decide) (by omega) (by omega) (fun _ => ?_) (fun q => by omega)
          rw [List.take_of_length_le (by omega)] at s9
          exact t266 g2 F2 _ _ h mm hw hok (fun _ => sp) (fun _ => sq) (fun _ => ⟨s8, s9⟩)
        | succ m ihc =>
          intro k g2 F2 h mm hw hk sp sq s8 s9
          have hc := ht.2 (SX + k) (by omega)
          refine gh_iload hK d_Md_rule_216 rfl ?_
          refine gh_aload_n hK d_Md_rule_218 rfl ?_
          refine gh_get (v := .int (nI EX)) hK d_Md_rule_219 in_Md rfl h.1 18 (by decide) kf_Md_79 rfl rfl ?_
          refine gh_icmp_geN hK d_Md_rule_222 (tgt := 266) (by decide) (by omega) (by omega) (fun q => by omega) (fun _ => ?_)
          refine gh_iload hK d_Md_rule_225 rfl ?_
          refine gh_if_neB hK d_Md_rule_227 (tgt := 266) (by decide) (fun q => by rw [hem] at q; cases q) (fun _ => ?_)
          refine gh_aload_n hK d_Md_rule_230 rfl ?_
          refine gh_get (v := .ref (B 9)) hK d_Md_rule_231 in_Md rfl h.1 13 (by decide) kf_Md_34 rfl rfl ?_
          refine gh_bipush (v := nI 18) hK d_Md_rule_234 (by decide) ?_
          refine gh_iload_n hK d_Md_rule_236 rfl ?_
          refine gh_mulN hK d_Md_rule_237 ?_
          refine gh_bipush (v := nI 6) hK d_Md_rule_238 (by decide) ?_
          refine gh_iload hK d_Md_rule_240 rfl ?_
          refine gh_mulN hK d_Md_rule_242 ?_
          refine gh_addN hK d_Md_rule_243 ?_
          refine gh_iload hK d_Md_rule_244 rfl ?_
          refine gh_addN hK d_Md_rule_246 ?_
          refine gh_aload_n hK d_Md_rule_247 rfl ?_
          refine gh_get (v := .int (nI SX)) hK d_Md_rule_248 in_Md rfl h.1 17 (by decide) kf_Md_76 rfl rfl ?_
          refine gh_subN hK d_Md_rule_251 (by omega) ?_
          rw [show 18 * r + 6 * 2 + (SX + k) - SX = 18 * r + 6 * 2 + k by omega]
          refine gh_aload_n hK d_Md_rule_252 rfl ?_
          refine gh_get (v := .ref (B 1)) hK d_Md_rule_253 in_Md rfl h.1 2 (by decide) kf_Md_7 rfl rfl ?_
          refine gh_iload hK d_Md_rule_256 rfl ?_
          refine gh_mald hK d_Md_rule_258 h 1 (by decide) (i := SX + k) (x := (nI (tx.getD (SX + k) 0))) (by show SX + k < 2048; omega) (by rw [hw.1 1 (by decide) (by decide)]; exact (ht.2 (SX + k) (by omega)).1) ?_
          refine gh_mast hK d_Md_rule_259 h 9 (by decide) (i := 18 * r + 6 * 2 + k) (by show 18 * r + 6 * 2 + k < 288; omega) (fun g_3 h_3 mx => ?_)
          have mm := mm.tr mx
          show gh_W l G _ X g_3 0 0 [some (.ref (B 0)), some (.int (nI b)), some (.int (nI fl)), some (.int (nI r)), some (.int (nI (bn (decide (us.length < 8))))), some (.int (nI 2)), some (.int (nI (bn (pcI tx SX EX [48])))), some (.int (nI (SX + k)))] 260 []
          refine gh_incN (lv' := [some (.ref (B 0)), some (.int (nI b)), some (.int (nI fl)), some (.int (nI r)), some (.int (nI (bn (decide (us.length < 8))))), some (.int (nI 2)), some (.int (nI (bn (pcI tx SX EX [48])))), some (.int (nI (SX + k + 1)))]) hK d_Md_rule_260 rfl rfl ?_
          refine gh_goto (tgt := 216) hK d_Md_rule_263 (by decide) ?_
          refine ihc (k + 1) g_3 _ h_3 mm (hw.up9 (by omega) (by omega)) (by omega) (sp.eq9 lp (by omega)) (sq.eq9 lq (by omega)) (by rw [upF_n (by decide)]; exact s8) ?_
          rw [upF_s, take_succD (show k < (ptW tx SX EX).length by omega)]
          have e7 : (ptW tx SX EX).getD k 0 = tx.getD (SX + k) 0 := by rw [ew, slice_getD (by omega) (by omega)]
          rw [e7]
          exact sA_app s9 (by rw [List.length_take]; omega) (by omega)
      have e8 : (upF F1 8 (upd (F1 8) (3 * r + 2) (nI ((ptW tx SX EX).length)))) 8 (3 * r + 2) = nI (ptW tx SX EX).length := by rw [upF_s, pk_us]
      cases hem : (pcI tx SX EX [48]) with
      | false =>
        have := cp hem (EX - SX) 0 g_2 _ h_2 mm hw8 (by omega) ((sp z3).eq8 (by omega)) ((sq z3).eq8 (by omega)) e8 (by rw [List.take_zero]; exact sA_nil)
        rw [hem] at this
        exact this
      | true =>
        refine gh_iload hK d_Md_rule_216 rfl ?_
        refine gh_aload_n hK d_Md_rule_218 rfl ?_
        refine gh_get (v := .int (nI EX)) hK d_Md_rule_219 in_Md rfl h_2.1 18 (by decide) kf_Md_79 rfl rfl ?_
        refine gh_icmp_geN hK d_Md_rule_222 (tgt := 266) (by decide) (by omega) (by omega) (fun q => by omega) (fun _ => ?_)
        refine gh_iload hK d_Md_rule_225 rfl ?_
        refine gh_if_neB hK d_Md_rule_227 (tgt := 266) (by decide) (fun _ => ?_) (fun q => by cases q)
        have ew : (ptW tx SX EX) = [] := by unfold ptW; rw [if_pos hem]
        exact t266 g_2 _ _ _ h_2 mm hw8 hok (fun z => (sp z).eq8 (by omega)) (fun z => (sq z).eq8 (by omega)) (fun _ => ⟨e8, by rw [ew]; exact sA_nil⟩)
    have t136 : ∀ (ee : Bool) (v7 : Option Value), ee = (pcI tx SX EX [48]) → gh_W l G (rmk 2 0 0 46) X g_1 0 0 [some (.ref (B 0)), some (.int (nI b)), some (.int (nI fl)), some (.int (nI r)), some (.int (nI (bn (decide (us.length < 8))))), some (.int (nI 2)), some (.int (nI (bn ee))), v7] 136 [] := by
      intro ee v7 hee
      subst hee
      refine gh_iload hK d_Md_rule_136 rfl ?_
      refine gh_if_neB hK d_Md_rule_138 (tgt := 176) (by decide) (fun z4 => ?_) (fun z4 => ?_)
      · exact t176 _ (by rw [hpo, z4]; rfl)
      refine gh_aload_n hK d_Md_rule_141 rfl ?_
      refine gh_aload_n hK d_Md_rule_142 rfl ?_
      refine gh_get (v := .int (nI SX)) hK d_Md_rule_143 in_Md rfl h9.1 17 (by decide) kf_Md_76 rfl rfl ?_
      refine gh_aload_n hK d_Md_rule_146 rfl ?_
      refine gh_get (v := .int (nI EX)) hK d_Md_rule_147 in_Md rfl h9.1 18 (by decide) kf_Md_79 rfl rfl ?_
      refine gh_bipush (v := nI 6) hK d_Md_rule_150 (by decide) ?_
      refine gh_iload hK d_Md_rule_152 rfl ?_
      refine gh_iconst (v := nI 2) hK d_Md_rule_154 (by decide) ?_
      refine gh_icmp_neN hK d_Md_rule_155 (tgt := 162) (by decide) (by decide) (by decide) (fun q => absurd rfl q) (fun _ => ?_)
      refine gh_iconst (v := nI 1) hK d_Md_rule_158 (by decide) ?_
      refine gh_goto (tgt := 163) hK d_Md_rule_159 (by decide) ?_
      show gh_W l G _ X g_1 0 0 [some (.ref (B 0)), some (.int (nI b)), some (.int (nI fl)), some (.int (nI r)), some (.int (nI (bn (decide (us.length < 8))))), some (.int (nI 2)), some (.int (nI (bn (pcI tx SX EX [48])))), v7] 163 [.int (nI (bn true)), .int (nI 6), .int (nI EX), .int (nI SX), .ref (B 0)]
      refine gh_callV (rest := []) [.int (nI SX), .int (nI EX), .int (nI 6), .int (nI (bn true))] hK (c_Md_areLetters l G h9 (most := 6) (b := true) (ht.eq (hw.1 1 (by decide) (by decide))) (by omega) (by omega) (by decide)) Y_Md_areLetters V_Md_areLetters km_Md_102 h9.1 rfl rfl d_Md_rule_163 rfl rfl (Nat.le_of_ble_eq_true rfl) ⟨(Nat.le_of_ble_eq_true rfl), (Nat.le_of_ble_eq_true rfl)⟩ ⟨(Nat.le_of_ble_eq_true rfl), (Nat.le_of_ble_eq_true rfl)⟩ (fun v gp_4 hp => ?_)
      obtain ⟨rfl, hgp⟩ := hp
      rw [hgp]
      show gh_W l G _ X g_1 0 0 [some (.ref (B 0)), some (.int (nI b)), some (.int (nI fl)), some (.int (nI r)), some (.int (nI (bn (decide (us.length < 8))))), some (.int (nI 2)), some (.int (nI (bn (pcI tx SX EX [48])))), v7] 166 [.int (nI (bn (alO tx SX EX 6 true)))]
      refine gh_if_neB hK d_Md_rule_166 (tgt := 176) (by decide) (fun z5 => ?_) (fun z5 => ?_)
      · exact t176 _ (by rw [hpo, z5, Bool.or_true])
      refine gh_aload_n hK d_Md_rule_169 rfl ?_
      refine gh_callV (rest := []) [] hK (c_Md_refuse l G h9 (by omega)) Y_Md_refuse V_Md_refuse km_Md_92 h9.1 rfl rfl d_Md_rule_170 rfl rfl (Nat.le_of_ble_eq_true rfl) ⟨(Nat.le_of_ble_eq_true rfl), (Nat.le_of_ble_eq_true rfl)⟩ ⟨(Nat.le_of_ble_eq_true rfl), (Nat.le_of_ble_eq_true rfl)⟩ (fun v g_5 hp => ?_)
      obtain ⟨rfl, h_5, mx⟩ := hp
      have mm := mm.tr mx
      show gh_W l G _ X g_5 0 0 [some (.ref (B 0)), some (.int (nI b)), some (.int (nI fl)), some (.int (nI r)), some (.int (nI (bn (decide (us.length < 8))))), some (.int (nI 2)), some (.int (nI (bn (pcI tx SX EX [48])))), v7] 173 [.int (nI 0)]
      refine gh_istore (lv' := [some (.ref (B 0)), some (.int (nI b)), some (.int (nI fl)), some (.int (nI r)), some (.int (nI (bn (decide (us.length < 8))))), some (.int (nI 2)), some (.int (nI (bn (pcI tx SX EX [48])))), some (.int (nI 0))]) hK d_Md_rule_173 (Nat.le_of_ble_eq_true rfl) rfl ?_
      exact bad SX _ _ _ _ _ _ _ h_5 mm hw d_Md_rule_175 (by rw [← hres, if_neg (by rw [hpo, z4, z5]; decide)])
    refine gh_aload_n hK d_Md_rule_102 rfl ?_
    refine gh_get (v := .int (nI EX)) hK d_Md_rule_103 in_Md rfl h9.1 18 (by decide) kf_Md_79 rfl rfl ?_
    refine gh_aload_n hK d_Md_rule_106 rfl ?_
    refine gh_get (v := .int (nI SX)) hK d_Md_rule_107 in_Md rfl h9.1 17 (by decide) kf_Md_76 rfl rfl ?_
    refine gh_subN hK d_Md_rule_110 (by omega) ?_
    refine gh_iconst (v := nI 1) hK d_Md_rule_111 (by decide) ?_
    refine gh_icmp_neN hK d_Md_rule_112 (tgt := 133) (by decide) (by omega) (by decide) (fun z4 => ?_) (fun z4 => ?_)
    · refine gh_iconst (v := nI 0) hK d_Md_rule_133 (by decide) ?_
      refine gh_istore (lv' := [some (.ref (B 0)), some (.int (nI b)), some (.int (nI fl)), some (.int (nI r)), some (.int (nI (bn (decide (us.length < 8))))), some (.int (nI 2)), some (.int (nI 0)), v7]) hK d_Md_rule_134 (Nat.le_of_ble_eq_true rfl) rfl ?_
      exact t136 false _ (by rw [hp1, decide_eq_false z4]; rfl)
    have hcS := ht.2 SX (by omega)
    refine gh_aload_n hK d_Md_rule_115 rfl ?_
    refine gh_get (v := .ref (B 1)) hK d_Md_rule_116 in_Md rfl h9.1 2 (by decide) kf_Md_7 rfl rfl ?_
    refine gh_aload_n hK d_Md_rule_119 rfl ?_
    refine gh_get (v := .int (nI SX)) hK d_Md_rule_120 in_Md rfl h9.1 17 (by decide) kf_Md_76 rfl rfl ?_
    refine gh_mald hK d_Md_rule_123 h9 1 (by decide) (i := SX) (x := (nI (tx.getD SX 0))) (by show SX < 2048; omega) (by rw [hw.1 1 (by decide) (by decide)]; exact (ht.2 SX (by omega)).1) ?_
    refine gh_bipush (v := nI 48) hK d_Md_rule_124 (by decide) ?_
    refine gh_icmp_neN hK d_Md_rule_126 (tgt := 133) (by decide) (by omega) (by decide) (fun z5 => ?_) (fun z5 => ?_)
    · refine gh_iconst (v := nI 0) hK d_Md_rule_133 (by decide) ?_
      refine gh_istore (lv' := [some (.ref (B 0)), some (.int (nI b)), some (.int (nI fl)), some (.int (nI r)), some (.int (nI (bn (decide (us.length < 8))))), some (.int (nI 2)), some (.int (nI 0)), v7]) hK d_Md_rule_134 (Nat.le_of_ble_eq_true rfl) rfl ?_
      exact t136 false _ (by rw [hp1, decide_eq_false z5, Bool.and_false])
    · refine gh_iconst (v := nI 1) hK d_Md_rule_129 (by decide) ?_
      refine gh_goto (tgt := 134) hK d_Md_rule_130 (by decide) ?_
      refine gh_istore (lv' := [some (.ref (B 0)), some (.int (nI b)), some (.int (nI fl)), some (.int (nI r)), some (.int (nI (bn (decide (us.length < 8))))), some (.int (nI 2)), some (.int (nI 1)), v7]) hK d_Md_rule_134 (Nat.le_of_ble_eq_true rfl) rfl ?_
      exact t136 true _ (by rw [hp1, decide_eq_true z4, decide_eq_true z5]; rfl)
  have t1 : ∀ (fl e : Nat) (p : List Nat) (g1 : GH) (F1 : Nat → Nat → Int32) (fi0 en0 : Nat) (v6 v7 : Option Value) (h : Md G g1 B (mS cd ty ne fr tt e fi0 en0 wr mk wd) F1 o) (mm : gh_M MDT g g1) (hw : RlW F F1 rs), fl < 26 → e ≤ tt → fr ≤ e → p.length ≤ 6 → (us.length < 8 → PtS F1 r 0 p) → (∀ x, x ∈ p → x ≠ 46) → rdR3 tx tt (2 ^ fl) p e = R → gh_W l G (rmk 2 0 0 46) X g1 0 0 [some (.ref (B 0)), some (.int (nI b)), some (.int (nI fl)), some (.int (nI r)), some (.int (nI (bn (decide (us.length < 8))))), some (.int (nI 1)), v6, v7] 88 [] := by
    intro fl e p g1 F1 fi0 en0 v6 v7 h mm hw hfl he hfe lp sp dp hres
    have c1 := nxS_le (tx := tx) he
    have c2 := nxE_le (tx := tx) he
    unfold rdR3 npW at hres
    refine gh_iload hK d_Md_rule_88 rfl ?_
    refine gh_iconst (v := nI 3) hK d_Md_rule_90 (by decide) ?_
    refine gh_icmp_geN hK d_Md_rule_91 (tgt := 272) (by decide) (by decide) (by decide) (fun q => absurd q (by decide)) (fun _ => ?_)
    refine gh_aload_n hK d_Md_rule_94 rfl ?_
    refine gh_callV (rest := []) [] hK (c_Md_must l G h (ht.eq (hw.1 1 (by decide) (by decide))) hto he (by omega)) Y_Md_must V_Md_must km_Md_99 h.1 rfl rfl d_Md_rule_95 rfl rfl (Nat.le_of_ble_eq_true rfl) ⟨(Nat.le_of_ble_eq_true rfl), (Nat.le_of_ble_eq_true rfl)⟩ ⟨(Nat.le_of_ble_eq_true rfl), (Nat.le_of_ble_eq_true rfl)⟩ (fun v g_1 hp => ?_)
    obtain ⟨rfl, h_1, mx⟩ := hp
    have mm := mm.tr mx
    show gh_W l G _ X g_1 0 0 [some (.ref (B 0)), some (.int (nI b)), some (.int (nI fl)), some (.int (nI r)), some (.int (nI (bn (decide (us.length < 8))))), some (.int (nI 1)), v6, v7] 98 [.int (nI (bn (decide ((nxS tx tt e) < (nxE tx tt e)))))]
    refine gh_if_neB hK d_Md_rule_98 (tgt := 102) (by decide) (fun z => ?_) (fun z => ?_)
    rotate_left
    · have zz := of_decide_eq_false z
      have h9 := h_1
      rw [if_neg zz, show tt - fr + 1 = (nxS tx tt e) - fr + 1 by rw [nx_end he zz]] at h9
      exact bad (nxS tx tt e) _ _ _ _ _ _ _ h9 mm hw d_Md_rule_101 (by rw [← hres, if_neg (fun q => by unfold ptO at q; rw [z] at q; cases q)])
    have zz := of_decide_eq_true z
    have h9 := h_1
    rw [if_pos zz] at h9
    have hpo := ptO_al (tx := tx) (b := false) zz
    have hp1 := pcI_one (tx := tx) zz (by omega)
    generalize hSE : (nxS tx tt e) = SX at *
    generalize hEE : (nxE tx tt e) = EX at *
    have t266 : ∀ (g2 : GH) (F2 : Nat → Nat → Int32) (v6 v7 : Option Value) (h : Md G g2 B (mS cd ty ne fr tt EX SX EX wr mk wd) F2 o) (mm : gh_M MDT g g2) (hw : RlW F F2 rs), ptO tx false SX EX = true → (us.length < 8 → PtS F2 r 0 p) → (us.length < 8 → PtS F2 r 1 (ptW tx SX EX)) → gh_W l G (rmk 2 0 0 46) X g2 0 0 [some (.ref (B 0)), some (.int (nI b)), some (.int (nI fl)), some (.int (nI r)), some (.int (nI (bn (decide (us.length < 8))))), some (.int (nI 1)), v6, v7] 266 [] := by
      intro g2 F2 v6 v7 h mm hw hok sp sq
      refine gh_incN (lv' := [some (.ref (B 0)), some (.int (nI b)), some (.int (nI fl)), some (.int (nI r)), some (.int (nI (bn (decide (us.length < 8))))), some (.int (nI 2)), v6, v7]) hK d_Md_rule_266 rfl rfl ?_
      refine gh_goto (tgt := 88) hK d_Md_rule_269 (by decide) ?_
      rw [if_pos hok] at hres
      exact t2 fl EX p (ptW tx SX EX) g2 F2 SX EX _ _ h mm hw hfl (by omega) (by omega) lp (ptW_len (by omega) hok) sp sq dp (ptW_nd (by omega) hok) hres
    have t176 : ∀ (v7 : Option Value), ptO tx false SX EX = true → gh_W l G (rmk 2 0 0 46) X g_1 0 0 [some (.ref (B 0)), some (.int (nI b)), some (.int (nI fl)), some (.int (nI r)), some (.int (nI (bn (decide (us.length < 8))))), some (.int (nI 1)), some (.int (nI (bn (pcI tx SX EX [48])))), v7] 176 [] := by
      intro v7 hok
      refine gh_iload hK d_Md_rule_176 rfl ?_
      refine gh_if_eqB hK d_Md_rule_178 (tgt := 266) (by decide) (fun z2 => ?_) (fun z2 => ?_)
      · exact t266 g_1 F1 _ _ h9 mm hw hok sp (fun q => by rw [decide_eq_true q] at z2; cases z2)
      have z3 := of_decide_eq_true z2
      have hrsr := hrs1 z3
      have lw := ptW_len (by omega) hok
      refine gh_aload_n hK d_Md_rule_181 rfl ?_
      refine gh_get (v := .ref (B 8)) hK d_Md_rule_182 in_Md rfl h9.1 12 (by decide) kf_Md_31 rfl rfl ?_
      refine gh_iconst (v := nI 3) hK d_Md_rule_185 (by decide) ?_
      refine gh_iload_n hK d_Md_rule_186 rfl ?_
      refine gh_mulN hK d_Md_rule_187 ?_
      refine gh_iload hK d_Md_rule_188 rfl ?_
      refine gh_addN hK d_Md_rule_190 ?_
      refine gh_iload hK d_Md_rule_191 rfl ?_
      have jn : gh_W l G (rmk 2 0 0 46) X g_1 0 0 [some (.ref (B 0)), some (.int (nI b)), some (.int (nI fl)), some (.int (nI r)), some (.int (nI (bn (decide (us.length < 8))))), some (.int (nI 1)), some (.int (nI (bn (pcI tx SX EX [48])))), v7] 209 [.int (nI (ptW tx SX EX).length), .int (nI (3 * r + 1)), .ref (B 8)] → gh_W l G (rmk 2 0 0 46) X g_1 0 0 [some (.ref (B 0)), some (.int (nI b)), some (.int (nI fl)), some (.int (nI r)), some (.int (nI (bn (decide (us.length < 8))))), some (.int (nI 1)), some (.int (nI (bn (pcI tx SX EX [48])))), v7] 193 [.int (nI (bn (pcI tx SX EX [48]))), .int (nI ((3 * r) + 1)), .ref (B 8)] := by
        intro kk
        refine gh_if_eqB hK d_Md_rule_193 (tgt := 200) (by decide) (fun z4 => ?_) (fun z4 => ?_)
        · refine gh_aload_n hK d_Md_rule_200 rfl ?_
          refine gh_get (v := .int (nI EX)) hK d_Md_rule_201 in_Md rfl h9.1 18 (by decide) kf_Md_79 rfl rfl ?_
          refine gh_aload_n hK d_Md_rule_204 rfl ?_
          refine gh_get (v := .int (nI SX)) hK d_Md_rule_205 in_Md rfl h9.1 17 (by decide) kf_Md_76 rfl rfl ?_
          refine gh_subN hK d_Md_rule_208 (by omega) ?_
          rw [show (ptW tx SX EX).length = EX - SX by unfold ptW; rw [if_neg (by rw [z4]; decide), slice_len (by omega)]] at kk
          exact kk
        · refine gh_iconst (v := nI 0) hK d_Md_rule_196 (by decide) ?_
          refine gh_goto (tgt := 209) hK d_Md_rule_197 (by decide) ?_
          rw [show (ptW tx SX EX).length = 0 by unfold ptW; rw [if_pos z4]; rfl] at kk
          exact kk
      refine jn ?_
      refine gh_mast hK d_Md_rule_209 h9 8 (by decide) (i := 3 * r + 1) (by show 3 * r + 1 < 48; omega) (fun g_2 h_2 mx => ?_)
      have mm := mm.tr mx
      show gh_W l G _ X g_2 0 0 [some (.ref (B 0)), some (.int (nI b)), some (.int (nI fl)), some (.int (nI r)), some (.int (nI (bn (decide (us.length < 8))))), some (.int (nI 1)), some (.int (nI (bn (pcI tx SX EX [48])))), v7] 210 []
      refine gh_aload_n hK d_Md_rule_210 rfl ?_
      refine gh_get (v := .int (nI SX)) hK d_Md_rule_211 in_Md rfl h_2.1 17 (by decide) kf_Md_76 rfl rfl ?_
      refine gh_istore (lv' := [some (.ref (B 0)), some (.int (nI b)), some (.int (nI fl)), some (.int (nI r)), some (.int (nI (bn (decide (us.length < 8))))), some (.int (nI 1)), some (.int (nI (bn (pcI tx SX EX [48])))), some (.int (nI SX))]) hK d_Md_rule_214 (Nat.le_of_ble_eq_true rfl) rfl ?_
      have hw8 : RlW F (upF F1 8 (upd (F1 8) (3 * r + 1) (nI ((ptW tx SX EX).length)))) rs := hw.up8 (by omega) (by omega)
      have cp : (pcI tx SX EX [48]) = false → ∀ (m k : Nat) (g2 : GH) (F2 : Nat → Nat → Int32) (h : Md G g2 B (mS cd ty ne fr tt EX SX EX wr mk wd) F2 o) (mm : gh_M MDT g g2) (hw : RlW F F2 rs), k + m = EX - SX → PtS F2 r 0 p → F2 8 (3 * r + 1) = nI (ptW tx SX EX).length → sA (F2 9) (18 * r + 6 * 1) ((ptW tx SX EX).take k) → gh_W l G (rmk 2 0 0 46) X g2 0 0 [some (.ref (B 0)), some (.int (nI b)), some (.int (nI fl)), some (.int (nI r)), some (.int (nI (bn (decide (us.length < 8))))), some (.int (nI 1)), some (.int (nI (bn (pcI tx SX EX [48])))), some (.int (nI (SX + k)))] 216 [] := by
        intro hem m
        have ew : (ptW tx SX EX) = (tx.drop SX).take (EX - SX) := by unfold ptW; rw [if_neg (by rw [hem]; decide)]
        have ewl : (ptW tx SX EX).length = EX - SX := by rw [ew, slice_len (by omega)]
        induction m with
        | zero =>
          intro k g2 F2 h mm hw hk sp s8 s9
          refine gh_iload hK d_Md_rule_216 rfl ?_
          refine gh_aload_n hK d_Md_rule_218 rfl ?_
          refine gh_get (v := .int (nI EX)) hK d_Md_rule_219 in_Md rfl h.1 18 (by decide) kf_Md_79 rfl rfl ?_
          refine gh_icmp_geN hK d_Md_rule_222 (tgt := 266) (by decide) (by omega) (by omega) (fun _ => ?_) (fun q => by omega)
          rw [List.take_of_length_le (by omega)] at s9
          exact t266 g2 F2 _ _ h mm hw hok (fun _ => sp) (fun _ => ⟨s8, s9⟩)
        | succ m ihc =>
          intro k g2 F2 h mm hw hk sp s8 s9
          have hc := ht.2 (SX + k) (by omega)
          refine gh_iload hK d_Md_rule_216 rfl ?_
          refine gh_aload_n hK d_Md_rule_218 rfl ?_
          refine gh_get (v := .int (nI EX)) hK d_Md_rule_219 in_Md rfl h.1 18 (by decide) kf_Md_79 rfl rfl ?_
          refine gh_icmp_geN hK d_Md_rule_222 (tgt := 266) (by decide) (by omega) (by omega) (fun q => by omega) (fun _ => ?_)
          refine gh_iload hK d_Md_rule_225 rfl ?_
          refine gh_if_neB hK d_Md_rule_227 (tgt := 266) (by decide) (fun q => by rw [hem] at q; cases q) (fun _ => ?_)
          refine gh_aload_n hK d_Md_rule_230 rfl ?_
          refine gh_get (v := .ref (B 9)) hK d_Md_rule_231 in_Md rfl h.1 13 (by decide) kf_Md_34 rfl rfl ?_
          refine gh_bipush (v := nI 18) hK d_Md_rule_234 (by decide) ?_
          refine gh_iload_n hK d_Md_rule_236 rfl ?_
          refine gh_mulN hK d_Md_rule_237 ?_
          refine gh_bipush (v := nI 6) hK d_Md_rule_238 (by decide) ?_
          refine gh_iload hK d_Md_rule_240 rfl ?_
          refine gh_mulN hK d_Md_rule_242 ?_
          refine gh_addN hK d_Md_rule_243 ?_
          refine gh_iload hK d_Md_rule_244 rfl ?_
          refine gh_addN hK d_Md_rule_246 ?_
          refine gh_aload_n hK d_Md_rule_247 rfl ?_
          refine gh_get (v := .int (nI SX)) hK d_Md_rule_248 in_Md rfl h.1 17 (by decide) kf_Md_76 rfl rfl ?_
          refine gh_subN hK d_Md_rule_251 (by omega) ?_
          rw [show 18 * r + 6 * 1 + (SX + k) - SX = 18 * r + 6 * 1 + k by omega]
          refine gh_aload_n hK d_Md_rule_252 rfl ?_
          refine gh_get (v := .ref (B 1)) hK d_Md_rule_253 in_Md rfl h.1 2 (by decide) kf_Md_7 rfl rfl ?_
          refine gh_iload hK d_Md_rule_256 rfl ?_
          refine gh_mald hK d_Md_rule_258 h 1 (by decide) (i := SX + k) (x := (nI (tx.getD (SX + k) 0))) (by show SX + k < 2048; omega) (by rw [hw.1 1 (by decide) (by decide)]; exact (ht.2 (SX + k) (by omega)).1) ?_
          refine gh_mast hK d_Md_rule_259 h 9 (by decide) (i := 18 * r + 6 * 1 + k) (by show 18 * r + 6 * 1 + k < 288; omega) (fun g_3 h_3 mx => ?_)
          have mm := mm.tr mx
          show gh_W l G _ X g_3 0 0 [some (.ref (B 0)), some (.int (nI b)), some (.int (nI fl)), some (.int (nI r)), some (.int (nI (bn (decide (us.length < 8))))), some (.int (nI 1)), some (.int (nI (bn (pcI tx SX EX [48])))), some (.int (nI (SX + k)))] 260 []
          refine gh_incN (lv' := [some (.ref (B 0)), some (.int (nI b)), some (.int (nI fl)), some (.int (nI r)), some (.int (nI (bn (decide (us.length < 8))))), some (.int (nI 1)), some (.int (nI (bn (pcI tx SX EX [48])))), some (.int (nI (SX + k + 1)))]) hK d_Md_rule_260 rfl rfl ?_
          refine gh_goto (tgt := 216) hK d_Md_rule_263 (by decide) ?_
          refine ihc (k + 1) g_3 _ h_3 mm (hw.up9 (by omega) (by omega)) (by omega) (sp.eq9 lp (by omega)) (by rw [upF_n (by decide)]; exact s8) ?_
          rw [upF_s, take_succD (show k < (ptW tx SX EX).length by omega)]
          have e7 : (ptW tx SX EX).getD k 0 = tx.getD (SX + k) 0 := by rw [ew, slice_getD (by omega) (by omega)]
          rw [e7]
          exact sA_app s9 (by rw [List.length_take]; omega) (by omega)
      have e8 : (upF F1 8 (upd (F1 8) (3 * r + 1) (nI ((ptW tx SX EX).length)))) 8 (3 * r + 1) = nI (ptW tx SX EX).length := by rw [upF_s, pk_us]
      cases hem : (pcI tx SX EX [48]) with
      | false =>
        have := cp hem (EX - SX) 0 g_2 _ h_2 mm hw8 (by omega) ((sp z3).eq8 (by omega)) e8 (by rw [List.take_zero]; exact sA_nil)
        rw [hem] at this
        exact this
      | true =>
        refine gh_iload hK d_Md_rule_216 rfl ?_
        refine gh_aload_n hK d_Md_rule_218 rfl ?_
        refine gh_get (v := .int (nI EX)) hK d_Md_rule_219 in_Md rfl h_2.1 18 (by decide) kf_Md_79 rfl rfl ?_
        refine gh_icmp_geN hK d_Md_rule_222 (tgt := 266) (by decide) (by omega) (by omega) (fun q => by omega) (fun _ => ?_)
        refine gh_iload hK d_Md_rule_225 rfl ?_
        refine gh_if_neB hK d_Md_rule_227 (tgt := 266) (by decide) (fun _ => ?_) (fun q => by cases q)
        have ew : (ptW tx SX EX) = [] := by unfold ptW; rw [if_pos hem]
        exact t266 g_2 _ _ _ h_2 mm hw8 hok (fun z => (sp z).eq8 (by omega)) (fun _ => ⟨e8, by rw [ew]; exact sA_nil⟩)
    have t136 : ∀ (ee : Bool) (v7 : Option Value), ee = (pcI tx SX EX [48]) → gh_W l G (rmk 2 0 0 46) X g_1 0 0 [some (.ref (B 0)), some (.int (nI b)), some (.int (nI fl)), some (.int (nI r)), some (.int (nI (bn (decide (us.length < 8))))), some (.int (nI 1)), some (.int (nI (bn ee))), v7] 136 [] := by
      intro ee v7 hee
      subst hee
      refine gh_iload hK d_Md_rule_136 rfl ?_
      refine gh_if_neB hK d_Md_rule_138 (tgt := 176) (by decide) (fun z4 => ?_) (fun z4 => ?_)
      · exact t176 _ (by rw [hpo, z4]; rfl)
      refine gh_aload_n hK d_Md_rule_141 rfl ?_
      refine gh_aload_n hK d_Md_rule_142 rfl ?_
      refine gh_get (v := .int (nI SX)) hK d_Md_rule_143 in_Md rfl h9.1 17 (by decide) kf_Md_76 rfl rfl ?_
      refine gh_aload_n hK d_Md_rule_146 rfl ?_
      refine gh_get (v := .int (nI EX)) hK d_Md_rule_147 in_Md rfl h9.1 18 (by decide) kf_Md_79 rfl rfl ?_
      refine gh_bipush (v := nI 6) hK d_Md_rule_150 (by decide) ?_
      refine gh_iload hK d_Md_rule_152 rfl ?_
      refine gh_iconst (v := nI 2) hK d_Md_rule_154 (by decide) ?_
      refine gh_icmp_neN hK d_Md_rule_155 (tgt := 162) (by decide) (by decide) (by decide) (fun _ => ?_) (fun q => absurd q (by decide))
      refine gh_iconst (v := nI 0) hK d_Md_rule_162 (by decide) ?_
      show gh_W l G _ X g_1 0 0 [some (.ref (B 0)), some (.int (nI b)), some (.int (nI fl)), some (.int (nI r)), some (.int (nI (bn (decide (us.length < 8))))), some (.int (nI 1)), some (.int (nI (bn (pcI tx SX EX [48])))), v7] 163 [.int (nI (bn false)), .int (nI 6), .int (nI EX), .int (nI SX), .ref (B 0)]
      refine gh_callV (rest := []) [.int (nI SX), .int (nI EX), .int (nI 6), .int (nI (bn false))] hK (c_Md_areLetters l G h9 (most := 6) (b := false) (ht.eq (hw.1 1 (by decide) (by decide))) (by omega) (by omega) (by decide)) Y_Md_areLetters V_Md_areLetters km_Md_102 h9.1 rfl rfl d_Md_rule_163 rfl rfl (Nat.le_of_ble_eq_true rfl) ⟨(Nat.le_of_ble_eq_true rfl), (Nat.le_of_ble_eq_true rfl)⟩ ⟨(Nat.le_of_ble_eq_true rfl), (Nat.le_of_ble_eq_true rfl)⟩ (fun v gp_4 hp => ?_)
      obtain ⟨rfl, hgp⟩ := hp
      rw [hgp]
      show gh_W l G _ X g_1 0 0 [some (.ref (B 0)), some (.int (nI b)), some (.int (nI fl)), some (.int (nI r)), some (.int (nI (bn (decide (us.length < 8))))), some (.int (nI 1)), some (.int (nI (bn (pcI tx SX EX [48])))), v7] 166 [.int (nI (bn (alO tx SX EX 6 false)))]
      refine gh_if_neB hK d_Md_rule_166 (tgt := 176) (by decide) (fun z5 => ?_) (fun z5 => ?_)
      · exact t176 _ (by rw [hpo, z5, Bool.or_true])
      refine gh_aload_n hK d_Md_rule_169 rfl ?_
      refine gh_callV (rest := []) [] hK (c_Md_refuse l G h9 (by omega)) Y_Md_refuse V_Md_refuse km_Md_92 h9.1 rfl rfl d_Md_rule_170 rfl rfl (Nat.le_of_ble_eq_true rfl) ⟨(Nat.le_of_ble_eq_true rfl), (Nat.le_of_ble_eq_true rfl)⟩ ⟨(Nat.le_of_ble_eq_true rfl), (Nat.le_of_ble_eq_true rfl)⟩ (fun v g_5 hp => ?_)
      obtain ⟨rfl, h_5, mx⟩ := hp
      have mm := mm.tr mx
      show gh_W l G _ X g_5 0 0 [some (.ref (B 0)), some (.int (nI b)), some (.int (nI fl)), some (.int (nI r)), some (.int (nI (bn (decide (us.length < 8))))), some (.int (nI 1)), some (.int (nI (bn (pcI tx SX EX [48])))), v7] 173 [.int (nI 0)]
      refine gh_istore (lv' := [some (.ref (B 0)), some (.int (nI b)), some (.int (nI fl)), some (.int (nI r)), some (.int (nI (bn (decide (us.length < 8))))), some (.int (nI 1)), some (.int (nI (bn (pcI tx SX EX [48])))), some (.int (nI 0))]) hK d_Md_rule_173 (Nat.le_of_ble_eq_true rfl) rfl ?_
      exact bad SX _ _ _ _ _ _ _ h_5 mm hw d_Md_rule_175 (by rw [← hres, if_neg (by rw [hpo, z4, z5]; decide)])
    refine gh_aload_n hK d_Md_rule_102 rfl ?_
    refine gh_get (v := .int (nI EX)) hK d_Md_rule_103 in_Md rfl h9.1 18 (by decide) kf_Md_79 rfl rfl ?_
    refine gh_aload_n hK d_Md_rule_106 rfl ?_
    refine gh_get (v := .int (nI SX)) hK d_Md_rule_107 in_Md rfl h9.1 17 (by decide) kf_Md_76 rfl rfl ?_
    refine gh_subN hK d_Md_rule_110 (by omega) ?_
    refine gh_iconst (v := nI 1) hK d_Md_rule_111 (by decide) ?_
    refine gh_icmp_neN hK d_Md_rule_112 (tgt := 133) (by decide) (by omega) (by decide) (fun z4 => ?_) (fun z4 => ?_)
    · refine gh_iconst (v := nI 0) hK d_Md_rule_133 (by decide) ?_
      refine gh_istore (lv' := [some (.ref (B 0)), some (.int (nI b)), some (.int (nI fl)), some (.int (nI r)), some (.int (nI (bn (decide (us.length < 8))))), some (.int (nI 1)), some (.int (nI 0)), v7]) hK d_Md_rule_134 (Nat.le_of_ble_eq_true rfl) rfl ?_
      exact t136 false _ (by rw [hp1, decide_eq_false z4]; rfl)
    have hcS := ht.2 SX (by omega)
    refine gh_aload_n hK d_Md_rule_115 rfl ?_
    refine gh_get (v := .ref (B 1)) hK d_Md_rule_116 in_Md rfl h9.1 2 (by decide) kf_Md_7 rfl rfl ?_
    refine gh_aload_n hK d_Md_rule_119 rfl ?_
    refine gh_get (v := .int (nI SX)) hK d_Md_rule_120 in_Md rfl h9.1 17 (by decide) kf_Md_76 rfl rfl ?_
    refine gh_mald hK d_Md_rule_123 h9 1 (by decide) (i := SX) (x := (nI (tx.getD SX 0))) (by show SX < 2048; omega) (by rw [hw.1 1 (by decide) (by decide)]; exact (ht.2 SX (by omega)).1) ?_
    refine gh_bipush (v := nI 48) hK d_Md_rule_124 (by decide) ?_
    refine gh_icmp_neN hK d_Md_rule_126 (tgt := 133) (by decide) (by omega) (by decide) (fun z5 => ?_) (fun z5 => ?_)
    · refine gh_iconst (v := nI 0) hK d_Md_rule_133 (by decide) ?_
      refine gh_istore (lv' := [some (.ref (B 0)), some (.int (nI b)), some (.int (nI fl)), some (.int (nI r)), some (.int (nI (bn (decide (us.length < 8))))), some (.int (nI 1)), some (.int (nI 0)), v7]) hK d_Md_rule_134 (Nat.le_of_ble_eq_true rfl) rfl ?_
      exact t136 false _ (by rw [hp1, decide_eq_false z5, Bool.and_false])
    · refine gh_iconst (v := nI 1) hK d_Md_rule_129 (by decide) ?_
      refine gh_goto (tgt := 134) hK d_Md_rule_130 (by decide) ?_
      refine gh_istore (lv' := [some (.ref (B 0)), some (.int (nI b)), some (.int (nI fl)), some (.int (nI r)), some (.int (nI (bn (decide (us.length < 8))))), some (.int (nI 1)), some (.int (nI 1)), v7]) hK d_Md_rule_134 (Nat.le_of_ble_eq_true rfl) rfl ?_
      exact t136 true _ (by rw [hp1, decide_eq_true z4, decide_eq_true z5]; rfl)
  have t0 : ∀ (fl e : Nat) (g1 : GH) (F1 : Nat → Nat → Int32) (fi0 en0 : Nat) (v6 v7 : Option Value) (h : Md G g1 B (mS cd ty ne fr tt e fi0 en0 wr mk wd) F1 o) (mm : gh_M MDT g g1) (hw : RlW F F1 rs), fl < 26 → e ≤ tt → fr ≤ e → rdR2 tx tt (2 ^ fl) e = R → gh_W l G (rmk 2 0 0 46) X g1 0 0 [some (.ref (B 0)), some (.int (nI b)), some (.int (nI fl)), some (.int (nI r)), some (.int (nI (bn (decide (us.length < 8))))), some (.int (nI 0)), v6, v7] 88 [] := by
    intro fl e  g1 F1 fi0 en0 v6 v7 h mm hw hfl he hfe  hres
    have c1 := nxS_le (tx := tx) he
    have c2 := nxE_le (tx := tx) he
    unfold rdR2 npW at hres
    refine gh_iload hK d_Md_rule_88 rfl ?_
    refine gh_iconst (v := nI 3) hK d_Md_rule_90 (by decide) ?_
    refine gh_icmp_geN hK d_Md_rule_91 (tgt := 272) (by decide) (by decide) (by decide) (fun q => absurd q (by decide)) (fun _ => ?_)
    refine gh_aload_n hK d_Md_rule_94 rfl ?_
    refine gh_callV (rest := []) [] hK (c_Md_must l G h (ht.eq (hw.1 1 (by decide) (by decide))) hto he (by omega)) Y_Md_must V_Md_must km_Md_99 h.1 rfl rfl d_Md_rule_95 rfl rfl (Nat.le_of_ble_eq_true rfl) ⟨(Nat.le_of_ble_eq_true rfl), (Nat.le_of_ble_eq_true rfl)⟩ ⟨(Nat.le_of_ble_eq_true rfl), (Nat.le_of_ble_eq_true rfl)⟩ (fun v g_1 hp => ?_)
    obtain ⟨rfl, h_1, mx⟩ := hp
    have mm := mm.tr mx
    show gh_W l G _ X g_1 0 0 [some (.ref (B 0)), some (.int (nI b)), some (.int (nI fl)), some (.int (nI r)), some (.int (nI (bn (decide (us.length < 8))))), some (.int (nI 0)), v6, v7] 98 [.int (nI (bn (decide ((nxS tx tt e) < (nxE tx tt e)))))]
    refine gh_if_neB hK d_Md_rule_98 (tgt := 102) (by decide) (fun z => ?_) (fun z => ?_)
    rotate_left
    · have zz := of_decide_eq_false z
      have h9 := h_1
      rw [if_neg zz, show tt - fr + 1 = (nxS tx tt e) - fr + 1 by rw [nx_end he zz]] at h9
      exact bad (nxS tx tt e) _ _ _ _ _ _ _ h9 mm hw d_Md_rule_101 (by rw [← hres, if_neg (fun q => by unfold ptO at q; rw [z] at q; cases q)])
    have zz := of_decide_eq_true z
    have h9 := h_1
    rw [if_pos zz] at h9
    have hpo := ptO_al (tx := tx) (b := false) zz
    have hp1 := pcI_one (tx := tx) zz (by omega)
    generalize hSE : (nxS tx tt e) = SX at *
    generalize hEE : (nxE tx tt e) = EX at *
    have t266 : ∀ (g2 : GH) (F2 : Nat → Nat → Int32) (v6 v7 : Option Value) (h : Md G g2 B (mS cd ty ne fr tt EX SX EX wr mk wd) F2 o) (mm : gh_M MDT g g2) (hw : RlW F F2 rs), ptO tx false SX EX = true → (us.length < 8 → PtS F2 r 0 (ptW tx SX EX)) → gh_W l G (rmk 2 0 0 46) X g2 0 0 [some (.ref (B 0)), some (.int (nI b)), some (.int (nI fl)), some (.int (nI r)), some (.int (nI (bn (decide (us.length < 8))))), some (.int (nI 0)), v6, v7] 266 [] := by
      intro g2 F2 v6 v7 h mm hw hok  sp
      refine gh_incN (lv' := [some (.ref (B 0)), some (.int (nI b)), some (.int (nI fl)), some (.int (nI r)), some (.int (nI (bn (decide (us.length < 8))))), some (.int (nI 1)), v6, v7]) hK d_Md_rule_266 rfl rfl ?_
      refine gh_goto (tgt := 88) hK d_Md_rule_269 (by decide) ?_
      rw [if_pos hok] at hres
      exact t1 fl EX  (ptW tx SX EX) g2 F2 SX EX _ _ h mm hw hfl (by omega) (by omega) (ptW_len (by omega) hok) sp (ptW_nd (by omega) hok) hres
    have t176 : ∀ (v7 : Option Value), ptO tx false SX EX = true → gh_W l G (rmk 2 0 0 46) X g_1 0 0 [some (.ref (B 0)), some (.int (nI b)), some (.int (nI fl)), some (.int (nI r)), some (.int (nI (bn (decide (us.length < 8))))), some (.int (nI 0)), some (.int (nI (bn (pcI tx SX EX [48])))), v7] 176 [] := by
      intro v7 hok
      refine gh_iload hK d_Md_rule_176 rfl ?_
      refine gh_if_eqB hK d_Md_rule_178 (tgt := 266) (by decide) (fun z2 => ?_) (fun z2 => ?_)
      · exact t266 g_1 F1 _ _ h9 mm hw hok  (fun q => by rw [decide_eq_true q] at z2; cases z2)
      have z3 := of_decide_eq_true z2
      have hrsr := hrs1 z3
      have lw := ptW_len (by omega) hok
      refine gh_aload_n hK d_Md_rule_181 rfl ?_
      refine gh_get (v := .ref (B 8)) hK d_Md_rule_182 in_Md rfl h9.1 12 (by decide) kf_Md_31 rfl rfl ?_
      refine gh_iconst (v := nI 3) hK d_Md_rule_185 (by decide) ?_
      refine gh_iload_n hK d_Md_rule_186 rfl ?_
      refine gh_mulN hK d_Md_rule_187 ?_
      refine gh_iload hK d_Md_rule_188 rfl ?_
      refine gh_addN hK d_Md_rule_190 ?_
      refine gh_iload hK d_Md_rule_191 rfl ?_
      have jn : gh_W l G (rmk 2 0 0 46) X g_1 0 0 [some (.ref (B 0)), some (.int (nI b)), some (.int (nI fl)), some (.int (nI r)), some (.int (nI (bn (decide (us.length < 8))))), some (.int (nI 0)), some (.int (nI (bn (pcI tx SX EX [48])))), v7] 209 [.int (nI (ptW tx SX EX).length), .int (nI (3 * r + 0)), .ref (B 8)] → gh_W l G (rmk 2 0 0 46) X g_1 0 0 [some (.ref (B 0)), some (.int (nI b)), some (.int (nI fl)), some (.int (nI r)), some (.int (nI (bn (decide (us.length < 8))))), some (.int (nI 0)), some (.int (nI (bn (pcI tx SX EX [48])))), v7] 193 [.int (nI (bn (pcI tx SX EX [48]))), .int (nI ((3 * r) + 0)), .ref (B 8)] := by
        intro kk
        refine gh_if_eqB hK d_Md_rule_193 (tgt := 200) (by decide) (fun z4 => ?_) (fun z4 => ?_)
        · refine gh_aload_n hK d_Md_rule_200 rfl ?_
          refine gh_get (v := .int (nI EX)) hK d_Md_rule_201 in_Md rfl h9.1 18 (by decide) kf_Md_79 rfl rfl ?_
          refine gh_aload_n hK d_Md_rule_204 rfl ?_
          refine gh_get (v := .int (nI SX)) hK d_Md_rule_205 in_Md rfl h9.1 17 (by decide) kf_Md_76 rfl rfl ?_
          refine gh_subN hK d_Md_rule_208 (by omega) ?_
          rw [show (ptW tx SX EX).length = EX - SX by unfold ptW; rw [if_neg (by rw [z4]; decide), slice_len (by omega)]] at kk
          exact kk
        · refine gh_iconst (v := nI 0) hK d_Md_rule_196 (by decide) ?_
          refine gh_goto (tgt := 209) hK d_Md_rule_197 (by decide) ?_
          rw [show (ptW tx SX EX).length = 0 by unfold ptW; rw [if_pos z4]; rfl] at kk
          exact kk
      refine jn ?_
      refine gh_mast hK d_Md_rule_209 h9 8 (by decide) (i := 3 * r + 0) (by show 3 * r + 0 < 48; omega) (fun g_2 h_2 mx => ?_)
      have mm := mm.tr mx
      show gh_W l G _ X g_2 0 0 [some (.ref (B 0)), some (.int (nI b)), some (.int (nI fl)), some (.int (nI r)), some (.int (nI (bn (decide (us.length < 8))))), some (.int (nI 0)), some (.int (nI (bn (pcI tx SX EX [48])))), v7] 210 []
      refine gh_aload_n hK d_Md_rule_210 rfl ?_
      refine gh_get (v := .int (nI SX)) hK d_Md_rule_211 in_Md rfl h_2.1 17 (by decide) kf_Md_76 rfl rfl ?_
      refine gh_istore (lv' := [some (.ref (B 0)), some (.int (nI b)), some (.int (nI fl)), some (.int (nI r)), some (.int (nI (bn (decide (us.length < 8))))), some (.int (nI 0)), some (.int (nI (bn (pcI tx SX EX [48])))), some (.int (nI SX))]) hK d_Md_rule_214 (Nat.le_of_ble_eq_true rfl) rfl ?_
      have hw8 : RlW F (upF F1 8 (upd (F1 8) (3 * r + 0) (nI ((ptW tx SX EX).length)))) rs := hw.up8 (by omega) (by omega)
      have cp : (pcI tx SX EX [48]) = false → ∀ (m k : Nat) (g2 : GH) (F2 : Nat → Nat → Int32) (h : Md G g2 B (mS cd ty ne fr tt EX SX EX wr mk wd) F2 o) (mm : gh_M MDT g g2) (hw : RlW F F2 rs), k + m = EX - SX → F2 8 (3 * r + 0) = nI (ptW tx SX EX).length → sA (F2 9) (18 * r + 6 * 0) ((ptW tx SX EX).take k) → gh_W l G (rmk 2 0 0 46) X g2 0 0 [some (.ref (B 0)), some (.int (nI b)), some (.int (nI fl)), some (.int (nI r)), some (.int (nI (bn (decide (us.length < 8))))), some (.int (nI 0)), some (.int (nI (bn (pcI tx SX EX [48])))), some (.int (nI (SX + k)))] 216 [] := by
        intro hem m
        have ew : (ptW tx SX EX) = (tx.drop SX).take (EX - SX) := by unfold ptW; rw [if_neg (by rw [hem]; decide)]
        have ewl : (ptW tx SX EX).length = EX - SX := by rw [ew, slice_len (by omega)]
        induction m with
        | zero =>
          intro k g2 F2 h mm hw hk  s8 s9
          refine gh_iload hK d_Md_rule_216 rfl ?_
          refine gh_aload_n hK d_Md_rule_218 rfl ?_
          refine gh_get (v := .int (nI EX)) hK d_Md_rule_219 in_Md rfl h.1 18 (by decide) kf_Md_79 rfl rfl ?_
          refine gh_icmp_geN hK d_Md_rule_222 (tgt := 266) (by decide) (by omega) (by omega) (fun _ => ?_) (fun q => by omega)
          rw [List.take_of_length_le (by omega)] at s9
          exact t266 g2 F2 _ _ h mm hw hok  (fun _ => ⟨s8, s9⟩)
        | succ m ihc =>
          intro k g2 F2 h mm hw hk  s8 s9
          have hc := ht.2 (SX + k) (by omega)
          refine gh_iload hK d_Md_rule_216 rfl ?_
          refine gh_aload_n hK d_Md_rule_218 rfl ?_
          refine gh_get (v := .int (nI EX)) hK d_Md_rule_219 in_Md rfl h.1 18 (by decide) kf_Md_79 rfl rfl ?_
          refine gh_icmp_geN hK d_Md_rule_222 (tgt := 266) (by decide) (by omega) (by omega) (fun q => by omega) (fun _ => ?_)
          refine gh_iload hK d_Md_rule_225 rfl ?_
          refine gh_if_neB hK d_Md_rule_227 (tgt := 266) (by decide) (fun q => by rw [hem] at q; cases q) (fun _ => ?_)
          refine gh_aload_n hK d_Md_rule_230 rfl ?_
          refine gh_get (v := .ref (B 9)) hK d_Md_rule_231 in_Md rfl h.1 13 (by decide) kf_Md_34 rfl rfl ?_
          refine gh_bipush (v := nI 18) hK d_Md_rule_234 (by decide) ?_
          refine gh_iload_n hK d_Md_rule_236 rfl ?_
          refine gh_mulN hK d_Md_rule_237 ?_
          refine gh_bipush (v := nI 6) hK d_Md_rule_238 (by decide) ?_
          refine gh_iload hK d_Md_rule_240 rfl ?_
          refine gh_mulN hK d_Md_rule_242 ?_
          refine gh_addN hK d_Md_rule_243 ?_
          refine gh_iload hK d_Md_rule_244 rfl ?_
          refine gh_addN hK d_Md_rule_246 ?_
          refine gh_aload_n hK d_Md_rule_247 rfl ?_
          refine gh_get (v := .int (nI SX)) hK d_Md_rule_248 in_Md rfl h.1 17 (by decide) kf_Md_76 rfl rfl ?_
          refine gh_subN hK d_Md_rule_251 (by omega) ?_
          rw [show 18 * r + 6 * 0 + (SX + k) - SX = 18 * r + 6 * 0 + k by omega]
          refine gh_aload_n hK d_Md_rule_252 rfl ?_
          refine gh_get (v := .ref (B 1)) hK d_Md_rule_253 in_Md rfl h.1 2 (by decide) kf_Md_7 rfl rfl ?_
          refine gh_iload hK d_Md_rule_256 rfl ?_
          refine gh_mald hK d_Md_rule_258 h 1 (by decide) (i := SX + k) (x := (nI (tx.getD (SX + k) 0))) (by show SX + k < 2048; omega) (by rw [hw.1 1 (by decide) (by decide)]; exact (ht.2 (SX + k) (by omega)).1) ?_
          refine gh_mast hK d_Md_rule_259 h 9 (by decide) (i := 18 * r + 6 * 0 + k) (by show 18 * r + 6 * 0 + k < 288; omega) (fun g_3 h_3 mx => ?_)
          have mm := mm.tr mx
          show gh_W l G _ X g_3 0 0 [some (.ref (B 0)), some (.int (nI b)), some (.int (nI fl)), some (.int (nI r)), some (.int (nI (bn (decide (us.length < 8))))), some (.int (nI 0)), some (.int (nI (bn (pcI tx SX EX [48])))), some (.int (nI (SX + k)))] 260 []
          refine gh_incN (lv' := [some (.ref (B 0)), some (.int (nI b)), some (.int (nI fl)), some (.int (nI r)), some (.int (nI (bn (decide (us.length < 8))))), some (.int (nI 0)), some (.int (nI (bn (pcI tx SX EX [48])))), some (.int (nI (SX + k + 1)))]) hK d_Md_rule_260 rfl rfl ?_
          refine gh_goto (tgt := 216) hK d_Md_rule_263 (by decide) ?_
          refine ihc (k + 1) g_3 _ h_3 mm (hw.up9 (by omega) (by omega)) (by omega)  (by rw [upF_n (by decide)]; exact s8) ?_
          rw [upF_s, take_succD (show k < (ptW tx SX EX).length by omega)]
          have e7 : (ptW tx SX EX).getD k 0 = tx.getD (SX + k) 0 := by rw [ew, slice_getD (by omega) (by omega)]
          rw [e7]
          exact sA_app s9 (by rw [List.length_take]; omega) (by omega)
      have e8 : (upF F1 8 (upd (F1 8) (3 * r + 0) (nI ((ptW tx SX EX).length)))) 8 (3 * r + 0) = nI (ptW tx SX EX).length := by rw [upF_s, pk_us]
      cases hem : (pcI tx SX EX [48]) with
      | false =>
        have := cp hem (EX - SX) 0 g_2 _ h_2 mm hw8 (by omega)  e8 (by rw [List.take_zero]; exact sA_nil)
        rw [hem] at this
        exact this
      | true =>
        refine gh_iload hK d_Md_rule_216 rfl ?_
        refine gh_aload_n hK d_Md_rule_218 rfl ?_
        refine gh_get (v := .int (nI EX)) hK d_Md_rule_219 in_Md rfl h_2.1 18 (by decide) kf_Md_79 rfl rfl ?_
        refine gh_icmp_geN hK d_Md_rule_222 (tgt := 266) (by decide) (by omega) (by omega) (fun q => by omega) (fun _ => ?_)
        refine gh_iload hK d_Md_rule_225 rfl ?_
        refine gh_if_neB hK d_Md_rule_227 (tgt := 266) (by decide) (fun _ => ?_) (fun q => by cases q)
        have ew : (ptW tx SX EX) = [] := by unfold ptW; rw [if_pos hem]
        exact t266 g_2 _ _ _ h_2 mm hw8 hok  (fun _ => ⟨e8, by rw [ew]; exact sA_nil⟩)
    have t136 : ∀ (ee : Bool) (v7 : Option Value), ee = (pcI tx SX EX [48]) → gh_W l G (rmk 2 0 0 46) X g_1 0 0 [some (.ref (B 0)), some (.int (nI b)), some (.int (nI fl)), some (.int (nI r)), some (.int (nI (bn (decide (us.length < 8))))), some (.int (nI 0)), some (.int (nI (bn ee))), v7] 136 [] := by
      intro ee v7 hee
      subst hee
      refine gh_iload hK d_Md_rule_136 rfl ?_
      refine gh_if_neB hK d_Md_rule_138 (tgt := 176) (by decide) (fun z4 => ?_) (fun z4 => ?_)
      · exact t176 _ (by rw [hpo, z4]; rfl)
      refine gh_aload_n hK d_Md_rule_141 rfl ?_
      refine gh_aload_n hK d_Md_rule_142 rfl ?_
      refine gh_get (v := .int (nI SX)) hK d_Md_rule_143 in_Md rfl h9.1 17 (by decide) kf_Md_76 rfl rfl ?_
      refine gh_aload_n hK d_Md_rule_146 rfl ?_
      refine gh_get (v := .int (nI EX)) hK d_Md_rule_147 in_Md rfl h9.1 18 (by decide) kf_Md_79 rfl rfl ?_
      refine gh_bipush (v := nI 6) hK d_Md_rule_150 (by decide) ?_
      refine gh_iload hK d_Md_rule_152 rfl ?_
      refine gh_iconst (v := nI 2) hK d_Md_rule_154 (by decide) ?_
      refine gh_icmp_neN hK d_Md_rule_155 (tgt := 162) (by decide) (by decide) (by decide) (fun _ => ?_) (fun q => absurd q (by decide))
      refine gh_iconst (v := nI 0) hK d_Md_rule_162 (by decide) ?_
      show gh_W l G _ X g_1 0 0 [some (.ref (B 0)), some (.int (nI b)), some (.int (nI fl)), some (.int (nI r)), some (.int (nI (bn (decide (us.length < 8))))), some (.int (nI 0)), some (.int (nI (bn (pcI tx SX EX [48])))), v7] 163 [.int (nI (bn false)), .int (nI 6), .int (nI EX), .int (nI SX), .ref (B 0)]
      refine gh_callV (rest := []) [.int (nI SX), .int (nI EX), .int (nI 6), .int (nI (bn false))] hK (c_Md_areLetters l G h9 (most := 6) (b := false) (ht.eq (hw.1 1 (by decide) (by decide))) (by omega) (by omega) (by decide)) Y_Md_areLetters V_Md_areLetters km_Md_102 h9.1 rfl rfl d_Md_rule_163 rfl rfl (Nat.le_of_ble_eq_true rfl) ⟨(Nat.le_of_ble_eq_true rfl), (Nat.le_of_ble_eq_true rfl)⟩ ⟨(Nat.le_of_ble_eq_true rfl), (Nat.le_of_ble_eq_true rfl)⟩ (fun v gp_4 hp => ?_)
      obtain ⟨rfl, hgp⟩ := hp
      rw [hgp]
      show gh_W l G _ X g_1 0 0 [some (.ref (B 0)), some (.int (nI b)), some (.int (nI fl)), some (.int (nI r)), some (.int (nI (bn (decide (us.length < 8))))), some (.int (nI 0)), some (.int (nI (bn (pcI tx SX EX [48])))), v7] 166 [.int (nI (bn (alO tx SX EX 6 false)))]
      refine gh_if_neB hK d_Md_rule_166 (tgt := 176) (by decide) (fun z5 => ?_) (fun z5 => ?_)
      · exact t176 _ (by rw [hpo, z5, Bool.or_true])
      refine gh_aload_n hK d_Md_rule_169 rfl ?_
      refine gh_callV (rest := []) [] hK (c_Md_refuse l G h9 (by omega)) Y_Md_refuse V_Md_refuse km_Md_92 h9.1 rfl rfl d_Md_rule_170 rfl rfl (Nat.le_of_ble_eq_true rfl) ⟨(Nat.le_of_ble_eq_true rfl), (Nat.le_of_ble_eq_true rfl)⟩ ⟨(Nat.le_of_ble_eq_true rfl), (Nat.le_of_ble_eq_true rfl)⟩ (fun v g_5 hp => ?_)
      obtain ⟨rfl, h_5, mx⟩ := hp
      have mm := mm.tr mx
      show gh_W l G _ X g_5 0 0 [some (.ref (B 0)), some (.int (nI b)), some (.int (nI fl)), some (.int (nI r)), some (.int (nI (bn (decide (us.length < 8))))), some (.int (nI 0)), some (.int (nI (bn (pcI tx SX EX [48])))), v7] 173 [.int (nI 0)]
      refine gh_istore (lv' := [some (.ref (B 0)), some (.int (nI b)), some (.int (nI fl)), some (.int (nI r)), some (.int (nI (bn (decide (us.length < 8))))), some (.int (nI 0)), some (.int (nI (bn (pcI tx SX EX [48])))), some (.int (nI 0))]) hK d_Md_rule_173 (Nat.le_of_ble_eq_true rfl) rfl ?_
      exact bad SX _ _ _ _ _ _ _ h_5 mm hw d_Md_rule_175 (by rw [← hres, if_neg (by rw [hpo, z4, z5]; decide)])
    refine gh_aload_n hK d_Md_rule_102 rfl ?_
    refine gh_get (v := .int (nI EX)) hK d_Md_rule_103 in_Md rfl h9.1 18 (by decide) kf_Md_79 rfl rfl ?_
    refine gh_aload_n hK d_Md_rule_106 rfl ?_
    refine gh_get (v := .int (nI SX)) hK d_Md_rule_107 in_Md rfl h9.1 17 (by decide) kf_Md_76 rfl rfl ?_
    refine gh_subN hK d_Md_rule_110 (by omega) ?_
    refine gh_iconst (v := nI 1) hK d_Md_rule_111 (by decide) ?_
    refine gh_icmp_neN hK d_Md_rule_112 (tgt := 133) (by decide) (by omega) (by decide) (fun z4 => ?_) (fun z4 => ?_)
    · refine gh_iconst (v := nI 0) hK d_Md_rule_133 (by decide) ?_
      refine gh_istore (lv' := [some (.ref (B 0)), some (.int (nI b)), some (.int (nI fl)), some (.int (nI r)), some (.int (nI (bn (decide (us.length < 8))))), some (.int (nI 0)), some (.int (nI 0)), v7]) hK d_Md_rule_134 (Nat.le_of_ble_eq_true rfl) rfl ?_
      exact t136 false _ (by rw [hp1, decide_eq_false z4]; rfl)
    have hcS := ht.2 SX (by omega)
    refine gh_aload_n hK d_Md_rule_115 rfl ?_
    refine gh_get (v := .ref (B 1)) hK d_Md_rule_116 in_Md rfl h9.1 2 (by decide) kf_Md_7 rfl rfl ?_
    refine gh_aload_n hK d_Md_rule_119 rfl ?_
    refine gh_get (v := .int (nI SX)) hK d_Md_rule_120 in_Md rfl h9.1 17 (by decide) kf_Md_76 rfl rfl ?_
    refine gh_mald hK d_Md_rule_123 h9 1 (by decide) (i := SX) (x := (nI (tx.getD SX 0))) (by show SX < 2048; omega) (by rw [hw.1 1 (by decide) (by decide)]; exact (ht.2 SX (by omega)).1) ?_
    refine gh_bipush (v := nI 48) hK d_Md_rule_124 (by decide) ?_
    refine gh_icmp_neN hK d_Md_rule_126 (tgt := 133) (by decide) (by omega) (by decide) (fun z5 => ?_) (fun z5 => ?_)
    · refine gh_iconst (v := nI 0) hK d_Md_rule_133 (by decide) ?_
      refine gh_istore (lv' := [some (.ref (B 0)), some (.int (nI b)), some (.int (nI fl)), some (.int (nI r)), some (.int (nI (bn (decide (us.length < 8))))), some (.int (nI 0)), some (.int (nI 0)), v7]) hK d_Md_rule_134 (Nat.le_of_ble_eq_true rfl) rfl ?_
      exact t136 false _ (by rw [hp1, decide_eq_false z5, Bool.and_false])
    · refine gh_iconst (v := nI 1) hK d_Md_rule_129 (by decide) ?_
      refine gh_goto (tgt := 134) hK d_Md_rule_130 (by decide) ?_
      refine gh_istore (lv' := [some (.ref (B 0)), some (.int (nI b)), some (.int (nI fl)), some (.int (nI r)), some (.int (nI (bn (decide (us.length < 8))))), some (.int (nI 0)), some (.int (nI 1)), v7]) hK d_Md_rule_134 (Nat.le_of_ble_eq_true rfl) rfl ?_
      exact t136 true _ (by rw [hp1, decide_eq_true z4, decide_eq_true z5]; rfl)
  refine gh_aload_n hK d_Md_rule_0 rfl ?_
  refine gh_callV (rest := []) [] hK (c_Md_must l G h ht hto hat (by omega)) Y_Md_must V_Md_must km_Md_99 h.1 rfl rfl d_Md_rule_1 rfl rfl (Nat.le_of_ble_eq_true rfl) ⟨(Nat.le_of_ble_eq_true rfl), (Nat.le_of_ble_eq_true rfl)⟩ ⟨(Nat.le_of_ble_eq_true rfl), (Nat.le_of_ble_eq_true rfl)⟩ (fun v g_1 hp => ?_)
  obtain ⟨rfl, h_1, mx⟩ := hp
  have mm := mm.tr mx
  show gh_W l G _ X g_1 0 0 [some (.ref (B 0)), some (.int (nI b)), none, none, none, none, none, none] 4 [.int (nI (bn (decide ((nxS tx tt ap) < (nxE tx tt ap)))))]
  refine gh_if_neB hK d_Md_rule_4 (tgt := 8) (by decide) (fun z => ?_) (fun z => ?_)
  rotate_left
  · have zz := of_decide_eq_false z
    have h9 := h_1
    rw [if_neg zz, show tt - fr + 1 = (nxS tx tt ap) - fr + 1 by rw [nx_end hat zz]] at h9
    exact bad (nxS tx tt ap) _ _ _ _ _ _ _ h9 mm RlW.rf d_Md_rule_7 (by rw [hRR, rdR, if_neg (fun q => zz q.1)])
  have zz := of_decide_eq_true z
  have h9 := h_1
  rw [if_pos zz] at h9
  have hcS := ht.2 (nxS tx tt ap) (by omega)
  have tb : rdF tx tt ap = 0 → gh_W l G (rmk 2 0 0 46) X g_1 0 0 [some (.ref (B 0)), some (.int (nI b)), none, none, none, none, none, none] 36 [] := by
    intro q0
    refine gh_aload_n hK d_Md_rule_36 rfl ?_
    refine gh_callV (rest := []) [] hK (c_Md_refuse l G h9 (by omega)) Y_Md_refuse V_Md_refuse km_Md_92 h9.1 rfl rfl d_Md_rule_37 rfl rfl (Nat.le_of_ble_eq_true rfl) ⟨(Nat.le_of_ble_eq_true rfl), (Nat.le_of_ble_eq_true rfl)⟩ ⟨(Nat.le_of_ble_eq_true rfl), (Nat.le_of_ble_eq_true rfl)⟩ (fun v g_2 hp => ?_)
    obtain ⟨rfl, h_2, mx⟩ := hp
    have mm := mm.tr mx
    show gh_W l G _ X g_2 0 0 [some (.ref (B 0)), some (.int (nI b)), none, none, none, none, none, none] 40 [.int (nI 0)]
    refine gh_istore_n (lv' := [some (.ref (B 0)), some (.int (nI b)), some (.int (nI 0)), none, none, none, none, none]) hK d_Md_rule_40 (Nat.le_of_ble_eq_true rfl) rfl ?_
    exact bad (nxS tx tt ap) _ _ _ _ _ _ _ h_2 mm RlW.rf d_Md_rule_41 (by rw [hRR, rdR, if_neg (fun q => by omega)])
  refine gh_aload_n hK d_Md_rule_8 rfl ?_
  refine gh_get (v := .int (nI (nxE tx tt ap))) hK d_Md_rule_9 in_Md rfl h9.1 18 (by decide) kf_Md_79 rfl rfl ?_
  refine gh_aload_n hK d_Md_rule_12 rfl ?_
  refine gh_get (v := .int (nI (nxS tx tt ap))) hK d_Md_rule_13 in_Md rfl h9.1 17 (by decide) kf_Md_76 rfl rfl ?_
  refine gh_subN hK d_Md_rule_16 (by omega) ?_
  refine gh_iconst (v := nI 1) hK d_Md_rule_17 (by decide) ?_
  refine gh_icmp_neN hK d_Md_rule_18 (tgt := 36) (by decide) (by omega) (by decide) (fun z4 => tb (by rw [rdF, if_neg z4])) (fun z4 => ?_)
  refine gh_aload_n hK d_Md_rule_21 rfl ?_
  refine gh_get (v := .ref (B 1)) hK d_Md_rule_22 in_Md rfl h9.1 2 (by decide) kf_Md_7 rfl rfl ?_
  refine gh_aload_n hK d_Md_rule_25 rfl ?_
  refine gh_get (v := .int (nI (nxS tx tt ap))) hK d_Md_rule_26 in_Md rfl h9.1 17 (by decide) kf_Md_76 rfl rfl ?_
  refine gh_mald hK d_Md_rule_29 h9 1 (by decide) (i := (nxS tx tt ap)) (x := (nI (tx.getD (nxS tx tt ap) 0))) (by show (nxS tx tt ap) < 2048; omega) (ht.2 (nxS tx tt ap) (by omega)).1 ?_
  refine gh_callS (rest := []) [.int (nI (tx.getD (nxS tx tt ap) 0))] hK (c_Md_isCapital l G (g := g_1) (c := tx.getD (nxS tx tt ap) 0) (by omega)) Y_Md_isCapital V_Md_isCapital km_Md_192 rfl d_Md_rule_30 rfl rfl (Nat.le_of_ble_eq_true rfl) ⟨(Nat.le_of_ble_eq_true rfl), (Nat.le_of_ble_eq_true rfl)⟩ ⟨(Nat.le_of_ble_eq_true rfl), (Nat.le_of_ble_eq_true rfl)⟩ (fun v g' hp => ?_)
  rw [hp.1, hp.2]
  show gh_W l G _ X g_1 0 0 [some (.ref (B 0)), some (.int (nI b)), none, none, none, none, none, none] 33 [.int (nI (bn (isCap (tx.getD (nxS tx tt ap) 0))))]
  refine gh_if_neB hK d_Md_rule_33 (tgt := 42) (by decide) (fun z5 => ?_) (fun z5 => tb (by rw [rdF, if_pos z4, capB, if_neg (by rw [z5]; decide)]))
  have hcap := of_decide_eq_true z5
  have hrf : rdF tx tt ap = 2 ^ (tx.getD (nxS tx tt ap) 0 - 65) := by rw [rdF, if_pos z4, capB, if_pos z5]
  rw [rdR, if_pos ⟨zz, by rw [hrf]; exact Nat.pow_pos (by decide)⟩, hrf] at hRR
  refine gh_aload_n hK d_Md_rule_42 rfl ?_
  refine gh_get (v := .ref (B 1)) hK d_Md_rule_43 in_Md rfl h9.1 2 (by decide) kf_Md_7 rfl rfl ?_
  refine gh_aload_n hK d_Md_rule_46 rfl ?_
  refine gh_get (v := .int (nI (nxS tx tt ap))) hK d_Md_rule_47 in_Md rfl h9.1 17 (by decide) kf_Md_76 rfl rfl ?_
  refine gh_mald hK d_Md_rule_50 h9 1 (by decide) (i := (nxS tx tt ap)) (x := (nI (tx.getD (nxS tx tt ap) 0))) (by show (nxS tx tt ap) < 2048; omega) (ht.2 (nxS tx tt ap) (by omega)).1 ?_
  refine gh_bipush (v := nI 65) hK d_Md_rule_51 (by decide) ?_
  refine gh_subN hK d_Md_rule_53 (by omega) ?_
  refine gh_istore_n (lv' := [some (.ref (B 0)), some (.int (nI b)), some (.int (nI ((tx.getD (nxS tx tt ap) 0) - 65))), none, none, none, none, none]) hK d_Md_rule_54 (Nat.le_of_ble_eq_true rfl) rfl ?_
  refine gh_bipush (v := nI 8) hK d_Md_rule_55 (by decide) ?_
  refine gh_iload_n hK d_Md_rule_57 rfl ?_
  refine gh_mulN hK d_Md_rule_58 ?_
  refine gh_aload_n hK d_Md_rule_59 rfl ?_
  refine gh_get (v := .ref (B 6)) hK d_Md_rule_60 in_Md rfl h9.1 10 (by decide) kf_Md_25 rfl rfl ?_
  refine gh_iload_n hK d_Md_rule_63 rfl ?_
  refine gh_mald hK d_Md_rule_64 h9 6 (by decide) (i := b) (x := (nI us.length)) (by show b < 2; omega) hR1.2.1 ?_
  refine gh_addN hK d_Md_rule_65 ?_
  refine gh_istore_n (lv' := [some (.ref (B 0)), some (.int (nI b)), some (.int (nI ((tx.getD (nxS tx tt ap) 0) - 65))), some (.int (nI ((8 * b) + us.length))), none, none, none, none]) hK d_Md_rule_66 (Nat.le_of_ble_eq_true rfl) rfl ?_
  refine gh_aload_n hK d_Md_rule_67 rfl ?_
  refine gh_get (v := .ref (B 6)) hK d_Md_rule_68 in_Md rfl h9.1 10 (by decide) kf_Md_25 rfl rfl ?_
  refine gh_iload_n hK d_Md_rule_71 rfl ?_
  refine gh_mald hK d_Md_rule_72 h9 6 (by decide) (i := b) (x := (nI us.length)) (by show b < 2; omega) hR1.2.1 ?_
  refine gh_bipush (v := nI 8) hK d_Md_rule_73 (by decide) ?_
  have tr : ∀ q : Bool, q = decide (us.length < 8) → gh_W l G (rmk 2 0 0 46) X g_1 0 0 [some (.ref (B 0)), some (.int (nI b)), some (.int (nI ((tx.getD (nxS tx tt ap) 0) - 65))), some (.int (nI ((8 * b) + us.length))), none, none, none, none] 83 [.int (nI (bn q))] := by
    intro q hq
    subst hq
    refine gh_istore (lv' := [some (.ref (B 0)), some (.int (nI b)), some (.int (nI ((tx.getD (nxS tx tt ap) 0) - 65))), some (.int (nI ((8 * b) + us.length))), some (.int (nI (bn (decide (us.length < 8))))), none, none, none]) hK d_Md_rule_83 (Nat.le_of_ble_eq_true rfl) rfl ?_
    refine gh_iconst (v := nI 0) hK d_Md_rule_85 (by decide) ?_
    refine gh_istore (lv' := [some (.ref (B 0)), some (.int (nI b)), some (.int (nI ((tx.getD (nxS tx tt ap) 0) - 65))), some (.int (nI ((8 * b) + us.length))), some (.int (nI (bn (decide (us.length < 8))))), some (.int (nI 0)), none, none]) hK d_Md_rule_86 (Nat.le_of_ble_eq_true rfl) rfl ?_
    have := t0 (tx.getD (nxS tx tt ap) 0 - 65) (nxE tx tt ap) g_1 F _ _ none none h9 mm RlW.rf (by omega) (by omega) (by omega) hRR.symm
    rw [hr] at this
    exact this
  refine gh_icmp_geN hK d_Md_rule_75 (tgt := 82) (by decide) (by omega) (by decide) (fun z6 => ?_) (fun z6 => ?_)
  · refine gh_iconst (v := nI 0) hK d_Md_rule_82 (by decide) ?_
    exact tr false (by rw [decide_eq_false (by omega)])
  · refine gh_iconst (v := nI 1) hK d_Md_rule_78 (by decide) ?_
    refine gh_goto (tgt := 83) hK d_Md_rule_79 (by decide) ?_
    exact tr true (by rw [decide_eq_true (by omega)])
