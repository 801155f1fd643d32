/-! numbers in order -/
def posN (x : Nat) : List Nat → Nat
  | [] => 0
  | y :: l => if y ≤ x then posN x l + 1 else 0
def srtN : List Nat → Prop
  | [] => True
  | a :: l => (∀ b ∈ l, a ≤ b) ∧ srtN l
theorem posN_le (x : Nat) : ∀ l : List Nat, posN x l ≤ l.length
  | [] => Nat.le_refl 0
  | a :: l => by
    have := posN_le x l
    rw [posN]
    split <;> simp <;> omega
theorem posN_lt (x : Nat) : ∀ {l : List Nat} {i a : Nat}, l[i]? = some a → i < posN x l → a ≤ x
  | [], i, a, h, _ => by simp at h
  | c :: l, i, a, h, hi => by
    rw [posN] at hi
    split at hi
    · next hc =>
      cases i with
      | zero => rw [List.getElem?_cons_zero] at h; cases h; exact hc
      | succ i => rw [List.getElem?_cons_succ] at h; exact posN_lt x h (by omega)
    · omega
theorem posN_ge (x : Nat) : ∀ {l : List Nat} (_ : srtN l) {i a : Nat}, l[i]? = some a → posN x l ≤ i → x < a
  | [], _, i, a, h, _ => by simp at h
  | c :: l, hs, i, a, h, hi => by
    rw [posN] at hi
    split at hi
    · next hc =>
      cases i with
      | zero => omega
      | succ i => rw [List.getElem?_cons_succ] at h; exact posN_ge x hs.2 h (by omega)
    · next hc =>
      cases i with
      | zero => rw [List.getElem?_cons_zero] at h; cases h; omega
      | succ i =>
        rw [List.getElem?_cons_succ] at h
        have := hs.1 a (List.mem_of_getElem? h)
        omega
theorem srtN_ins (x : Nat) : ∀ {l : List Nat}, srtN l → srtN (insA l (posN x l) x)
  | [], _ => by simp [insA, posN, srtN]
  | c :: l, hs => by
    rw [posN]
    split
    · next hc =>
      show srtN (c :: insA l (posN x l) x)
      refine ⟨fun b hb => ?_, srtN_ins x hs.2⟩
      rcases insA_mem hb with q | q
      · exact hs.1 b q
      · omega
    · next hc =>
      show srtN (x :: c :: l)
      refine ⟨fun b hb => ?_, hs⟩
      rcases List.mem_cons.mp hb with q | q
      · omega
      · have := hs.1 b q
        omega
/-! three numbers, the last two taken off -/
theorem sub3_pos {a b c : Nat} (h : b + c < a) : nI a - nI b - nI c = nI (a - b - c) := by
  rw [pk_sub (by omega), pk_sub (by omega)]
theorem sub3_neg {a b c : Nat} (h : a ≤ b + c) (ha : a < 65536) (hb : b < 65536) (hc : c < 65536) : nI a - nI b - nI c < nI 1 := by
  rw [Int32.lt_iff_toInt_lt]
  have e1 : (nI 1).toInt = 1 := by decide
  have e2 : (nI a - nI b - nI c).toInt = (a : Int) - b - c := by
    rw [Int32.toInt_sub, pk_sub_toInt (by omega) (by omega), nI_toInt (by omega), Int.bmod_eq_of_le (by omega) (by omega)]
  rw [e1, e2]
  omega
/-! THE SPELLER; A gives each fixed object's address by its tag -/
def SpO (g : GH) (A : Nat → Nat) (n : Nat) : Prop := g (A 30) = some (30, .inr (8, [.ref (A 7), .ref (A 10), .ref (A 20), .ref (A 31), .ref (A 33), .ref (A 34), .ref (A 36), .int (nI n)]))
def Wy (G : GG) (g : GH) (A : Nat → Nat) (ws : List Nat) : Prop := ∃ f, g (A 33) = some (33, .inl (G.2.1 1, 81, .inl f)) ∧ ∀ i x, ws[i]? = some x → f i = nI x
theorem SpO.M {g g' : GH} {A : Nat → Nat} {n : Nat} {S : List Nat} (h : SpO g A n) (hM : gh_M S g g') (h1 : 30 ∉ S) : SpO g' A n := hM _ 30 _ h h1
theorem Wy.M {G : GG} {g g' : GH} {A : Nat → Nat} {ws : List Nat} {S : List Nat} (h : Wy G g A ws) (hM : gh_M S g g') (h1 : 33 ∉ S) : Wy G g' A ws := by
  obtain ⟨f, k1, k2⟩ := h
  exact ⟨f, hM _ 33 _ k1 h1, k2⟩
theorem SpO.ne {G : GG} {g : GH} {A : Nat → Nat} {n : Nat} {ws : List Nat} (h : SpO g A n) (hw : Wy G g A ws) : A 30 ≠ A 33 := by
  obtain ⟨f, k1, k2⟩ := hw
  exact gh_ne h k1 (by show (30 : Nat) ≠ 33; decide)
set_option maxRecDepth 20000 in
set_option maxHeartbeats 4000000 in
theorem c_Sp_way (l : Launch) (G : GG) {g : GH} {A : Nat → Nat} {ws : List Nat} {j x : Nat} (h : SpO g A ws.length) (hw : Wy G g A ws) (hwl : ws.length ≤ 81) (hj : ws[j]? = some x) : gMet l G y_Sp_way b_Sp_way 2 (some .int) (rmk 0 0 0 0) [.ref (A 30), .int (nI j)] g (fun v g' => v = some (.int (nI x)) ∧ g' = g) := by
  refine gMet.of [some (.ref (A 30)), some (.int (nI j))] (by decide +kernel) rfl (Nat.le_of_ble_eq_true rfl) rfl (fun X hK hI hE => ?_)
  obtain ⟨f, k1, k2⟩ := hw
  have hlt := (List.getElem?_eq_some_iff.mp hj).1
  refine gh_iload_n hK d_Sp_way_0 rfl ?_
  refine gh_if_ltN hK d_Sp_way_1 (tgt := 21) (by decide) (by omega) ?_
  refine gh_iload_n hK d_Sp_way_4 rfl ?_
  refine gh_aload_n hK d_Sp_way_5 rfl ?_
  refine gh_get hK d_Sp_way_6 in_Sp rfl h 7 (by decide) kf_Sp_47 rfl rfl ?_
  refine gh_icmp_geN hK d_Sp_way_9 (tgt := 21) (by decide) (by omega) (by omega) (fun z => absurd z (by omega)) (fun z => ?_)
  refine gh_aload_n hK d_Sp_way_12 rfl ?_
  refine gh_get hK d_Sp_way_13 in_Sp rfl h 4 (by decide) kf_Sp_31 rfl rfl ?_
  refine gh_iload_n hK d_Sp_way_16 rfl ?_
  refine gh_ialdN (j := j) hK d_Sp_way_17 k1 (t0 := 1) rfl (by omega) (by omega) ?_
  rw [k2 j x hj]
  refine gh_goto (tgt := 22) hK d_Sp_way_18 (by decide) ?_
  exact gh_iret hK hE d_Sp_way_22 (Nat.le_of_ble_eq_true rfl) (Nat.le_of_ble_eq_true rfl) ⟨rfl, rfl⟩
set_option maxRecDepth 20000 in
set_option maxHeartbeats 4000000 in
theorem c_Sp_prefixOfWay (l : Launch) (G : GG) {g : GH} {A : Nat → Nat} {ws : List Nat} {j x : Nat} (h : SpO g A ws.length) (hw : Wy G g A ws) (hwl : ws.length ≤ 81) (hj : ws[j]? = some x) (hx : x < 1000000) : gMet l G y_Sp_prefixOfWay b_Sp_prefixOfWay 2 (some .int) (rmk 1 0 0 21) [.ref (A 30), .int (nI j)] g (fun v g' => v = some (.int (nI (x / 9 % 9))) ∧ g' = g) := by
  refine gMet.of [some (.ref (A 30)), some (.int (nI j))] (by decide +kernel) rfl (Nat.le_of_ble_eq_true rfl) rfl (fun X hK hI hE => ?_)
  refine gh_aload_n hK d_Sp_prefixOfWay_0 rfl ?_
  refine gh_iload_n hK d_Sp_prefixOfWay_1 rfl ?_
  refine gh_callV (rest := []) [.int (nI j)] hK (c_Sp_way l G h hw hwl hj) Y_Sp_way V_Sp_way km_Sp_88 h rfl rfl d_Sp_prefixOfWay_2 rfl rfl (Nat.le_of_ble_eq_true rfl) ⟨(Nat.le_of_ble_eq_true rfl), (Nat.le_of_ble_eq_true rfl)⟩ ⟨(Nat.le_of_ble_eq_true rfl), (Nat.le_of_ble_eq_true rfl)⟩ (fun v g' hp => ?_)
  rw [hp.1, hp.2]
  show gh_W l G _ X g _ _ [some (.ref (A 30)), some (.int (nI j))] 5 [.int (nI x)]
  refine gh_bipush (v := nI 9) hK d_Sp_prefixOfWay_5 (by decide) ?_
  refine gh_divN hK d_Sp_prefixOfWay_7 (by omega) (by omega) (by omega) ?_
  refine gh_bipush (v := nI 9) hK d_Sp_prefixOfWay_8 (by decide) ?_
  refine gh_remN hK d_Sp_prefixOfWay_10 (by omega) (by omega) (by omega) ?_
  exact gh_iret hK hE d_Sp_prefixOfWay_11 (Nat.le_of_ble_eq_true rfl) (Nat.le_of_ble_eq_true rfl) ⟨rfl, rfl⟩
set_option maxRecDepth 20000 in
set_option maxHeartbeats 4000000 in
theorem c_Sp_suffixOfWay (l : Launch) (G : GG) {g : GH} {A : Nat → Nat} {ws : List Nat} {j x : Nat} (h : SpO g A ws.length) (hw : Wy G g A ws) (hwl : ws.length ≤ 81) (hj : ws[j]? = some x) (hx : x < 1000000) : gMet l G y_Sp_suffixOfWay b_Sp_suffixOfWay 2 (some .int) (rmk 1 0 0 21) [.ref (A 30), .int (nI j)] g (fun v g' => v = some (.int (nI (x % 9))) ∧ g' = g) := by
  refine gMet.of [some (.ref (A 30)), some (.int (nI j))] (by decide +kernel) rfl (Nat.le_of_ble_eq_true rfl) rfl (fun X hK hI hE => ?_)
  refine gh_aload_n hK d_Sp_suffixOfWay_0 rfl ?_
  refine gh_iload_n hK d_Sp_suffixOfWay_1 rfl ?_
  refine gh_callV (rest := []) [.int (nI j)] hK (c_Sp_way l G h hw hwl hj) Y_Sp_way V_Sp_way km_Sp_88 h rfl rfl d_Sp_suffixOfWay_2 rfl rfl (Nat.le_of_ble_eq_true rfl) ⟨(Nat.le_of_ble_eq_true rfl), (Nat.le_of_ble_eq_true rfl)⟩ ⟨(Nat.le_of_ble_eq_true rfl), (Nat.le_of_ble_eq_true rfl)⟩ (fun v g' hp => ?_)
  rw [hp.1, hp.2]
  show gh_W l G _ X g _ _ [some (.ref (A 30)), some (.int (nI j))] 5 [.int (nI x)]
  refine gh_bipush (v := nI 9) hK d_Sp_suffixOfWay_5 (by decide) ?_
  refine gh_remN hK d_Sp_suffixOfWay_7 (by omega) (by omega) (by omega) ?_
  exact gh_iret hK hE d_Sp_suffixOfWay_8 (Nat.le_of_ble_eq_true rfl) (Nat.le_of_ble_eq_true rfl) ⟨rfl, rfl⟩
set_option maxRecDepth 20000 in
set_option maxHeartbeats 4000000 in
theorem c_Sp_entryOfWay (l : Launch) (G : GG) {g : GH} {A : Nat → Nat} {ws : List Nat} {j x : Nat} {es : List (Nat × List Nat × Nat)} {y : Nat × List Nat × Nat} (h : SpO g A ws.length) (hw : Wy G g A ws) (hwl : ws.length ≤ 81) (hj : ws[j]? = some x) (hx : x < 1000000) (hd : Dc G g (A 7) (A 8) es) (hy : es[x / 81]? = some y) : gMet l G y_Sp_entryOfWay b_Sp_entryOfWay 2 (some (.object "SpellDesk$Entry")) (rmk 4 0 0 85) [.ref (A 30), .int (nI j)] g (fun v g' => v = some (.ref y.1) ∧ g' = g) := by
  refine gMet.of [some (.ref (A 30)), some (.int (nI j))] (by decide +kernel) rfl (Nat.le_of_ble_eq_true rfl) rfl (fun X hK hI hE => ?_)
  refine gh_aload_n hK d_Sp_entryOfWay_0 rfl ?_
  refine gh_get hK d_Sp_entryOfWay_1 in_Sp rfl h 0 (by decide) kf_Sp_9 rfl rfl ?_
  refine gh_aload_n hK d_Sp_entryOfWay_4 rfl ?_
  refine gh_iload_n hK d_Sp_entryOfWay_5 rfl ?_
  refine gh_callV (rest := [.ref (A 7)]) [.int (nI j)] hK (c_Sp_way l G h hw hwl hj) Y_Sp_way V_Sp_way km_Sp_88 h rfl rfl d_Sp_entryOfWay_6 rfl rfl (Nat.le_of_ble_eq_true rfl) ⟨(Nat.le_of_ble_eq_true rfl), (Nat.le_of_ble_eq_true rfl)⟩ ⟨(Nat.le_of_ble_eq_true rfl), (Nat.le_of_ble_eq_true rfl)⟩ (fun v g' hp => ?_)
  rw [hp.1, hp.2]
  show gh_W l G _ X g _ _ [some (.ref (A 30)), some (.int (nI j))] 9 [.int (nI x), .ref (A 7)]
  refine gh_bipush (v := nI 81) hK d_Sp_entryOfWay_9 (by decide) ?_
  refine gh_divN hK d_Sp_entryOfWay_11 (by omega) (by omega) (by omega) ?_
  refine gh_callV (rest := []) [.int (nI (x / 81))] hK (c_Dc_at l G hd (j := x / 81) (by omega)) Y_Dc_at1 V_Dc_at1 km_Sp_92 hd.1 rfl rfl d_Sp_entryOfWay_12 rfl rfl (Nat.le_of_ble_eq_true rfl) ⟨(Nat.le_of_ble_eq_true rfl), (Nat.le_of_ble_eq_true rfl)⟩ ⟨(Nat.le_of_ble_eq_true rfl), (Nat.le_of_ble_eq_true rfl)⟩ (fun v g' hp => ?_)
  rw [hp.1 y hy, hp.2.2]
  show gh_W l G _ X g _ _ [some (.ref (A 30)), some (.int (nI j))] 15 [.ref y.1]
  exact gh_aret (Or.inl ⟨_, rfl⟩) (Or.inr ⟨_, rfl⟩) hK hE d_Sp_entryOfWay_15 (Nat.le_of_ble_eq_true rfl) (Nat.le_of_ble_eq_true rfl) ⟨rfl, rfl⟩
set_option maxRecDepth 20000 in
set_option maxHeartbeats 4000000 in
theorem c_Sp_putWay (l : Launch) (G : GG) {g : GH} {A : Nat → Nat} {ws : List Nat} {x : Nat} (h : SpO g A ws.length) (hw : Wy G g A ws) (hwl : ws.length < 81) (hs : srtN ws) (hws : ∀ y, y ∈ ws → y < 2 ^ 31) (hx : x < 2 ^ 31) : gMet l G y_Sp_putWay b_Sp_putWay 3 none (rmk 0 0 0 0) [.ref (A 30), .int (nI x)] g (fun v g' => v = none ∧ SpO g' A (insA ws (posN x ws) x).length ∧ Wy G g' A (insA ws (posN x ws) x) ∧ gh_M [30, 33] g g') := by
  refine gMet.of [some (.ref (A 30)), some (.int (nI x)), none] (by decide +kernel) rfl (Nat.le_of_ble_eq_true rfl) rfl (fun X hK hI hE => ?_)
  have n0 := h.ne hw
  have hpl := posN_le x ws
  obtain ⟨f, k1, k2⟩ := hw
  have loop : ∀ (p : Nat) (g1 : GH) (f1 : Nat → Int32), p ≤ ws.length → posN x ws ≤ p → SpO g1 A ws.length → g1 (A 33) = some (33, .inl (G.2.1 1, 81, .inl f1)) → (∀ i y, i < p → ws[i]? = some y → f1 i = nI y) → (∀ i y, p ≤ i → ws[i]? = some y → f1 (i + 1) = nI y) → gh_M [30, 33] g g1 → gh_W l G (rmk 0 0 0 0) X g1 0 0 [some (.ref (A 30)), some (.int (nI x)), some (.int (nI p))] 18 [] := by
    have fin : ∀ (p : Nat) (g1 : GH) (f1 : Nat → Int32), p = posN x ws → SpO g1 A ws.length → g1 (A 33) = some (33, .inl (G.2.1 1, 81, .inl f1)) → (∀ i y, i < p → ws[i]? = some y → f1 i = nI y) → (∀ i y, p ≤ i → ws[i]? = some y → f1 (i + 1) = nI y) → gh_M [30, 33] g g1 → gh_W l G (rmk 0 0 0 0) X g1 0 0 [some (.ref (A 30)), some (.int (nI x)), some (.int (nI p))] 54 [] := by
      intro p g1 f1 hp j1 j2 j3 j4 hM
      have j1 : g1 (A 30) = some (30, .inr (8, [.ref (A 7), .ref (A 10), .ref (A 20), .ref (A 31), .ref (A 33), .ref (A 34), .ref (A 36), .int (nI ws.length)])) := j1
      refine gh_aload_n hK d_Sp_putWay_54 rfl ?_
      refine gh_get hK d_Sp_putWay_55 in_Sp rfl j1 4 (by decide) kf_Sp_31 rfl rfl ?_
      refine gh_iload_n hK d_Sp_putWay_58 rfl ?_
      refine gh_iload_n hK d_Sp_putWay_59 rfl ?_
      refine gh_iastN hK d_Sp_putWay_60 j2 (t0 := 1) rfl (by omega) (by omega) ?_
      have j5 : gh_up g1 (A 33) 33 (.inl (G.2.1 1, 81, .inl (upd f1 p (nI x)))) (A 30) = some (30, .inr (8, [.ref (A 7), .ref (A 10), .ref (A 20), .ref (A 31), .ref (A 33), .ref (A 34), .ref (A 36), .int (nI ws.length)])) := by rw [gh_un n0]; exact j1
      refine gh_aload_n hK d_Sp_putWay_61 rfl ?_
      refine gh_dup hK d_Sp_putWay_62 rfl ?_
      refine gh_get hK d_Sp_putWay_63 in_Sp rfl j5 7 (by decide) kf_Sp_47 rfl rfl ?_
      refine gh_iconst (v := nI 1) hK d_Sp_putWay_66 (by decide) ?_
      refine gh_addN hK d_Sp_putWay_67 ?_
      refine gh_put hK d_Sp_putWay_68 in_Sp t_Sp ty_Sp nm_Sp rfl j5 7 (by decide) kf_Sp_47 rfl rfl rfl rfl (Nat.le_of_ble_eq_true rfl) rfl ?_
      refine gh_vret hK hE d_Sp_putWay_71 (Nat.le_of_ble_eq_true rfl) (Nat.le_of_ble_eq_true rfl) ⟨rfl, ?_, ⟨upd f1 p (nI x), by rw [gh_un n0.symm, gh_us], fun i y hi => ?_⟩, hM.tr ((gh_M.up j2 (by decide)).tr (gh_M.up j5 (by decide)))⟩
      · rw [insA_len hpl]
        exact gh_us
      · rw [← hp] at hi hpl
        rcases Nat.lt_trichotomy i p with q | q | q
        · rw [insA_lt hpl q] at hi
          rw [pk_un (by omega)]
          exact j3 i y q hi
        · rw [q, insA_eq hpl] at hi
          cases hi
          rw [q, pk_us]
        · rw [insA_gt hpl q] at hi
          rw [pk_un (by omega)]
          have := j4 (i - 1) y (by omega) hi
          rwa [show i - 1 + 1 = i by omega] at this
    intro p
    induction p with
    | zero =>
      intro g1 f1 hp0 hp1 j1 j2 j3 j4 hM
      refine gh_iload_n hK d_Sp_putWay_18 rfl ?_
      refine gh_if_leN hK d_Sp_putWay_19 (tgt := 54) (by decide) (by decide) (fun z => ?_) (fun z => absurd z (by decide))
      exact fin 0 g1 f1 (by omega) j1 j2 j3 j4 hM
    | succ p ih =>
      intro g1 f1 hp0 hp1 j1 j2 j3 j4 hM
      have j0 : g1 (A 30) = some (30, .inr (8, [.ref (A 7), .ref (A 10), .ref (A 20), .ref (A 31), .ref (A 33), .ref (A 34), .ref (A 36), .int (nI ws.length)])) := j1
      obtain ⟨y, hy⟩ : ∃ y, ws[p]? = some y := ⟨_, List.getElem?_eq_getElem (by omega)⟩
      have hyl := hws y (List.mem_of_getElem? hy)
      have hfy := j3 p y (by omega) hy
      refine gh_iload_n hK d_Sp_putWay_18 rfl ?_
      refine gh_if_leN hK d_Sp_putWay_19 (tgt := 54) (by decide) (by omega) (fun z => absurd z (by omega)) (fun z => ?_)
      refine gh_aload_n hK d_Sp_putWay_22 rfl ?_
      refine gh_get hK d_Sp_putWay_23 in_Sp rfl j0 4 (by decide) kf_Sp_31 rfl rfl ?_
      refine gh_iload_n hK d_Sp_putWay_26 rfl ?_
      refine gh_iconst (v := nI 1) hK d_Sp_putWay_27 (by decide) ?_
      refine gh_subN hK d_Sp_putWay_28 (by omega) ?_
      rw [Nat.add_sub_cancel]
      refine gh_ialdN (j := p) hK d_Sp_putWay_29 j2 (t0 := 1) rfl (by omega) (by omega) ?_
      rw [hfy]
      refine gh_iload_n hK d_Sp_putWay_30 rfl ?_
      refine gh_icmp_leN hK d_Sp_putWay_31 (tgt := 54) (by decide) hyl hx (fun z2 => ?_) (fun z2 => ?_)
      · refine fin (p + 1) g1 f1 ?_ j1 j2 j3 j4 hM
        rcases Nat.lt_or_ge p (posN x ws) with q | q
        · omega
        · have := posN_ge x hs hy q; omega
      · refine gh_aload_n hK d_Sp_putWay_34 rfl ?_
        refine gh_get hK d_Sp_putWay_35 in_Sp rfl j0 4 (by decide) kf_Sp_31 rfl rfl ?_
        refine gh_iload_n hK d_Sp_putWay_38 rfl ?_
        refine gh_aload_n hK d_Sp_putWay_39 rfl ?_
        refine gh_get hK d_Sp_putWay_40 in_Sp rfl j0 4 (by decide) kf_Sp_31 rfl rfl ?_
        refine gh_iload_n hK d_Sp_putWay_43 rfl ?_
        refine gh_iconst (v := nI 1) hK d_Sp_putWay_44 (by decide) ?_
        refine gh_subN hK d_Sp_putWay_45 (by omega) ?_
        rw [Nat.add_sub_cancel]
        refine gh_ialdN (j := p) hK d_Sp_putWay_46 j2 (t0 := 1) rfl (by omega) (by omega) ?_
        rw [hfy]
        refine gh_iastN hK d_Sp_putWay_47 j2 (t0 := 1) rfl (by omega) (by omega) ?_
        refine gh_iinc (v := nI p) (lv' := [some (.ref (A 30)), some (.int (nI x)), some (.int (nI p))]) hK d_Sp_putWay_48 rfl (pk_m1 p) rfl ?_
        refine gh_goto (tgt := 18) hK d_Sp_putWay_51 (by decide) ?_
        refine ih _ (upd f1 (p + 1) (nI y)) (by omega) ?_ ?_ gh_us (fun i z hi hz => ?_) (fun i z hi hz => ?_) (hM.tr (gh_M.up j2 (by decide)))
        · rcases Nat.lt_or_ge p (posN x ws) with q | q
          · have := posN_lt x hy q; omega
          · exact q
        · show gh_up g1 (A 33) 33 _ (A 30) = _
          rw [gh_un n0]
          exact j0
        · rw [pk_un (by omega)]
          exact j3 i z (by omega) hz
        · by_cases q : i = p
          · rw [q, pk_us]
            rw [q, hy] at hz
            cases hz
            rfl
          · rw [pk_un (by omega)]
            exact j4 i z (by omega) hz
  refine gh_aload_n hK d_Sp_putWay_0 rfl ?_
  refine gh_get hK d_Sp_putWay_1 in_Sp rfl h 7 (by decide) kf_Sp_47 rfl rfl ?_
  refine gh_aload_n hK d_Sp_putWay_4 rfl ?_
  refine gh_get hK d_Sp_putWay_5 in_Sp rfl h 4 (by decide) kf_Sp_31 rfl rfl ?_
  refine gh_alen (v := nI 81) hK d_Sp_putWay_8 k1 (t0 := 1) rfl rfl ?_
  refine gh_icmp_ltN hK d_Sp_putWay_9 (tgt := 13) (by decide) (by omega) (by decide) (fun z => ?_) (fun z => absurd z (by omega))
  refine gh_aload_n hK d_Sp_putWay_13 rfl ?_
  refine gh_get hK d_Sp_putWay_14 in_Sp rfl h 7 (by decide) kf_Sp_47 rfl rfl ?_
  refine gh_istore_n (lv' := [some (.ref (A 30)), some (.int (nI x)), some (.int (nI ws.length))]) hK d_Sp_putWay_17 (Nat.le_of_ble_eq_true rfl) rfl ?_
  exact loop ws.length g f (Nat.le_refl _) hpl h k1 (fun i y _ hy => k2 i y hy) (fun i y hi hy => absurd (List.getElem?_eq_some_iff.mp hy).1 (by omega)) gh_M.rf
