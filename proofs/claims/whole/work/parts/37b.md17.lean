theorem DcA.set {F : Nat → Nat → Int32} {ds : List (List Nat × Nat)} {e m : Nat} {x : List Nat × Nat} (h : DcA F ds) (he : ds[e]? = some x) (hm : m < 2 ^ 26) : DcA (upF F 4 (upd (F 4) e (nI m))) (ds.set e (x.1, m)) := by
  refine ⟨by rw [List.length_set]; exact h.1, fun i y hy => ?_⟩
  rw [upF_n (i := 3) (by decide), upF_s, upF_n (i := 5) (by decide)]
  by_cases z : e = i
  · subst z
    rw [List.getElem?_set_self (List.getElem?_eq_some_iff.mp he).1] at hy
    cases hy
    obtain ⟨k1, k2, k3, k4, k5⟩ := h.2 e x he
    exact ⟨k1, k2, pk_us, k4, hm⟩
  · rw [List.getElem?_set_ne z] at hy
    rw [pk_un (fun q => z q.symm)]
    exact h.2 i y hy
theorem DcA.add {F F' : Nat → Nat → Int32} {ds : List (List Nat × Nat)} {w : List Nat} {m : Nat} (h : DcA F ds) (hl : ds.length < 300) (hw : w.length ≤ 16) (hm : m < 2 ^ 26) (e3 : F' 3 = upd (F 3) ds.length (nI w.length)) (e4 : F' 4 = upd (F 4) ds.length (nI m)) (e5 : ∀ i, i < 16 * ds.length → F' 5 i = F 5 i) (hs : sA (F' 5) (16 * ds.length) w) : DcA F' (ds ++ [(w, m)]) := by
  refine ⟨by rw [List.length_append]; show ds.length + 1 ≤ _; omega, fun i y hy => ?_⟩
  by_cases z : i < ds.length
  · rw [List.getElem?_append_left z] at hy
    obtain ⟨k1, k2, k3, k4, k5⟩ := h.2 i y hy
    rw [e3, e4, pk_un (by omega), pk_un (by omega)]
    refine ⟨k1, k2, k3, fun k hk => ?_, k5⟩
    rw [e5 _ (by omega)]
    exact k4 k hk
  · rw [List.getElem?_append_right (by omega)] at hy
    have hz : i - ds.length < 1 := (List.getElem?_eq_some_iff.mp hy).1
    rw [show i - ds.length = 0 by omega] at hy
    cases hy
    rw [show i = ds.length by omega, e3, e4, pk_us, pk_us]
    exact ⟨hw, rfl, rfl, hs, hm⟩
/-- the last entry is put in the place of entry e -/
def swp (ds : List (List Nat × Nat)) (e : Nat) (y : List Nat × Nat) : List (List Nat × Nat) := (ds.set e y).take (ds.length - 1)
theorem swp_perm {ds : List (List Nat × Nat)} {e : Nat} {x y : List Nat × Nat} (he : ds[e]? = some x) (hy : ds[ds.length - 1]? = some y) : (swp ds e y).Perm (ds.eraseIdx e) := by
  have hl := (List.getElem?_eq_some_iff.mp he).1
  obtain ⟨d, rfl⟩ : ∃ d, ds = d ++ [y] := by
    refine ⟨ds.take (ds.length - 1), ?_⟩
    have := List.take_append_drop (ds.length - 1) ds
    rw [List.drop_eq_getElem_cons (show ds.length - 1 < ds.length by omega), List.drop_eq_nil_of_le (by omega)] at this
    rw [List.getElem?_eq_getElem (show ds.length - 1 < ds.length by omega)] at hy
    cases hy
    exact this.symm
  unfold swp
  rw [List.length_append, List.length_singleton] at *
  rw [show d.length + 1 - 1 = d.length by omega]
  by_cases z : e < d.length
  · rw [List.set_append_left _ _ z, List.take_left' (by rw [List.length_set]), List.eraseIdx_append_of_lt_length z]
    rw [List.getElem?_append_left z] at he
    exact (set_perm he).trans (List.perm_append_comm (l₁ := [y]) (l₂ := d.eraseIdx e))
  · have : e = d.length := by omega
    subst this
    rw [List.set_append_right _ _ (Nat.le_refl _), List.take_left, List.eraseIdx_append_of_length_le (Nat.le_refl _), Nat.sub_self]
    show d.Perm (d ++ [])
    rw [List.append_nil]
theorem swp_len {ds : List (List Nat × Nat)} {e : Nat} {y : List Nat × Nat} : (swp ds e y).length = ds.length - 1 := by
  unfold swp
  rw [List.length_take, List.length_set]
  omega
theorem DcA.rm {F F' : Nat → Nat → Int32} {ds : List (List Nat × Nat)} {e n : Nat} {x y : List Nat × Nat} (h : DcA F ds) (hn : ds.length = n + 1) (he : ds[e]? = some x) (hy : ds[n]? = some y) (e3 : F' 3 = upd (F 3) e (F 3 n)) (e4 : F' 4 = upd (F 4) e (F 4 n)) (e5 : ∀ i, i < 16 → F' 5 (16 * e + i) = F 5 (16 * n + i)) (e6 : ∀ i, i < 16 * e ∨ 16 * e + 16 ≤ i → F' 5 i = F 5 i) : DcA F' (swp ds e y) := by
  have hl := (List.getElem?_eq_some_iff.mp he).1
  refine ⟨by rw [swp_len]; have := h.1; omega, fun i z hz => ?_⟩
  have hi : i < ds.length - 1 := by
    have := (List.getElem?_eq_some_iff.mp hz).1
    rwa [swp_len] at this
  unfold swp at hz
  rw [List.getElem?_take_of_lt hi] at hz
  by_cases q : e = i
  · subst q
    rw [List.getElem?_set_self hl] at hz
    cases hz
    obtain ⟨k1, k2, k3, k4, k5⟩ := h.2 n y hy
    rw [e3, e4, pk_us, pk_us]
    refine ⟨k1, k2, k3, fun k hk => ?_, k5⟩
    rw [e5 k (by omega)]
    exact k4 k hk
  · rw [List.getElem?_set_ne q] at hz
    obtain ⟨k1, k2, k3, k4, k5⟩ := h.2 i z hz
    rw [e3, e4, pk_un (fun t => q t.symm), pk_un (fun t => q t.symm)]
    refine ⟨k1, k2, k3, fun k hk => ?_, k5⟩
    rw [e6 _ (by omega)]
    exact k4 k hk
def FmE (F F1 : Nat → Nat → Int32) : Prop := ∀ j, j ≠ 3 → j ≠ 4 → j ≠ 5 → F1 j = F j
theorem FmE.up {F F1 : Nat → Nat → Int32} {j : Nat} {f : Nat → Int32} (h : FmE F F1) (hj : j = 3 ∨ j = 4 ∨ j = 5) : FmE F (upF F1 j f) := fun i h1 h2 h3 => by rw [upF_n (by omega)]; exact h i h1 h2 h3
theorem FmE.rl {F F1 : Nat → Nat → Int32} {b : Nat} {us : List RuR} (h : FmE F F1) (hR : RlA F b us) : RlA F1 b us := hR.eq (h 6 (by decide) (by decide) (by decide)) (h 7 (by decide) (by decide) (by decide)) (h 8 (by decide) (by decide) (by decide)) (h 9 (by decide) (by decide) (by decide))
theorem FmE.tx {F F1 : Nat → Nat → Int32} {tx : List Nat} (h : FmE F F1) (ht : TxA F tx) : TxA F1 tx := ht.eq (h 1 (by decide) (by decide) (by decide))
/-! the entries of the class, without their addresses -/
abbrev es2 (es : List (Nat × List Nat × Nat)) : List (List Nat × Nat) := es.map fun x => x.2
theorem wsD_es2 (es : List (Nat × List Nat × Nat)) : wsD (es2 es) = dws es := by
  unfold wsD dws es2
  rw [List.map_map]
  rfl
theorem ds_dws {ds : List (List Nat × Nat)} {es : List (Nat × List Nat × Nat)} (h : ds.Perm (es2 es)) {w : List Nat} : w ∈ wsD ds ↔ w ∈ dws es := by
  rw [← wsD_es2]
  unfold wsD
  rw [List.mem_map, List.mem_map]
  exact ⟨fun ⟨x, h1, h2⟩ => ⟨x, h.mem_iff.mp h1, h2⟩, fun ⟨x, h1, h2⟩ => ⟨x, h.mem_iff.mpr h1, h2⟩⟩
theorem ds_at {ds : List (List Nat × Nat)} {es : List (Nat × List Nat × Nat)} (hs : srtL (dws es)) (h : ds.Perm (es2 es)) {e : Nat} {x : List Nat × Nat} (he : ds[e]? = some x) : x.1 ∈ dws es ∧ (es2 es)[rnkL x.1 (dws es)]? = some x := by
  have hm : x.1 ∈ dws es := (ds_dws h).mp (wsD_mem (List.mem_of_getElem? he))
  refine ⟨hm, ?_⟩
  obtain ⟨y, h1, h2⟩ := fnd_yes hs hm
  rw [es2, List.getElem?_map, h1]
  show some y.2 = some x
  congr 1
  rw [← wsD_es2] at hs
  exact srt_uniq hs _ _ (List.mem_map.mpr ⟨y, List.mem_of_getElem? h1, rfl⟩) (h.mem_iff.mp (List.mem_of_getElem? he)) h2
theorem shr_bit {x k : Nat} (hx : x < 2 ^ 26) (hk : k < 32) : (nI x >>> (nI k &&& 31)) &&& nI 1 = nI (x / 2 ^ k % 2) := by
  rw [show (nI x >>> (nI k &&& 31)) = nI (x / 2 ^ k) from by rw [show nI k &&& 31 = nI k from (pk_andN (by omega) 5 (by decide)).trans (by rw [Nat.mod_eq_of_lt (by omega)])]; exact pk_shrN (by omega) (nI k) k (sm32 k hk)]
  exact pk_andN (Nat.lt_of_le_of_lt (Nat.div_le_self _ _) (by omega)) 1 (by decide)
theorem shl_bit {k : Nat} (hk : k < 26) : nI 1 <<< (nI k &&& 31) = nI (2 ^ k) := by
  rw [show nI k &&& 31 = nI k from (pk_andN (by omega) 5 (by decide)).trans (by rw [Nat.mod_eq_of_lt (by omega)]), pk_shlN (nI k) k (sm32 k (by omega)) (by rw [Nat.one_mul]; exact Nat.pow_lt_pow_right (by decide) (by omega)), Nat.one_mul]
theorem or_lt26 {a k : Nat} (ha : a < 2 ^ 26) (hk : k < 26) : a ||| 2 ^ k < 2 ^ 26 := Nat.or_lt_two_pow ha (Nat.pow_lt_pow_right (by decide) hk)
set_option maxRecDepth 20000 in
set_option maxHeartbeats 4000000 in
theorem c_Md_add (l : Launch) (G : GG) {ds : List (List Nat × Nat)} {es : List (Nat × List Nat × Nat)} {tx : List Nat} {a : Nat} {g : GH} {B : Nat → Nat} {cd ty fr tt ap fi en wr mk wd : Nat} {F : Nat → Nat → Int32} {o : List Nat × Nat} (h : Md G g B (mS cd ty ds.length fr tt ap fi en wr mk wd) F o) (ht : TxA F tx) (hto : tt ≤ tx.length) (hat : ap ≤ tt) (hfa : fr ≤ ap) (hD : DcA F ds) (hS : srtL (dws es)) (hPm : ds.Perm (es2 es)) : gMet l G y_Md_add b_Md_add 7 none (rmk 2 0 0 50) [.ref (B 0)] g (fun v g' => v = none ∧ ∃ ap' fi' en' F' ds', Md G g' B (mS cd ty ds'.length fr tt ap' fi' en' (if adO tx tt ap = true then wr else adQ tx tt ap - fr + 1) mk wd) F' (if adO tx tt ap = true then prs o (adT es (adW tx tt ap)) else o) ∧ DcA F' ds' ∧ ds'.Perm (es2 (if adO tx tt ap = true then adE es a (adW tx tt ap) ((adF tx tt ap).getD 0) else es)) ∧ FmE F F' ∧ gh_M MDT g g') := by
  refine gMet.of [some (.ref (B 0)), none, none, none, none, none, none] (by decide +kernel) rfl (Nat.le_of_ble_eq_true rfl) rfl (fun X hK hI hE => ?_)
  have mm : gh_M MDT g g := gh_M.rf
  have htl := ht.1
  have hdl := hD.1
  have hb1 := nxS_le (tx := tx) hat
  have hb2 := nxE_le (tx := tx) hat
  refine gh_aload_n hK d_Md_add_0 rfl ?_
  refine gh_callV (rest := []) [] hK (c_Md_must l G h ht hto hat (by omega)) Y_Md_must V_Md_must km_Md_99 h.1 rfl rfl d_Md_add_1 rfl rfl (Nat.le_of_ble_eq_true rfl) ⟨(Nat.le_of_ble_eq_true rfl), (Nat.le_of_ble_eq_true rfl)⟩ ⟨(Nat.le_of_ble_eq_true rfl), (Nat.le_of_ble_eq_true rfl)⟩ (fun v g_1 hp => ?_)
  obtain ⟨rfl, h_1, mx⟩ := hp
  have mm := mm.tr mx
  show gh_W l G _ X g_1 0 0 [some (.ref (B 0)), none, none, none, none, none, none] 4 [.int (nI (bn (decide ((nxS tx tt ap) < (nxE tx tt ap)))))]
  refine gh_if_neB hK d_Md_add_4 (tgt := 8) (by decide) (fun z => ?_) (fun z => ?_)
  rotate_left
  · have zz := of_decide_eq_false z
    have hG : adG tx tt ap = false := by unfold adG; rw [decide_eq_false (fun q => zz q.1)]; rfl
    have hO : adO tx tt ap = false := by unfold adO; rw [hG]; rfl
    have hQ : adQ tx tt ap = (nxS tx tt ap) := by unfold adQ; rw [hG]; rfl
    have h9 := h_1
    rw [if_neg zz, show tt - fr + 1 = adQ tx tt ap - fr + 1 by rw [hQ, nx_end hat zz]] at h9
    simp only [hO, Bool.false_eq_true, if_false] at hE
    exact gh_vret hK hE d_Md_add_7 (Nat.le_of_ble_eq_true rfl) (Nat.le_of_ble_eq_true rfl) ⟨rfl, _, _, _, _, ds, h9, hD, hPm, fun _ _ _ _ => rfl, mm⟩
  have zz := of_decide_eq_true z
  have h9 := h_1
  rw [if_pos zz] at h9
  obtain ⟨ad1, ad2⟩ := ad_eq hat zz
  obtain ⟨SX, hSX⟩ : ∃ x, x = (nxS tx tt ap) := ⟨_, rfl⟩
  obtain ⟨EX, hEX⟩ : ∃ x, x = (nxE tx tt ap) := ⟨_, rfl⟩
  rw [← hSX] at hb1
  rw [← hSX, ← hEX] at h9 zz hb2 ad1 ad2
  obtain ⟨TX, hTX⟩ : ∃ x, x = strk tx EX SX := ⟨_, rfl⟩
  have hT := strk_le (tx := tx) (show SX ≤ EX by omega)
  have hT2 := fun q => strk_at (tx := tx) (e := EX) (s := SX) (by omega) q
  rw [← hTX] at ad2 hT hT2
  have t190 : ∀ (se : Nat) (g1 : GH) (v3 v5 v6 : Option Value) (h : Md G g1 B (mS cd ty ds.length fr tt (nxE tx tt EX) (nxS tx tt EX) (nxE tx tt EX) wr mk wd) F o) (mm : gh_M MDT g g1), adO tx tt ap = true → adF tx tt ap = some se → se < 2 ^ 26 → (adW tx tt ap) = ((tx.drop SX).take (TX - SX)) → SX < TX → TX - SX ≤ 16 → gh_W l G (rmk 2 0 0 50) X g1 0 0 [some (.ref (B 0)), some (.int (nI SX)), some (.int (nI TX)), v3, some (.int (nI se)), v5, v6] 190 [] := by
    intro se g1 v3 v5 v6 h mm hO hF hse hW hst h16
    have hwl : ((tx.drop SX).take (TX - SX)).length = TX - SX := slice_len (by omega)
    simp only [hO, if_true, hF, Option.getD_some, hW] at hE
    refine gh_aload_n hK d_Md_add_190 rfl ?_
    refine gh_aload_n hK d_Md_add_191 rfl ?_
    refine gh_get (v := .ref (B 1)) hK d_Md_add_192 in_Md rfl h.1 2 (by decide) kf_Md_7 rfl rfl ?_
    refine gh_iload_n hK d_Md_add_195 rfl ?_
    refine gh_iload_n hK d_Md_add_196 rfl ?_
    refine gh_iload_n hK d_Md_add_197 rfl ?_
    refine gh_subN hK d_Md_add_198 (by omega) ?_
    rw [← hwl]
    refine gh_callV (rest := []) [.ref (B 1), .int (nI SX), .int (nI (((tx.drop SX).take (TX - SX)).length))] hK (c_Md_find l G h hD (ht.sl (s := SX) (k := TX - SX) (by omega)) (by rw [hwl]; omega)) Y_Md_find V_Md_find km_Md_195 h.1 rfl rfl d_Md_add_199 rfl rfl (Nat.le_of_ble_eq_true rfl) ⟨(Nat.le_of_ble_eq_true rfl), (Nat.le_of_ble_eq_true rfl)⟩ ⟨(Nat.le_of_ble_eq_true rfl), (Nat.le_of_ble_eq_true rfl)⟩ (fun vr gp_1 hp => ?_)
    obtain ⟨hp, hgp⟩ := hp
    rw [hgp]
    rcases hp with ⟨e, x, rfl, he, hx⟩ | ⟨rfl, hno⟩
    · show gh_W l G _ X g1 0 0 [some (.ref (B 0)), some (.int (nI SX)), some (.int (nI TX)), v3, some (.int (nI se)), v5, v6] 202 [.int (nI e)]
      have hel := (List.getElem?_eq_some_iff.mp he).1
      refine gh_istore (lv' := [some (.ref (B 0)), some (.int (nI SX)), some (.int (nI TX)), v3, some (.int (nI se)), some (.int (nI e)), v6]) hK d_Md_add_202 (Nat.le_of_ble_eq_true rfl) rfl ?_
      refine gh_iload hK d_Md_add_204 rfl ?_
      refine gh_iconst (v := (-1)) hK d_Md_add_206 (by decide) ?_
      refine gh_icmp_eqO (b := some e) hK d_Md_add_207 (tgt := 252) (by decide) (fun i hi => by cases hi; omega) (fun q => by cases q) (fun i _ => ?_)
      refine gh_aload_n hK d_Md_add_210 rfl ?_
      refine gh_get (v := .ref (B 4)) hK d_Md_add_211 in_Md rfl h.1 8 (by decide) kf_Md_19 rfl rfl ?_
      refine gh_iload hK d_Md_add_214 rfl ?_
      refine gh_iload hK d_Md_add_216 rfl ?_
      refine gh_mast hK d_Md_add_218 h 4 (by decide) (i := e) (by show e < 300; omega) (fun g_2 h_2 mx => ?_)
      have mm := mm.tr mx
      show gh_W l G _ X g_2 0 0 [some (.ref (B 0)), some (.int (nI SX)), some (.int (nI TX)), v3, some (.int (nI se)), some (.int (nI e)), v6] 219 []
      refine gh_aload_n hK d_Md_add_219 rfl ?_
      refine gh_bipush (v := nI 97) hK d_Md_add_220 (by decide) ?_
      refine gh_callV (rest := []) [.int (nI 97)] hK (c_Md_put l G h_2 (c := 97) (by decide)) Y_Md_put V_Md_put km_Md_66 h_2.1 rfl rfl d_Md_add_222 rfl rfl (Nat.le_of_ble_eq_true rfl) ⟨(Nat.le_of_ble_eq_true rfl), (Nat.le_of_ble_eq_true rfl)⟩ ⟨(Nat.le_of_ble_eq_true rfl), (Nat.le_of_ble_eq_true rfl)⟩ (fun v g_3 hp => ?_)
      obtain ⟨rfl, h_3, mx⟩ := hp
      have mm := mm.tr mx
      show gh_W l G _ X g_3 0 0 [some (.ref (B 0)), some (.int (nI SX)), some (.int (nI TX)), v3, some (.int (nI se)), some (.int (nI e)), v6] 225 []
      refine gh_aload_n hK d_Md_add_225 rfl ?_
      refine gh_bipush (v := nI 103) hK d_Md_add_226 (by decide) ?_
      refine gh_callV (rest := []) [.int (nI 103)] hK (c_Md_put l G h_3 (c := 103) (by decide)) Y_Md_put V_Md_put km_Md_66 h_3.1 rfl rfl d_Md_add_228 rfl rfl (Nat.le_of_ble_eq_true rfl) ⟨(Nat.le_of_ble_eq_true rfl), (Nat.le_of_ble_eq_true rfl)⟩ ⟨(Nat.le_of_ble_eq_true rfl), (Nat.le_of_ble_eq_true rfl)⟩ (fun v g_4 hp => ?_)
      obtain ⟨rfl, h_4, mx⟩ := hp
      have mm := mm.tr mx
      show gh_W l G _ X g_4 0 0 [some (.ref (B 0)), some (.int (nI SX)), some (.int (nI TX)), v3, some (.int (nI se)), some (.int (nI e)), v6] 231 []
      refine gh_aload_n hK d_Md_add_231 rfl ?_
      refine gh_bipush (v := nI 97) hK d_Md_add_232 (by decide) ?_
      refine gh_callV (rest := []) [.int (nI 97)] hK (c_Md_put l G h_4 (c := 97) (by decide)) Y_Md_put V_Md_put km_Md_66 h_4.1 rfl rfl d_Md_add_234 rfl rfl (Nat.le_of_ble_eq_true rfl) ⟨(Nat.le_of_ble_eq_true rfl), (Nat.le_of_ble_eq_true rfl)⟩ ⟨(Nat.le_of_ble_eq_true rfl), (Nat.le_of_ble_eq_true rfl)⟩ (fun v g_5 hp => ?_)
      obtain ⟨rfl, h_5, mx⟩ := hp
      have mm := mm.tr mx
      show gh_W l G _ X g_5 0 0 [some (.ref (B 0)), some (.int (nI SX)), some (.int (nI TX)), v3, some (.int (nI se)), some (.int (nI e)), v6] 237 []
      refine gh_aload_n hK d_Md_add_237 rfl ?_
      refine gh_bipush (v := nI 105) hK d_Md_add_238 (by decide) ?_
      refine gh_callV (rest := []) [.int (nI 105)] hK (c_Md_put l G h_5 (c := 105) (by decide)) Y_Md_put V_Md_put km_Md_66 h_5.1 rfl rfl d_Md_add_240 rfl rfl (Nat.le_of_ble_eq_true rfl) ⟨(Nat.le_of_ble_eq_true rfl), (Nat.le_of_ble_eq_true rfl)⟩ ⟨(Nat.le_of_ble_eq_true rfl), (Nat.le_of_ble_eq_true rfl)⟩ (fun v g_6 hp => ?_)
      obtain ⟨rfl, h_6, mx⟩ := hp
      have mm := mm.tr mx
      show gh_W l G _ X g_6 0 0 [some (.ref (B 0)), some (.int (nI SX)), some (.int (nI TX)), v3, some (.int (nI se)), some (.int (nI e)), v6] 243 []
      refine gh_aload_n hK d_Md_add_243 rfl ?_
      refine gh_bipush (v := nI 110) hK d_Md_add_244 (by decide) ?_
      refine gh_callV (rest := []) [.int (nI 110)] hK (c_Md_put l G h_6 (c := 110) (by decide)) Y_Md_put V_Md_put km_Md_66 h_6.1 rfl rfl d_Md_add_246 rfl rfl (Nat.le_of_ble_eq_true rfl) ⟨(Nat.le_of_ble_eq_true rfl), (Nat.le_of_ble_eq_true rfl)⟩ ⟨(Nat.le_of_ble_eq_true rfl), (Nat.le_of_ble_eq_true rfl)⟩ (fun v g_7 hp => ?_)
      obtain ⟨rfl, h_7, mx⟩ := hp
      have mm := mm.tr mx
      show gh_W l G _ X g_7 0 0 [some (.ref (B 0)), some (.int (nI SX)), some (.int (nI TX)), v3, some (.int (nI se)), some (.int (nI e)), v6] 249 []
      refine gh_goto (tgt := 347) hK d_Md_add_249 (by decide) ?_
      obtain ⟨hin, hat3⟩ := ds_at hS hPm he
      rw [hx] at hin hat3
      have eT : adT es ((tx.drop SX).take (TX - SX)) = st_txt.getD 1 [] := if_pos hin
      have eE : es2 (adE es a ((tx.drop SX).take (TX - SX)) se) = (es2 es).set (rnkL ((tx.drop SX).take (TX - SX)) (dws es)) (x.1, se) := by
        unfold adE stF es2
        rw [if_pos hin]
        rw [es2, List.getElem?_map] at hat3
        cases hq : es[rnkL ((tx.drop SX).take (TX - SX)) (dws es)]? with
        | none => rw [hq] at hat3; cases hat3
        | some y =>
          rw [hq] at hat3
          have hy : y.2 = x := Option.some.inj hat3
          show (es.set _ (y.1, y.2.1, se)).map _ = _
          rw [List.map_set, hy]
      rw [eT, eE] at hE
      exact gh_vret hK hE d_Md_add_347 (Nat.le_of_ble_eq_true rfl) (Nat.le_of_ble_eq_true rfl) ⟨rfl, _, _, _, _, ds.set e (x.1, se), by rw [List.length_set]; exact h_7, hD.set he hse, set_cong hPm he hat3, FmE.up (fun _ _ _ _ => rfl) (by decide), mm⟩
    · show gh_W l G _ X g1 0 0 [some (.ref (B 0)), some (.int (nI SX)), some (.int (nI TX)), v3, some (.int (nI se)), v5, v6] 202 [.int (-1)]
      refine gh_istore (lv' := [some (.ref (B 0)), some (.int (nI SX)), some (.int (nI TX)), v3, some (.int (nI se)), some (.int (-1)), v6]) hK d_Md_add_202 (Nat.le_of_ble_eq_true rfl) rfl ?_
      refine gh_iload hK d_Md_add_204 rfl ?_
      refine gh_iconst (v := (-1)) hK d_Md_add_206 (by decide) ?_
      refine gh_icmp_eqO (b := none) hK d_Md_add_207 (tgt := 252) (by decide) (fun i hi => by cases hi) (fun _ => ?_) (fun i q => by cases q)
      refine gh_aload_n hK d_Md_add_252 rfl ?_
      refine gh_get (v := .int (nI ds.length)) hK d_Md_add_253 in_Md rfl h.1 6 (by decide) kf_Md_106 rfl rfl ?_
      refine gh_sipush (v := nI 300) hK d_Md_add_256 (by decide) ?_
      have hni : ((tx.drop SX).take (TX - SX)) ∉ dws es := fun q => hno ((ds_dws hPm).mpr q)
      have hlen : es.length = ds.length := by rw [hPm.length_eq, es2, List.length_map]
      refine gh_icmp_neN hK d_Md_add_259 (tgt := 269) (by decide) (by omega) (by omega) (fun z => ?_) (fun z => ?_)
      rotate_left
      · have eT : adT es ((tx.drop SX).take (TX - SX)) = st_txt.getD 2 [] := by rw [adT, if_neg hni, if_neg (by omega)]
        have eE : adE es a ((tx.drop SX).take (TX - SX)) se = es := by rw [adE, if_neg hni, if_neg (by omega)]
        rw [eT, eE] at hE
        refine gh_aload_n hK d_Md_add_262 rfl ?_
        refine gh_callV (rest := []) [] hK (c_Md_full l G h) Y_Md_full V_Md_full km_Md_199 h.1 rfl rfl d_Md_add_263 rfl rfl (Nat.le_of_ble_eq_true rfl) ⟨(Nat.le_of_ble_eq_true rfl), (Nat.le_of_ble_eq_true rfl)⟩ ⟨(Nat.le_of_ble_eq_true rfl), (Nat.le_of_ble_eq_true rfl)⟩ (fun v g_8 hp => ?_)
        obtain ⟨rfl, h_8, mx⟩ := hp
        have mm := mm.tr mx
        show gh_W l G _ X g_8 0 0 [some (.ref (B 0)), some (.int (nI SX)), some (.int (nI TX)), v3, some (.int (nI se)), some (.int (-1)), v6] 266 []
        refine gh_goto (tgt := 347) hK d_Md_add_266 (by decide) ?_
        exact gh_vret hK hE d_Md_add_347 (Nat.le_of_ble_eq_true rfl) (Nat.le_of_ble_eq_true rfl) ⟨rfl, _, _, _, _, ds, h_8, hD, hPm, fun _ _ _ _ => rfl, mm⟩
      have eT : adT es ((tx.drop SX).take (TX - SX)) = st_txt.getD 3 [] := by rw [adT, if_neg hni, if_pos (by omega)]
      have eE : adE es a ((tx.drop SX).take (TX - SX)) se = insA es (rnkL ((tx.drop SX).take (TX - SX)) (dws es)) (a, ((tx.drop SX).take (TX - SX)), se) := by rw [adE, if_neg hni, if_pos (by omega)]
      rw [eT, eE] at hE
      refine gh_aload_n hK d_Md_add_269 rfl ?_
      refine gh_get (v := .ref (B 3)) hK d_Md_add_270 in_Md rfl h.1 7 (by decide) kf_Md_16 rfl rfl ?_
      refine gh_aload_n hK d_Md_add_273 rfl ?_
      refine gh_get (v := .int (nI ds.length)) hK d_Md_add_274 in_Md rfl h.1 6 (by decide) kf_Md_106 rfl rfl ?_
      refine gh_iload_n hK d_Md_add_277 rfl ?_
      refine gh_iload_n hK d_Md_add_278 rfl ?_
      refine gh_subN hK d_Md_add_279 (by omega) ?_
      refine gh_mast hK d_Md_add_280 h 3 (by decide) (i := ds.length) (by show ds.length < 300; omega) (fun g_9 h_9 mx => ?_)
      have mm := mm.tr mx
      show gh_W l G _ X g_9 0 0 [some (.ref (B 0)), some (.int (nI SX)), some (.int (nI TX)), v3, some (.int (nI se)), some (.int (-1)), v6] 281 []
      refine gh_aload_n hK d_Md_add_281 rfl ?_
      refine gh_get (v := .ref (B 4)) hK d_Md_add_282 in_Md rfl h_9.1 8 (by decide) kf_Md_19 rfl rfl ?_
      refine gh_aload_n hK d_Md_add_285 rfl ?_
      refine gh_get (v := .int (nI ds.length)) hK d_Md_add_286 in_Md rfl h_9.1 6 (by decide) kf_Md_106 rfl rfl ?_
      refine gh_iload hK d_Md_add_289 rfl ?_
      refine gh_mast hK d_Md_add_291 h_9 4 (by decide) (i := ds.length) (by show ds.length < 300; omega) (fun g_10 h_10 mx => ?_)
      have mm := mm.tr mx
      show gh_W l G _ X g_10 0 0 [some (.ref (B 0)), some (.int (nI SX)), some (.int (nI TX)), v3, some (.int (nI se)), some (.int (-1)), v6] 292 []
      refine gh_iconst (v := nI 0) hK d_Md_add_292 (by decide) ?_
      refine gh_istore (lv' := [some (.ref (B 0)), some (.int (nI SX)), some (.int (nI TX)), v3, some (.int (nI se)), some (.int (-1)), some (.int (nI 0))]) hK d_Md_add_293 (Nat.le_of_ble_eq_true rfl) rfl ?_
      have cp : ∀ (m k : Nat) (g2 : GH) (F2 : Nat → Nat → Int32) (h : Md G g2 B (mS cd ty ds.length fr tt (nxE tx tt EX) (nxS tx tt EX) (nxE tx tt EX) wr mk wd) F2 o) (mm : gh_M MDT g g2), k + m = TX - SX → (∀ j, j ≠ 5 → F2 j = (upF (upF F 3 (upd (F 3) ds.length (nI (TX - SX)))) 4 (upd ((upF F 3 (upd (F 3) ds.length (nI (TX - SX)))) 4) ds.length (nI se))) j) → (∀ i, i < 16 * ds.length → F2 5 i = F 5 i) → sA (F2 5) (16 * ds.length) (((tx.drop SX).take (TX - SX)).take k) → gh_W l G (rmk 2 0 0 50) X g2 0 0 [some (.ref (B 0)), some (.int (nI SX)), some (.int (nI TX)), v3, some (.int (nI se)), some (.int (-1)), some (.int (nI k))] 295 [] := by
        intro m
        induction m with
        | zero =>
          intro k g2 F2 h mm hk hj hlow hs5
          refine gh_iload hK d_Md_add_295 rfl ?_
          refine gh_iload_n hK d_Md_add_297 rfl ?_
          refine gh_iload_n hK d_Md_add_298 rfl ?_
          refine gh_subN hK d_Md_add_299 (by omega) ?_
          refine gh_icmp_geN hK d_Md_add_300 (tgt := 333) (by decide) (by omega) (by omega) (fun _ => ?_) (fun q => by omega)
          refine gh_aload_n hK d_Md_add_333 rfl ?_
          refine gh_dup hK d_Md_add_334 rfl ?_
          refine gh_get (v := .int (nI ds.length)) hK d_Md_add_335 in_Md rfl h.1 6 (by decide) kf_Md_106 rfl rfl ?_
          refine gh_iconst (v := nI 1) hK d_Md_add_338 (by decide) ?_
          refine gh_addN hK d_Md_add_339 ?_
          refine gh_mput hK d_Md_add_340 h 6 (mS cd ty (ds.length + 1) fr tt (nxE tx tt EX) (nxS tx tt EX) (nxE tx tt EX) wr mk wd) rfl (by decide) kf_Md_106 rfl rfl rfl rfl (by decide) (fun g_11 h_11 mx => ?_)
          have mm := mm.tr mx
          show gh_W l G _ X g_11 0 0 [some (.ref (B 0)), some (.int (nI SX)), some (.int (nI TX)), v3, some (.int (nI se)), some (.int (-1)), some (.int (nI k))] 343 []
          refine gh_aload_n hK d_Md_add_343 rfl ?_
          refine gh_callV (rest := []) [] hK (c_Md_ok l G h_11) Y_Md_ok V_Md_ok km_Md_189 h_11.1 rfl rfl d_Md_add_344 rfl rfl (Nat.le_of_ble_eq_true rfl) ⟨(Nat.le_of_ble_eq_true rfl), (Nat.le_of_ble_eq_true rfl)⟩ ⟨(Nat.le_of_ble_eq_true rfl), (Nat.le_of_ble_eq_true rfl)⟩ (fun v g_12 hp => ?_)
          obtain ⟨rfl, h_12, mx⟩ := hp
          have mm := mm.tr mx
          show gh_W l G _ X g_12 0 0 [some (.ref (B 0)), some (.int (nI SX)), some (.int (nI TX)), v3, some (.int (nI se)), some (.int (-1)), some (.int (nI k))] 347 []
          rw [List.take_of_length_le (by omega)] at hs5
          refine gh_vret hK hE d_Md_add_347 (Nat.le_of_ble_eq_true rfl) (Nat.le_of_ble_eq_true rfl) ⟨rfl, _, _, _, _, ds ++ [(((tx.drop SX).take (TX - SX)), se)], by rw [List.length_append]; exact h_12, hD.add (by omega) (by omega) hse ?_ ?_ hlow hs5, ?_, fun j h3 h4 h5 => ?_, mm⟩
          · rw [hj 3 (by decide), upF_n (by decide), upF_s, hwl]
          · rw [hj 4 (by decide), upF_s, upF_n (by decide)]
          · rw [es2, insA_map]
            exact (List.perm_append_comm.trans (List.Perm.cons _ hPm)).trans insA_perm.symm
          · rw [hj j h5, upF_n h4, upF_n h3]
        | succ m ihc =>
          intro k g2 F2 h mm hk hj hlow hs5
          have hc := ht.2 (SX + k) (by omega)
          have hc1 : F2 1 (SX + k) = nI (tx.getD (SX + k) 0) := by rw [hj 1 (by decide), upF_n (by decide), upF_n (by decide)]; exact hc.1
          refine gh_iload hK d_Md_add_295 rfl ?_
          refine gh_iload_n hK d_Md_add_297 rfl ?_
          refine gh_iload_n hK d_Md_add_298 rfl ?_
          refine gh_subN hK d_Md_add_299 (by omega) ?_
          refine gh_icmp_geN hK d_Md_add_300 (tgt := 333) (by decide) (by omega) (by omega) (fun q => by omega) (fun _ => ?_)
          refine gh_aload_n hK d_Md_add_303 rfl ?_
          refine gh_get (v := .ref (B 5)) hK d_Md_add_304 in_Md rfl h.1 9 (by decide) kf_Md_22 rfl rfl ?_
          refine gh_bipush (v := nI 16) hK d_Md_add_307 (by decide) ?_
          refine gh_aload_n hK d_Md_add_309 rfl ?_
          refine gh_get (v := .int (nI ds.length)) hK d_Md_add_310 in_Md rfl h.1 6 (by decide) kf_Md_106 rfl rfl ?_
          refine gh_mulN hK d_Md_add_313 ?_
          refine gh_iload hK d_Md_add_314 rfl ?_
          refine gh_addN hK d_Md_add_316 ?_
          refine gh_aload_n hK d_Md_add_317 rfl ?_
          refine gh_get (v := .ref (B 1)) hK d_Md_add_318 in_Md rfl h.1 2 (by decide) kf_Md_7 rfl rfl ?_
          refine gh_iload_n hK d_Md_add_321 rfl ?_
          refine gh_iload hK d_Md_add_322 rfl ?_
          refine gh_addN hK d_Md_add_324 ?_
          refine gh_mald hK d_Md_add_325 h 1 (by decide) (i := SX + k) (x := (nI (tx.getD (SX + k) 0))) (by show SX + k < 2048; omega) hc1 ?_
          refine gh_mast hK d_Md_add_326 h 5 (by decide) (i := (16 * ds.length) + k) (by show (16 * ds.length) + k < 4800; omega) (fun g_13 h_13 mx => ?_)
          have mm := mm.tr mx
          show gh_W l G _ X g_13 0 0 [some (.ref (B 0)), some (.int (nI SX)), some (.int (nI TX)), v3, some (.int (nI se)), some (.int (-1)), some (.int (nI k))] 327 []
          refine gh_incN (lv' := [some (.ref (B 0)), some (.int (nI SX)), some (.int (nI TX)), v3, some (.int (nI se)), some (.int (-1)), some (.int (nI (k + 1)))]) hK d_Md_add_327 rfl rfl ?_
          refine gh_goto (tgt := 295) hK d_Md_add_330 (by decide) ?_
          refine ihc (k + 1) g_13 _ h_13 mm (by omega) (fun j h5 => by rw [upF_n h5]; exact hj j h5) (fun i hi => by rw [upF_s, pk_un (by omega)]; exact hlow i hi) ?_
          rw [upF_s, take_succD (show k < ((tx.drop SX).take (TX - SX)).length by omega), slice_getD (by omega) (by omega)]
          exact sA_app hs5 (by rw [List.length_take]; omega) (by omega)
      exact cp (TX - SX) 0 g_10 _ h_10 mm (by omega) (fun _ _ => rfl) (fun i hi => by rw [upF_n (by decide), upF_n (by decide)]) (by rw [List.take_zero]; exact sA_nil)
  have t171 : ∀ (gd : Bool) (se : Nat) (g1 : GH) (v5 v6 : Option Value) (h : Md G g1 B (mS cd ty ds.length fr tt EX SX EX wr mk wd) F o) (mm : gh_M MDT g g1), adR tx SX EX = (if gd = true then some se else none) → se < 2 ^ 26 → gh_W l G (rmk 2 0 0 50) X g1 0 0 [some (.ref (B 0)), some (.int (nI SX)), some (.int (nI TX)), some (.int (nI (bn gd))), some (.int (nI se)), v5, v6] 171 [] := by
    intro gd se g1 v5 v6 h mm hgd hse
    rw [hgd] at ad1
    refine gh_iload_n hK d_Md_add_171 rfl ?_
    refine gh_if_neB hK d_Md_add_172 (tgt := 182) (by decide) (fun z => ?_) (fun z => ?_)
    rotate_left
    · rw [z, if_neg (by decide)] at ad1
      have hG : adG tx tt ap = false := by
        by_cases q : adG tx tt ap = true
        · exfalso
          rw [if_pos q] at ad1
          unfold adG at q
          rw [← ad1, Bool.and_eq_true] at q
          cases q.2
        · exact Bool.eq_false_iff.mpr q
      have hO : adO tx tt ap = false := by unfold adO; rw [hG]; rfl
      have hQ : adQ tx tt ap = SX := by unfold adQ; rw [hG]; exact hSX.symm
      simp only [hO, Bool.false_eq_true, if_false, hQ] at hE
      refine gh_aload_n hK d_Md_add_175 rfl ?_
      refine gh_callV (rest := []) [] hK (c_Md_refuse l G h (by omega)) Y_Md_refuse V_Md_refuse km_Md_92 h.1 rfl rfl d_Md_add_176 rfl rfl (Nat.le_of_ble_eq_true rfl) ⟨(Nat.le_of_ble_eq_true rfl), (Nat.le_of_ble_eq_true rfl)⟩ ⟨(Nat.le_of_ble_eq_true rfl), (Nat.le_of_ble_eq_true rfl)⟩ (fun v g_1 hp => ?_)
      obtain ⟨rfl, h_1, mx⟩ := hp
      have mm := mm.tr mx
      show gh_W l G _ X g_1 0 0 [some (.ref (B 0)), some (.int (nI SX)), some (.int (nI TX)), some (.int (nI (bn gd))), some (.int (nI se)), v5, v6] 179 [.int (nI 0)]
      refine gh_istore (lv' := [some (.ref (B 0)), some (.int (nI SX)), some (.int (nI TX)), some (.int (nI (bn gd))), some (.int (nI se)), some (.int (nI 0)), v6]) hK d_Md_add_179 (Nat.le_of_ble_eq_true rfl) rfl ?_
      exact gh_vret hK hE d_Md_add_181 (Nat.le_of_ble_eq_true rfl) (Nat.le_of_ble_eq_true rfl) ⟨rfl, _, _, _, _, ds, h_1, hD, hPm, fun _ _ _ _ => rfl, mm⟩
    rw [z, if_pos rfl] at ad1
    have hG : adG tx tt ap = true := by
      by_cases q : adG tx tt ap = true
      · exact q
      · rw [if_neg q] at ad1; cases ad1
    rw [if_pos hG] at ad1
    have hL := ad2 hG
    have hG2 := hG
    unfold adG at hG2
    rw [Bool.and_eq_true, decide_eq_true_iff] at hG2
    refine gh_aload_n hK d_Md_add_182 rfl ?_
    refine gh_callV (rest := []) [] hK (c_Md_mustEnd l G h ht hto hb2.2 (by omega)) Y_Md_mustEnd V_Md_mustEnd km_Md_184 h.1 rfl rfl d_Md_add_183 rfl rfl (Nat.le_of_ble_eq_true rfl) ⟨(Nat.le_of_ble_eq_true rfl), (Nat.le_of_ble_eq_true rfl)⟩ ⟨(Nat.le_of_ble_eq_true rfl), (Nat.le_of_ble_eq_true rfl)⟩ (fun v g_2 hp => ?_)
    obtain ⟨rfl, h_2, mx⟩ := hp
    have mm := mm.tr mx
    show gh_W l G _ X g_2 0 0 [some (.ref (B 0)), some (.int (nI SX)), some (.int (nI TX)), some (.int (nI (bn gd))), some (.int (nI se)), v5, v6] 186 [.int (nI (bn (decide ((nxE tx tt EX) ≤ (nxS tx tt EX)))))]
    refine gh_if_neB hK d_Md_add_186 (tgt := 190) (by decide) (fun z2 => ?_) (fun z2 => ?_)
    rotate_left
    · have z3 := of_decide_eq_false z2
      have hO : adO tx tt ap = false := by unfold adO; rw [hG, ← hEX, decide_eq_false z3]; rfl
      have hQ : adQ tx tt ap = (nxS tx tt EX) := by unfold adQ; rw [if_pos hG, ← hEX]
      simp only [hO, Bool.false_eq_true, if_false, hQ] at hE
      have h9 := h_2
      rw [if_pos (by omega)] at h9
      exact gh_vret hK hE d_Md_add_189 (Nat.le_of_ble_eq_true rfl) (Nat.le_of_ble_eq_true rfl) ⟨rfl, _, _, _, _, ds, h9, hD, hPm, fun _ _ _ _ => rfl, mm⟩
    have z3 := of_decide_eq_true z2
    have h9 := h_2
    rw [if_neg (by omega)] at h9
    exact t190 se g_2 _ _ _ h9 mm (by unfold adO; rw [hG, ← hEX, decide_eq_true z3]; rfl) ad1.symm hse (by unfold adW; rw [hL, ← hSX]) (by omega) (by omega)
  have lpF : TX < EX → ∀ (m k : Nat) (gd : Bool) (se : Nat) (v6 : Option Value), k + m = EX → TX < k → se < 2 ^ 26 → ((gd = true ∧ (alO tx SX TX 16 false && decide (1 < EX - TX)) = true ∧ fgF tx (EX - k) k se = (fgF tx (EX - (TX + 1)) (TX + 1) 0)) ∨ (gd = false ∧ ((alO tx SX TX 16 false && decide (1 < EX - TX)) = false ∨ (fgF tx (EX - (TX + 1)) (TX + 1) 0) = none))) → gh_W l G (rmk 2 0 0 50) X g_1 0 0 [some (.ref (B 0)), some (.int (nI SX)), some (.int (nI TX)), some (.int (nI (bn gd))), some (.int (nI se)), some (.int (nI k)), v6] 89 [] := by
    intro hTE m
    induction m with
    | zero =>
      intro k gd se v6 hk hk2 hse hi
      have hk : k = EX := by omega
      subst hk
      refine gh_iload hK d_Md_add_89 rfl ?_
      refine gh_aload_n hK d_Md_add_91 rfl ?_
      refine gh_get (v := .int (nI k)) hK d_Md_add_92 in_Md rfl h9.1 18 (by decide) kf_Md_79 rfl rfl ?_
      refine gh_icmp_geN hK d_Md_add_95 (tgt := 171) (by decide) (by omega) (by omega) (fun _ => ?_) (fun q => by omega)
      refine t171 gd se g_1 _ _ h9 mm ?_ hse
      unfold adR
      rw [← hTX, if_neg (show ¬ TX = k by omega)]
      rcases hi with ⟨q1, q2, q3⟩ | ⟨q1, q2⟩
      · rw [Bool.and_eq_true, decide_eq_true_iff] at q2
        rw [if_pos q2.1, if_pos q2.2, q1, if_pos rfl, ← q3, Nat.sub_self]
        rfl
      · rw [q1, if_neg (show ¬ (false = true) by decide)]
        by_cases r1 : alO tx SX TX 16 false = true
        · rw [if_pos r1]
          by_cases r2 : 1 < k - TX
          · rw [if_pos r2]
            rcases q2 with q2 | q2
            · rw [r1, decide_eq_true r2] at q2; cases q2
            · exact q2
          · rw [if_neg r2]
        · rw [if_neg r1]
    | succ m ih =>
      intro k gd se v6 hk hk2 hse hi
      have hc := ht.2 k (by omega)
      have hfs : EX - k = (EX - (k + 1)) + 1 := by omega
      refine gh_iload hK d_Md_add_89 rfl ?_
      refine gh_aload_n hK d_Md_add_91 rfl ?_
      refine gh_get (v := .int (nI EX)) hK d_Md_add_92 in_Md rfl h9.1 18 (by decide) kf_Md_79 rfl rfl ?_
      refine gh_icmp_geN hK d_Md_add_95 (tgt := 171) (by decide) (by omega) (by omega) (fun q => by omega) (fun _ => ?_)
      refine gh_iload_n hK d_Md_add_98 rfl ?_
      have tf : ∀ v3 : Option Value, ((false = true ∧ (alO tx SX TX 16 false && decide (1 < EX - TX)) = true ∧ fgF tx (EX - (k + 1)) (k + 1) se = (fgF tx (EX - (TX + 1)) (TX + 1) 0)) ∨ (false = false ∧ ((alO tx SX TX 16 false && decide (1 < EX - TX)) = false ∨ (fgF tx (EX - (TX + 1)) (TX + 1) 0) = none))) → gh_W l G (rmk 2 0 0 50) X g_1 0 0 [some (.ref (B 0)), some (.int (nI SX)), some (.int (nI TX)), v3, some (.int (nI se)), some (.int (nI k)), v6] 137 [] := by
        intro v3 hi2
        refine gh_iconst (v := nI 0) hK d_Md_add_137 (by decide) ?_
        refine gh_istore_n (lv' := [some (.ref (B 0)), some (.int (nI SX)), some (.int (nI TX)), some (.int (nI 0)), some (.int (nI se)), some (.int (nI k)), v6]) hK d_Md_add_138 (Nat.le_of_ble_eq_true rfl) rfl ?_
        refine gh_iload_n hK d_Md_add_139 rfl ?_
        refine gh_if_eqN hK d_Md_add_140 (tgt := 161) (by decide) (by decide) (fun _ => ?_) (fun q => absurd q (by decide))
        refine gh_iload hK d_Md_add_161 rfl ?_
        refine gh_istore (lv' := [some (.ref (B 0)), some (.int (nI SX)), some (.int (nI TX)), some (.int (nI 0)), some (.int (nI se)), some (.int (nI k)), v6]) hK d_Md_add_163 (Nat.le_of_ble_eq_true rfl) rfl ?_
        refine gh_incN (lv' := [some (.ref (B 0)), some (.int (nI SX)), some (.int (nI TX)), some (.int (nI 0)), some (.int (nI se)), some (.int (nI (k + 1))), v6]) hK d_Md_add_165 rfl rfl ?_
        refine gh_goto (tgt := 89) hK d_Md_add_168 (by decide) ?_
        exact ih (k + 1) false se _ (by omega) (by omega) hse hi2
      refine gh_if_eqB hK d_Md_add_99 (tgt := 137) (by decide) (fun z1 => ?_) (fun z1 => ?_)
      · refine tf _ (Or.inr ⟨rfl, ?_⟩)
        rcases hi with ⟨q1, -⟩ | ⟨-, q2⟩
        · rw [z1] at q1; cases q1
        · exact q2
      have hi2 : (alO tx SX TX 16 false && decide (1 < EX - TX)) = true ∧ fgF tx (EX - k) k se = (fgF tx (EX - (TX + 1)) (TX + 1) 0) := by
        rcases hi with ⟨-, q2⟩ | ⟨q1, -⟩
        · exact q2
        · rw [z1] at q1; cases q1
      obtain ⟨hi3, hi4⟩ := hi2
      rw [hfs, fgF] at hi4
      refine gh_aload_n hK d_Md_add_102 rfl ?_
      refine gh_get (v := .ref (B 1)) hK d_Md_add_103 in_Md rfl h9.1 2 (by decide) kf_Md_7 rfl rfl ?_
      refine gh_iload hK d_Md_add_106 rfl ?_
      refine gh_mald hK d_Md_add_108 h9 1 (by decide) (i := k) (x := (nI (tx.getD k 0))) (by show k < 2048; omega) (ht.2 k (by omega)).1 ?_
      refine gh_callS (rest := []) [.int (nI (tx.getD k 0))] hK (c_Md_isCapital l G (g := g_1) (c := tx.getD k 0) (by omega)) Y_Md_isCapital V_Md_isCapital km_Md_192 rfl d_Md_add_109 rfl rfl (Nat.le_of_ble_eq_true rfl) ⟨(Nat.le_of_ble_eq_true rfl), (Nat.le_of_ble_eq_true rfl)⟩ ⟨(Nat.le_of_ble_eq_true rfl), (Nat.le_of_ble_eq_true rfl)⟩ (fun v g' hp => ?_)
      rw [hp.1, hp.2]
      show gh_W l G _ X g_1 0 0 [some (.ref (B 0)), some (.int (nI SX)), some (.int (nI TX)), some (.int (nI (bn gd))), some (.int (nI se)), some (.int (nI k)), v6] 112 [.int (nI (bn (isCap (tx.getD k 0))))]
      refine gh_if_eqB hK d_Md_add_112 (tgt := 137) (by decide) (fun z2 => ?_) (fun z2 => ?_)
      · exact tf _ (Or.inr ⟨rfl, Or.inr (by rw [← hi4, if_neg (fun q => by rw [z2] at q; cases q.1)])⟩)
      have hcap := of_decide_eq_true z2
      refine gh_iload hK d_Md_add_115 rfl ?_
      refine gh_aload_n hK d_Md_add_117 rfl ?_
      refine gh_get (v := .ref (B 1)) hK d_Md_add_118 in_Md rfl h9.1 2 (by decide) kf_Md_7 rfl rfl ?_
      refine gh_iload hK d_Md_add_121 rfl ?_
      refine gh_mald hK d_Md_add_123 h9 1 (by decide) (i := k) (x := (nI (tx.getD k 0))) (by show k < 2048; omega) (ht.2 k (by omega)).1 ?_
      refine gh_bipush (v := nI 65) hK d_Md_add_124 (by decide) ?_
      refine gh_subN hK d_Md_add_126 (by omega) ?_
      refine gh_ishr hK d_Md_add_127 ?_
      refine gh_iconst (v := nI 1) hK d_Md_add_128 (by decide) ?_
      refine gh_iand hK d_Md_add_129 ?_
      rw [shr_bit hse (by omega)]
      have etb : se.testBit (tx.getD k 0 - 65) = decide (se / 2 ^ (tx.getD k 0 - 65) % 2 = 1) := Nat.testBit_eq_decide_div_mod_eq
      have h01 : se / 2 ^ (tx.getD k 0 - 65) % 2 < 2 := Nat.mod_lt _ (by decide)
      refine gh_if_neN hK d_Md_add_130 (tgt := 137) (by decide) (by omega) (fun z3 => ?_) (fun z3 => ?_)
      · exact tf _ (Or.inr ⟨rfl, Or.inr (by rw [← hi4, if_neg (fun q => by rw [etb, decide_eq_true (by omega)] at q; cases q.2)])⟩)
      rw [if_pos ⟨z2, by rw [etb, decide_eq_false (by omega)]⟩] at hi4
      refine gh_iconst (v := nI 1) hK d_Md_add_133 (by decide) ?_
      refine gh_goto (tgt := 138) hK d_Md_add_134 (by decide) ?_
      refine gh_istore_n (lv' := [some (.ref (B 0)), some (.int (nI SX)), some (.int (nI TX)), some (.int (nI 1)), some (.int (nI se)), some (.int (nI k)), v6]) hK d_Md_add_138 (Nat.le_of_ble_eq_true rfl) rfl ?_
      refine gh_iload_n hK d_Md_add_139 rfl ?_
      refine gh_if_eqN hK d_Md_add_140 (tgt := 161) (by decide) (by decide) (fun q => absurd q (by decide)) (fun _ => ?_)
      refine gh_iload hK d_Md_add_143 rfl ?_
      refine gh_iconst (v := nI 1) hK d_Md_add_145 (by decide) ?_
      refine gh_aload_n hK d_Md_add_146 rfl ?_
      refine gh_get (v := .ref (B 1)) hK d_Md_add_147 in_Md rfl h9.1 2 (by decide) kf_Md_7 rfl rfl ?_
      refine gh_iload hK d_Md_add_150 rfl ?_
      refine gh_mald hK d_Md_add_152 h9 1 (by decide) (i := k) (x := (nI (tx.getD k 0))) (by show k < 2048; omega) (ht.2 k (by omega)).1 ?_
      refine gh_bipush (v := nI 65) hK d_Md_add_153 (by decide) ?_
      refine gh_subN hK d_Md_add_155 (by omega) ?_
      refine gh_ishl hK d_Md_add_156 ?_
      rw [shl_bit (by omega)]
      refine gh_ior hK d_Md_add_157 ?_
      rw [nI_or]
      refine gh_goto (tgt := 163) hK d_Md_add_158 (by decide) ?_
      refine gh_istore (lv' := [some (.ref (B 0)), some (.int (nI SX)), some (.int (nI TX)), some (.int (nI 1)), some (.int (nI (se ||| 2 ^ (tx.getD k 0 - 65)))), some (.int (nI k)), v6]) hK d_Md_add_163 (Nat.le_of_ble_eq_true rfl) rfl ?_
      refine gh_incN (lv' := [some (.ref (B 0)), some (.int (nI SX)), some (.int (nI TX)), some (.int (nI 1)), some (.int (nI (se ||| 2 ^ (tx.getD k 0 - 65)))), some (.int (nI (k + 1))), v6]) hK d_Md_add_165 rfl rfl ?_
      refine gh_goto (tgt := 89) hK d_Md_add_168 (by decide) ?_
      exact ih (k + 1) true (se ||| 2 ^ (tx.getD k 0 - 65)) _ (by omega) (by omega) (or_lt26 hse (by omega)) (Or.inl ⟨rfl, hi3, hi4⟩)
  have t43 : gh_W l G (rmk 2 0 0 50) X g_1 0 0 [some (.ref (B 0)), some (.int (nI SX)), some (.int (nI TX)), none, none, none, none] 43 [] := by
    refine gh_aload_n hK d_Md_add_43 rfl ?_
    refine gh_iload_n hK d_Md_add_44 rfl ?_
    refine gh_iload_n hK d_Md_add_45 rfl ?_
    refine gh_bipush (v := nI 16) hK d_Md_add_46 (by decide) ?_
    refine gh_iconst (v := nI 0) hK d_Md_add_48 (by decide) ?_
    refine gh_callV (rest := []) [.int (nI SX), .int (nI TX), .int (nI 16), .int (nI 0)] hK (c_Md_areLetters l G h9 (most := 16) (b := false) ht hT.1 (by omega) (by decide)) Y_Md_areLetters V_Md_areLetters km_Md_102 h9.1 rfl rfl d_Md_add_49 rfl rfl (Nat.le_of_ble_eq_true rfl) ⟨(Nat.le_of_ble_eq_true rfl), (Nat.le_of_ble_eq_true rfl)⟩ ⟨(Nat.le_of_ble_eq_true rfl), (Nat.le_of_ble_eq_true rfl)⟩ (fun v gp_1 hp => ?_)
    obtain ⟨rfl, hgp⟩ := hp
    rw [hgp]
    show gh_W l G _ X g_1 0 0 [some (.ref (B 0)), some (.int (nI SX)), some (.int (nI TX)), none, none, none, none] 52 [.int (nI (bn (alO tx SX TX 16 false)))]
    refine gh_istore_n (lv' := [some (.ref (B 0)), some (.int (nI SX)), some (.int (nI TX)), some (.int (nI (bn (alO tx SX TX 16 false)))), none, none, none]) hK d_Md_add_52 (Nat.le_of_ble_eq_true rfl) rfl ?_
    refine gh_iconst (v := nI 0) hK d_Md_add_53 (by decide) ?_
    refine gh_istore (lv' := [some (.ref (B 0)), some (.int (nI SX)), some (.int (nI TX)), some (.int (nI (bn (alO tx SX TX 16 false)))), some (.int (nI 0)), none, none]) hK d_Md_add_54 (Nat.le_of_ble_eq_true rfl) rfl ?_
    refine gh_iload_n hK d_Md_add_56 rfl ?_
    refine gh_aload_n hK d_Md_add_57 rfl ?_
    refine gh_get (v := .int (nI EX)) hK d_Md_add_58 in_Md rfl h9.1 18 (by decide) kf_Md_79 rfl rfl ?_
    refine gh_icmp_geN hK d_Md_add_61 (tgt := 171) (by decide) (by omega) (by omega) (fun z => ?_) (fun z => ?_)
    · refine t171 _ 0 g_1 _ _ h9 mm ?_ (by decide)
      unfold adR
      rw [← hTX]
      split
      · rw [if_pos (by omega)]
      · rfl
    have tq : ∀ q : Bool, q = (alO tx SX TX 16 false && decide (1 < EX - TX)) → gh_W l G (rmk 2 0 0 50) X g_1 0 0 [some (.ref (B 0)), some (.int (nI SX)), some (.int (nI TX)), some (.int (nI (bn (alO tx SX TX 16 false)))), some (.int (nI 0)), none, none] 83 [.int (nI (bn q))] := by
      intro q hq
      refine gh_istore_n (lv' := [some (.ref (B 0)), some (.int (nI SX)), some (.int (nI TX)), some (.int (nI (bn q))), some (.int (nI 0)), none, none]) hK d_Md_add_83 (Nat.le_of_ble_eq_true rfl) rfl ?_
      refine gh_iload_n hK d_Md_add_84 rfl ?_
      refine gh_iconst (v := nI 1) hK d_Md_add_85 (by decide) ?_
      refine gh_addN hK d_Md_add_86 ?_
      refine gh_istore (lv' := [some (.ref (B 0)), some (.int (nI SX)), some (.int (nI TX)), some (.int (nI (bn q))), some (.int (nI 0)), some (.int (nI (TX + 1))), none]) hK d_Md_add_87 (Nat.le_of_ble_eq_true rfl) rfl ?_
      refine lpF z (EX - (TX + 1)) (TX + 1) q 0 _ (by omega) (by omega) (by decide) ?_
      cases q with
      | true => exact Or.inl ⟨rfl, hq.symm, rfl⟩
      | false => exact Or.inr ⟨rfl, Or.inl hq.symm⟩
    refine gh_iload_n hK d_Md_add_64 rfl ?_
    refine gh_if_eqB hK d_Md_add_65 (tgt := 82) (by decide) (fun z1 => ?_) (fun z1 => ?_)
    · refine gh_iconst (v := nI 0) hK d_Md_add_82 (by decide) ?_
      exact tq false (by rw [z1]; rfl)
    refine gh_aload_n hK d_Md_add_68 rfl ?_
    refine gh_get (v := .int (nI EX)) hK d_Md_add_69 in_Md rfl h9.1 18 (by decide) kf_Md_79 rfl rfl ?_
    refine gh_iload_n hK d_Md_add_72 rfl ?_
    refine gh_subN hK d_Md_add_73 (by omega) ?_
    refine gh_iconst (v := nI 1) hK d_Md_add_74 (by decide) ?_
    refine gh_icmp_leN hK d_Md_add_75 (tgt := 82) (by decide) (by omega) (by omega) (fun z2 => ?_) (fun z2 => ?_)
    · refine gh_iconst (v := nI 0) hK d_Md_add_82 (by decide) ?_
      exact tq false (by rw [decide_eq_false (by omega), Bool.and_false])
    · refine gh_iconst (v := nI 1) hK d_Md_add_78 (by decide) ?_
      refine gh_goto (tgt := 83) hK d_Md_add_79 (by decide) ?_
      exact tq true (by rw [z1, decide_eq_true z2]; rfl)
  have lpT : ∀ (m k : Nat), k + m = EX → SX ≤ k → sc (fun i => decide (tx.getD i 0 ≠ 47)) EX k = TX → gh_W l G (rmk 2 0 0 50) X g_1 0 0 [some (.ref (B 0)), some (.int (nI SX)), some (.int (nI k)), none, none, none, none] 18 [] := by
    intro m
    induction m with
    | zero =>
      intro k hk hk2 hs
      rw [sc_out (by omega)] at hs
      subst hs
      refine gh_iload_n hK d_Md_add_18 rfl ?_
      refine gh_aload_n hK d_Md_add_19 rfl ?_
      refine gh_get (v := .int (nI EX)) hK d_Md_add_20 in_Md rfl h9.1 18 (by decide) kf_Md_79 rfl rfl ?_
      refine gh_icmp_geN hK d_Md_add_23 (tgt := 43) (by decide) (by omega) (by omega) (fun _ => t43) (fun q => by omega)
    | succ m ih =>
      intro k hk hk2 hs
      have hc := ht.2 k (by omega)
      refine gh_iload_n hK d_Md_add_18 rfl ?_
      refine gh_aload_n hK d_Md_add_19 rfl ?_
      refine gh_get (v := .int (nI EX)) hK d_Md_add_20 in_Md rfl h9.1 18 (by decide) kf_Md_79 rfl rfl ?_
      refine gh_icmp_geN hK d_Md_add_23 (tgt := 43) (by decide) (by omega) (by omega) (fun q => by omega) (fun _ => ?_)
      refine gh_aload_n hK d_Md_add_26 rfl ?_
      refine gh_get (v := .ref (B 1)) hK d_Md_add_27 in_Md rfl h9.1 2 (by decide) kf_Md_7 rfl rfl ?_
      refine gh_iload_n hK d_Md_add_30 rfl ?_
      refine gh_mald hK d_Md_add_31 h9 1 (by decide) (i := k) (x := (nI (tx.getD k 0))) (by show k < 2048; omega) (ht.2 k (by omega)).1 ?_
      refine gh_bipush (v := nI 47) hK d_Md_add_32 (by decide) ?_
      refine gh_icmp_eqN hK d_Md_add_34 (tgt := 43) (by decide) (by omega) (by decide) (fun z => ?_) (fun z => ?_)
      · rw [sc_no (by simpa using z)] at hs
        subst hs
        exact t43
      refine gh_incN (lv' := [some (.ref (B 0)), some (.int (nI SX)), some (.int (nI (k + 1))), none, none, none, none]) hK d_Md_add_37 rfl rfl ?_
      refine gh_goto (tgt := 18) hK d_Md_add_40 (by decide) ?_
      exact ih (k + 1) (by omega) (by omega) (by rw [← hs]; exact (sc_yes (by omega) (by simpa using z)).symm)
  refine gh_aload_n hK d_Md_add_8 rfl ?_
  refine gh_get (v := .int (nI SX)) hK d_Md_add_9 in_Md rfl h9.1 17 (by decide) kf_Md_76 rfl rfl ?_
  refine gh_istore_n (lv' := [some (.ref (B 0)), some (.int (nI SX)), none, none, none, none, none]) hK d_Md_add_12 (Nat.le_of_ble_eq_true rfl) rfl ?_
  refine gh_aload_n hK d_Md_add_13 rfl ?_
  refine gh_get (v := .int (nI SX)) hK d_Md_add_14 in_Md rfl h9.1 17 (by decide) kf_Md_76 rfl rfl ?_
  refine gh_istore_n (lv' := [some (.ref (B 0)), some (.int (nI SX)), some (.int (nI SX)), none, none, none, none]) hK d_Md_add_17 (Nat.le_of_ble_eq_true rfl) rfl ?_
  exact lpT (EX - SX) SX (by omega) (Nat.le_refl _) hTX.symm
