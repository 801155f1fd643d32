/-! the law's loop -/
theorem SDr.mm {G : GG} {g g' : GH} {A : Nat → Nat} {es : List (Nat × List Nat × Nat)} {us1 us2 : List (Nat × RuR)} {tx : List Nat} {S : List Nat} (h : SDr G g A es us1 us2 tx) (hM : gh_M S g g') (hS : ∀ t, t ∈ SDT → t ∉ S) : SDr G g' A es us1 us2 tx :=
  ⟨h.1.M hM (fun t ht => hS t (by revert t; decide)), h.2.1.M hM (fun t ht => hS t (by revert t; decide)), h.2.2⟩
def LwI (G : GG) (g : GH) (A B : Nat → Nat) (q k n r : Nat) : Prop := ∃ (es : List (Nat × List Nat × Nat)) (us1 us2 : List (Nat × RuR)) (tx : List Nat) (o : List Nat × Nat) (ds : List (List Nat × Nat)) (F : Nat → Nat → Int32) (ls le s e wf wl cd fr tt ap fi en wr mk wd : Nat) (f : Nat → Int64),
  SDr G g A es us1 us2 tx ∧ Pr G g (A 4) (A 5) (A 6) o 0 ∧ Ln g (A 3) (A 1) ls le s e wf wl ∧ Md G g B (mS cd tx.length ds.length fr tt ap fi en wr mk wd) F o ∧ RfI F tx ds es us1 us2 ∧ g q = some (200, .inl (G.2.1 4, 1, .inr (.inl f))) ∧ k + 8 * tx.length ≤ 60 + 129 * r ∧ n + 500 * tx.length ≤ 40000 + 8006 * r
theorem DcA.same {F F' : Nat → Nat → Int32} {ds : List (List Nat × Nat)} (hF : ∀ j, j ≠ 1 → F' j = F j) (h : DcA F ds) : DcA F' ds := h.eq (hF 3 (by decide)) (hF 4 (by decide)) (hF 5 (by decide))
theorem RlA.same {F F' : Nat → Nat → Int32} {b : Nat} {us : List RuR} (hF : ∀ j, j ≠ 1 → F' j = F j) (h : RlA F b us) : RlA F' b us := h.eq (hF 6 (by decide)) (hF 7 (by decide)) (hF 8 (by decide)) (hF 9 (by decide))
theorem vp_updL_s (f : Nat → Int64) (k : Nat) (x : Int64) : vp_updL f k x k = x := by simp [vp_updL]
theorem out_ix {x : Int32} {N : Nat} (h1 : ¬ x < 0) (h2 : ¬ nI N ≤ x) (hN : N < 2 ^ 31) : ∃ j, j < N ∧ x = nI j := by
  obtain ⟨j, hj, rfl⟩ := nI_of h1
  rw [nI_leI hN hj] at h2
  exact ⟨j, Nat.lt_of_not_le h2, rfl⟩
theorem chs4_len (x : Int32) : (chs4 x).length ≤ 4 := List.length_filter_le _ _
set_option maxRecDepth 20000 in
set_option maxHeartbeats 4000000 in
theorem lw_typed (l : Launch) (G : GG) {X : GX} {b L q k n r : Nat} {xs : Nat → Int32} {A B : Nat → Nat} {g : GH} {v5 v6 : Option Value} (hfl : l.flags = pinnedFlags ++ [noTraceFlag]) (hK : gh_K G X code 7 "SpellDeskLaw") (hS : gh_SX X b L xs) (hJ : gh_JX X) (hL : L ≤ 2560) (hr : 5 * r + 5 ≤ L) (hI : LwI G g A B q k n r) (next : ∀ (g' : GH) (k' n' : Nat) (v5 v6 : Option Value), LwI G g' A B q k' n' (r + 1) → gh_W l G room_1 X g' k' n' [some (.ref b), some (.ref (A 0)), some (.ref (B 0)), some (.ref q), some (.int (nI (5 * r))), v5, v6] 333 []) : gh_W l G room_1 X g k n [some (.ref b), some (.ref (A 0)), some (.ref (B 0)), some (.ref q), some (.int (nI (5 * r))), v5, v6] 160 [] := by
  obtain ⟨es, us1, us2, tx, o, ds, F, ls, le, s, e, wf, wl, cd, fr, tt, ap, fi, en, wr, mk, wd, f, h, hP, hLn, hM, hR, hq, b1, b2⟩ := hI
  have htl := h.2.1.2.2.2.len
  refine gh_aload_n hK d_law_160 rfl ?_
  refine gh_callV (rest := []) [] hK (c_SD_typed l G h) Y_SD_typed V_SD_typed km_Lw_35 h.1.1 rfl rfl d_law_161 rfl rfl (Nat.le_of_ble_eq_true rfl) ⟨(Nat.le_of_ble_eq_true rfl), (Nat.le_of_ble_eq_true rfl)⟩ ⟨show k + 0 ≤ 601024 by omega, show n + 0 ≤ 7293034 by omega⟩ (fun v g' hp => ?_)
  rw [hp.1, hp.2]
  show gh_W l G _ X g k n [some (.ref b), some (.ref (A 0)), some (.ref (B 0)), some (.ref q), some (.int (nI (5 * r))), v5, v6] 164 [.int (nI tx.length)]
  refine gh_aload_n hK d_law_164 rfl ?_
  refine gh_callV (rest := [.int (nI tx.length)]) [] hK (c_Md_typed l G hM) Y_Md_typed V_Md_typed km_Lw_38 hM.1 rfl rfl d_law_165 rfl rfl (Nat.le_of_ble_eq_true rfl) ⟨(Nat.le_of_ble_eq_true rfl), (Nat.le_of_ble_eq_true rfl)⟩ ⟨show k + 0 ≤ 601024 by omega, show n + 0 ≤ 7293034 by omega⟩ (fun v g1 hp => ?_)
  obtain ⟨rfl, hM1, m1⟩ := hp
  show gh_W l G _ X g1 k n [some (.ref b), some (.ref (A 0)), some (.ref (B 0)), some (.ref q), some (.int (nI (5 * r))), v5, v6] 168 [.int (nI tx.length), .int (nI tx.length)]
  refine gh_icmp_eq hK d_law_168 (tgt := 333) (by decide) (fun _ => next _ _ _ _ _ ⟨es, us1, us2, tx, o, ds, F, ls, le, s, e, wf, wl, 0, fr, tt, ap, fi, en, wr, mk, wd, f, h.mm m1 (by decide), hP.M m1 (by decide) (by decide) (by decide), hLn.M m1 (by decide), hM1, hR, m1 q 200 _ hq (by decide), by omega, by omega⟩) (fun z => absurd rfl z)
set_option maxRecDepth 20000 in
set_option maxHeartbeats 4000000 in
theorem lw_size (l : Launch) (G : GG) {X : GX} {b L q k n r : Nat} {xs : Nat → Int32} {A B : Nat → Nat} {g : GH} {v5 v6 : Option Value} (hfl : l.flags = pinnedFlags ++ [noTraceFlag]) (hK : gh_K G X code 7 "SpellDeskLaw") (hS : gh_SX X b L xs) (hJ : gh_JX X) (hL : L ≤ 2560) (hr : 5 * r + 5 ≤ L) (hI : LwI G g A B q k n r) (next : ∀ (g' : GH) (k' n' : Nat) (v5 v6 : Option Value), LwI G g' A B q k' n' (r + 1) → gh_W l G room_1 X g' k' n' [some (.ref b), some (.ref (A 0)), some (.ref (B 0)), some (.ref q), some (.int (nI (5 * r))), v5, v6] 333 []) : gh_W l G room_1 X g k n [some (.ref b), some (.ref (A 0)), some (.ref (B 0)), some (.ref q), some (.int (nI (5 * r))), v5, v6] 186 [] := by
  obtain ⟨es, us1, us2, tx, o, ds, F, ls, le, s, e, wf, wl, cd, fr, tt, ap, fi, en, wr, mk, wd, f, h, hP, hLn, hM, hR, hq, b1, b2⟩ := hI
  have htl := h.2.1.2.2.2.len
  refine gh_aload_n hK d_law_186 rfl ?_
  refine gh_callV (rest := []) [] hK (c_SD_size l G h hP) Y_SD_size V_SD_size km_Lw_43 h.1.1 rfl rfl d_law_187 rfl rfl (Nat.le_of_ble_eq_true rfl) ⟨(Nat.le_of_ble_eq_true rfl), (Nat.le_of_ble_eq_true rfl)⟩ ⟨show k + 0 ≤ 601024 by omega, show n + 0 ≤ 7293034 by omega⟩ (fun v g' hp => ?_)
  rw [hp.1, hp.2]
  show gh_W l G _ X g k n [some (.ref b), some (.ref (A 0)), some (.ref (B 0)), some (.ref q), some (.int (nI (5 * r))), v5, v6] 190 [.int (nI o.1.length)]
  refine gh_aload_n hK d_law_190 rfl ?_
  refine gh_callV (rest := [.int (nI o.1.length)]) [] hK (c_Md_size l G hM) Y_Md_size V_Md_size km_Lw_46 hM.1 rfl rfl d_law_191 rfl rfl (Nat.le_of_ble_eq_true rfl) ⟨(Nat.le_of_ble_eq_true rfl), (Nat.le_of_ble_eq_true rfl)⟩ ⟨show k + 0 ≤ 601024 by omega, show n + 0 ≤ 7293034 by omega⟩ (fun v g1 hp => ?_)
  obtain ⟨rfl, hM1, m1⟩ := hp
  show gh_W l G _ X g1 k n [some (.ref b), some (.ref (A 0)), some (.ref (B 0)), some (.ref q), some (.int (nI (5 * r))), v5, v6] 194 [.int (nI o.1.length), .int (nI o.1.length)]
  refine gh_icmp_eq hK d_law_194 (tgt := 333) (by decide) (fun _ => next _ _ _ _ _ ⟨es, us1, us2, tx, o, ds, F, ls, le, s, e, wf, wl, 0, fr, tt, ap, fi, en, wr, mk, wd, f, h.mm m1 (by decide), hP.M m1 (by decide) (by decide) (by decide), hLn.M m1 (by decide), hM1, hR, m1 q 200 _ hq (by decide), by omega, by omega⟩) (fun z => absurd rfl z)
set_option maxRecDepth 20000 in
set_option maxHeartbeats 4000000 in
theorem lw_lost (l : Launch) (G : GG) {X : GX} {b L q k n r : Nat} {xs : Nat → Int32} {A B : Nat → Nat} {g : GH} {v5 v6 : Option Value} (hfl : l.flags = pinnedFlags ++ [noTraceFlag]) (hK : gh_K G X code 7 "SpellDeskLaw") (hS : gh_SX X b L xs) (hJ : gh_JX X) (hL : L ≤ 2560) (hr : 5 * r + 5 ≤ L) (hI : LwI G g A B q k n r) (next : ∀ (g' : GH) (k' n' : Nat) (v5 v6 : Option Value), LwI G g' A B q k' n' (r + 1) → gh_W l G room_1 X g' k' n' [some (.ref b), some (.ref (A 0)), some (.ref (B 0)), some (.ref q), some (.int (nI (5 * r))), v5, v6] 333 []) : gh_W l G room_1 X g k n [some (.ref b), some (.ref (A 0)), some (.ref (B 0)), some (.ref q), some (.int (nI (5 * r))), v5, v6] 255 [] := by
  obtain ⟨es, us1, us2, tx, o, ds, F, ls, le, s, e, wf, wl, cd, fr, tt, ap, fi, en, wr, mk, wd, f, h, hP, hLn, hM, hR, hq, b1, b2⟩ := hI
  have htl := h.2.1.2.2.2.len
  refine gh_aload_n hK d_law_255 rfl ?_
  refine gh_callV (rest := []) [] hK (c_SD_lost l G h hP) Y_SD_lost V_SD_lost km_Lw_51 h.1.1 rfl rfl d_law_256 rfl rfl (Nat.le_of_ble_eq_true rfl) ⟨(Nat.le_of_ble_eq_true rfl), (Nat.le_of_ble_eq_true rfl)⟩ ⟨show k + 0 ≤ 601024 by omega, show n + 0 ≤ 7293034 by omega⟩ (fun v g' hp => ?_)
  rw [hp.1, hp.2]
  show gh_W l G _ X g k n [some (.ref b), some (.ref (A 0)), some (.ref (B 0)), some (.ref q), some (.int (nI (5 * r))), v5, v6] 259 [.int (nI o.2)]
  refine gh_aload_n hK d_law_259 rfl ?_
  refine gh_callV (rest := [.int (nI o.2)]) [] hK (c_Md_lost l G hM) Y_Md_lost V_Md_lost km_Lw_54 hM.1 rfl rfl d_law_260 rfl rfl (Nat.le_of_ble_eq_true rfl) ⟨(Nat.le_of_ble_eq_true rfl), (Nat.le_of_ble_eq_true rfl)⟩ ⟨show k + 0 ≤ 601024 by omega, show n + 0 ≤ 7293034 by omega⟩ (fun v g1 hp => ?_)
  obtain ⟨rfl, hM1, m1⟩ := hp
  show gh_W l G _ X g1 k n [some (.ref b), some (.ref (A 0)), some (.ref (B 0)), some (.ref q), some (.int (nI (5 * r))), v5, v6] 263 [.int (nI o.2), .int (nI o.2)]
  refine gh_icmp_eq hK d_law_263 (tgt := 333) (by decide) (fun _ => next _ _ _ _ _ ⟨es, us1, us2, tx, o, ds, F, ls, le, s, e, wf, wl, 0, fr, tt, ap, fi, en, wr, mk, wd, f, h.mm m1 (by decide), hP.M m1 (by decide) (by decide) (by decide), hLn.M m1 (by decide), hM1, hR, m1 q 200 _ hq (by decide), by omega, by omega⟩) (fun z => absurd rfl z)
set_option maxRecDepth 20000 in
set_option maxHeartbeats 4000000 in
theorem lw_entries (l : Launch) (G : GG) {X : GX} {b L q k n r : Nat} {xs : Nat → Int32} {A B : Nat → Nat} {g : GH} {v5 v6 : Option Value} (hfl : l.flags = pinnedFlags ++ [noTraceFlag]) (hK : gh_K G X code 7 "SpellDeskLaw") (hS : gh_SX X b L xs) (hJ : gh_JX X) (hL : L ≤ 2560) (hr : 5 * r + 5 ≤ L) (hI : LwI G g A B q k n r) (next : ∀ (g' : GH) (k' n' : Nat) (v5 v6 : Option Value), LwI G g' A B q k' n' (r + 1) → gh_W l G room_1 X g' k' n' [some (.ref b), some (.ref (A 0)), some (.ref (B 0)), some (.ref q), some (.int (nI (5 * r))), v5, v6] 333 []) : gh_W l G room_1 X g k n [some (.ref b), some (.ref (A 0)), some (.ref (B 0)), some (.ref q), some (.int (nI (5 * r))), v5, v6] 279 [] := by
  obtain ⟨es, us1, us2, tx, o, ds, F, ls, le, s, e, wf, wl, cd, fr, tt, ap, fi, en, wr, mk, wd, f, h, hP, hLn, hM, hR, hq, b1, b2⟩ := hI
  have htl := h.2.1.2.2.2.len
  refine gh_aload_n hK d_law_279 rfl ?_
  refine gh_callV (rest := []) [] hK (c_SD_entries l G h) Y_SD_entries V_SD_entries km_Lw_59 h.1.1 rfl rfl d_law_280 rfl rfl (Nat.le_of_ble_eq_true rfl) ⟨(Nat.le_of_ble_eq_true rfl), (Nat.le_of_ble_eq_true rfl)⟩ ⟨show k + 0 ≤ 601024 by omega, show n + 0 ≤ 7293034 by omega⟩ (fun v g' hp => ?_)
  rw [hp.1, hp.2]
  show gh_W l G _ X g k n [some (.ref b), some (.ref (A 0)), some (.ref (B 0)), some (.ref q), some (.int (nI (5 * r))), v5, v6] 283 [.int (nI es.length)]
  refine gh_aload_n hK d_law_283 rfl ?_
  refine gh_callV (rest := [.int (nI es.length)]) [] hK (c_Md_entries l G hM) Y_Md_entries V_Md_entries km_Lw_62 hM.1 rfl rfl d_law_284 rfl rfl (Nat.le_of_ble_eq_true rfl) ⟨(Nat.le_of_ble_eq_true rfl), (Nat.le_of_ble_eq_true rfl)⟩ ⟨show k + 0 ≤ 601024 by omega, show n + 0 ≤ 7293034 by omega⟩ (fun v g1 hp => ?_)
  obtain ⟨rfl, hM1, m1⟩ := hp
  show gh_W l G _ X g1 k n [some (.ref b), some (.ref (A 0)), some (.ref (B 0)), some (.ref q), some (.int (nI (5 * r))), v5, v6] 287 [.int (nI ds.length), .int (nI es.length)]
  have hle : es.length = ds.length := by
    have z := hR.2.2.1.length_eq
    unfold es2 at z
    rw [List.length_map] at z
    exact z.symm
  refine gh_icmp_eq hK d_law_287 (tgt := 333) (by decide) (fun _ => next _ _ _ _ _ ⟨es, us1, us2, tx, o, ds, F, ls, le, s, e, wf, wl, 0, fr, tt, ap, fi, en, wr, mk, wd, f, h.mm m1 (by decide), hP.M m1 (by decide) (by decide) (by decide), hLn.M m1 (by decide), hM1, hR, m1 q 200 _ hq (by decide), by omega, by omega⟩) (fun z => absurd (by rw [hle]) z)
set_option maxRecDepth 20000 in
set_option maxHeartbeats 4000000 in
theorem lw_wipe (l : Launch) (G : GG) {X : GX} {b L q k n r : Nat} {xs : Nat → Int32} {A B : Nat → Nat} {g : GH} {v5 v6 : Option Value} (hfl : l.flags = pinnedFlags ++ [noTraceFlag]) (hK : gh_K G X code 7 "SpellDeskLaw") (hS : gh_SX X b L xs) (hJ : gh_JX X) (hL : L ≤ 2560) (hr : 5 * r + 5 ≤ L) (hI : LwI G g A B q k n r) (next : ∀ (g' : GH) (k' n' : Nat) (v5 v6 : Option Value), LwI G g' A B q k' n' (r + 1) → gh_W l G room_1 X g' k' n' [some (.ref b), some (.ref (A 0)), some (.ref (B 0)), some (.ref q), some (.int (nI (5 * r))), v5, v6] 333 []) : gh_W l G room_1 X g k n [some (.ref b), some (.ref (A 0)), some (.ref (B 0)), some (.ref q), some (.int (nI (5 * r))), v5, v6] 268 [] := by
  obtain ⟨es, us1, us2, tx, o, ds, F, ls, le, s, e, wf, wl, cd, fr, tt, ap, fi, en, wr, mk, wd, f, h, hP, hLn, hM, hR, hq, b1, b2⟩ := hI
  have htl := h.2.1.2.2.2.len
  refine gh_aload_n hK d_law_268 rfl ?_
  refine gh_callV (rest := []) [] hK (c_SD_wipe l G h hP) Y_SD_wipe V_SD_wipe km_Lw_55 h.1.1 rfl rfl d_law_269 rfl rfl (Nat.le_of_ble_eq_true rfl) ⟨(Nat.le_of_ble_eq_true rfl), (Nat.le_of_ble_eq_true rfl)⟩ ⟨show k + 0 ≤ 601024 by omega, show n + 0 ≤ 7293034 by omega⟩ (fun v g1 hp => ?_)
  obtain ⟨rfl, h1, hP1, m1⟩ := hp
  show gh_W l G _ X g1 k n [some (.ref b), some (.ref (A 0)), some (.ref (B 0)), some (.ref q), some (.int (nI (5 * r))), v5, v6] 272 []
  have hM1 := hM.M m1 (by decide)
  have hLn1 := hLn.M m1 (by decide)
  have hq1 := m1 q 200 _ hq (by decide)
  refine gh_aload_n hK d_law_272 rfl ?_
  refine gh_callV (rest := []) [] hK (c_Md_wipe l G hM1) Y_Md_wipe V_Md_wipe km_Lw_58 hM1.1 rfl rfl d_law_273 rfl rfl (Nat.le_of_ble_eq_true rfl) ⟨(Nat.le_of_ble_eq_true rfl), (Nat.le_of_ble_eq_true rfl)⟩ ⟨show k + 0 ≤ 601024 by omega, show n + 0 ≤ 7293034 by omega⟩ (fun v g2 hp => ?_)
  obtain ⟨rfl, hM2, m2⟩ := hp
  show gh_W l G _ X g2 k n [some (.ref b), some (.ref (A 0)), some (.ref (B 0)), some (.ref q), some (.int (nI (5 * r))), v5, v6] 276 []
  refine gh_goto (tgt := 333) hK d_law_276 (by decide) ?_
  exact next _ _ _ _ _ ⟨es, us1, us2, tx, ([], 0), ds, F, ls, le, s, e, wf, wl, 0, fr, tt, ap, fi, en, wr, mk, wd, f, h1.mm m2 (by decide), hP1.M m2 (by decide) (by decide) (by decide), hLn1.M m2 (by decide), hM2, hR, m2 q 200 _ hq1 (by decide), by omega, by omega⟩
set_option maxRecDepth 20000 in
set_option maxHeartbeats 4000000 in
theorem lw_run (l : Launch) (G : GG) {X : GX} {b L q k n r : Nat} {xs : Nat → Int32} {A B : Nat → Nat} {g : GH} {v5 v6 : Option Value} (hfl : l.flags = pinnedFlags ++ [noTraceFlag]) (hK : gh_K G X code 7 "SpellDeskLaw") (hS : gh_SX X b L xs) (hJ : gh_JX X) (hL : L ≤ 2560) (hr : 5 * r + 5 ≤ L) (hI : LwI G g A B q k n r) (next : ∀ (g' : GH) (k' n' : Nat) (v5 v6 : Option Value), LwI G g' A B q k' n' (r + 1) → gh_W l G room_1 X g' k' n' [some (.ref b), some (.ref (A 0)), some (.ref (B 0)), some (.ref q), some (.int (nI (5 * r))), v5, v6] 333 []) : gh_W l G room_1 X g k n [some (.ref b), some (.ref (A 0)), some (.ref (B 0)), some (.ref q), some (.int (nI (5 * r))), v5, v6] 173 [] := by
  obtain ⟨es, us1, us2, tx, o, ds, F, ls, le, s, e, wf, wl, cd, fr, tt, ap, fi, en, wr, mk, wd, f, h, hP, hLn, hM, hR, hq, b1, b2⟩ := hI
  have htl := h.2.1.2.2.2.len
  refine gh_aload_n hK d_law_173 rfl ?_
  refine gh_callV (rest := []) [] hK (c_SD_run l G h hP hLn) Y_SD_run V_SD_run km_Lw_39 h.1.1 rfl rfl d_law_174 rfl rfl (Nat.le_of_ble_eq_true rfl) ⟨(Nat.le_of_ble_eq_true rfl), (Nat.le_of_ble_eq_true rfl)⟩ ⟨show k + 8 * tx.length ≤ 601024 by omega, show n + 500 * tx.length ≤ 7293034 by omega⟩ (fun v g1 hp => ?_)
  obtain ⟨rfl, t, hrn, h1, hP1, ⟨ls1, le1, s1, e1, wf1, wl1, hLn1⟩, m1⟩ := hp
  show gh_W l G _ X g1 (k + 8 * tx.length) (n + 500 * tx.length) [some (.ref b), some (.ref (A 0)), some (.ref (B 0)), some (.ref q), some (.int (nI (5 * r))), v5, v6] 177 [.int (nI ((lnsG tx tx.length 0 0).length))]
  have hM1 := hM.M m1 (by decide)
  have hq1 := m1 q 200 _ hq (by decide)
  refine gh_aload_n hK d_law_177 rfl ?_
  refine gh_callV (rest := [.int (nI ((lnsG tx tx.length 0 0).length))]) [] hK (c_Md_run l G hM1 hR hrn) Y_Md_run V_Md_run km_Lw_42 hM1.1 rfl rfl d_law_178 rfl rfl (Nat.le_of_ble_eq_true rfl) ⟨(Nat.le_of_ble_eq_true rfl), (Nat.le_of_ble_eq_true rfl)⟩ ⟨show k + 8 * tx.length + 0 ≤ 601024 by omega, show n + 500 * tx.length + 0 ≤ 7293034 by omega⟩ (fun v g2 hp => ?_)
  obtain ⟨rfl, fr', tt', ap', fi', en', wr', mk', wd', F', ds', hM2, hR2, m2⟩ := hp
  show gh_W l G _ X g2 (k + 8 * tx.length) (n + 500 * tx.length) [some (.ref b), some (.ref (A 0)), some (.ref (B 0)), some (.ref q), some (.int (nI (5 * r))), v5, v6] 181 [.int (nI ((lnsG tx tx.length 0 0).length)), .int (nI ((lnsG tx tx.length 0 0).length))]
  refine gh_icmp_eq hK d_law_181 (tgt := 333) (by decide) (fun _ => next _ _ _ _ _ ⟨t.1, t.2.1, t.2.2.1, [], t.2.2.2, ds', F', ls1, le1, s1, e1, wf1, wl1, 0, fr', tt', ap', fi', en', wr', mk', wd', f, h1.mm m2 (by decide), hP1.M m2 (by decide) (by decide) (by decide), hLn1.M m2 (by decide), hM2, hR2, m2 q 200 _ hq1 (by decide), by show k + 8 * tx.length + 8 * 0 ≤ _; omega, by show n + 500 * tx.length + 500 * 0 ≤ _; omega⟩) (fun z => absurd rfl z)
set_option maxRecDepth 20000 in
set_option maxHeartbeats 4000000 in
theorem lw_rules (l : Launch) (G : GG) {X : GX} {b L q k n r : Nat} {xs : Nat → Int32} {A B : Nat → Nat} {g : GH} {v5 v6 : Option Value} (hfl : l.flags = pinnedFlags ++ [noTraceFlag]) (hK : gh_K G X code 7 "SpellDeskLaw") (hS : gh_SX X b L xs) (hJ : gh_JX X) (hL : L ≤ 2560) (hr : 5 * r + 5 ≤ L) (hI : LwI G g A B q k n r) (next : ∀ (g' : GH) (k' n' : Nat) (v5 v6 : Option Value), LwI G g' A B q k' n' (r + 1) → gh_W l G room_1 X g' k' n' [some (.ref b), some (.ref (A 0)), some (.ref (B 0)), some (.ref q), some (.int (nI (5 * r))), v5, v6] 333 []) : gh_W l G room_1 X g k n [some (.ref b), some (.ref (A 0)), some (.ref (B 0)), some (.ref q), some (.int (nI (5 * r))), v5, v6] 292 [] := by
  obtain ⟨es, us1, us2, tx, o, ds, F, ls, le, s, e, wf, wl, cd, fr, tt, ap, fi, en, wr, mk, wd, f, h, hP, hLn, hM, hR, hq, b1, b2⟩ := hI
  have htl := h.2.1.2.2.2.len
  refine gh_aload_n hK d_law_292 rfl ?_
  refine gh_aload_n hK d_law_293 rfl ?_
  refine gh_iload hK d_law_294 rfl ?_
  refine gh_iconst (v := nI 1) hK d_law_296 (by decide) ?_
  refine gh_addN hK d_law_297 ?_
  refine gh_sld hK hS d_law_298 (by omega) (by omega) ?_
  have e1 : us1.length = (rs2 us1).length := by unfold rs2; rw [List.length_map]
  have e2 : us2.length = (rs2 us2).length := by unfold rs2; rw [List.length_map]
  refine gh_if_eq hK d_law_299 (tgt := 306) (by decide) (fun z => ?_) (fun z => ?_)
  · refine gh_iconst (v := nI 0) hK d_law_306 (by decide) ?_
    refine gh_callV (rest := []) [.int (nI 0)] hK (c_SD_rules l G h (b := false)) Y_SD_rules V_SD_rules km_Lw_63 h.1.1 rfl rfl d_law_307 rfl rfl (Nat.le_of_ble_eq_true rfl) ⟨(Nat.le_of_ble_eq_true rfl), (Nat.le_of_ble_eq_true rfl)⟩ ⟨show k + 0 ≤ 601024 by omega, show n + 0 ≤ 7293034 by omega⟩ (fun v g' hp => ?_)
    rw [hp.1, hp.2]
    show gh_W l G _ X g k n [some (.ref b), some (.ref (A 0)), some (.ref (B 0)), some (.ref q), some (.int (nI (5 * r))), v5, v6] 310 [.int (nI us2.length)]
    refine gh_aload_n hK d_law_310 rfl ?_
    refine gh_aload_n hK d_law_311 rfl ?_
    refine gh_iload hK d_law_312 rfl ?_
    refine gh_iconst (v := nI 1) hK d_law_314 (by decide) ?_
    refine gh_addN hK d_law_315 ?_
    refine gh_sld hK hS d_law_316 (by omega) (by omega) ?_
    refine gh_if_eq hK d_law_317 (tgt := 324) (by decide) (fun _ => ?_) (fun z2 => absurd z z2)
    refine gh_iconst (v := nI 0) hK d_law_324 (by decide) ?_
    refine gh_callV (rest := [.int (nI us2.length)]) [.int (nI 0)] hK (c_Md_rules l G hM (b := false) (n1 := (rs2 us1).length) (n2 := (rs2 us2).length) hR.2.2.2.1.2.1 hR.2.2.2.2.2.1) Y_Md_rules V_Md_rules km_Lw_67 hM.1 rfl rfl d_law_325 rfl rfl (Nat.le_of_ble_eq_true rfl) ⟨(Nat.le_of_ble_eq_true rfl), (Nat.le_of_ble_eq_true rfl)⟩ ⟨show k + 0 ≤ 601024 by omega, show n + 0 ≤ 7293034 by omega⟩ (fun v g1 hp => ?_)
    obtain ⟨rfl, hM1, m1⟩ := hp
    show gh_W l G _ X g1 k n [some (.ref b), some (.ref (A 0)), some (.ref (B 0)), some (.ref q), some (.int (nI (5 * r))), v5, v6] 328 [.int (nI ((rs2 us2).length)), .int (nI us2.length)]
    refine gh_icmp_eq hK d_law_328 (tgt := 333) (by decide) (fun _ => next _ _ _ _ _ ⟨es, us1, us2, tx, o, ds, F, ls, le, s, e, wf, wl, 0, fr, tt, ap, fi, en, wr, mk, wd, f, h.mm m1 (by decide), hP.M m1 (by decide) (by decide) (by decide), hLn.M m1 (by decide), hM1, hR, m1 q 200 _ hq (by decide), by omega, by omega⟩) (fun z => absurd (by rw [e2]) z)
  · refine gh_iconst (v := nI 1) hK d_law_302 (by decide) ?_
    refine gh_goto (tgt := 307) hK d_law_303 (by decide) ?_
    refine gh_callV (rest := []) [.int (nI 1)] hK (c_SD_rules l G h (b := true)) Y_SD_rules V_SD_rules km_Lw_63 h.1.1 rfl rfl d_law_307 rfl rfl (Nat.le_of_ble_eq_true rfl) ⟨(Nat.le_of_ble_eq_true rfl), (Nat.le_of_ble_eq_true rfl)⟩ ⟨show k + 0 ≤ 601024 by omega, show n + 0 ≤ 7293034 by omega⟩ (fun v g' hp => ?_)
    rw [hp.1, hp.2]
    show gh_W l G _ X g k n [some (.ref b), some (.ref (A 0)), some (.ref (B 0)), some (.ref q), some (.int (nI (5 * r))), v5, v6] 310 [.int (nI us1.length)]
    refine gh_aload_n hK d_law_310 rfl ?_
    refine gh_aload_n hK d_law_311 rfl ?_
    refine gh_iload hK d_law_312 rfl ?_
    refine gh_iconst (v := nI 1) hK d_law_314 (by decide) ?_
    refine gh_addN hK d_law_315 ?_
    refine gh_sld hK hS d_law_316 (by omega) (by omega) ?_
    refine gh_if_eq hK d_law_317 (tgt := 324) (by decide) (fun z2 => absurd z2 z) (fun _ => ?_)
    refine gh_iconst (v := nI 1) hK d_law_320 (by decide) ?_
    refine gh_goto (tgt := 325) hK d_law_321 (by decide) ?_
    refine gh_callV (rest := [.int (nI us1.length)]) [.int (nI 1)] hK (c_Md_rules l G hM (b := true) (n1 := (rs2 us1).length) (n2 := (rs2 us2).length) hR.2.2.2.1.2.1 hR.2.2.2.2.2.1) Y_Md_rules V_Md_rules km_Lw_67 hM.1 rfl rfl d_law_325 rfl rfl (Nat.le_of_ble_eq_true rfl) ⟨(Nat.le_of_ble_eq_true rfl), (Nat.le_of_ble_eq_true rfl)⟩ ⟨show k + 0 ≤ 601024 by omega, show n + 0 ≤ 7293034 by omega⟩ (fun v g1 hp => ?_)
    obtain ⟨rfl, hM1, m1⟩ := hp
    show gh_W l G _ X g1 k n [some (.ref b), some (.ref (A 0)), some (.ref (B 0)), some (.ref q), some (.int (nI (5 * r))), v5, v6] 328 [.int (nI ((rs2 us1).length)), .int (nI us1.length)]
    refine gh_icmp_eq hK d_law_328 (tgt := 333) (by decide) (fun _ => next _ _ _ _ _ ⟨es, us1, us2, tx, o, ds, F, ls, le, s, e, wf, wl, 0, fr, tt, ap, fi, en, wr, mk, wd, f, h.mm m1 (by decide), hP.M m1 (by decide) (by decide) (by decide), hLn.M m1 (by decide), hM1, hR, m1 q 200 _ hq (by decide), by omega, by omega⟩) (fun z => absurd (by rw [e1]) z)
set_option maxRecDepth 20000 in
set_option maxHeartbeats 4000000 in
theorem lw_type (l : Launch) (G : GG) {X : GX} {b L q k n r : Nat} {xs : Nat → Int32} {A B : Nat → Nat} {g : GH} {v5 v6 : Option Value} (hfl : l.flags = pinnedFlags ++ [noTraceFlag]) (hK : gh_K G X code 7 "SpellDeskLaw") (hS : gh_SX X b L xs) (hJ : gh_JX X) (hL : L ≤ 2560) (hr : 5 * r + 5 ≤ L) (hI : LwI G g A B q k n r) (next : ∀ (g' : GH) (k' n' : Nat) (v5 v6 : Option Value), LwI G g' A B q k' n' (r + 1) → gh_W l G room_1 X g' k' n' [some (.ref b), some (.ref (A 0)), some (.ref (B 0)), some (.ref q), some (.int (nI (5 * r))), v5, v6] 333 []) : gh_W l G room_1 X g k n [some (.ref b), some (.ref (A 0)), some (.ref (B 0)), some (.ref q), some (.int (nI (5 * r))), v5, v6] 88 [] := by
  obtain ⟨es, us1, us2, tx, o, ds, F, ls, le, s, e, wf, wl, cd, fr, tt, ap, fi, en, wr, mk, wd, f, h, hP, hLn, hM, hR, hq, b1, b2⟩ := hI
  have htl := h.2.1.2.2.2.len
  refine gh_aload_n hK d_law_88 rfl ?_
  refine gh_aload_n hK d_law_89 rfl ?_
  refine gh_iload hK d_law_90 rfl ?_
  refine gh_iconst (v := nI 1) hK d_law_92 (by decide) ?_
  refine gh_addN hK d_law_93 ?_
  refine gh_sld hK hS d_law_94 (by omega) (by omega) ?_
  refine gh_aload_n hK d_law_95 rfl ?_
  refine gh_iload hK d_law_96 rfl ?_
  refine gh_iconst (v := nI 2) hK d_law_98 (by decide) ?_
  refine gh_addN hK d_law_99 ?_
  refine gh_sld hK hS d_law_100 (by omega) (by omega) ?_
  refine gh_aload_n hK d_law_101 rfl ?_
  refine gh_iload hK d_law_102 rfl ?_
  refine gh_iconst (v := nI 3) hK d_law_104 (by decide) ?_
  refine gh_addN hK d_law_105 ?_
  refine gh_sld hK hS d_law_106 (by omega) (by omega) ?_
  refine gh_aload_n hK d_law_107 rfl ?_
  refine gh_iload hK d_law_108 rfl ?_
  refine gh_iconst (v := nI 4) hK d_law_110 (by decide) ?_
  refine gh_addN hK d_law_111 ?_
  refine gh_sld hK hS d_law_112 (by omega) (by omega) ?_
  have hc16 : (chL (xs ((5 * r) + 1)) (xs ((5 * r) + 2)) (xs ((5 * r) + 3)) (xs ((5 * r) + 4)) 16).length = (chs4 (xs ((5 * r) + 1))).length + (chs4 (xs ((5 * r) + 2))).length + (chs4 (xs ((5 * r) + 3))).length + (chs4 (xs ((5 * r) + 4))).length := by rw [chL_16]; simp only [List.length_append]; omega
  have := chs4_len (xs ((5 * r) + 1))
  have := chs4_len (xs ((5 * r) + 2))
  have := chs4_len (xs ((5 * r) + 3))
  have := chs4_len (xs ((5 * r) + 4))
  by_cases hx : tx.length + ((chs4 (xs ((5 * r) + 1))).length + (chs4 (xs ((5 * r) + 2))).length + (chs4 (xs ((5 * r) + 3))).length + (chs4 (xs ((5 * r) + 4))).length) ≤ 2048
  · refine gh_callSW (rest := []) [.ref (A 0), .int (xs ((5 * r) + 1)), .int (xs ((5 * r) + 2)), .int (xs ((5 * r) + 3)), .int (xs ((5 * r) + 4))] hK hJ (c_Lw_typeY l G h hx) Yw_Lw_type Yi_Lw (na := 5) (by decide +kernel) (by decide +kernel) V_Lw_type km_Lw_25 rfl d_law_113 rfl rfl (Nat.le_of_ble_eq_true rfl) ⟨(Nat.le_of_ble_eq_true rfl), (Nat.le_of_ble_eq_true rfl)⟩ ⟨show k + 0 ≤ 601024 by omega, show n + 0 ≤ 7293034 by omega⟩ (fun v g1 hp => ?_)
    obtain ⟨rfl, h1, m1⟩ := hp
    show gh_W l G _ X g1 k n [some (.ref b), some (.ref (A 0)), some (.ref (B 0)), some (.ref q), some (.int (nI (5 * r))), v5, v6] 116 [.int (nI 0)]
    have hM1 := hM.M m1 (by decide)
    have hq1 := m1 q 200 _ hq (by decide)
    have hP1 := hP.M m1 (by decide) (by decide) (by decide)
    have hLn1 := hLn.M m1 (by decide)
    refine gh_istore (lv' := [some (.ref b), some (.ref (A 0)), some (.ref (B 0)), some (.ref q), some (.int (nI (5 * r))), some (.int (nI 0)), v6]) hK d_law_116 (Nat.le_of_ble_eq_true rfl) rfl ?_
    refine gh_aload_n hK d_law_118 rfl ?_
    refine gh_aload_n hK d_law_119 rfl ?_
    refine gh_iload hK d_law_120 rfl ?_
    refine gh_iconst (v := nI 1) hK d_law_122 (by decide) ?_
    refine gh_addN hK d_law_123 ?_
    refine gh_sld hK hS d_law_124 (by omega) (by omega) ?_
    refine gh_aload_n hK d_law_125 rfl ?_
    refine gh_iload hK d_law_126 rfl ?_
    refine gh_iconst (v := nI 2) hK d_law_128 (by decide) ?_
    refine gh_addN hK d_law_129 ?_
    refine gh_sld hK hS d_law_130 (by omega) (by omega) ?_
    refine gh_aload_n hK d_law_131 rfl ?_
    refine gh_iload hK d_law_132 rfl ?_
    refine gh_iconst (v := nI 3) hK d_law_134 (by decide) ?_
    refine gh_addN hK d_law_135 ?_
    refine gh_sld hK hS d_law_136 (by omega) (by omega) ?_
    refine gh_aload_n hK d_law_137 rfl ?_
    refine gh_iload hK d_law_138 rfl ?_
    refine gh_iconst (v := nI 4) hK d_law_140 (by decide) ?_
    refine gh_addN hK d_law_141 ?_
    refine gh_sld hK hS d_law_142 (by omega) (by omega) ?_
    refine gh_callV (rest := []) [.int (xs ((5 * r) + 1)), .int (xs ((5 * r) + 2)), .int (xs ((5 * r) + 3)), .int (xs ((5 * r) + 4))] hK (c_Md_type l G hM1 hR.1) Y_Md_type V_Md_type km_Lw_30 hM1.1 rfl rfl d_law_143 rfl rfl (Nat.le_of_ble_eq_true rfl) ⟨(Nat.le_of_ble_eq_true rfl), (Nat.le_of_ble_eq_true rfl)⟩ ⟨show k + 0 ≤ 601024 by omega, show n + 0 ≤ 7293034 by omega⟩ (fun v g2 hp => ?_)
    obtain ⟨rfl, F', hif, hF, m2⟩ := hp
    show gh_W l G _ X g2 k n [some (.ref b), some (.ref (A 0)), some (.ref (B 0)), some (.ref q), some (.int (nI (5 * r))), some (.int (nI 0)), v6] 146 []
    rw [if_pos (by rw [hc16]; exact hx)] at hif
    obtain ⟨hM2, hT2⟩ := hif
    rw [chL_16] at hM2 hT2
    refine gh_aload_n hK d_law_146 rfl ?_
    refine gh_callV (rest := []) [] hK (c_Md_thrown l G hM2) Y_Md_thrown V_Md_thrown km_Lw_31 hM2.1 rfl rfl d_law_147 rfl rfl (Nat.le_of_ble_eq_true rfl) ⟨(Nat.le_of_ble_eq_true rfl), (Nat.le_of_ble_eq_true rfl)⟩ ⟨show k + 0 ≤ 601024 by omega, show n + 0 ≤ 7293034 by omega⟩ (fun v g3 hp => ?_)
    obtain ⟨rfl, hM3, m3⟩ := hp
    show gh_W l G _ X g3 k n [some (.ref b), some (.ref (A 0)), some (.ref (B 0)), some (.ref q), some (.int (nI (5 * r))), some (.int (nI 0)), v6] 150 [.int (nI 0)]
    refine gh_iload hK d_law_150 rfl ?_
    refine gh_icmp_eq hK d_law_152 (tgt := 157) (by decide) (fun _ => ?_) (fun z => absurd rfl z)
    refine gh_goto (tgt := 333) hK d_law_157 (by decide) ?_
    have m23 := m2.tr m3
    have hR2 : RfI F' (tx ++ (chs4 (xs ((5 * r) + 1)) ++ (chs4 (xs ((5 * r) + 2)) ++ (chs4 (xs ((5 * r) + 3)) ++ chs4 (xs ((5 * r) + 4)))))) ds es us1 us2 := ⟨hT2, DcA.same hF hR.2.1, hR.2.2.1, RlA.same hF hR.2.2.2.1, RlA.same hF hR.2.2.2.2⟩
    exact next _ _ _ _ _ ⟨es, us1, us2, (tx ++ (chs4 (xs ((5 * r) + 1)) ++ (chs4 (xs ((5 * r) + 2)) ++ (chs4 (xs ((5 * r) + 3)) ++ chs4 (xs ((5 * r) + 4)))))), o, ds, F', ls, le, s, e, wf, wl, 0, fr, tt, ap, fi, en, wr, mk, wd, f, h1.mm m23 (by decide), hP1.M m23 (by decide) (by decide) (by decide), hLn1.M m23 (by decide), hM3, hR2, m23 q 200 _ hq1 (by decide), by simp only [List.length_append]; omega, by simp only [List.length_append]; omega⟩
  · refine gh_callSW (rest := []) [.ref (A 0), .int (xs ((5 * r) + 1)), .int (xs ((5 * r) + 2)), .int (xs ((5 * r) + 3)), .int (xs ((5 * r) + 4))] hK hJ (c_Lw_typeN l G hfl h (Nat.lt_of_not_le hx)) Yw_Lw_type Yi_Lw (na := 5) (by decide +kernel) (by decide +kernel) V_Lw_type km_Lw_25 rfl d_law_113 rfl rfl (Nat.le_of_ble_eq_true rfl) ⟨(Nat.le_of_ble_eq_true rfl), (Nat.le_of_ble_eq_true rfl)⟩ ⟨show k + 1 ≤ 601024 by omega, show n + 6 ≤ 7293034 by omega⟩ (fun v g1 hp => ?_)
    obtain ⟨rfl, rfl⟩ := hp
    show gh_W l G _ X g1 (k + 1) (n + 6) [some (.ref b), some (.ref (A 0)), some (.ref (B 0)), some (.ref q), some (.int (nI (5 * r))), v5, v6] 116 [.int (nI 1)]
    refine gh_istore (lv' := [some (.ref b), some (.ref (A 0)), some (.ref (B 0)), some (.ref q), some (.int (nI (5 * r))), some (.int (nI 1)), v6]) hK d_law_116 (Nat.le_of_ble_eq_true rfl) rfl ?_
    refine gh_aload_n hK d_law_118 rfl ?_
    refine gh_aload_n hK d_law_119 rfl ?_
    refine gh_iload hK d_law_120 rfl ?_
    refine gh_iconst (v := nI 1) hK d_law_122 (by decide) ?_
    refine gh_addN hK d_law_123 ?_
    refine gh_sld hK hS d_law_124 (by omega) (by omega) ?_
    refine gh_aload_n hK d_law_125 rfl ?_
    refine gh_iload hK d_law_126 rfl ?_
    refine gh_iconst (v := nI 2) hK d_law_128 (by decide) ?_
    refine gh_addN hK d_law_129 ?_
    refine gh_sld hK hS d_law_130 (by omega) (by omega) ?_
    refine gh_aload_n hK d_law_131 rfl ?_
    refine gh_iload hK d_law_132 rfl ?_
    refine gh_iconst (v := nI 3) hK d_law_134 (by decide) ?_
    refine gh_addN hK d_law_135 ?_
    refine gh_sld hK hS d_law_136 (by omega) (by omega) ?_
    refine gh_aload_n hK d_law_137 rfl ?_
    refine gh_iload hK d_law_138 rfl ?_
    refine gh_iconst (v := nI 4) hK d_law_140 (by decide) ?_
    refine gh_addN hK d_law_141 ?_
    refine gh_sld hK hS d_law_142 (by omega) (by omega) ?_
    refine gh_callV (rest := []) [.int (xs ((5 * r) + 1)), .int (xs ((5 * r) + 2)), .int (xs ((5 * r) + 3)), .int (xs ((5 * r) + 4))] hK (c_Md_type l G hM hR.1) Y_Md_type V_Md_type km_Lw_30 hM.1 rfl rfl d_law_143 rfl rfl (Nat.le_of_ble_eq_true rfl) ⟨(Nat.le_of_ble_eq_true rfl), (Nat.le_of_ble_eq_true rfl)⟩ ⟨show k + 1 + 0 ≤ 601024 by omega, show n + 6 + 0 ≤ 7293034 by omega⟩ (fun v g2 hp => ?_)
    obtain ⟨rfl, F', hif, hF, m2⟩ := hp
    show gh_W l G _ X g2 (k + 1) (n + 6) [some (.ref b), some (.ref (A 0)), some (.ref (B 0)), some (.ref q), some (.int (nI (5 * r))), some (.int (nI 1)), v6] 146 []
    rw [if_neg (by rw [hc16]; exact hx)] at hif
    obtain ⟨hM2, hT2⟩ := hif
    refine gh_aload_n hK d_law_146 rfl ?_
    refine gh_callV (rest := []) [] hK (c_Md_thrown l G hM2) Y_Md_thrown V_Md_thrown km_Lw_31 hM2.1 rfl rfl d_law_147 rfl rfl (Nat.le_of_ble_eq_true rfl) ⟨(Nat.le_of_ble_eq_true rfl), (Nat.le_of_ble_eq_true rfl)⟩ ⟨show k + 1 + 0 ≤ 601024 by omega, show n + 6 + 0 ≤ 7293034 by omega⟩ (fun v g3 hp => ?_)
    obtain ⟨rfl, hM3, m3⟩ := hp
    show gh_W l G _ X g3 (k + 1) (n + 6) [some (.ref b), some (.ref (A 0)), some (.ref (B 0)), some (.ref q), some (.int (nI (5 * r))), some (.int (nI 1)), v6] 150 [.int (nI 1)]
    refine gh_iload hK d_law_150 rfl ?_
    refine gh_icmp_eq hK d_law_152 (tgt := 157) (by decide) (fun _ => ?_) (fun z => absurd rfl z)
    refine gh_goto (tgt := 333) hK d_law_157 (by decide) ?_
    have m23 := m2.tr m3
    have hR2 : RfI F' tx ds es us1 us2 := ⟨hT2, DcA.same hF hR.2.1, hR.2.2.1, RlA.same hF hR.2.2.2.1, RlA.same hF hR.2.2.2.2⟩
    exact next _ _ _ _ _ ⟨es, us1, us2, tx, o, ds, F', ls, le, s, e, wf, wl, 1, fr, tt, ap, fi, en, wr, mk, wd, f, h.mm m23 (by decide), hP.M m23 (by decide) (by decide) (by decide), hLn.M m23 (by decide), hM3, hR2, m23 q 200 _ hq (by decide), by omega, by omega⟩
set_option maxRecDepth 20000 in
set_option maxHeartbeats 4000000 in
theorem lw_output (l : Launch) (G : GG) {X : GX} {b L q k n r : Nat} {xs : Nat → Int32} {A B : Nat → Nat} {g : GH} {v5 v6 : Option Value} (hfl : l.flags = pinnedFlags ++ [noTraceFlag]) (hK : gh_K G X code 7 "SpellDeskLaw") (hS : gh_SX X b L xs) (hJ : gh_JX X) (hL : L ≤ 2560) (hr : 5 * r + 5 ≤ L) (hI : LwI G g A B q k n r) (next : ∀ (g' : GH) (k' n' : Nat) (v5 v6 : Option Value), LwI G g' A B q k' n' (r + 1) → gh_W l G room_1 X g' k' n' [some (.ref b), some (.ref (A 0)), some (.ref (B 0)), some (.ref q), some (.int (nI (5 * r))), v5, v6] 333 []) : gh_W l G room_1 X g k n [some (.ref b), some (.ref (A 0)), some (.ref (B 0)), some (.ref q), some (.int (nI (5 * r))), v5, v6] 199 [] := by
  obtain ⟨es, us1, us2, tx, o, ds, F, ls, le, s, e, wf, wl, cd, fr, tt, ap, fi, en, wr, mk, wd, f, h, hP, hLn, hM, hR, hq, b1, b2⟩ := hI
  have htl := h.2.1.2.2.2.len
  refine gh_aload_n hK d_law_199 rfl ?_
  refine gh_aload_n hK d_law_200 rfl ?_
  refine gh_iload hK d_law_201 rfl ?_
  refine gh_iconst (v := nI 1) hK d_law_203 (by decide) ?_
  refine gh_addN hK d_law_204 ?_
  refine gh_sld hK hS d_law_205 (by omega) (by omega) ?_
  refine gh_aload_n hK d_law_206 rfl ?_
  have hol := hP.2.len
  by_cases hx : (xs ((5 * r) + 1)) < 0 ∨ nI o.1.length ≤ (xs ((5 * r) + 1))
  · refine gh_callSW (rest := []) [.ref (A 0), .int (xs ((5 * r) + 1)), .ref q] hK hJ (c_Lw_outputN l G hfl h hP (q := q) hx) Yw_Lw_output Yi_Lw (na := 3) (by decide +kernel) (by decide +kernel) V_Lw_output km_Lw_47 rfl d_law_207 rfl rfl (Nat.le_of_ble_eq_true rfl) ⟨(Nat.le_of_ble_eq_true rfl), (Nat.le_of_ble_eq_true rfl)⟩ ⟨show k + 1 ≤ 601024 by omega, show n + 6 ≤ 7293034 by omega⟩ (fun v g1 hp => ?_)
    obtain ⟨rfl, rfl⟩ := hp
    show gh_W l G _ X g1 (k + 1) (n + 6) [some (.ref b), some (.ref (A 0)), some (.ref (B 0)), some (.ref q), some (.int (nI (5 * r))), v5, v6] 210 [.int (nI 1)]
    refine gh_istore (lv' := [some (.ref b), some (.ref (A 0)), some (.ref (B 0)), some (.ref q), some (.int (nI (5 * r))), some (.int (nI 1)), v6]) hK d_law_210 (Nat.le_of_ble_eq_true rfl) rfl ?_
    refine gh_aload_n hK d_law_212 rfl ?_
    refine gh_aload_n hK d_law_213 rfl ?_
    refine gh_iload hK d_law_214 rfl ?_
    refine gh_iconst (v := nI 1) hK d_law_216 (by decide) ?_
    refine gh_addN hK d_law_217 ?_
    refine gh_sld hK hS d_law_218 (by omega) (by omega) ?_
    refine gh_callV (rest := []) [.int (xs ((5 * r) + 1))] hK (c_Md_outputN l G hM hx) Y_Md_output V_Md_output km_Lw_50 hM.1 rfl rfl d_law_219 rfl rfl (Nat.le_of_ble_eq_true rfl) ⟨(Nat.le_of_ble_eq_true rfl), (Nat.le_of_ble_eq_true rfl)⟩ ⟨show k + 1 + 0 ≤ 601024 by omega, show n + 6 + 0 ≤ 7293034 by omega⟩ (fun v g2 hp => ?_)
    obtain ⟨rfl, hM2, m2⟩ := hp
    show gh_W l G _ X g2 (k + 1) (n + 6) [some (.ref b), some (.ref (A 0)), some (.ref (B 0)), some (.ref q), some (.int (nI (5 * r))), some (.int (nI 1)), v6] 222 [.int (nI 0)]
    refine gh_istore (lv' := [some (.ref b), some (.ref (A 0)), some (.ref (B 0)), some (.ref q), some (.int (nI (5 * r))), some (.int (nI 1)), some (.int (nI 0))]) hK d_law_222 (Nat.le_of_ble_eq_true rfl) rfl ?_
    refine gh_aload_n hK d_law_224 rfl ?_
    refine gh_callV (rest := []) [] hK (c_Md_thrown l G hM2) Y_Md_thrown V_Md_thrown km_Lw_31 hM2.1 rfl rfl d_law_225 rfl rfl (Nat.le_of_ble_eq_true rfl) ⟨(Nat.le_of_ble_eq_true rfl), (Nat.le_of_ble_eq_true rfl)⟩ ⟨show k + 1 + 0 ≤ 601024 by omega, show n + 6 + 0 ≤ 7293034 by omega⟩ (fun v g3 hp => ?_)
    obtain ⟨rfl, hM3, m3⟩ := hp
    show gh_W l G _ X g3 (k + 1) (n + 6) [some (.ref b), some (.ref (A 0)), some (.ref (B 0)), some (.ref q), some (.int (nI (5 * r))), some (.int (nI 1)), some (.int (nI 0))] 228 [.int (nI 1)]
    refine gh_iload hK d_law_228 rfl ?_
    refine gh_icmp_eq hK d_law_230 (tgt := 235) (by decide) (fun _ => ?_) (fun z => absurd rfl z)
    refine gh_iload hK d_law_235 rfl ?_
    refine gh_if_ne hK d_law_237 (tgt := 252) (by decide) (fun _ => ?_) (fun z => absurd z (by decide))
    refine gh_goto (tgt := 333) hK d_law_252 (by decide) ?_
    have m23 := m2.tr m3
    exact next _ _ _ _ _ ⟨es, us1, us2, tx, o, ds, F, ls, le, s, e, wf, wl, 1, fr, tt, ap, fi, en, wr, mk, wd, f, h.mm m23 (by decide), hP.M m23 (by decide) (by decide) (by decide), hLn.M m23 (by decide), hM3, hR, m23 q 200 _ hq (by decide), by omega, by omega⟩
  · obtain ⟨j, hj, ej⟩ : ∃ j, j < o.1.length ∧ (xs ((5 * r) + 1)) = nI j := out_ix (fun z => hx (Or.inl z)) (fun z => hx (Or.inr z)) (by omega)
    rw [ej]
    refine gh_callSW (rest := []) [.ref (A 0), .int (nI j), .ref q] hK hJ (c_Lw_outputY l G h hP hq hj) Yw_Lw_output Yi_Lw (na := 3) (by decide +kernel) (by decide +kernel) V_Lw_output km_Lw_47 rfl d_law_207 rfl rfl (Nat.le_of_ble_eq_true rfl) ⟨(Nat.le_of_ble_eq_true rfl), (Nat.le_of_ble_eq_true rfl)⟩ ⟨show k + 0 ≤ 601024 by omega, show n + 0 ≤ 7293034 by omega⟩ (fun v g1 hp => ?_)
    obtain ⟨rfl, rfl⟩ := hp
    show gh_W l G _ X (gh_up g q 200 (.inl (G.2.1 4, 1, .inr (.inl (vp_updL f 0 (nI (o.1.getD j 0)).toInt64))))) k n [some (.ref b), some (.ref (A 0)), some (.ref (B 0)), some (.ref q), some (.int (nI (5 * r))), v5, v6] 210 [.int (nI 0)]
    have m1 : gh_M [200] g (gh_up g q 200 (.inl (G.2.1 4, 1, .inr (.inl (vp_updL f 0 (nI (o.1.getD j 0)).toInt64))))) := gh_M.up hq (by decide)
    have hq1 : (gh_up g q 200 (.inl (G.2.1 4, 1, .inr (.inl (vp_updL f 0 (nI (o.1.getD j 0)).toInt64))))) q = some (200, .inl (G.2.1 4, 1, .inr (.inl (vp_updL f 0 (nI (o.1.getD j 0)).toInt64)))) := gh_us
    have h1 := h.mm m1 (by decide)
    have hP1 := hP.M m1 (by decide) (by decide) (by decide)
    have hLn1 := hLn.M m1 (by decide)
    have hM1 := hM.M m1 (by decide)
    generalize hgg : (gh_up g q 200 (.inl (G.2.1 4, 1, .inr (.inl (vp_updL f 0 (nI (o.1.getD j 0)).toInt64))))) = g1 at m1 hq1 h1 hP1 hLn1 hM1 ⊢
    refine gh_istore (lv' := [some (.ref b), some (.ref (A 0)), some (.ref (B 0)), some (.ref q), some (.int (nI (5 * r))), some (.int (nI 0)), v6]) hK d_law_210 (Nat.le_of_ble_eq_true rfl) rfl ?_
    refine gh_aload_n hK d_law_212 rfl ?_
    refine gh_aload_n hK d_law_213 rfl ?_
    refine gh_iload hK d_law_214 rfl ?_
    refine gh_iconst (v := nI 1) hK d_law_216 (by decide) ?_
    refine gh_addN hK d_law_217 ?_
    refine gh_sld hK hS d_law_218 (by omega) (by omega) ?_
    rw [ej]
    refine gh_callV (rest := []) [.int (nI j)] hK (c_Md_outputY l G hM1 hj) Y_Md_output V_Md_output km_Lw_50 hM1.1 rfl rfl d_law_219 rfl rfl (Nat.le_of_ble_eq_true rfl) ⟨(Nat.le_of_ble_eq_true rfl), (Nat.le_of_ble_eq_true rfl)⟩ ⟨show k + 0 ≤ 601024 by omega, show n + 0 ≤ 7293034 by omega⟩ (fun v g2 hp => ?_)
    obtain ⟨rfl, hM2, m2⟩ := hp
    show gh_W l G _ X g2 k n [some (.ref b), some (.ref (A 0)), some (.ref (B 0)), some (.ref q), some (.int (nI (5 * r))), some (.int (nI 0)), v6] 222 [.int (nI (o.1.getD j 0))]
    refine gh_istore (lv' := [some (.ref b), some (.ref (A 0)), some (.ref (B 0)), some (.ref q), some (.int (nI (5 * r))), some (.int (nI 0)), some (.int (nI (o.1.getD j 0)))]) hK d_law_222 (Nat.le_of_ble_eq_true rfl) rfl ?_
    refine gh_aload_n hK d_law_224 rfl ?_
    refine gh_callV (rest := []) [] hK (c_Md_thrown l G hM2) Y_Md_thrown V_Md_thrown km_Lw_31 hM2.1 rfl rfl d_law_225 rfl rfl (Nat.le_of_ble_eq_true rfl) ⟨(Nat.le_of_ble_eq_true rfl), (Nat.le_of_ble_eq_true rfl)⟩ ⟨show k + 0 ≤ 601024 by omega, show n + 0 ≤ 7293034 by omega⟩ (fun v g3 hp => ?_)
    obtain ⟨rfl, hM3, m3⟩ := hp
    show gh_W l G _ X g3 k n [some (.ref b), some (.ref (A 0)), some (.ref (B 0)), some (.ref q), some (.int (nI (5 * r))), some (.int (nI 0)), some (.int (nI (o.1.getD j 0)))] 228 [.int (nI 0)]
    refine gh_iload hK d_law_228 rfl ?_
    have m23 := m2.tr m3
    have hq3 := m23 q 200 _ hq1 (by decide)
    refine gh_icmp_eq hK d_law_230 (tgt := 235) (by decide) (fun _ => ?_) (fun z => absurd rfl z)
    refine gh_iload hK d_law_235 rfl ?_
    refine gh_if_ne hK d_law_237 (tgt := 252) (by decide) (fun z => absurd rfl z) (fun _ => ?_)
    refine gh_aload_n hK d_law_240 rfl ?_
    refine gh_iconst (v := nI 0) hK d_law_241 (by decide) ?_
    refine gh_lald (t0 := 4) hK d_law_242 hq3 rfl (by decide) (by decide) ?_
    refine gh_iload hK d_law_243 rfl ?_
    refine gh_i2l hK d_law_245 rfl ?_
    refine gh_lcmp hK d_law_246 (fun v hv => ?_)
    have hv0 : v = 0 := hv.mpr (vp_updL_s f 0 _)
    refine gh_if_eq hK d_law_247 (tgt := 252) (by decide) (fun _ => ?_) (fun z => absurd hv0 z)
    refine gh_goto (tgt := 333) hK d_law_252 (by decide) ?_
    exact next _ _ _ _ _ ⟨es, us1, us2, tx, o, ds, F, ls, le, s, e, wf, wl, 0, fr, tt, ap, fi, en, wr, mk, wd, _, h1.mm m23 (by decide), hP1.M m23 (by decide) (by decide) (by decide), hLn1.M m23 (by decide), hM3, hR, hq3, by omega, by omega⟩
