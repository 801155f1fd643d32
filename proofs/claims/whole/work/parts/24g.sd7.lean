theorem SDr.wy {G : GG} {g g' : GH} {A : Nat → Nat} {es : List (Nat × List Nat × Nat)} {us1 us2 : List (Nat × RuR)} {tx ws : List Nat} (h : SDr G g A es us1 us2 tx) (hm : WyI G g g' A ws) : SDr G g' A es us1 us2 tx := by
  obtain ⟨⟨k1, -, ⟨fx, fp, k3⟩, ⟨ps, k4⟩⟩, h2, h3⟩ := h
  obtain ⟨j1, j2, j3, j4, j5, j6, hM⟩ := hm
  exact ⟨⟨hM _ 0 _ k1 (by decide), ⟨ws, j1, j2, j3, j4, j5, j6, gh_M.rf⟩, ⟨fx, fp, k3.M hM (by decide)⟩, ⟨ps, k4.M hM (by decide) (by decide) (by decide)⟩⟩, h2.M hM (by decide), h3⟩
theorem wyP_mem {lim : Nat} {ws : List Nat} {q : Option Nat} {y : Nat} (h : y ∈ wyP lim ws q) : y ∈ ws ∨ q = some y := by
  unfold wyP at h
  split at h
  · cases q with
    | none => exact Or.inl h
    | some c => exact (insA_mem h).imp id fun z => by rw [z]
  · exact Or.inl h
theorem wyS_mem {es : List (Nat × List Nat × Nat)} {u1 : RuR} {us2 : List (Nat × RuR)} {p lim : Nat} {w : List Nat} {y : Nat} : ∀ (k s : Nat) (ws : List Nat), y ∈ wyS es u1 us2 p lim w k s ws → y ∈ ws ∨ ∃ t, s ≤ t ∧ t < s + k ∧ wyM es u1 (rlN us2 t) p t w = some y
  | 0, _, _, h => Or.inl h
  | k + 1, s, ws, h => by
    rw [wyS] at h
    rcases wyS_mem k (s + 1) _ h with q | ⟨t, q1, q2, q3⟩
    · rcases wyP_mem q with r | r
      · exact Or.inl r
      · exact Or.inr ⟨s, Nat.le_refl _, by omega, r⟩
    · exact Or.inr ⟨t, by omega, by omega, q3⟩
theorem wyO_mem {es : List (Nat × List Nat × Nat)} {us1 us2 : List (Nat × RuR)} {lim : Nat} {w : List Nat} {y : Nat} : ∀ (k p : Nat) (ws : List Nat), y ∈ wyO es us1 us2 lim w k p ws → y ∈ ws ∨ ∃ r t, p ≤ r ∧ r < p + k ∧ t < us2.length + 1 ∧ wyM es (rlN us1 r) (rlN us2 t) r t w = some y
  | 0, _, _, h => Or.inl h
  | k + 1, p, ws, h => by
    rw [wyO] at h
    rcases wyO_mem k (p + 1) _ h with q | ⟨r, t, q1, q2, q3, q4⟩
    · rcases wyS_mem _ _ _ q with z | ⟨t, z1, z2, z3⟩
      · exact Or.inl z
      · exact Or.inr ⟨p, t, Nat.le_refl _, by omega, by omega, z3⟩
    · exact Or.inr ⟨r, t, by omega, by omega, q3, q4⟩
theorem wyM_at {es : List (Nat × List Nat × Nat)} {u1 u2 : RuR} {p s x : Nat} {w : List Nat} (h : wyM es u1 u2 p s w = some x) (hp : p < 9) (hs : s < 9) : ∃ y, es[x / 81]? = some y := by
  unfold wyM at h
  split at h
  · cases hu : undB u1 u2 w with
    | none => rw [hu] at h; cases h
    | some b =>
      rw [hu] at h
      dsimp only at h
      cases hx : es[rnkL b (dws es)]? with
      | none => rw [hx] at h; cases h
      | some y =>
        rw [hx] at h
        dsimp only at h
        split at h
        · have h2 := Option.some.inj h
          exact ⟨y, by rw [show x / 81 = rnkL b (dws es) by omega]; exact hx⟩
        · cases h
  · cases h
/-- all ways of w -/
abbrev wyA (es : List (Nat × List Nat × Nat)) (us1 us2 : List (Nat × RuR)) (lim : Nat) (w : List Nat) : List Nat := wyO es us1 us2 lim w (us1.length + 1) 0 []
theorem wyA_at {es : List (Nat × List Nat × Nat)} {us1 us2 : List (Nat × RuR)} {lim x : Nat} {w : List Nat} (h1 : us1.length ≤ 8) (h2 : us2.length ≤ 8) (h : x ∈ wyA es us1 us2 lim w) : ∃ y, es[x / 81]? = some y := by
  rcases wyO_mem _ _ _ h with q | ⟨r, t, q1, q2, q3, q4⟩
  · cases q
  · exact wyM_at q4 (by omega) (by omega)
def wyX (es : List (Nat × List Nat × Nat)) (x : Nat) : List Nat := wyT (((es[x / 81]?).map fun y => y.2.1).getD []) (x / 9 % 9) (x % 9)
set_option maxRecDepth 20000 in
set_option maxHeartbeats 4000000 in
theorem c_SD_doWhy (l : Launch) (G : GG) {g : GH} {A : Nat → Nat} {es : List (Nat × List Nat × Nat)} {us1 us2 : List (Nat × RuR)} {tx : List Nat} {o : List Nat × Nat} {ls le s e wf wl : Nat} (h : SDr G g A es us1 us2 tx) (hP : Pr G g (A 4) (A 5) (A 6) o 0) (hL : Ln g (A 3) (A 1) ls le s e wf wl) (he : e ≤ le) (hle : le ≤ tx.length) : gMet l G y_SD_doWhy b_SD_doWhy 3 (some .boolean) (rmk 6 0 0 140) [.ref (A 0)] g (DoP G A tx ls le g (owO tx 28 le e) (owS tx 28 le e) es us1 us2 (if (owO tx 28 le e) = true then prs o (jnI ((wyA es us1 us2 81 (nxW tx le e)).map (wyX es))) else o)) := by
  refine gMet.of [some (.ref (A 0)), none, none] (by decide +kernel) rfl (Nat.le_of_ble_eq_true rfl) rfl (fun X hK hI hE => ?_)
  refine gh_aload_n hK d_SD_doWhy_0 rfl ?_
  refine gh_get hK d_SD_doWhy_1 in_SD rfl h.1.1 1 (by decide) kf_SD_23 rfl rfl ?_
  refine gh_bipush (v := nI 28) hK d_SD_doWhy_4 (by decide) ?_
  refine gh_callV (rest := []) [.int (nI 28)] hK (c_Ln_nextIsOnlyWord l G hL h.2.1.2.2.2 (k := 28) he hle (by decide)) Y_Ln_nextIsOnlyWord V_Ln_nextIsOnlyWord km_SD_228 hL rfl rfl d_SD_doWhy_6 rfl rfl (Nat.le_of_ble_eq_true rfl) ⟨(Nat.le_of_ble_eq_true rfl), (Nat.le_of_ble_eq_true rfl)⟩ ⟨(Nat.le_of_ble_eq_true rfl), (Nat.le_of_ble_eq_true rfl)⟩ (fun v g1 hp => ?_)
  obtain ⟨rfl, hl1, hlN⟩ := hp
  show gh_W l G _ X g1 _ _ [some (.ref (A 0)), none, none] 9 [.int (nI (bn (owO tx 28 le e)))]
  have hM1 := hL.toM hlN
  have h1 := h.M hM1 (by decide)
  have hP1 := hP.M hM1 (by decide) (by decide) (by decide)
  obtain ⟨b1, b2⟩ := nxS_le (tx := tx) he
  obtain ⟨b3, b4⟩ := nxE_le (tx := tx) he
  refine gh_if_neB hK d_SD_doWhy_9 (tgt := 14) (by decide) (fun z => ?_) (fun z => ?_)
  · simp only [z, ↓reduceIte] at hE
    obtain ⟨w1, w2, w3, w4, w5⟩ := ow_true (wf := wf) (wl := wl) z
    rw [w2, w3] at hl1
    have hfl : nxS tx le e + (nxE tx le e - nxS tx le e) ≤ tx.length := by omega
    refine gh_aload_n hK d_SD_doWhy_14 rfl ?_
    refine gh_get hK d_SD_doWhy_15 in_SD rfl h1.1.1 6 (by decide) kf_SD_58 rfl rfl ?_
    refine gh_aload_n hK d_SD_doWhy_18 rfl ?_
    refine gh_get hK d_SD_doWhy_19 in_SD rfl h1.1.1 0 (by decide) kf_SD_14 rfl rfl ?_
    refine gh_aload_n hK d_SD_doWhy_22 rfl ?_
    refine gh_get hK d_SD_doWhy_23 in_SD rfl h1.1.1 1 (by decide) kf_SD_23 rfl rfl ?_
    refine gh_callV (rest := [.ref (A 1), .ref (A 30)]) [] hK (c_Ln_wordFrom l G hl1) Y_Ln_wordFrom V_Ln_wordFrom km_SD_232 hl1 rfl rfl d_SD_doWhy_26 rfl rfl (Nat.le_of_ble_eq_true rfl) ⟨(Nat.le_of_ble_eq_true rfl), (Nat.le_of_ble_eq_true rfl)⟩ ⟨(Nat.le_of_ble_eq_true rfl), (Nat.le_of_ble_eq_true rfl)⟩ (fun v g' hp => ?_)
    rw [hp.1, hp.2]
    show gh_W l G _ X g1 _ _ [some (.ref (A 0)), none, none] 29 [.int (nI (nxS tx le e)), .ref (A 1), .ref (A 30)]
    refine gh_aload_n hK d_SD_doWhy_29 rfl ?_
    refine gh_get hK d_SD_doWhy_30 in_SD rfl h1.1.1 1 (by decide) kf_SD_23 rfl rfl ?_
    refine gh_callV (rest := [.int (nI (nxS tx le e)), .ref (A 1), .ref (A 30)]) [] hK (c_Ln_wordLength l G hl1) Y_Ln_wordLength V_Ln_wordLength km_SD_235 hl1 rfl rfl d_SD_doWhy_33 rfl rfl (Nat.le_of_ble_eq_true rfl) ⟨(Nat.le_of_ble_eq_true rfl), (Nat.le_of_ble_eq_true rfl)⟩ ⟨(Nat.le_of_ble_eq_true rfl), (Nat.le_of_ble_eq_true rfl)⟩ (fun v g' hp => ?_)
    rw [hp.1, hp.2]
    show gh_W l G _ X g1 _ _ [some (.ref (A 0)), none, none] 36 [.int (nI (nxE tx le e - nxS tx le e)), .int (nI (nxS tx le e)), .ref (A 1), .ref (A 30)]
    refine gh_bipush (v := nI 81) hK d_SD_doWhy_36 (by decide) ?_
    obtain ⟨ws0, hws0⟩ := h1.1.2.1
    refine gh_callV (rest := []) [.ref (A 1), .int (nI (nxS tx le e)), .int (nI (nxE tx le e - nxS tx le e)), .int (nI 81)] hK (c_Sp_findWays l G hws0 h1.2.1 h1.2.2.1 (fo := nxS tx le e) (len := nxE tx le e - nxS tx le e) (lim := 81) hfl (by omega)) Y_Sp_findWays V_Sp_findWays km_SD_286 hws0.1 rfl rfl d_SD_doWhy_38 rfl rfl (Nat.le_of_ble_eq_true rfl) ⟨(Nat.le_of_ble_eq_true rfl), (Nat.le_of_ble_eq_true rfl)⟩ ⟨(Nat.le_of_ble_eq_true rfl), (Nat.le_of_ble_eq_true rfl)⟩ (fun v g2 hp => ?_)
    obtain ⟨rfl, hp2⟩ := hp
    show gh_W l G _ X g2 _ _ [some (.ref (A 0)), none, none] 41 [.int (nI ((wyA es us1 us2 81 (nxW tx le e)).length))]
    refine gh_istore_n (lv' := [some (.ref (A 0)), some (.int (nI ((wyA es us1 us2 81 (nxW tx le e)).length))), none]) hK d_SD_doWhy_41 (Nat.le_of_ble_eq_true rfl) rfl ?_
    refine gh_iconst (v := nI 0) hK d_SD_doWhy_42 (by decide) ?_
    refine gh_istore_n (lv' := [some (.ref (A 0)), some (.int (nI ((wyA es us1 us2 81 (nxW tx le e)).length))), some (.int (nI 0))]) hK d_SD_doWhy_43 (Nat.le_of_ble_eq_true rfl) rfl ?_
    change WyI G g1 g2 A (wyA es us1 us2 81 (nxW tx le e)) at hp2
    have hin : ∀ x, x ∈ (wyA es us1 us2 81 (nxW tx le e)) → ∃ y, es[x / 81]? = some y := fun x hx => wyA_at h1.2.2.1.2.2.1 h1.2.2.1.2.2.2.1 hx
    show gh_W l G _ X g2 _ _ [some (.ref (A 0)), some (.int (nI ((wyA es us1 us2 81 (nxW tx le e)).length))), some (.int (nI 0))] 44 []
    generalize hWA : (wyA es us1 us2 81 (nxW tx le e)) = wz at hp2 hin hE ⊢
    have h2 := h1.wy hp2
    have hP2 := hP1.M hp2.2.2.2.2.2.2 (by decide) (by decide) (by decide)
    have hwl := hp2.2.2.2.1
    have loop : ∀ (m i : Nat) (g3 : GH) (o2 : List Nat × Nat), i + m = wz.length → Pr G g3 (A 4) (A 5) (A 6) o2 i → gh_M [4, 5, 6] g2 g3 → (if i + ((wz.drop i).map (wyX es)).length = 0 then prt (itL o2 i ((wz.drop i).map (wyX es))) 45 else itL o2 i ((wz.drop i).map (wyX es))) = prs o (jnI (wz.map (wyX es))) → gh_W l G (rmk 6 0 0 140) X g3 0 0 [some (.ref (A 0)), some (.int (nI wz.length)), some (.int (nI i))] 44 [] := by
      intro m
      induction m with
      | zero =>
        intro i g3 o2 hi hP3 m3 hF
        have h3 := h2.M m3 (by decide)
        have hdr : wz.drop i = [] := List.drop_eq_nil_of_le (by omega)
        rw [hdr] at hF
        refine gh_iload_n hK d_SD_doWhy_44 rfl ?_
        refine gh_iload_n hK d_SD_doWhy_45 rfl ?_
        refine gh_icmp_geN hK d_SD_doWhy_46 (tgt := 83) (by decide) (by omega) (by omega) (fun z => ?_) (fun z => absurd z (by omega))
        refine gh_aload_n hK d_SD_doWhy_83 rfl ?_
        refine gh_get hK d_SD_doWhy_84 in_SD rfl h3.1.1 2 (by decide) kf_SD_30 rfl rfl ?_
        refine gh_callV (rest := []) [] hK (c_Pr_endItems l G hP3 (by omega)) Y_Pr_endItems V_Pr_endItems km_SD_294 hP3.1 rfl rfl d_SD_doWhy_87 rfl rfl (Nat.le_of_ble_eq_true rfl) ⟨(Nat.le_of_ble_eq_true rfl), (Nat.le_of_ble_eq_true rfl)⟩ ⟨(Nat.le_of_ble_eq_true rfl), (Nat.le_of_ble_eq_true rfl)⟩ (fun v g4 hp => ?_)
        obtain ⟨rfl, hq1, hq2⟩ := hp
        show gh_W l G _ X g4 _ _ [some (.ref (A 0)), some (.int (nI wz.length)), some (.int (nI i))] 90 []
        refine gh_iconst (v := nI 1) hK d_SD_doWhy_90 (by decide) ?_
        have m4 := hP3.toM hq2
        have hF2 : (if i = 0 then prt o2 45 else o2) = _ := hF
        rw [hF2] at hq1
        exact gh_zret rfl hK hE d_SD_doWhy_91 (Nat.le_of_ble_eq_true rfl) (Nat.le_of_ble_eq_true rfl) ⟨rfl, ⟨_, _, _, _, ((hl1.M hp2.2.2.2.2.2.2 (by decide)).M m3 (by decide)).M m4 (by decide), fun q => by cases q⟩, h3.M m4 (by decide), ⟨_, hq1⟩, (((hM1.wd (by decide)).tr (hp2.2.2.2.2.2.2.wd (by decide))).tr (m3.wd (by decide))).tr (m4.wd (by decide))⟩
      | succ m ih =>
        intro i g3 o2 hi hP3 m3 hF
        have h3 := h2.M m3 (by decide)
        obtain ⟨x, hx⟩ : ∃ x, wz[i]? = some x := ⟨wz[i], List.getElem?_eq_getElem (by omega)⟩
        have hdr : wz.drop i = x :: wz.drop (i + 1) := by
          rw [List.drop_eq_getElem_cons (by omega)]
          rw [List.getElem?_eq_getElem (by omega)] at hx
          rw [Option.some.inj hx]
        have hxm := List.mem_of_getElem? hx
        obtain ⟨y, hy⟩ := hin x hxm
        have hx6 := hp2.2.2.2.2.1 x hxm
        have s3 := hp2.1.M m3 (by decide)
        have w3 := hp2.2.1.M m3 (by decide)
        have hen := h3.2.1.1.2.2 y (List.mem_of_getElem? hy)
        rw [hdr, List.map_cons, List.length_cons, itL] at hF
        refine gh_iload_n hK d_SD_doWhy_44 rfl ?_
        refine gh_iload_n hK d_SD_doWhy_45 rfl ?_
        refine gh_icmp_geN hK d_SD_doWhy_46 (tgt := 83) (by decide) (by omega) (by omega) (fun z => absurd z (by omega)) (fun z => ?_)
        refine gh_aload_n hK d_SD_doWhy_49 rfl ?_
        refine gh_aload_n hK d_SD_doWhy_50 rfl ?_
        refine gh_get hK d_SD_doWhy_51 in_SD rfl h3.1.1 6 (by decide) kf_SD_58 rfl rfl ?_
        refine gh_iload_n hK d_SD_doWhy_54 rfl ?_
        refine gh_callV (rest := [.ref (A 0)]) [.int (nI i)] hK (c_Sp_entryOfWay l G s3 w3 hwl hx hx6 h3.2.1.1 hy) Y_Sp_entryOfWay V_Sp_entryOfWay km_SD_307 s3 rfl rfl d_SD_doWhy_55 rfl rfl (Nat.le_of_ble_eq_true rfl) ⟨(Nat.le_of_ble_eq_true rfl), (Nat.le_of_ble_eq_true rfl)⟩ ⟨(Nat.le_of_ble_eq_true rfl), (Nat.le_of_ble_eq_true rfl)⟩ (fun v g' hp => ?_)
        rw [hp.1, hp.2]
        show gh_W l G _ X g3 _ _ [some (.ref (A 0)), some (.int (nI wz.length)), some (.int (nI i))] 58 [.ref y.1, .ref (A 0)]
        refine gh_aload_n hK d_SD_doWhy_58 rfl ?_
        refine gh_get hK d_SD_doWhy_59 in_SD rfl h3.1.1 6 (by decide) kf_SD_58 rfl rfl ?_
        refine gh_iload_n hK d_SD_doWhy_62 rfl ?_
        refine gh_callV (rest := [.ref y.1, .ref (A 0)]) [.int (nI i)] hK (c_Sp_prefixOfWay l G s3 w3 hwl hx hx6) Y_Sp_prefixOfWay V_Sp_prefixOfWay km_SD_310 s3 rfl rfl d_SD_doWhy_63 rfl rfl (Nat.le_of_ble_eq_true rfl) ⟨(Nat.le_of_ble_eq_true rfl), (Nat.le_of_ble_eq_true rfl)⟩ ⟨(Nat.le_of_ble_eq_true rfl), (Nat.le_of_ble_eq_true rfl)⟩ (fun v g' hp => ?_)
        rw [hp.1, hp.2]
        show gh_W l G _ X g3 _ _ [some (.ref (A 0)), some (.int (nI wz.length)), some (.int (nI i))] 66 [.int (nI (x / 9 % 9)), .ref y.1, .ref (A 0)]
        refine gh_aload_n hK d_SD_doWhy_66 rfl ?_
        refine gh_get hK d_SD_doWhy_67 in_SD rfl h3.1.1 6 (by decide) kf_SD_58 rfl rfl ?_
        refine gh_iload_n hK d_SD_doWhy_70 rfl ?_
        refine gh_callV (rest := [.int (nI (x / 9 % 9)), .ref y.1, .ref (A 0)]) [.int (nI i)] hK (c_Sp_suffixOfWay l G s3 w3 hwl hx hx6) Y_Sp_suffixOfWay V_Sp_suffixOfWay km_SD_313 s3 rfl rfl d_SD_doWhy_71 rfl rfl (Nat.le_of_ble_eq_true rfl) ⟨(Nat.le_of_ble_eq_true rfl), (Nat.le_of_ble_eq_true rfl)⟩ ⟨(Nat.le_of_ble_eq_true rfl), (Nat.le_of_ble_eq_true rfl)⟩ (fun v g' hp => ?_)
        rw [hp.1, hp.2]
        show gh_W l G _ X g3 _ _ [some (.ref (A 0)), some (.int (nI wz.length)), some (.int (nI i))] 74 [.int (nI (x % 9)), .int (nI (x / 9 % 9)), .ref y.1, .ref (A 0)]
        refine gh_callV (rest := []) [.ref y.1, .int (nI (x / 9 % 9)), .int (nI (x % 9))] hK (c_SD_printWay l G h3.1.1 hP3 (by omega) hen (p := x / 9 % 9) (s := x % 9) (by omega) (by omega)) Y_SD_printWay V_SD_printWay km_SD_316 h3.1.1 rfl rfl d_SD_doWhy_74 rfl rfl (Nat.le_of_ble_eq_true rfl) ⟨(Nat.le_of_ble_eq_true rfl), (Nat.le_of_ble_eq_true rfl)⟩ ⟨(Nat.le_of_ble_eq_true rfl), (Nat.le_of_ble_eq_true rfl)⟩ (fun v g4 hp => ?_)
        obtain ⟨rfl, hq1, hq2⟩ := hp
        show gh_W l G _ X g4 _ _ [some (.ref (A 0)), some (.int (nI wz.length)), some (.int (nI i))] 77 []
        refine gh_incN (lv' := [some (.ref (A 0)), some (.int (nI wz.length)), some (.int (nI (i + 1)))]) hK d_SD_doWhy_77 rfl rfl ?_
        refine gh_goto (tgt := 44) hK d_SD_doWhy_80 (by decide) ?_
        rw [show wyX es x = wyT y.2.1 (x / 9 % 9) (x % 9) by rw [wyX, hy]; rfl] at hF
        refine ih (i + 1) g4 _ (by omega) hq1 (m3.tr hq2) ?_
        rw [show i + 1 + ((wz.drop (i + 1)).map (wyX es)).length = i + (((wz.drop (i + 1)).map (wyX es)).length + 1) by omega]
        exact hF
    exact loop wz.length 0 g2 o (by omega) hP2 gh_M.rf (by rw [Nat.zero_add]; exact itL_end o _)
  · refine gh_iconst (v := nI 0) hK d_SD_doWhy_12 (by decide) ?_
    simp only [z, Bool.false_eq_true, ↓reduceIte] at hE
    exact gh_zret rfl hK hE d_SD_doWhy_13 (Nat.le_of_ble_eq_true rfl) (Nat.le_of_ble_eq_true rfl) (DoP.no h hP hL hl1 hlN rfl)
