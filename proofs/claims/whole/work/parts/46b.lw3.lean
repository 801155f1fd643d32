/-! the law's own end, its loop, its entry -/
def gh_LX (X : GX) (b : Nat) : Prop :=
  match X with
  | (_, _, s, _, args, below, meth, _, A, Q) => args = #[Value.ref b] ∧ meth.sig.returnType = ret ∧ meth.locks = false ∧ (∀ q, A q → s.heap.size ≤ q) ∧ Q = lw_Z below #[Value.ref b] s
theorem gh_lend {l : Launch} {G : GG} {X : GX} {b k n : Nat} {g : GH} {lv : List (Option Value)} (hK : gh_K G X code 7 "SpellDeskLaw") (hX : gh_LX X b) (hk : k ≤ 601024) (hn : n ≤ 7293034) : gh_W l G room_1 X g k n lv 340 [.int (nI 1)] := by
  obtain ⟨p, e, s, m, args, below, meth, c, A, Q⟩ := X
  obtain ⟨hx, hb, hml, hown, hts, hC, hA⟩ := hK
  obtain ⟨rfl, hr, hlk, hA2, rfl⟩ := hX
  intro H locs ls hP hAa hS hl
  refine va_forget (fun q hq => hA2 _ (hS.2.2 q hq)) (W.widen hk hn ?_)
  exact lw_ret hx hb hr hlk d_law_340
theorem lw_cmp {L r : Nat} (hL : L ≤ 2560) (hr : 5 * r ≤ L) : nI L - nI 5 < nI (5 * r) ↔ L < 5 * r + 5 := by
  by_cases h : 5 ≤ L
  · rw [pk_sub h, nI_ltI (by omega) (by omega)]
    omega
  · have h0 : r = 0 := by omega
    subst h0
    rcases (show L = 0 ∨ L = 1 ∨ L = 2 ∨ L = 3 ∨ L = 4 by omega) with rfl | rfl | rfl | rfl | rfl <;> decide
set_option maxRecDepth 20000 in
set_option maxHeartbeats 4000000 in
theorem lw_loop (l : Launch) (G : GG) {X : GX} {b L q : Nat} {xs : Nat → Int32} {A B : Nat → Nat} (hfl : l.flags = pinnedFlags ++ [noTraceFlag]) (hK : gh_K G X code 7 "SpellDeskLaw") (hS : gh_SX X b L xs) (hJ : gh_JX X) (hX : gh_LX X b) (hL : L ≤ 2560) : ∀ (d r k n : Nat) (g : GH) (v5 v6 : Option Value), L < 5 * r + 5 + d → 5 * r ≤ L → LwI G g A B q k n r → gh_W l G room_1 X g k n [some (.ref b), some (.ref (A 0)), some (.ref (B 0)), some (.ref q), some (.int (nI (5 * r))), v5, v6] 23 [] := by
  intro d
  induction d with
  | zero =>
    intro r k n g v5 v6 hd hr hI
    have hb1 : k ≤ 601024 ∧ n ≤ 7293034 := by
      obtain ⟨es, us1, us2, tx, o, ds, F, ls, le, s, e, wf, wl, cd, fr, tt, ap, fi, en, wr, mk, wd, f, h, hP, hLn, hM, hR, hq, b1, b2⟩ := hI
      omega
    refine gh_iload hK d_law_23 rfl ?_
    refine gh_aload_n hK d_law_25 rfl ?_
    refine gh_slen hK hS d_law_26 ?_
    refine gh_iconst (v := nI 5) hK d_law_27 (by decide) ?_
    refine gh_isub hK d_law_28 ?_
    refine gh_icmp_gt hK d_law_29 (tgt := 339) (by decide) (fun _ => ?_) (fun z => absurd ((lw_cmp hL hr).mpr (by omega)) z)
    refine gh_iconst (v := nI 1) hK d_law_339 (by decide) ?_
    exact gh_lend hK hX hb1.1 hb1.2
  | succ d ih =>
    intro r k n g v5 v6 hd hr hI
    have hb1 : k ≤ 601024 ∧ n ≤ 7293034 := by
      obtain ⟨es, us1, us2, tx, o, ds, F, ls, le, s, e, wf, wl, cd, fr, tt, ap, fi, en, wr, mk, wd, f, h, hP, hLn, hM, hR, hq, b1, b2⟩ := hI
      omega
    refine gh_iload hK d_law_23 rfl ?_
    refine gh_aload_n hK d_law_25 rfl ?_
    refine gh_slen hK hS d_law_26 ?_
    refine gh_iconst (v := nI 5) hK d_law_27 (by decide) ?_
    refine gh_isub hK d_law_28 ?_
    refine gh_icmp_gt hK d_law_29 (tgt := 339) (by decide) (fun _ => ?_) (fun z => ?_)
    · refine gh_iconst (v := nI 1) hK d_law_339 (by decide) ?_
      exact gh_lend hK hX hb1.1 hb1.2
    · have hr5 : 5 * r + 5 ≤ L := Nat.le_of_not_lt fun q => z ((lw_cmp hL hr).mpr q)
      have next : ∀ (g' : GH) (k' n' : Nat) (v5 v6 : Option Value), LwI G g' A B q k' n' (r + 1) → gh_W l G room_1 X g' k' n' [some (.ref b), some (.ref (A 0)), some (.ref (B 0)), some (.ref q), some (.int (nI (5 * r))), v5, v6] 333 [] := fun g' k' n' v5 v6 hI' => by
        refine gh_iinc (v := nI (5 * (r + 1))) (lv' := [some (.ref b), some (.ref (A 0)), some (.ref (B 0)), some (.ref q), some (.int (nI (5 * (r + 1)))), v5, v6]) hK d_law_333 rfl (nI_add (5 * r) 5) rfl ?_
        refine gh_goto (tgt := 23) hK d_law_336 (by decide) ?_
        exact ih (r + 1) k' n' g' v5 v6 (by omega) (by omega) hI'
      refine gh_aload_n hK d_law_32 rfl ?_
      refine gh_iload hK d_law_33 rfl ?_
      refine gh_sld hK hS d_law_35 (by omega) (by omega) ?_
      refine gh_bipush (v := nI 15) hK d_law_36 (by decide) ?_
      refine gh_iand hK d_law_38 ?_
      refine gh_tab (N := 8) (td := 333) (tgt := fun j => [88, 160, 173, 186, 199, 255, 268, 279, 292].getD j 0) hK d_law_39 (by decide) (fun j hj => by rcases (show j = 0 ∨ j = 1 ∨ j = 2 ∨ j = 3 ∨ j = 4 ∨ j = 5 ∨ j = 6 ∨ j = 7 ∨ j = 8 by omega) with rfl | rfl | rfl | rfl | rfl | rfl | rfl | rfl | rfl <;> exact ⟨_, rfl, by decide⟩) (fun j hj => ?_) ?_
      · rcases (show j = 0 ∨ j = 1 ∨ j = 2 ∨ j = 3 ∨ j = 4 ∨ j = 5 ∨ j = 6 ∨ j = 7 ∨ j = 8 by omega) with rfl | rfl | rfl | rfl | rfl | rfl | rfl | rfl | rfl
        · exact lw_type l G hfl hK hS hJ hL hr5 hI next
        · exact lw_typed l G hfl hK hS hJ hL hr5 hI next
        · exact lw_run l G hfl hK hS hJ hL hr5 hI next
        · exact lw_size l G hfl hK hS hJ hL hr5 hI next
        · exact lw_output l G hfl hK hS hJ hL hr5 hI next
        · exact lw_lost l G hfl hK hS hJ hL hr5 hI next
        · exact lw_wipe l G hfl hK hS hJ hL hr5 hI next
        · exact lw_entries l G hfl hK hS hJ hL hr5 hI next
        · exact lw_rules l G hfl hK hS hJ hL hr5 hI next
      · obtain ⟨es, us1, us2, tx, o, ds, F, ls, le, s, e, wf, wl, cd, fr, tt, ap, fi, en, wr, mk, wd, f, h, hP, hLn, hM, hR, hq, b1, b2⟩ := hI
        exact next _ _ _ _ _ ⟨es, us1, us2, tx, o, ds, F, ls, le, s, e, wf, wl, cd, fr, tt, ap, fi, en, wr, mk, wd, f, h, hP, hLn, hM, hR, hq, by omega, by omega⟩
set_option maxRecDepth 20000 in
set_option maxHeartbeats 4000000 in
theorem lw_entry (l : Launch) (G : GG) {X : GX} {b L : Nat} {xs : Nat → Int32} (hfl : l.flags = pinnedFlags ++ [noTraceFlag]) (hK : gh_K G X code 7 "SpellDeskLaw") (hS : gh_SX X b L xs) (hJ : gh_JX X) (hX : gh_LX X b) (hL : L ≤ 2560) : gh_W l G room_1 X (fun _ => none) 0 0 [some (.ref b), none, none, none, none, none, none] 0 [] := by
  refine gh_new (ci := 0) (fs := [.null, .null, .null, .null, .null, .null, .null, .null]) 0 hK d_law_0 in_SD t_SD ty_SD rfl kc_Lw_8 wi_SD wn_SD df_SD (Nat.le_of_ble_eq_true rfl) (Nat.le_of_ble_eq_true rfl) (fun x hx => ?_)
  refine gh_dup hK d_law_3 rfl ?_
  refine gh_callI (rest := [.ref x]) [] hK (c_SD_init l G (a := x) gh_us) Y_SD_init rfl V_SD_init km_Lw_21 rfl d_law_4 rfl rfl (Nat.le_of_ble_eq_true rfl) ⟨(Nat.le_of_ble_eq_true rfl), (Nat.le_of_ble_eq_true rfl)⟩ ⟨(Nat.le_of_ble_eq_true rfl), (Nat.le_of_ble_eq_true rfl)⟩ (fun v g1 hp => ?_)
  obtain ⟨rfl, A, rfl, h1, hP1, hLn1, m1⟩ := hp
  show gh_W l G _ X g1 31 12695 [some (.ref b), none, none, none, none, none, none] 7 [.ref (A 0)]
  refine gh_astore_n (lv' := [some (.ref b), some (.ref (A 0)), none, none, none, none, none]) hK d_law_7 (Nat.le_of_ble_eq_true rfl) rfl ?_
  refine gh_new (ci := 10) (fs := [.int 0, .int 0, .null, .int 0, .null, .int 0, .int 0, .null, .null, .null, .null, .null, .null, .null, .int 0, .int 0, .int 0, .int 0, .int 0, .int 0, .int 0, .null, .int 0, .null, .null, .null]) 100 hK d_law_8 in_Md t_Md ty_Md rfl kc_Lw_22 wi_Md wn_Md df_Md (Nat.le_of_ble_eq_true rfl) (Nat.le_of_ble_eq_true rfl) (fun y hy => ?_)
  refine gh_dup hK d_law_11 rfl ?_
  have m2 : gh_M [] g1 (gh_up g1 y 100 (.inr (10, [.int 0, .int 0, .null, .int 0, .null, .int 0, .int 0, .null, .null, .null, .null, .null, .null, .null, .int 0, .int 0, .int 0, .int 0, .int 0, .int 0, .int 0, .null, .int 0, .null, .null, .null]))) := gh_M.nw hy
  refine gh_callI (rest := [.ref y]) [] hK (c_Md_init l G (a := y) gh_us) Y_Md_init rfl V_Md_init km_Lw_24 rfl d_law_12 rfl rfl (Nat.le_of_ble_eq_true rfl) ⟨(Nat.le_of_ble_eq_true rfl), (Nat.le_of_ble_eq_true rfl)⟩ ⟨(Nat.le_of_ble_eq_true rfl), (Nat.le_of_ble_eq_true rfl)⟩ (fun v g2 hp => ?_)
  obtain ⟨rfl, B, rfl, hM2, m3⟩ := hp
  show gh_W l G _ X g2 45 32731 [some (.ref b), some (.ref (A 0)), none, none, none, none, none] 15 [.ref (B 0)]
  have m23 : gh_M MDT g1 g2 := (m2.wd (fun t ht => by cases ht)).tr m3
  have h2 := h1.mm m23 (by decide)
  have hP2 := hP1.M m23 (by decide) (by decide) (by decide)
  have hLn2 := hLn1.M m23 (by decide)
  refine gh_astore_n (lv' := [some (.ref b), some (.ref (A 0)), some (.ref (B 0)), none, none, none, none]) hK d_law_15 (Nat.le_of_ble_eq_true rfl) rfl ?_
  refine gh_iconst (v := nI 1) hK d_law_16 (by decide) ?_
  refine gh_newl (t0 := 4) (N := 1) 200 hK d_law_17 rfl w_al rfl (by decide) (Nat.le_of_ble_eq_true rfl) (Nat.le_of_ble_eq_true rfl) (fun q hq => ?_)
  refine gh_astore_n (lv' := [some (.ref b), some (.ref (A 0)), some (.ref (B 0)), some (.ref q), none, none, none]) hK d_law_19 (Nat.le_of_ble_eq_true rfl) rfl ?_
  refine gh_iconst (v := nI 0) hK d_law_20 (by decide) ?_
  refine gh_istore (lv' := [some (.ref b), some (.ref (A 0)), some (.ref (B 0)), some (.ref q), some (.int (nI 0)), none, none]) hK d_law_21 (Nat.le_of_ble_eq_true rfl) rfl ?_
  have m4 : gh_M [] g2 (gh_up g2 q 200 (.inl (G.2.1 4, 1, .inr (.inl (fun _ => 0))))) := gh_M.nw hq
  refine lw_loop (A := A) (B := B) (q := q) (xs := xs) l G hfl hK hS hJ hX hL L 0 46 32732 _ none none (by omega) (by omega) ?_
  refine ⟨[], [], [], [], ([], 0), [], fun _ _ => 0, 0, 0, 0, 0, 0, 0, 0, 0, 0, 0, 0, 0, 0, 0, 0, fun _ => 0, h2.mm m4 (fun _ _ z => by cases z), hP2.M m4 (fun z => by cases z) (fun z => by cases z) (fun z => by cases z), hLn2.M m4 (fun z => by cases z), hM2.M m4 (fun _ _ z => by cases z), ⟨⟨by decide, fun i hi => absurd hi (Nat.not_lt_zero i)⟩, ⟨by decide, fun e x h => by cases h⟩, List.Perm.nil, ⟨by decide, rfl, fun j u h => by cases h⟩, ⟨by decide, rfl, fun j u h => by cases h⟩⟩, gh_us, by decide, by decide⟩
