theorem map_er {α β : Type} (f : α → β) : ∀ (l : List α) (i : Nat), (l.eraseIdx i).map f = (l.map f).eraseIdx i
  | [], _ => rfl
  | _ :: _, 0 => rfl
  | a :: l, i + 1 => congrArg (f a :: ·) (map_er f l i)
set_option maxRecDepth 20000 in
set_option maxHeartbeats 4000000 in
theorem c_Md_drop (l : Launch) (G : GG) {ds : List (List Nat × Nat)} {es : List (Nat × List Nat × Nat)} {tx ws : List Nat} {f : Nat} {g : GH} {B : Nat → Nat} {cd ty fr tt ap fi en wr mk wd : Nat} {F : Nat → Nat → Int32} {o : List Nat × Nat} (h : Md G g B (mS cd ty ds.length fr tt ap fi en wr mk wd) F o) (ht : TxA F tx) (hto : tt ≤ tx.length) (hat : ap ≤ tt) (hfa : fr ≤ ap) (hD : DcA F ds) (hS : srtL (dws es)) (hPm : ds.Perm (es2 es)) (hw : sA (F 1) f ws) (hwl : f + ws.length ≤ 2048) : gMet l G y_Md_drop b_Md_drop 5 none (rmk 2 0 0 50) [.ref (B 0), .int (nI f), .int (nI ws.length)] g (fun v g' => v = none ∧ ∃ F' ds', Md G g' B (mS cd ty ds'.length fr tt (nxE tx tt ap) (nxS tx tt ap) (nxE tx tt ap) (if (nxS tx tt ap) < (nxE tx tt ap) then (nxS tx tt ap) - fr + 1 else wr) mk wd) F' (if (nxS tx tt ap) < (nxE tx tt ap) then o else prs o (if ws ∈ dws es then st_txt.getD 3 [] else st_txt.getD 5 [])) ∧ DcA F' ds' ∧ ds'.Perm (es2 (if (nxS tx tt ap) < (nxE tx tt ap) then es else if ws ∈ dws es then es.eraseIdx (rnkL ws (dws es)) else es)) ∧ FmE F F' ∧ gh_M MDT g g') := by
  refine gMet.of [some (.ref (B 0)), some (.int (nI f)), some (.int (nI ws.length)), none, none] (by decide +kernel) rfl (Nat.le_of_ble_eq_true rfl) rfl (fun X hK hI hE => ?_)
  have mm : gh_M MDT g g := gh_M.rf
  have hdl := hD.1
  refine gh_aload_n hK d_Md_drop_0 rfl ?_
  refine gh_callV (rest := []) [] hK (c_Md_mustEnd l G h ht hto hat hfa) Y_Md_mustEnd V_Md_mustEnd km_Md_184 h.1 rfl rfl d_Md_drop_1 rfl rfl (Nat.le_of_ble_eq_true rfl) ⟨(Nat.le_of_ble_eq_true rfl), (Nat.le_of_ble_eq_true rfl)⟩ ⟨(Nat.le_of_ble_eq_true rfl), (Nat.le_of_ble_eq_true rfl)⟩ (fun v g_1 hp => ?_)
  obtain ⟨rfl, h_1, mx⟩ := hp
  have mm := mm.tr mx
  show gh_W l G _ X g_1 0 0 [some (.ref (B 0)), some (.int (nI f)), some (.int (nI ws.length)), none, none] 4 [.int (nI (bn (decide ((nxE tx tt ap) ≤ (nxS tx tt ap)))))]
  refine gh_if_neB hK d_Md_drop_4 (tgt := 8) (by decide) (fun z => ?_) (fun z => ?_)
  rotate_left
  · have zz := of_decide_eq_false z
    have zy : (nxS tx tt ap) < (nxE tx tt ap) := by omega
    have h := h_1
    rw [if_pos zy] at h
    simp only [if_pos zy] at hE
    exact gh_vret hK hE d_Md_drop_7 (Nat.le_of_ble_eq_true rfl) (Nat.le_of_ble_eq_true rfl) ⟨rfl, _, ds, h, hD, hPm, fun _ _ _ _ => rfl, mm⟩
  have zz := of_decide_eq_true z
  have zn : ¬ (nxS tx tt ap) < (nxE tx tt ap) := by omega
  simp only [if_neg zn] at hE
  have h := h_1
  rw [if_neg zn] at h
  refine gh_aload_n hK d_Md_drop_8 rfl ?_
  refine gh_aload_n hK d_Md_drop_9 rfl ?_
  refine gh_get (v := .ref (B 1)) hK d_Md_drop_10 in_Md rfl h.1 2 (by decide) kf_Md_7 rfl rfl ?_
  refine gh_iload_n hK d_Md_drop_13 rfl ?_
  refine gh_iload_n hK d_Md_drop_14 rfl ?_
  refine gh_callV (rest := []) [.ref (B 1), .int (nI f), .int (nI ws.length)] hK (c_Md_find l G h hD hw hwl) Y_Md_find V_Md_find km_Md_195 h.1 rfl rfl d_Md_drop_15 rfl rfl (Nat.le_of_ble_eq_true rfl) ⟨(Nat.le_of_ble_eq_true rfl), (Nat.le_of_ble_eq_true rfl)⟩ ⟨(Nat.le_of_ble_eq_true rfl), (Nat.le_of_ble_eq_true rfl)⟩ (fun vr gp_1 hp => ?_)
  obtain ⟨hp, hgp⟩ := hp
  rw [hgp]
  rcases hp with ⟨e, x, rfl, he, hx⟩ | ⟨rfl, hno⟩
  rotate_left
  · show gh_W l G _ X g_1 0 0 [some (.ref (B 0)), some (.int (nI f)), some (.int (nI ws.length)), none, none] 18 [.int (-1)]
    refine gh_istore_n (lv' := [some (.ref (B 0)), some (.int (nI f)), some (.int (nI ws.length)), some (.int (-1)), none]) hK d_Md_drop_18 (Nat.le_of_ble_eq_true rfl) rfl ?_
    refine gh_iload_n hK d_Md_drop_19 rfl ?_
    refine gh_iconst (v := (-1)) hK d_Md_drop_20 (by decide) ?_
    refine gh_icmp_neO (b := none) hK d_Md_drop_21 (tgt := 29) (by decide) (fun i hi => by cases hi) (fun i q => by cases q) (fun _ => ?_)
    have hni : ws ∉ dws es := fun q => hno ((ds_dws hPm).mpr q)
    simp only [if_neg hni] at hE
    refine gh_aload_n hK d_Md_drop_24 rfl ?_
    refine gh_callV (rest := []) [] hK (c_Md_none l G h) Y_Md_none V_Md_none km_Md_202 h.1 rfl rfl d_Md_drop_25 rfl rfl (Nat.le_of_ble_eq_true rfl) ⟨(Nat.le_of_ble_eq_true rfl), (Nat.le_of_ble_eq_true rfl)⟩ ⟨(Nat.le_of_ble_eq_true rfl), (Nat.le_of_ble_eq_true rfl)⟩ (fun v g_2 hp => ?_)
    obtain ⟨rfl, h_2, mx⟩ := hp
    have mm := mm.tr mx
    show gh_W l G _ X g_2 0 0 [some (.ref (B 0)), some (.int (nI f)), some (.int (nI ws.length)), some (.int (-1)), none] 28 []
    exact gh_vret hK hE d_Md_drop_28 (Nat.le_of_ble_eq_true rfl) (Nat.le_of_ble_eq_true rfl) ⟨rfl, _, ds, h_2, hD, hPm, fun _ _ _ _ => rfl, mm⟩
  show gh_W l G _ X g_1 0 0 [some (.ref (B 0)), some (.int (nI f)), some (.int (nI ws.length)), none, none] 18 [.int (nI e)]
  have hel := (List.getElem?_eq_some_iff.mp he).1
  refine gh_istore_n (lv' := [some (.ref (B 0)), some (.int (nI f)), some (.int (nI ws.length)), some (.int (nI e)), none]) hK d_Md_drop_18 (Nat.le_of_ble_eq_true rfl) rfl ?_
  refine gh_iload_n hK d_Md_drop_19 rfl ?_
  refine gh_iconst (v := (-1)) hK d_Md_drop_20 (by decide) ?_
  refine gh_icmp_neO (b := some e) hK d_Md_drop_21 (tgt := 29) (by decide) (fun i hi => by cases hi; omega) (fun i _ => ?_) (fun q => by cases q)
  obtain ⟨hin, hat3⟩ := ds_at hS hPm he
  rw [hx] at hin hat3
  simp only [if_pos hin] at hE
  have hy : ds[ds.length - 1]? = some (ds[ds.length - 1]) := List.getElem?_eq_getElem (by omega)
  refine gh_aload_n hK d_Md_drop_29 rfl ?_
  refine gh_dup hK d_Md_drop_30 rfl ?_
  refine gh_get (v := .int (nI ds.length)) hK d_Md_drop_31 in_Md rfl h.1 6 (by decide) kf_Md_106 rfl rfl ?_
  refine gh_iconst (v := nI 1) hK d_Md_drop_34 (by decide) ?_
  refine gh_subN hK d_Md_drop_35 (by omega) ?_
  refine gh_mput hK d_Md_drop_36 h 6 (mS cd ty (ds.length - 1) fr tt (nxE tx tt ap) (nxS tx tt ap) (nxE tx tt ap) wr mk wd) rfl (by decide) kf_Md_106 rfl rfl rfl rfl (by decide) (fun g_3 h_3 mx => ?_)
  have mm := mm.tr mx
  show gh_W l G _ X g_3 0 0 [some (.ref (B 0)), some (.int (nI f)), some (.int (nI ws.length)), some (.int (nI e)), none] 39 []
  refine gh_aload_n hK d_Md_drop_39 rfl ?_
  refine gh_get (v := .ref (B 3)) hK d_Md_drop_40 in_Md rfl h_3.1 7 (by decide) kf_Md_16 rfl rfl ?_
  refine gh_iload_n hK d_Md_drop_43 rfl ?_
  refine gh_aload_n hK d_Md_drop_44 rfl ?_
  refine gh_get (v := .ref (B 3)) hK d_Md_drop_45 in_Md rfl h_3.1 7 (by decide) kf_Md_16 rfl rfl ?_
  refine gh_aload_n hK d_Md_drop_48 rfl ?_
  refine gh_get (v := .int (nI (ds.length - 1))) hK d_Md_drop_49 in_Md rfl h_3.1 6 (by decide) kf_Md_106 rfl rfl ?_
  refine gh_mald hK d_Md_drop_52 h_3 3 (by decide) (i := ds.length - 1) (by show ds.length - 1 < 300; omega) rfl ?_
  refine gh_mast hK d_Md_drop_53 h_3 3 (by decide) (i := e) (by show e < 300; omega) (fun g_4 h_4 mx => ?_)
  have mm := mm.tr mx
  show gh_W l G _ X g_4 0 0 [some (.ref (B 0)), some (.int (nI f)), some (.int (nI ws.length)), some (.int (nI e)), none] 54 []
  refine gh_aload_n hK d_Md_drop_54 rfl ?_
  refine gh_get (v := .ref (B 4)) hK d_Md_drop_55 in_Md rfl h_4.1 8 (by decide) kf_Md_19 rfl rfl ?_
  refine gh_iload_n hK d_Md_drop_58 rfl ?_
  refine gh_aload_n hK d_Md_drop_59 rfl ?_
  refine gh_get (v := .ref (B 4)) hK d_Md_drop_60 in_Md rfl h_4.1 8 (by decide) kf_Md_19 rfl rfl ?_
  refine gh_aload_n hK d_Md_drop_63 rfl ?_
  refine gh_get (v := .int (nI (ds.length - 1))) hK d_Md_drop_64 in_Md rfl h_4.1 6 (by decide) kf_Md_106 rfl rfl ?_
  refine gh_mald hK d_Md_drop_67 h_4 4 (by decide) (i := ds.length - 1) (by show ds.length - 1 < 300; omega) rfl ?_
  refine gh_mast hK d_Md_drop_68 h_4 4 (by decide) (i := e) (by show e < 300; omega) (fun g_5 h_5 mx => ?_)
  have mm := mm.tr mx
  show gh_W l G _ X g_5 0 0 [some (.ref (B 0)), some (.int (nI f)), some (.int (nI ws.length)), some (.int (nI e)), none] 69 []
  refine gh_iconst (v := nI 0) hK d_Md_drop_69 (by decide) ?_
  refine gh_istore (lv' := [some (.ref (B 0)), some (.int (nI f)), some (.int (nI ws.length)), some (.int (nI e)), some (.int (nI 0))]) hK d_Md_drop_70 (Nat.le_of_ble_eq_true rfl) rfl ?_
  have cp : ∀ (m k : Nat) (g2 : GH) (F2 : Nat → Nat → Int32) (h : Md G g2 B (mS cd ty (ds.length - 1) fr tt (nxE tx tt ap) (nxS tx tt ap) (nxE tx tt ap) wr mk wd) F2 o) (mm : gh_M MDT g g2), k + m = 16 → (∀ j, j ≠ 5 → F2 j = (upF (upF F 3 (upd (F 3) e (F 3 (ds.length - 1)))) 4 (upd ((upF F 3 (upd (F 3) e (F 3 (ds.length - 1)))) 4) e ((upF F 3 (upd (F 3) e (F 3 (ds.length - 1)))) 4 (ds.length - 1)))) j) → (∀ i, i < k → F2 5 (16 * e + i) = F 5 (16 * (ds.length - 1) + i)) → (∀ i, k ≤ i → F2 5 (16 * e + i) = F 5 (16 * e + i)) → (∀ i, i < 16 * e ∨ 16 * e + 16 ≤ i → F2 5 i = F 5 i) → gh_W l G (rmk 2 0 0 50) X g2 0 0 [some (.ref (B 0)), some (.int (nI f)), some (.int (nI ws.length)), some (.int (nI e)), some (.int (nI k))] 72 [] := by
    intro m
    induction m with
    | zero =>
      intro k g2 F2 h mm hk hj h1 h2 h3
      refine gh_iload hK d_Md_drop_72 rfl ?_
      refine gh_bipush (v := nI 16) hK d_Md_drop_74 (by decide) ?_
      refine gh_icmp_geN hK d_Md_drop_76 (tgt := 112) (by decide) (by omega) (by omega) (fun _ => ?_) (fun q => by omega)
      refine gh_aload_n hK d_Md_drop_112 rfl ?_
      refine gh_callV (rest := []) [] hK (c_Md_ok l G h) Y_Md_ok V_Md_ok km_Md_189 h.1 rfl rfl d_Md_drop_113 rfl rfl (Nat.le_of_ble_eq_true rfl) ⟨(Nat.le_of_ble_eq_true rfl), (Nat.le_of_ble_eq_true rfl)⟩ ⟨(Nat.le_of_ble_eq_true rfl), (Nat.le_of_ble_eq_true rfl)⟩ (fun v g_6 hp => ?_)
      obtain ⟨rfl, h_6, mx⟩ := hp
      have mm := mm.tr mx
      show gh_W l G _ X g_6 0 0 [some (.ref (B 0)), some (.int (nI f)), some (.int (nI ws.length)), some (.int (nI e)), some (.int (nI k))] 116 []
      refine gh_vret hK hE d_Md_drop_116 (Nat.le_of_ble_eq_true rfl) (Nat.le_of_ble_eq_true rfl) ⟨rfl, _, swp ds e (ds[ds.length - 1]), by rw [swp_len]; exact h_6, hD.rm (n := ds.length - 1) (by omega) he hy ?_ ?_ (fun i hi => h1 i (by omega)) h3, ?_, fun j h3 h4 h5 => ?_, mm⟩
      · rw [hj 3 (by decide), upF_n (by decide), upF_s]
      · rw [hj 4 (by decide), upF_s, upF_n (by decide)]
      · refine (swp_perm he hy).trans ?_
        have := er_cong hPm he hat3
        rw [show es2 (es.eraseIdx (rnkL ws (dws es))) = (es2 es).eraseIdx (rnkL ws (dws es)) from map_er ..]
        exact this
      · rw [hj j h5, upF_n h4, upF_n h3]
    | succ m ihc =>
      intro k g2 F2 h mm hk hj h1 h2 h3
      have hrd : F2 5 (16 * (ds.length - 1) + k) = F 5 (16 * (ds.length - 1) + k) := by
        by_cases q : ds.length - 1 = e
        · rw [q]; exact h2 k (Nat.le_refl _)
        · exact h3 _ (by omega)
      refine gh_iload hK d_Md_drop_72 rfl ?_
      refine gh_bipush (v := nI 16) hK d_Md_drop_74 (by decide) ?_
      refine gh_icmp_geN hK d_Md_drop_76 (tgt := 112) (by decide) (by omega) (by omega) (fun q => by omega) (fun _ => ?_)
      refine gh_aload_n hK d_Md_drop_79 rfl ?_
      refine gh_get (v := .ref (B 5)) hK d_Md_drop_80 in_Md rfl h.1 9 (by decide) kf_Md_22 rfl rfl ?_
      refine gh_bipush (v := nI 16) hK d_Md_drop_83 (by decide) ?_
      refine gh_iload_n hK d_Md_drop_85 rfl ?_
      refine gh_mulN hK d_Md_drop_86 ?_
      refine gh_iload hK d_Md_drop_87 rfl ?_
      refine gh_addN hK d_Md_drop_89 ?_
      refine gh_aload_n hK d_Md_drop_90 rfl ?_
      refine gh_get (v := .ref (B 5)) hK d_Md_drop_91 in_Md rfl h.1 9 (by decide) kf_Md_22 rfl rfl ?_
      refine gh_bipush (v := nI 16) hK d_Md_drop_94 (by decide) ?_
      refine gh_aload_n hK d_Md_drop_96 rfl ?_
      refine gh_get (v := .int (nI (ds.length - 1))) hK d_Md_drop_97 in_Md rfl h.1 6 (by decide) kf_Md_106 rfl rfl ?_
      refine gh_mulN hK d_Md_drop_100 ?_
      refine gh_iload hK d_Md_drop_101 rfl ?_
      refine gh_addN hK d_Md_drop_103 ?_
      refine gh_mald hK d_Md_drop_104 h 5 (by decide) (i := (16 * (ds.length - 1)) + k) (by show (16 * (ds.length - 1)) + k < 4800; omega) rfl ?_
      refine gh_mast hK d_Md_drop_105 h 5 (by decide) (i := (16 * e) + k) (by show (16 * e) + k < 4800; omega) (fun g_7 h_7 mx => ?_)
      have mm := mm.tr mx
      show gh_W l G _ X g_7 0 0 [some (.ref (B 0)), some (.int (nI f)), some (.int (nI ws.length)), some (.int (nI e)), some (.int (nI k))] 106 []
      refine gh_incN (lv' := [some (.ref (B 0)), some (.int (nI f)), some (.int (nI ws.length)), some (.int (nI e)), some (.int (nI (k + 1)))]) hK d_Md_drop_106 rfl rfl ?_
      refine gh_goto (tgt := 72) hK d_Md_drop_109 (by decide) ?_
      refine ihc (k + 1) g_7 _ h_7 mm (by omega) (fun j h5 => by rw [upF_n h5]; exact hj j h5) (fun i hi => ?_) (fun i hi => ?_) (fun i hi => ?_)
      · rw [upF_s]
        by_cases q : i = k
        · rw [q, pk_us]; exact hrd
        · rw [pk_un (by omega)]; exact h1 i (by omega)
      · rw [upF_s, pk_un (by omega)]; exact h2 i (by omega)
      · rw [upF_s, pk_un (by omega)]; exact h3 i hi
  exact cp 16 0 g_5 _ h_5 mm (by omega) (fun _ _ => rfl) (fun i hi => absurd hi (Nat.not_lt_zero _)) (fun i _ => by rw [upF_n (by decide), upF_n (by decide)]) (fun i _ => by rw [upF_n (by decide), upF_n (by decide)])
