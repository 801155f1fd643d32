/-! what is typed -/
def chK (a b c d : Int32) (k : Nat) : Nat := bt (if k < 4 then a else if k < 8 then b else if k < 12 then c else d) (24 - k % 4 * 8)
def chL (a b c d : Int32) (k : Nat) : List Nat := ((List.range k).map (chK a b c d)).filter (fun c => decide (0 < c))
theorem chL_succ (a b c d : Int32) (k : Nat) : chL a b c d (k + 1) = if 0 < chK a b c d k then chL a b c d k ++ [chK a b c d k] else chL a b c d k := by
  unfold chL
  rw [List.range_succ, List.map_append, List.filter_append, List.map_cons, List.map_nil]
  split
  · next h => rw [List.filter_cons_of_pos (by simpa using h), List.filter_nil]
  · next h => rw [List.filter_cons_of_neg (by simpa using h), List.filter_nil, List.append_nil]
theorem chL_16 (a b c d : Int32) : chL a b c d 16 = chs4 a ++ (chs4 b ++ (chs4 c ++ chs4 d)) := by
  unfold chL chs4
  rw [← List.filter_append, ← List.filter_append, ← List.filter_append]
  rfl
theorem bt_shr (x : Int32) (s : Nat) (hs : s = 24 ∨ s = 16 ∨ s = 8 ∨ s = 0) : (x >>> (nI s &&& 31)) &&& nI 255 = nI (bt x s) := by
  have hs2 : s < 32 := by omega
  rw [show nI s &&& 31 = nI s from (pk_andN (by omega) 5 (by decide)).trans (by rw [Nat.mod_eq_of_lt (by omega)]), pk_and _ 8 (by decide)]
  congr 1
  have e1 : (x >>> nI s).toInt = x.toInt >>> s := pk_shr x (nI s) s (sm32 s hs2)
  have e2 : ∀ y : Int32, (y.toBitVec.toNat : Int) = y.toInt % 4294967296 := fun y => by
    have := BitVec.toInt_eq_toNat_cond y.toBitVec
    have hlt := y.toBitVec.isLt
    show (y.toBitVec.toNat : Int) = y.toBitVec.toInt % 4294967296
    rw [this]
    split <;> omega
  have e3 := e2 (x >>> nI s)
  have e4 := e2 x
  rw [e1, Int.shiftRight_eq_div_pow] at e3
  have hlt := x.toBitVec.isLt
  have hx := x.toBitVec.toInt_lt
  have hx2 := x.toBitVec.le_toInt
  unfold bt
  rw [Nat.shiftRight_eq_div_pow]
  show (x >>> nI s).toBitVec.toNat % 2 ^ 8 = x.toBitVec.toNat / 2 ^ s % 256
  have hi : x.toBitVec.toInt = x.toInt := rfl
  rcases hs with rfl | rfl | rfl | rfl <;> simp only [Nat.reducePow, Int.reducePow] at e3 e4 ⊢ <;> omega
set_option maxRecDepth 20000 in
set_option maxHeartbeats 4000000 in
theorem c_Md_character (l : Launch) (G : GG) {g : GH} {a b c d : Int32} {k : Nat} (hk : k < 16) : gMet l G y_Md_character b_Md_character 6 (some .int) (rmk 0 0 0 0) [.int a, .int b, .int c, .int d, .int (nI k)] g (fun v g' => v = some (.int (nI (chK a b c d k))) ∧ g' = g) := by
  refine gMet.of [some (.int a), some (.int b), some (.int c), some (.int d), some (.int (nI k)), none] (by decide +kernel) rfl (Nat.le_of_ble_eq_true rfl) rfl (fun X hK hI hE => ?_)
  have fin : ∀ x : Int32, x = (if k < 4 then a else if k < 8 then b else if k < 12 then c else d) → gh_W l G (rmk 0 0 0 0) X g 0 0 [some (.int a), some (.int b), some (.int c), some (.int d), some (.int (nI k)), none] 33 [.int x] := by
    intro x hx
    refine gh_istore (lv' := [some (.int a), some (.int b), some (.int c), some (.int d), some (.int (nI k)), some (.int x)]) hK d_Md_character_33 (Nat.le_of_ble_eq_true rfl) rfl ?_
    refine gh_iload hK d_Md_character_35 rfl ?_
    refine gh_bipush (v := nI 24) hK d_Md_character_37 (by decide) ?_
    refine gh_iload hK d_Md_character_39 rfl ?_
    refine gh_iconst (v := nI 4) hK d_Md_character_41 (by decide) ?_
    refine gh_remN hK d_Md_character_42 (by omega) (by omega) (by omega) ?_
    refine gh_bipush (v := nI 8) hK d_Md_character_43 (by decide) ?_
    refine gh_mulN hK d_Md_character_45 ?_
    refine gh_subN hK d_Md_character_46 (by omega) ?_
    refine gh_ishr hK d_Md_character_47 ?_
    refine gh_sipush (v := nI 255) hK d_Md_character_48 (by decide) ?_
    refine gh_iand hK d_Md_character_51 ?_
    rw [bt_shr x _ (by omega)]
    exact gh_iret hK hE d_Md_character_52 (Nat.le_of_ble_eq_true rfl) (Nat.le_of_ble_eq_true rfl) ⟨by rw [chK, ← hx], rfl⟩
  refine gh_iload hK d_Md_character_0 rfl ?_
  refine gh_iconst (v := nI 4) hK d_Md_character_2 (by decide) ?_
  refine gh_icmp_geN hK d_Md_character_3 (tgt := 10) (by decide) (by omega) (by decide) (fun z0 => ?_) (fun z0 => ?_)
  rotate_left
  · refine gh_iload_n hK d_Md_character_6 rfl ?_
    refine gh_goto (tgt := 33) hK d_Md_character_7 (by decide) ?_
    exact fin _ (by rw [if_pos (by omega)])
  refine gh_iload hK d_Md_character_10 rfl ?_
  refine gh_bipush (v := nI 8) hK d_Md_character_12 (by decide) ?_
  refine gh_icmp_geN hK d_Md_character_14 (tgt := 21) (by decide) (by omega) (by decide) (fun z1 => ?_) (fun z1 => ?_)
  rotate_left
  · refine gh_iload_n hK d_Md_character_17 rfl ?_
    refine gh_goto (tgt := 33) hK d_Md_character_18 (by decide) ?_
    exact fin _ (by rw [if_neg (by omega), if_pos (by omega)])
  refine gh_iload hK d_Md_character_21 rfl ?_
  refine gh_bipush (v := nI 12) hK d_Md_character_23 (by decide) ?_
  refine gh_icmp_geN hK d_Md_character_25 (tgt := 32) (by decide) (by omega) (by decide) (fun z2 => ?_) (fun z2 => ?_)
  rotate_left
  · refine gh_iload_n hK d_Md_character_28 rfl ?_
    refine gh_goto (tgt := 33) hK d_Md_character_29 (by decide) ?_
    exact fin _ (by rw [if_neg (by omega), if_neg (by omega), if_pos (by omega)])
  refine gh_iload_n hK d_Md_character_32 rfl ?_
  exact fin _ (by rw [if_neg (by omega), if_neg (by omega), if_neg (by omega)])
set_option maxRecDepth 20000 in
set_option maxHeartbeats 4000000 in
theorem c_Md_type (l : Launch) (G : GG) {tx : List Nat} {a b c d : Int32} {g : GH} {B : Nat → Nat} {cd ne fr tt ap fi en wr mk wd : Nat} {F : Nat → Nat → Int32} {o : List Nat × Nat} (h : Md G g B (mS cd tx.length ne fr tt ap fi en wr mk wd) F o) (ht : TxA F tx) : gMet l G y_Md_type b_Md_type 7 none (rmk 1 0 0 25) [.ref (B 0), .int a, .int b, .int c, .int d] g (fun v g' => v = none ∧ ∃ F', (if tx.length + (chL a b c d 16).length ≤ 2048 then Md G g' B (mS 0 ((tx ++ chL a b c d 16).length) ne fr tt ap fi en wr mk wd) F' o ∧ TxA F' (tx ++ chL a b c d 16) else Md G g' B (mS 1 tx.length ne fr tt ap fi en wr mk wd) F' o ∧ TxA F' tx) ∧ (∀ j, j ≠ 1 → F' j = F j) ∧ gh_M MDT g g') := by
  refine gMet.of [some (.ref (B 0)), some (.int a), some (.int b), some (.int c), some (.int d), none, none] (by decide +kernel) rfl (Nat.le_of_ble_eq_true rfl) rfl (fun X hK hI hE => ?_)
  have mm : gh_M MDT g g := gh_M.rf
  have htl := ht.1
  have hcl : ∀ k, (chL a b c d k).length ≤ k := fun k => by
    unfold chL
    exact Nat.le_trans (List.length_filter_le _ _) (by rw [List.length_map, List.length_range]; exact Nat.le_refl _)
  have hkl : ∀ k, chK a b c d k < 256 := fun k => bt_lt _ _
  have lp2 : tx.length + (chL a b c d 16).length ≤ 2048 → ∀ (m k : Nat) (g1 : GH) (F1 : Nat → Nat → Int32) (v5 : Option Value) (h : Md G g1 B (mS 0 ((tx ++ chL a b c d k).length) ne fr tt ap fi en wr mk wd) F1 o) (ht1 : TxA F1 (tx ++ chL a b c d k)) (hF : ∀ j, j ≠ 1 → F1 j = F j) (mm : gh_M MDT g g1), k + m = 16 → gh_W l G (rmk 1 0 0 25) X g1 0 0 [some (.ref (B 0)), some (.int a), some (.int b), some (.int c), some (.int d), v5, some (.int (nI k))] 68 [] := by
    intro hfit m
    induction m with
    | zero =>
      intro k g1 F1 v5 h ht1 hF mm hk
      have hk : k = 16 := by omega
      subst hk
      refine gh_iload hK d_Md_type_68 rfl ?_
      refine gh_bipush (v := nI 16) hK d_Md_type_70 (by decide) ?_
      refine gh_icmp_geN hK d_Md_type_72 (tgt := 130) (by decide) (by decide) (by decide) (fun _ => ?_) (fun q => absurd q (by decide))
      exact gh_vret hK hE d_Md_type_130 (Nat.le_of_ble_eq_true rfl) (Nat.le_of_ble_eq_true rfl) ⟨rfl, F1, by rw [if_pos hfit]; exact ⟨h, ht1⟩, hF, mm⟩
    | succ m ih =>
      intro k g1 F1 v5 h ht1 hF mm hk
      have hck := hkl k
      have hln : (tx ++ chL a b c d k).length = tx.length + (chL a b c d k).length := List.length_append
      have htl1 := ht1.1
      refine gh_iload hK d_Md_type_68 rfl ?_
      refine gh_bipush (v := nI 16) hK d_Md_type_70 (by decide) ?_
      refine gh_icmp_geN hK d_Md_type_72 (tgt := 130) (by decide) (by omega) (by decide) (fun q => by omega) (fun _ => ?_)
      refine gh_aload_n hK d_Md_type_75 rfl ?_
      refine gh_get (v := .int (nI 0)) hK d_Md_type_76 in_Md rfl h.1 0 (by decide) kf_Md_49 rfl rfl ?_
      refine gh_if_neN hK d_Md_type_79 (tgt := 130) (by decide) (by decide) (fun q => absurd q (by decide)) (fun _ => ?_)
      refine gh_iload_n hK d_Md_type_82 rfl ?_
      refine gh_iload_n hK d_Md_type_83 rfl ?_
      refine gh_iload_n hK d_Md_type_84 rfl ?_
      refine gh_iload hK d_Md_type_85 rfl ?_
      refine gh_iload hK d_Md_type_87 rfl ?_
      refine gh_callS (rest := []) [.int a, .int b, .int c, .int d, .int (nI k)] hK (c_Md_character l G (g := g1) (k := k) (by omega)) Y_Md_character V_Md_character km_Md_53 rfl d_Md_type_89 rfl rfl (Nat.le_of_ble_eq_true rfl) ⟨(Nat.le_of_ble_eq_true rfl), (Nat.le_of_ble_eq_true rfl)⟩ ⟨(Nat.le_of_ble_eq_true rfl), (Nat.le_of_ble_eq_true rfl)⟩ (fun v g' hp => ?_)
      rw [hp.1, hp.2]
      show gh_W l G _ X g1 0 0 [some (.ref (B 0)), some (.int a), some (.int b), some (.int c), some (.int d), v5, some (.int (nI k))] 92 [.int (nI (chK a b c d k))]
      refine gh_if_eqN hK d_Md_type_92 (tgt := 124) (by decide) (by omega) (fun z => ?_) (fun z => ?_)
      · refine gh_incN (lv' := [some (.ref (B 0)), some (.int a), some (.int b), some (.int c), some (.int d), v5, some (.int (nI (k + 1)))]) hK d_Md_type_124 rfl rfl ?_
        refine gh_goto (tgt := 68) hK d_Md_type_127 (by decide) ?_
        have e1 : chL a b c d (k + 1) = chL a b c d k := by rw [chL_succ, if_neg (by omega)]
        exact ih (k + 1) g1 F1 _ (by rw [e1]; exact h) (by rw [e1]; exact ht1) hF mm (by omega)
      have e1 : chL a b c d (k + 1) = chL a b c d k ++ [(chK a b c d k)] := by rw [chL_succ, if_pos z]
      have e2 : tx ++ chL a b c d (k + 1) = (tx ++ chL a b c d k) ++ [(chK a b c d k)] := by rw [e1, List.append_assoc]
      have mono : (chL a b c d (k + 1)).length ≤ (chL a b c d 16).length := by
        have : ∀ n q, (chL a b c d q).length ≤ (chL a b c d (q + n)).length := fun n => by
          induction n with
          | zero => exact fun q => Nat.le_refl _
          | succ n ihn => intro q; have := ihn q; rw [show q + (n + 1) = q + n + 1 by omega, chL_succ]; split <;> (try rw [List.length_append]) <;> omega
        have q := this (16 - (k + 1)) (k + 1)
        rwa [show k + 1 + (16 - (k + 1)) = 16 by omega] at q
      have mono2 := mono
      rw [e1, List.length_append, List.length_singleton] at mono2
      refine gh_aload_n hK d_Md_type_95 rfl ?_
      refine gh_get (v := .ref (B 1)) hK d_Md_type_96 in_Md rfl h.1 2 (by decide) kf_Md_7 rfl rfl ?_
      refine gh_aload_n hK d_Md_type_99 rfl ?_
      refine gh_get (v := .int (nI ((tx ++ chL a b c d k).length))) hK d_Md_type_100 in_Md rfl h.1 1 (by decide) kf_Md_57 rfl rfl ?_
      refine gh_iload_n hK d_Md_type_103 rfl ?_
      refine gh_iload_n hK d_Md_type_104 rfl ?_
      refine gh_iload_n hK d_Md_type_105 rfl ?_
      refine gh_iload hK d_Md_type_106 rfl ?_
      refine gh_iload hK d_Md_type_108 rfl ?_
      refine gh_callS (rest := [.int (nI ((tx ++ chL a b c d k).length)), .ref (B 1)]) [.int a, .int b, .int c, .int d, .int (nI k)] hK (c_Md_character l G (g := g1) (k := k) (by omega)) Y_Md_character V_Md_character km_Md_53 rfl d_Md_type_110 rfl rfl (Nat.le_of_ble_eq_true rfl) ⟨(Nat.le_of_ble_eq_true rfl), (Nat.le_of_ble_eq_true rfl)⟩ ⟨(Nat.le_of_ble_eq_true rfl), (Nat.le_of_ble_eq_true rfl)⟩ (fun v g' hp => ?_)
      rw [hp.1, hp.2]
      show gh_W l G _ X g1 0 0 [some (.ref (B 0)), some (.int a), some (.int b), some (.int c), some (.int d), v5, some (.int (nI k))] 113 [.int (nI (chK a b c d k)), .int (nI ((tx ++ chL a b c d k).length)), .ref (B 1)]
      refine gh_mast hK d_Md_type_113 h 1 (by decide) (i := (tx ++ chL a b c d k).length) (by show (tx ++ chL a b c d k).length < 2048; omega) (fun g_1 h_1 mx => ?_)
      have mm := mm.tr mx
      show gh_W l G _ X g_1 0 0 [some (.ref (B 0)), some (.int a), some (.int b), some (.int c), some (.int d), v5, some (.int (nI k))] 114 []
      refine gh_aload_n hK d_Md_type_114 rfl ?_
      refine gh_dup hK d_Md_type_115 rfl ?_
      refine gh_get (v := .int (nI ((tx ++ chL a b c d k).length))) hK d_Md_type_116 in_Md rfl h_1.1 1 (by decide) kf_Md_57 rfl rfl ?_
      refine gh_iconst (v := nI 1) hK d_Md_type_119 (by decide) ?_
      refine gh_addN hK d_Md_type_120 ?_
      refine gh_mput hK d_Md_type_121 h_1 1 (mS 0 (((tx ++ chL a b c d k).length) + 1) ne fr tt ap fi en wr mk wd) rfl (by decide) kf_Md_57 rfl rfl rfl rfl (by decide) (fun g_2 h_2 mx => ?_)
      have mm := mm.tr mx
      show gh_W l G _ X g_2 0 0 [some (.ref (B 0)), some (.int a), some (.int b), some (.int c), some (.int d), v5, some (.int (nI k))] 124 []
      refine gh_incN (lv' := [some (.ref (B 0)), some (.int a), some (.int b), some (.int c), some (.int d), v5, some (.int (nI (k + 1)))]) hK d_Md_type_124 rfl rfl ?_
      refine gh_goto (tgt := 68) hK d_Md_type_127 (by decide) ?_
      have hl3 : ((tx ++ chL a b c d k) ++ [(chK a b c d k)]).length = (tx ++ chL a b c d k).length + 1 := List.length_append
      have ht2 : TxA (upF F1 1 (upd (F1 1) ((tx ++ chL a b c d k).length) (nI (chK a b c d k)))) (tx ++ chL a b c d (k + 1)) := by
        rw [e2]
        refine ⟨by omega, fun i hi => ?_⟩
        rw [hl3] at hi
        rw [upF_s]
        by_cases q : i = (tx ++ chL a b c d k).length
        · subst q
          rw [pk_us, List.getD_eq_getElem?_getD, List.getElem?_append_right (Nat.le_refl _), Nat.sub_self]
          exact ⟨rfl, z, hck⟩
        · rw [pk_un q, List.getD_eq_getElem?_getD, List.getElem?_append_left (by omega), ← List.getD_eq_getElem?_getD]
          exact ht1.2 i (by omega)
      exact ih (k + 1) g_2 _ _ (by rw [e2, hl3]; exact h_2) ht2 (fun j hj => by rw [upF_n hj]; exact hF j hj) mm (by omega)
  have t43 : gh_W l G (rmk 1 0 0 25) X g 0 0 [some (.ref (B 0)), some (.int a), some (.int b), some (.int c), some (.int d), some (.int (nI ((chL a b c d 16).length))), some (.int (nI 16))] 43 [] := by
    have h16 := hcl 16
    refine gh_aload_n hK d_Md_type_43 rfl ?_
    refine gh_aload_n hK d_Md_type_44 rfl ?_
    refine gh_get (v := .int (nI tx.length)) hK d_Md_type_45 in_Md rfl h.1 1 (by decide) kf_Md_57 rfl rfl ?_
    refine gh_iload hK d_Md_type_48 rfl ?_
    refine gh_addN hK d_Md_type_50 ?_
    refine gh_sipush (v := nI 2048) hK d_Md_type_51 (by decide) ?_
    refine gh_icmp_leN hK d_Md_type_54 (tgt := 61) (by decide) (by omega) (by decide) (fun z => ?_) (fun z => ?_)
    · refine gh_iconst (v := nI 0) hK d_Md_type_61 (by decide) ?_
      refine gh_mput hK d_Md_type_62 h 0 (mS 0 tx.length ne fr tt ap fi en wr mk wd) rfl (by decide) kf_Md_49 rfl rfl rfl rfl (by decide) (fun g_1 h_1 mx => ?_)
      have mm := mm.tr mx
      show gh_W l G _ X g_1 0 0 [some (.ref (B 0)), some (.int a), some (.int b), some (.int c), some (.int d), some (.int (nI ((chL a b c d 16).length))), some (.int (nI 16))] 65 []
      refine gh_iconst (v := nI 0) hK d_Md_type_65 (by decide) ?_
      refine gh_istore (lv' := [some (.ref (B 0)), some (.int a), some (.int b), some (.int c), some (.int d), some (.int (nI ((chL a b c d 16).length))), some (.int (nI 0))]) hK d_Md_type_66 (Nat.le_of_ble_eq_true rfl) rfl ?_
      exact lp2 z 16 0 g_1 F _ (by rw [show tx ++ chL a b c d 0 = tx from List.append_nil _]; exact h_1) (by rw [show tx ++ chL a b c d 0 = tx from List.append_nil _]; exact ht) (fun _ _ => rfl) mm (by omega)
    · refine gh_iconst (v := nI 1) hK d_Md_type_57 (by decide) ?_
      refine gh_goto (tgt := 62) hK d_Md_type_58 (by decide) ?_
      refine gh_mput hK d_Md_type_62 h 0 (mS 1 tx.length ne fr tt ap fi en wr mk wd) rfl (by decide) kf_Md_49 rfl rfl rfl rfl (by decide) (fun g_2 h_2 mx => ?_)
      have mm := mm.tr mx
      show gh_W l G _ X g_2 0 0 [some (.ref (B 0)), some (.int a), some (.int b), some (.int c), some (.int d), some (.int (nI ((chL a b c d 16).length))), some (.int (nI 16))] 65 []
      refine gh_iconst (v := nI 0) hK d_Md_type_65 (by decide) ?_
      refine gh_istore (lv' := [some (.ref (B 0)), some (.int a), some (.int b), some (.int c), some (.int d), some (.int (nI ((chL a b c d 16).length))), some (.int (nI 0))]) hK d_Md_type_66 (Nat.le_of_ble_eq_true rfl) rfl ?_
      refine gh_iload hK d_Md_type_68 rfl ?_
      refine gh_bipush (v := nI 16) hK d_Md_type_70 (by decide) ?_
      refine gh_icmp_geN hK d_Md_type_72 (tgt := 130) (by decide) (by decide) (by decide) (fun q => absurd q (by decide)) (fun _ => ?_)
      refine gh_aload_n hK d_Md_type_75 rfl ?_
      refine gh_get (v := .int (nI 1)) hK d_Md_type_76 in_Md rfl h_2.1 0 (by decide) kf_Md_49 rfl rfl ?_
      refine gh_if_neN hK d_Md_type_79 (tgt := 130) (by decide) (by decide) (fun _ => ?_) (fun q => absurd q (by decide))
      exact gh_vret hK hE d_Md_type_130 (Nat.le_of_ble_eq_true rfl) (Nat.le_of_ble_eq_true rfl) ⟨rfl, F, by rw [if_neg (by omega)]; exact ⟨h_2, ht⟩, fun _ _ => rfl, mm⟩
  have lp1 : ∀ (m k : Nat), k + m = 16 → gh_W l G (rmk 1 0 0 25) X g 0 0 [some (.ref (B 0)), some (.int a), some (.int b), some (.int c), some (.int d), some (.int (nI ((chL a b c d k).length))), some (.int (nI k))] 6 [] := by
    intro m
    induction m with
    | zero =>
      intro k hk
      have hk : k = 16 := by omega
      subst hk
      refine gh_iload hK d_Md_type_6 rfl ?_
      refine gh_bipush (v := nI 16) hK d_Md_type_8 (by decide) ?_
      refine gh_icmp_geN hK d_Md_type_10 (tgt := 43) (by decide) (by decide) (by decide) (fun _ => t43) (fun q => absurd q (by decide))
    | succ m ih =>
      intro k hk
      have hck := hkl k
      refine gh_iload hK d_Md_type_6 rfl ?_
      refine gh_bipush (v := nI 16) hK d_Md_type_8 (by decide) ?_
      refine gh_icmp_geN hK d_Md_type_10 (tgt := 43) (by decide) (by omega) (by decide) (fun q => by omega) (fun _ => ?_)
      refine gh_iload_n hK d_Md_type_13 rfl ?_
      refine gh_iload_n hK d_Md_type_14 rfl ?_
      refine gh_iload_n hK d_Md_type_15 rfl ?_
      refine gh_iload hK d_Md_type_16 rfl ?_
      refine gh_iload hK d_Md_type_18 rfl ?_
      refine gh_callS (rest := []) [.int a, .int b, .int c, .int d, .int (nI k)] hK (c_Md_character l G (g := g) (k := k) (by omega)) Y_Md_character V_Md_character km_Md_53 rfl d_Md_type_20 rfl rfl (Nat.le_of_ble_eq_true rfl) ⟨(Nat.le_of_ble_eq_true rfl), (Nat.le_of_ble_eq_true rfl)⟩ ⟨(Nat.le_of_ble_eq_true rfl), (Nat.le_of_ble_eq_true rfl)⟩ (fun v g' hp => ?_)
      rw [hp.1, hp.2]
      show gh_W l G _ X g 0 0 [some (.ref (B 0)), some (.int a), some (.int b), some (.int c), some (.int d), some (.int (nI ((chL a b c d k).length))), some (.int (nI k))] 23 [.int (nI (chK a b c d k))]
      refine gh_if_neN hK d_Md_type_23 (tgt := 31) (by decide) (by omega) (fun z => ?_) (fun z => ?_)
      · refine gh_iload hK d_Md_type_31 rfl ?_
        refine gh_iconst (v := nI 1) hK d_Md_type_33 (by decide) ?_
        refine gh_addN hK d_Md_type_34 ?_
        refine gh_istore (lv' := [some (.ref (B 0)), some (.int a), some (.int b), some (.int c), some (.int d), some (.int (nI (((chL a b c d k).length) + 1))), some (.int (nI k))]) hK d_Md_type_35 (Nat.le_of_ble_eq_true rfl) rfl ?_
        refine gh_incN (lv' := [some (.ref (B 0)), some (.int a), some (.int b), some (.int c), some (.int d), some (.int (nI (((chL a b c d k).length) + 1))), some (.int (nI (k + 1)))]) hK d_Md_type_37 rfl rfl ?_
        refine gh_goto (tgt := 6) hK d_Md_type_40 (by decide) ?_
        have := ih (k + 1) (by omega)
        rw [chL_succ, if_pos z, List.length_append] at this
        exact this
      · refine gh_iload hK d_Md_type_26 rfl ?_
        refine gh_goto (tgt := 35) hK d_Md_type_28 (by decide) ?_
        refine gh_istore (lv' := [some (.ref (B 0)), some (.int a), some (.int b), some (.int c), some (.int d), some (.int (nI ((chL a b c d k).length))), some (.int (nI k))]) hK d_Md_type_35 (Nat.le_of_ble_eq_true rfl) rfl ?_
        refine gh_incN (lv' := [some (.ref (B 0)), some (.int a), some (.int b), some (.int c), some (.int d), some (.int (nI ((chL a b c d k).length))), some (.int (nI (k + 1)))]) hK d_Md_type_37 rfl rfl ?_
        refine gh_goto (tgt := 6) hK d_Md_type_40 (by decide) ?_
        have := ih (k + 1) (by omega)
        rw [chL_succ, if_neg (by omega)] at this
        exact this
  refine gh_iconst (v := nI 0) hK d_Md_type_0 (by decide) ?_
  refine gh_istore (lv' := [some (.ref (B 0)), some (.int a), some (.int b), some (.int c), some (.int d), some (.int (nI 0)), none]) hK d_Md_type_1 (Nat.le_of_ble_eq_true rfl) rfl ?_
  refine gh_iconst (v := nI 0) hK d_Md_type_3 (by decide) ?_
  refine gh_istore (lv' := [some (.ref (B 0)), some (.int a), some (.int b), some (.int c), some (.int d), some (.int (nI 0)), some (.int (nI 0))]) hK d_Md_type_4 (Nat.le_of_ble_eq_true rfl) rfl ?_
  exact lp1 16 0 (by omega)
set_option maxRecDepth 20000 in
set_option maxHeartbeats 4000000 in
theorem c_Md_outputY (l : Launch) (G : GG) {j : Nat} {g : GH} {B : Nat → Nat} {cd ty ne fr tt ap fi en wr mk wd : Nat} {F : Nat → Nat → Int32} {o : List Nat × Nat} (h : Md G g B (mS cd ty ne fr tt ap fi en wr mk wd) F o) (hj : j < o.1.length) : gMet l G y_Md_output b_Md_output 2 (some .int) (rmk 0 0 0 0) [.ref (B 0), .int (nI j)] g (fun v g' => v = some (.int (nI (o.1.getD j 0))) ∧ Md G g' B (mS 0 ty ne fr tt ap fi en wr mk wd) F o ∧ gh_M MDT g g') := by
  refine gMet.of [some (.ref (B 0)), some (.int (nI j))] (by decide +kernel) rfl (Nat.le_of_ble_eq_true rfl) rfl (fun X hK hI hE => ?_)
  have mm : gh_M MDT g g := gh_M.rf
  have ho := h.2.2.2
  refine gh_aload_n hK d_Md_output_0 rfl ?_
  refine gh_iload_n hK d_Md_output_1 rfl ?_
  refine gh_if_ltN hK d_Md_output_2 (tgt := 13) (by decide) (by omega) ?_
  refine gh_iload_n hK d_Md_output_5 rfl ?_
  refine gh_aload_n hK d_Md_output_6 rfl ?_
  refine gh_get (v := .int (nI o.1.length)) hK d_Md_output_7 in_Md rfl h.1 3 (by decide) kf_Md_60 rfl rfl ?_
  refine gh_icmp_ltN hK d_Md_output_10 (tgt := 17) (by decide) (by omega) (by omega) (fun _ => ?_) (fun q => by omega)
  refine gh_iconst (v := nI 0) hK d_Md_output_17 (by decide) ?_
  refine gh_mput hK d_Md_output_18 h 0 (mS 0 ty ne fr tt ap fi en wr mk wd) rfl (by decide) kf_Md_49 rfl rfl rfl rfl (by decide) (fun g_1 h_1 mx => ?_)
  have mm := mm.tr mx
  show gh_W l G _ X g_1 0 0 [some (.ref (B 0)), some (.int (nI j))] 21 []
  refine gh_aload_n hK d_Md_output_21 rfl ?_
  refine gh_get (v := .int (nI 0)) hK d_Md_output_22 in_Md rfl h_1.1 0 (by decide) kf_Md_49 rfl rfl ?_
  refine gh_if_leN hK d_Md_output_25 (tgt := 32) (by decide) (by decide) (fun _ => ?_) (fun q => absurd q (by decide))
  refine gh_aload_n hK d_Md_output_32 rfl ?_
  refine gh_get (v := .ref (B 2)) hK d_Md_output_33 in_Md rfl h_1.1 4 (by decide) kf_Md_13 rfl rfl ?_
  refine gh_iload_n hK d_Md_output_36 rfl ?_
  obtain ⟨f, h3, h4⟩ := h_1.2.2.1
  refine gh_ialdN (t0 := 1) hK d_Md_output_37 h3 rfl (show j < 6000 by omega) (by decide) ?_
  rw [(h4 j _ (getD_some hj)).1]
  exact gh_iret hK hE d_Md_output_38 (Nat.le_of_ble_eq_true rfl) (Nat.le_of_ble_eq_true rfl) ⟨rfl, h_1, mm⟩
set_option maxRecDepth 20000 in
set_option maxHeartbeats 4000000 in
theorem c_Md_outputN (l : Launch) (G : GG) {x : Int32} {g : GH} {B : Nat → Nat} {cd ty ne fr tt ap fi en wr mk wd : Nat} {F : Nat → Nat → Int32} {o : List Nat × Nat} (h : Md G g B (mS cd ty ne fr tt ap fi en wr mk wd) F o) (hx : x < 0 ∨ nI o.1.length ≤ x) : gMet l G y_Md_output b_Md_output 2 (some .int) (rmk 0 0 0 0) [.ref (B 0), .int x] g (fun v g' => v = some (.int (nI (0))) ∧ Md G g' B (mS 1 ty ne fr tt ap fi en wr mk wd) F o ∧ gh_M MDT g g') := by
  refine gMet.of [some (.ref (B 0)), some (.int x)] (by decide +kernel) rfl (Nat.le_of_ble_eq_true rfl) rfl (fun X hK hI hE => ?_)
  have mm : gh_M MDT g g := gh_M.rf
  have ho := h.2.2.2
  have t13 : ∀ (kk : gh_W l G (rmk 0 0 0 0) X g 0 0 [some (.ref (B 0)), some (.int x)] 18 [.int (nI 1), .ref (B 0)]), gh_W l G (rmk 0 0 0 0) X g 0 0 [some (.ref (B 0)), some (.int x)] 13 [.ref (B 0)] := by
    intro kk
    refine gh_iconst (v := nI 1) hK d_Md_output_13 (by decide) ?_
    refine gh_goto (tgt := 18) hK d_Md_output_14 (by decide) ?_
    exact kk
  have t18 : gh_W l G (rmk 0 0 0 0) X g 0 0 [some (.ref (B 0)), some (.int x)] 18 [.int (nI 1), .ref (B 0)] := by
    refine gh_mput hK d_Md_output_18 h 0 (mS 1 ty ne fr tt ap fi en wr mk wd) rfl (by decide) kf_Md_49 rfl rfl rfl rfl (by decide) (fun g_1 h_1 mx => ?_)
    have mm := mm.tr mx
    show gh_W l G _ X g_1 0 0 [some (.ref (B 0)), some (.int x)] 21 []
    refine gh_aload_n hK d_Md_output_21 rfl ?_
    refine gh_get (v := .int (nI 1)) hK d_Md_output_22 in_Md rfl h_1.1 0 (by decide) kf_Md_49 rfl rfl ?_
    refine gh_if_leN hK d_Md_output_25 (tgt := 32) (by decide) (by decide) (fun q => absurd q (by decide)) (fun _ => ?_)
    refine gh_iconst (v := nI 0) hK d_Md_output_28 (by decide) ?_
    refine gh_goto (tgt := 38) hK d_Md_output_29 (by decide) ?_
    exact gh_iret hK hE d_Md_output_38 (Nat.le_of_ble_eq_true rfl) (Nat.le_of_ble_eq_true rfl) ⟨rfl, h_1, mm⟩
  refine gh_aload_n hK d_Md_output_0 rfl ?_
  refine gh_iload_n hK d_Md_output_1 rfl ?_
  refine gh_if_lt hK d_Md_output_2 (tgt := 13) (by decide) (fun _ => t13 t18) (fun q => ?_)
  refine gh_iload_n hK d_Md_output_5 rfl ?_
  refine gh_aload_n hK d_Md_output_6 rfl ?_
  refine gh_get (v := .int (nI o.1.length)) hK d_Md_output_7 in_Md rfl h.1 3 (by decide) kf_Md_60 rfl rfl ?_
  refine gh_icmp_lt hK d_Md_output_10 (tgt := 17) (by decide) (fun q2 => ?_) (fun _ => t13 t18)
  rcases hx with hx | hx
  · exact absurd hx q
  · exact absurd q2 (Int32.not_lt.mpr hx)
def mkB (a b1 b2 b3 b4 b5 b6 b7 b8 b9 b10 b11 b12 b13 : Nat) : Nat → Nat
  | 0 => a
  | 1 => b1
  | 2 => b2
  | 3 => b3
  | 4 => b4
  | 5 => b5
  | 6 => b6
  | 7 => b7
  | 8 => b8
  | 9 => b9
  | 10 => b10
  | 11 => b11
  | 12 => b12
  | 13 => b13
  | _ => 0
set_option maxRecDepth 20000 in
set_option maxHeartbeats 4000000 in
theorem c_Md_init (l : Launch) (G : GG) {g : GH} {a : Nat} (q_a : g a = some (100, .inr (10, [.int 0, .int 0, .null, .int 0, .null, .int 0, .int 0, .null, .null, .null, .null, .null, .null, .null, .int 0, .int 0, .int 0, .int 0, .int 0, .int 0, .int 0, .null, .int 0, .null, .null, .null]))) : gMet l G y_Md_init b_Md_init 1 none (rmk 1 13 20010 20) [.ref a] g (fun v g' => v = none ∧ ∃ B : Nat → Nat, B 0 = a ∧ Md G g' B (mS 0 0 0 0 0 0 0 0 0 0 0) (fun _ _ => 0) ([], 0) ∧ gh_M MDT g g') := by
  refine gMet.of [some (.ref a)] (by decide +kernel) rfl (Nat.le_of_ble_eq_true rfl) rfl (fun X hK hI hE => ?_)
  refine gh_aload_n hK d_Md_init_0 rfl ?_
  refine gh_objInit hK d_Md_init_1 km_Md_1 w_oi w_oc rfl (Nat.le_of_ble_eq_true rfl) (Nat.le_of_ble_eq_true rfl) ?_
  refine gh_aload_n hK d_Md_init_4 rfl ?_
  refine gh_sipush (v := nI 2048) hK d_Md_init_5 (by decide) ?_
  refine gh_newi (N := 2048) (t0 := 1) 101 hK d_Md_init_8 rfl w_ai rfl (by decide) (Nat.le_of_ble_eq_true rfl) (Nat.le_of_ble_eq_true rfl) (fun b1 hb1 => ?_)
  obtain ⟨g1, hgg1⟩ : ∃ x, x = gh_up g b1 101 (.inl (G.2.1 1, 2048, .inl (fun _ => 0))) := ⟨_, rfl⟩
  rw [← hgg1]
  have mg1 : gh_M [] g g1 := by rw [hgg1]; exact gh_M.nw hb1
  replace q_a := mg1 _ 100 _ q_a (by decide)
  have q_b1 : g1 b1 = some (101, (.inl (G.2.1 1, 2048, .inl (fun _ => 0)))) := by rw [hgg1]; exact gh_us
  clear hgg1
  show gh_W l G _ X g1 1 2048 [some (.ref a)] 10 [.ref b1, .ref a]
  refine gh_putF hK (hI rfl) (fs' := [.int 0, .int 0, .ref b1, .int 0, .null, .int 0, .int 0, .null, .null, .null, .null, .null, .null, .null, .int 0, .int 0, .int 0, .int 0, .int 0, .int 0, .int 0, .null, .int 0, .null, .null, .null]) d_Md_init_10 in_Md t_Md ty_Md nm_Md rfl q_a 2 (by decide) kf_Md_7 rfl rfl (by first | rfl | (cases fr <;> rfl)) (by first | rfl | (cases fr <;> rfl)) (Nat.le_of_ble_eq_true rfl) rfl ?_
  obtain ⟨g2, hgg2⟩ : ∃ x, x = gh_up g1 a 100 (.inr (10, [.int 0, .int 0, .ref b1, .int 0, .null, .int 0, .int 0, .null, .null, .null, .null, .null, .null, .null, .int 0, .int 0, .int 0, .int 0, .int 0, .int 0, .int 0, .null, .int 0, .null, .null, .null])) := ⟨_, rfl⟩
  rw [← hgg2]
  have mg2 : gh_M [100] g1 g2 := by rw [hgg2]; exact gh_M.up q_a (by decide)
  replace q_b1 := mg2 _ 101 _ q_b1 (by decide)
  have q_a : g2 a = some (100, (.inr (10, [.int 0, .int 0, .ref b1, .int 0, .null, .int 0, .int 0, .null, .null, .null, .null, .null, .null, .null, .int 0, .int 0, .int 0, .int 0, .int 0, .int 0, .int 0, .null, .int 0, .null, .null, .null]))) := by rw [hgg2]; exact gh_us
  clear hgg2
  show gh_W l G _ X g2 1 2048 [some (.ref a)] 13 []
  refine gh_aload_n hK d_Md_init_13 rfl ?_
  refine gh_sipush (v := nI 6000) hK d_Md_init_14 (by decide) ?_
  refine gh_newi (N := 6000) (t0 := 1) 102 hK d_Md_init_17 rfl w_ai rfl (by decide) (Nat.le_of_ble_eq_true rfl) (Nat.le_of_ble_eq_true rfl) (fun b2 hb2 => ?_)
  obtain ⟨g3, hgg3⟩ : ∃ x, x = gh_up g2 b2 102 (.inl (G.2.1 1, 6000, .inl (fun _ => 0))) := ⟨_, rfl⟩
  rw [← hgg3]
  have mg3 : gh_M [] g2 g3 := by rw [hgg3]; exact gh_M.nw hb2
  replace q_b1 := mg3 _ 101 _ q_b1 (by decide)
  replace q_a := mg3 _ 100 _ q_a (by decide)
  have q_b2 : g3 b2 = some (102, (.inl (G.2.1 1, 6000, .inl (fun _ => 0)))) := by rw [hgg3]; exact gh_us
  clear hgg3
  show gh_W l G _ X g3 2 8048 [some (.ref a)] 19 [.ref b2, .ref a]
  refine gh_putF hK (hI rfl) (fs' := [.int 0, .int 0, .ref b1, .int 0, .ref b2, .int 0, .int 0, .null, .null, .null, .null, .null, .null, .null, .int 0, .int 0, .int 0, .int 0, .int 0, .int 0, .int 0, .null, .int 0, .null, .null, .null]) d_Md_init_19 in_Md t_Md ty_Md nm_Md rfl q_a 4 (by decide) kf_Md_13 rfl rfl (by first | rfl | (cases fr <;> rfl)) (by first | rfl | (cases fr <;> rfl)) (Nat.le_of_ble_eq_true rfl) rfl ?_
  obtain ⟨g4, hgg4⟩ : ∃ x, x = gh_up g3 a 100 (.inr (10, [.int 0, .int 0, .ref b1, .int 0, .ref b2, .int 0, .int 0, .null, .null, .null, .null, .null, .null, .null, .int 0, .int 0, .int 0, .int 0, .int 0, .int 0, .int 0, .null, .int 0, .null, .null, .null])) := ⟨_, rfl⟩
  rw [← hgg4]
  have mg4 : gh_M [100] g3 g4 := by rw [hgg4]; exact gh_M.up q_a (by decide)
  replace q_b1 := mg4 _ 101 _ q_b1 (by decide)
  replace q_b2 := mg4 _ 102 _ q_b2 (by decide)
  have q_a : g4 a = some (100, (.inr (10, [.int 0, .int 0, .ref b1, .int 0, .ref b2, .int 0, .int 0, .null, .null, .null, .null, .null, .null, .null, .int 0, .int 0, .int 0, .int 0, .int 0, .int 0, .int 0, .null, .int 0, .null, .null, .null]))) := by rw [hgg4]; exact gh_us
  clear hgg4
  show gh_W l G _ X g4 2 8048 [some (.ref a)] 22 []
  refine gh_aload_n hK d_Md_init_22 rfl ?_
  refine gh_sipush (v := nI 300) hK d_Md_init_23 (by decide) ?_
  refine gh_newi (N := 300) (t0 := 1) 103 hK d_Md_init_26 rfl w_ai rfl (by decide) (Nat.le_of_ble_eq_true rfl) (Nat.le_of_ble_eq_true rfl) (fun b3 hb3 => ?_)
  obtain ⟨g5, hgg5⟩ : ∃ x, x = gh_up g4 b3 103 (.inl (G.2.1 1, 300, .inl (fun _ => 0))) := ⟨_, rfl⟩
  rw [← hgg5]
  have mg5 : gh_M [] g4 g5 := by rw [hgg5]; exact gh_M.nw hb3
  replace q_b1 := mg5 _ 101 _ q_b1 (by decide)
  replace q_b2 := mg5 _ 102 _ q_b2 (by decide)
  replace q_a := mg5 _ 100 _ q_a (by decide)
  have q_b3 : g5 b3 = some (103, (.inl (G.2.1 1, 300, .inl (fun _ => 0)))) := by rw [hgg5]; exact gh_us
  clear hgg5
  show gh_W l G _ X g5 3 8348 [some (.ref a)] 28 [.ref b3, .ref a]
  refine gh_putF hK (hI rfl) (fs' := [.int 0, .int 0, .ref b1, .int 0, .ref b2, .int 0, .int 0, .ref b3, .null, .null, .null, .null, .null, .null, .int 0, .int 0, .int 0, .int 0, .int 0, .int 0, .int 0, .null, .int 0, .null, .null, .null]) d_Md_init_28 in_Md t_Md ty_Md nm_Md rfl q_a 7 (by decide) kf_Md_16 rfl rfl (by first | rfl | (cases fr <;> rfl)) (by first | rfl | (cases fr <;> rfl)) (Nat.le_of_ble_eq_true rfl) rfl ?_
  obtain ⟨g6, hgg6⟩ : ∃ x, x = gh_up g5 a 100 (.inr (10, [.int 0, .int 0, .ref b1, .int 0, .ref b2, .int 0, .int 0, .ref b3, .null, .null, .null, .null, .null, .null, .int 0, .int 0, .int 0, .int 0, .int 0, .int 0, .int 0, .null, .int 0, .null, .null, .null])) := ⟨_, rfl⟩
  rw [← hgg6]
  have mg6 : gh_M [100] g5 g6 := by rw [hgg6]; exact gh_M.up q_a (by decide)
  replace q_b1 := mg6 _ 101 _ q_b1 (by decide)
  replace q_b2 := mg6 _ 102 _ q_b2 (by decide)
  replace q_b3 := mg6 _ 103 _ q_b3 (by decide)
  have q_a : g6 a = some (100, (.inr (10, [.int 0, .int 0, .ref b1, .int 0, .ref b2, .int 0, .int 0, .ref b3, .null, .null, .null, .null, .null, .null, .int 0, .int 0, .int 0, .int 0, .int 0, .int 0, .int 0, .null, .int 0, .null, .null, .null]))) := by rw [hgg6]; exact gh_us
  clear hgg6
  show gh_W l G _ X g6 3 8348 [some (.ref a)] 31 []
  refine gh_aload_n hK d_Md_init_31 rfl ?_
  refine gh_sipush (v := nI 300) hK d_Md_init_32 (by decide) ?_
  refine gh_newi (N := 300) (t0 := 1) 104 hK d_Md_init_35 rfl w_ai rfl (by decide) (Nat.le_of_ble_eq_true rfl) (Nat.le_of_ble_eq_true rfl) (fun b4 hb4 => ?_)
  obtain ⟨g7, hgg7⟩ : ∃ x, x = gh_up g6 b4 104 (.inl (G.2.1 1, 300, .inl (fun _ => 0))) := ⟨_, rfl⟩
  rw [← hgg7]
  have mg7 : gh_M [] g6 g7 := by rw [hgg7]; exact gh_M.nw hb4
  replace q_b1 := mg7 _ 101 _ q_b1 (by decide)
  replace q_b2 := mg7 _ 102 _ q_b2 (by decide)
  replace q_b3 := mg7 _ 103 _ q_b3 (by decide)
  replace q_a := mg7 _ 100 _ q_a (by decide)
  have q_b4 : g7 b4 = some (104, (.inl (G.2.1 1, 300, .inl (fun _ => 0)))) := by rw [hgg7]; exact gh_us
  clear hgg7
  show gh_W l G _ X g7 4 8648 [some (.ref a)] 37 [.ref b4, .ref a]
  refine gh_putF hK (hI rfl) (fs' := [.int 0, .int 0, .ref b1, .int 0, .ref b2, .int 0, .int 0, .ref b3, .ref b4, .null, .null, .null, .null, .null, .int 0, .int 0, .int 0, .int 0, .int 0, .int 0, .int 0, .null, .int 0, .null, .null, .null]) d_Md_init_37 in_Md t_Md ty_Md nm_Md rfl q_a 8 (by decide) kf_Md_19 rfl rfl (by first | rfl | (cases fr <;> rfl)) (by first | rfl | (cases fr <;> rfl)) (Nat.le_of_ble_eq_true rfl) rfl ?_
  obtain ⟨g8, hgg8⟩ : ∃ x, x = gh_up g7 a 100 (.inr (10, [.int 0, .int 0, .ref b1, .int 0, .ref b2, .int 0, .int 0, .ref b3, .ref b4, .null, .null, .null, .null, .null, .int 0, .int 0, .int 0, .int 0, .int 0, .int 0, .int 0, .null, .int 0, .null, .null, .null])) := ⟨_, rfl⟩
  rw [← hgg8]
  have mg8 : gh_M [100] g7 g8 := by rw [hgg8]; exact gh_M.up q_a (by decide)
  replace q_b1 := mg8 _ 101 _ q_b1 (by decide)
  replace q_b2 := mg8 _ 102 _ q_b2 (by decide)
  replace q_b3 := mg8 _ 103 _ q_b3 (by decide)
  replace q_b4 := mg8 _ 104 _ q_b4 (by decide)
  have q_a : g8 a = some (100, (.inr (10, [.int 0, .int 0, .ref b1, .int 0, .ref b2, .int 0, .int 0, .ref b3, .ref b4, .null, .null, .null, .null, .null, .int 0, .int 0, .int 0, .int 0, .int 0, .int 0, .int 0, .null, .int 0, .null, .null, .null]))) := by rw [hgg8]; exact gh_us
  clear hgg8
  show gh_W l G _ X g8 4 8648 [some (.ref a)] 40 []
  refine gh_aload_n hK d_Md_init_40 rfl ?_
  refine gh_sipush (v := nI 4800) hK d_Md_init_41 (by decide) ?_
  refine gh_newi (N := 4800) (t0 := 1) 105 hK d_Md_init_44 rfl w_ai rfl (by decide) (Nat.le_of_ble_eq_true rfl) (Nat.le_of_ble_eq_true rfl) (fun b5 hb5 => ?_)
  obtain ⟨g9, hgg9⟩ : ∃ x, x = gh_up g8 b5 105 (.inl (G.2.1 1, 4800, .inl (fun _ => 0))) := ⟨_, rfl⟩
  rw [← hgg9]
  have mg9 : gh_M [] g8 g9 := by rw [hgg9]; exact gh_M.nw hb5
  replace q_b1 := mg9 _ 101 _ q_b1 (by decide)
  replace q_b2 := mg9 _ 102 _ q_b2 (by decide)
  replace q_b3 := mg9 _ 103 _ q_b3 (by decide)
  replace q_b4 := mg9 _ 104 _ q_b4 (by decide)
  replace q_a := mg9 _ 100 _ q_a (by decide)
  have q_b5 : g9 b5 = some (105, (.inl (G.2.1 1, 4800, .inl (fun _ => 0)))) := by rw [hgg9]; exact gh_us
  clear hgg9
  show gh_W l G _ X g9 5 13448 [some (.ref a)] 46 [.ref b5, .ref a]
  refine gh_putF hK (hI rfl) (fs' := [.int 0, .int 0, .ref b1, .int 0, .ref b2, .int 0, .int 0, .ref b3, .ref b4, .ref b5, .null, .null, .null, .null, .int 0, .int 0, .int 0, .int 0, .int 0, .int 0, .int 0, .null, .int 0, .null, .null, .null]) d_Md_init_46 in_Md t_Md ty_Md nm_Md rfl q_a 9 (by decide) kf_Md_22 rfl rfl (by first | rfl | (cases fr <;> rfl)) (by first | rfl | (cases fr <;> rfl)) (Nat.le_of_ble_eq_true rfl) rfl ?_
  obtain ⟨g10, hgg10⟩ : ∃ x, x = gh_up g9 a 100 (.inr (10, [.int 0, .int 0, .ref b1, .int 0, .ref b2, .int 0, .int 0, .ref b3, .ref b4, .ref b5, .null, .null, .null, .null, .int 0, .int 0, .int 0, .int 0, .int 0, .int 0, .int 0, .null, .int 0, .null, .null, .null])) := ⟨_, rfl⟩
  rw [← hgg10]
  have mg10 : gh_M [100] g9 g10 := by rw [hgg10]; exact gh_M.up q_a (by decide)
  replace q_b1 := mg10 _ 101 _ q_b1 (by decide)
  replace q_b2 := mg10 _ 102 _ q_b2 (by decide)
  replace q_b3 := mg10 _ 103 _ q_b3 (by decide)
  replace q_b4 := mg10 _ 104 _ q_b4 (by decide)
  replace q_b5 := mg10 _ 105 _ q_b5 (by decide)
  have q_a : g10 a = some (100, (.inr (10, [.int 0, .int 0, .ref b1, .int 0, .ref b2, .int 0, .int 0, .ref b3, .ref b4, .ref b5, .null, .null, .null, .null, .int 0, .int 0, .int 0, .int 0, .int 0, .int 0, .int 0, .null, .int 0, .null, .null, .null]))) := by rw [hgg10]; exact gh_us
  clear hgg10
  show gh_W l G _ X g10 5 13448 [some (.ref a)] 49 []
  refine gh_aload_n hK d_Md_init_49 rfl ?_
  refine gh_iconst (v := nI 2) hK d_Md_init_50 (by decide) ?_
  refine gh_newi (N := 2) (t0 := 1) 106 hK d_Md_init_51 rfl w_ai rfl (by decide) (Nat.le_of_ble_eq_true rfl) (Nat.le_of_ble_eq_true rfl) (fun b6 hb6 => ?_)
  obtain ⟨g11, hgg11⟩ : ∃ x, x = gh_up g10 b6 106 (.inl (G.2.1 1, 2, .inl (fun _ => 0))) := ⟨_, rfl⟩
  rw [← hgg11]
  have mg11 : gh_M [] g10 g11 := by rw [hgg11]; exact gh_M.nw hb6
  replace q_b1 := mg11 _ 101 _ q_b1 (by decide)
  replace q_b2 := mg11 _ 102 _ q_b2 (by decide)
  replace q_b3 := mg11 _ 103 _ q_b3 (by decide)
  replace q_b4 := mg11 _ 104 _ q_b4 (by decide)
  replace q_b5 := mg11 _ 105 _ q_b5 (by decide)
  replace q_a := mg11 _ 100 _ q_a (by decide)
  have q_b6 : g11 b6 = some (106, (.inl (G.2.1 1, 2, .inl (fun _ => 0)))) := by rw [hgg11]; exact gh_us
  clear hgg11
  show gh_W l G _ X g11 6 13450 [some (.ref a)] 53 [.ref b6, .ref a]
  refine gh_putF hK (hI rfl) (fs' := [.int 0, .int 0, .ref b1, .int 0, .ref b2, .int 0, .int 0, .ref b3, .ref b4, .ref b5, .ref b6, .null, .null, .null, .int 0, .int 0, .int 0, .int 0, .int 0, .int 0, .int 0, .null, .int 0, .null, .null, .null]) d_Md_init_53 in_Md t_Md ty_Md nm_Md rfl q_a 10 (by decide) kf_Md_25 rfl rfl (by first | rfl | (cases fr <;> rfl)) (by first | rfl | (cases fr <;> rfl)) (Nat.le_of_ble_eq_true rfl) rfl ?_
  obtain ⟨g12, hgg12⟩ : ∃ x, x = gh_up g11 a 100 (.inr (10, [.int 0, .int 0, .ref b1, .int 0, .ref b2, .int 0, .int 0, .ref b3, .ref b4, .ref b5, .ref b6, .null, .null, .null, .int 0, .int 0, .int 0, .int 0, .int 0, .int 0, .int 0, .null, .int 0, .null, .null, .null])) := ⟨_, rfl⟩
  rw [← hgg12]
  have mg12 : gh_M [100] g11 g12 := by rw [hgg12]; exact gh_M.up q_a (by decide)
  replace q_b1 := mg12 _ 101 _ q_b1 (by decide)
  replace q_b2 := mg12 _ 102 _ q_b2 (by decide)
  replace q_b3 := mg12 _ 103 _ q_b3 (by decide)
  replace q_b4 := mg12 _ 104 _ q_b4 (by decide)
  replace q_b5 := mg12 _ 105 _ q_b5 (by decide)
  replace q_b6 := mg12 _ 106 _ q_b6 (by decide)
  have q_a : g12 a = some (100, (.inr (10, [.int 0, .int 0, .ref b1, .int 0, .ref b2, .int 0, .int 0, .ref b3, .ref b4, .ref b5, .ref b6, .null, .null, .null, .int 0, .int 0, .int 0, .int 0, .int 0, .int 0, .int 0, .null, .int 0, .null, .null, .null]))) := by rw [hgg12]; exact gh_us
  clear hgg12
  show gh_W l G _ X g12 6 13450 [some (.ref a)] 56 []
  refine gh_aload_n hK d_Md_init_56 rfl ?_
  refine gh_bipush (v := nI 16) hK d_Md_init_57 (by decide) ?_
  refine gh_newi (N := 16) (t0 := 1) 107 hK d_Md_init_59 rfl w_ai rfl (by decide) (Nat.le_of_ble_eq_true rfl) (Nat.le_of_ble_eq_true rfl) (fun b7 hb7 => ?_)
  obtain ⟨g13, hgg13⟩ : ∃ x, x = gh_up g12 b7 107 (.inl (G.2.1 1, 16, .inl (fun _ => 0))) := ⟨_, rfl⟩
  rw [← hgg13]
  have mg13 : gh_M [] g12 g13 := by rw [hgg13]; exact gh_M.nw hb7
  replace q_b1 := mg13 _ 101 _ q_b1 (by decide)
  replace q_b2 := mg13 _ 102 _ q_b2 (by decide)
  replace q_b3 := mg13 _ 103 _ q_b3 (by decide)
  replace q_b4 := mg13 _ 104 _ q_b4 (by decide)
  replace q_b5 := mg13 _ 105 _ q_b5 (by decide)
  replace q_b6 := mg13 _ 106 _ q_b6 (by decide)
  replace q_a := mg13 _ 100 _ q_a (by decide)
  have q_b7 : g13 b7 = some (107, (.inl (G.2.1 1, 16, .inl (fun _ => 0)))) := by rw [hgg13]; exact gh_us
  clear hgg13
  show gh_W l G _ X g13 7 13466 [some (.ref a)] 61 [.ref b7, .ref a]
  refine gh_putF hK (hI rfl) (fs' := [.int 0, .int 0, .ref b1, .int 0, .ref b2, .int 0, .int 0, .ref b3, .ref b4, .ref b5, .ref b6, .ref b7, .null, .null, .int 0, .int 0, .int 0, .int 0, .int 0, .int 0, .int 0, .null, .int 0, .null, .null, .null]) d_Md_init_61 in_Md t_Md ty_Md nm_Md rfl q_a 11 (by decide) kf_Md_28 rfl rfl (by first | rfl | (cases fr <;> rfl)) (by first | rfl | (cases fr <;> rfl)) (Nat.le_of_ble_eq_true rfl) rfl ?_
  obtain ⟨g14, hgg14⟩ : ∃ x, x = gh_up g13 a 100 (.inr (10, [.int 0, .int 0, .ref b1, .int 0, .ref b2, .int 0, .int 0, .ref b3, .ref b4, .ref b5, .ref b6, .ref b7, .null, .null, .int 0, .int 0, .int 0, .int 0, .int 0, .int 0, .int 0, .null, .int 0, .null, .null, .null])) := ⟨_, rfl⟩
  rw [← hgg14]
  have mg14 : gh_M [100] g13 g14 := by rw [hgg14]; exact gh_M.up q_a (by decide)
  replace q_b1 := mg14 _ 101 _ q_b1 (by decide)
  replace q_b2 := mg14 _ 102 _ q_b2 (by decide)
  replace q_b3 := mg14 _ 103 _ q_b3 (by decide)
  replace q_b4 := mg14 _ 104 _ q_b4 (by decide)
  replace q_b5 := mg14 _ 105 _ q_b5 (by decide)
  replace q_b6 := mg14 _ 106 _ q_b6 (by decide)
  replace q_b7 := mg14 _ 107 _ q_b7 (by decide)
  have q_a : g14 a = some (100, (.inr (10, [.int 0, .int 0, .ref b1, .int 0, .ref b2, .int 0, .int 0, .ref b3, .ref b4, .ref b5, .ref b6, .ref b7, .null, .null, .int 0, .int 0, .int 0, .int 0, .int 0, .int 0, .int 0, .null, .int 0, .null, .null, .null]))) := by rw [hgg14]; exact gh_us
  clear hgg14
  show gh_W l G _ X g14 7 13466 [some (.ref a)] 64 []
  refine gh_aload_n hK d_Md_init_64 rfl ?_
  refine gh_bipush (v := nI 48) hK d_Md_init_65 (by decide) ?_
  refine gh_newi (N := 48) (t0 := 1) 108 hK d_Md_init_67 rfl w_ai rfl (by decide) (Nat.le_of_ble_eq_true rfl) (Nat.le_of_ble_eq_true rfl) (fun b8 hb8 => ?_)
  obtain ⟨g15, hgg15⟩ : ∃ x, x = gh_up g14 b8 108 (.inl (G.2.1 1, 48, .inl (fun _ => 0))) := ⟨_, rfl⟩
  rw [← hgg15]
  have mg15 : gh_M [] g14 g15 := by rw [hgg15]; exact gh_M.nw hb8
  replace q_b1 := mg15 _ 101 _ q_b1 (by decide)
  replace q_b2 := mg15 _ 102 _ q_b2 (by decide)
  replace q_b3 := mg15 _ 103 _ q_b3 (by decide)
  replace q_b4 := mg15 _ 104 _ q_b4 (by decide)
  replace q_b5 := mg15 _ 105 _ q_b5 (by decide)
  replace q_b6 := mg15 _ 106 _ q_b6 (by decide)
  replace q_b7 := mg15 _ 107 _ q_b7 (by decide)
  replace q_a := mg15 _ 100 _ q_a (by decide)
  have q_b8 : g15 b8 = some (108, (.inl (G.2.1 1, 48, .inl (fun _ => 0)))) := by rw [hgg15]; exact gh_us
  clear hgg15
  show gh_W l G _ X g15 8 13514 [some (.ref a)] 69 [.ref b8, .ref a]
  refine gh_putF hK (hI rfl) (fs' := [.int 0, .int 0, .ref b1, .int 0, .ref b2, .int 0, .int 0, .ref b3, .ref b4, .ref b5, .ref b6, .ref b7, .ref b8, .null, .int 0, .int 0, .int 0, .int 0, .int 0, .int 0, .int 0, .null, .int 0, .null, .null, .null]) d_Md_init_69 in_Md t_Md ty_Md nm_Md rfl q_a 12 (by decide) kf_Md_31 rfl rfl (by first | rfl | (cases fr <;> rfl)) (by first | rfl | (cases fr <;> rfl)) (Nat.le_of_ble_eq_true rfl) rfl ?_
  obtain ⟨g16, hgg16⟩ : ∃ x, x = gh_up g15 a 100 (.inr (10, [.int 0, .int 0, .ref b1, .int 0, .ref b2, .int 0, .int 0, .ref b3, .ref b4, .ref b5, .ref b6, .ref b7, .ref b8, .null, .int 0, .int 0, .int 0, .int 0, .int 0, .int 0, .int 0, .null, .int 0, .null, .null, .null])) := ⟨_, rfl⟩
  rw [← hgg16]
  have mg16 : gh_M [100] g15 g16 := by rw [hgg16]; exact gh_M.up q_a (by decide)
  replace q_b1 := mg16 _ 101 _ q_b1 (by decide)
  replace q_b2 := mg16 _ 102 _ q_b2 (by decide)
  replace q_b3 := mg16 _ 103 _ q_b3 (by decide)
  replace q_b4 := mg16 _ 104 _ q_b4 (by decide)
  replace q_b5 := mg16 _ 105 _ q_b5 (by decide)
  replace q_b6 := mg16 _ 106 _ q_b6 (by decide)
  replace q_b7 := mg16 _ 107 _ q_b7 (by decide)
  replace q_b8 := mg16 _ 108 _ q_b8 (by decide)
  have q_a : g16 a = some (100, (.inr (10, [.int 0, .int 0, .ref b1, .int 0, .ref b2, .int 0, .int 0, .ref b3, .ref b4, .ref b5, .ref b6, .ref b7, .ref b8, .null, .int 0, .int 0, .int 0, .int 0, .int 0, .int 0, .int 0, .null, .int 0, .null, .null, .null]))) := by rw [hgg16]; exact gh_us
  clear hgg16
  show gh_W l G _ X g16 8 13514 [some (.ref a)] 72 []
  refine gh_aload_n hK d_Md_init_72 rfl ?_
  refine gh_sipush (v := nI 288) hK d_Md_init_73 (by decide) ?_
  refine gh_newi (N := 288) (t0 := 1) 109 hK d_Md_init_76 rfl w_ai rfl (by decide) (Nat.le_of_ble_eq_true rfl) (Nat.le_of_ble_eq_true rfl) (fun b9 hb9 => ?_)
  obtain ⟨g17, hgg17⟩ : ∃ x, x = gh_up g16 b9 109 (.inl (G.2.1 1, 288, .inl (fun _ => 0))) := ⟨_, rfl⟩
  rw [← hgg17]
  have mg17 : gh_M [] g16 g17 := by rw [hgg17]; exact gh_M.nw hb9
  replace q_b1 := mg17 _ 101 _ q_b1 (by decide)
  replace q_b2 := mg17 _ 102 _ q_b2 (by decide)
  replace q_b3 := mg17 _ 103 _ q_b3 (by decide)
  replace q_b4 := mg17 _ 104 _ q_b4 (by decide)
  replace q_b5 := mg17 _ 105 _ q_b5 (by decide)
  replace q_b6 := mg17 _ 106 _ q_b6 (by decide)
  replace q_b7 := mg17 _ 107 _ q_b7 (by decide)
  replace q_b8 := mg17 _ 108 _ q_b8 (by decide)
  replace q_a := mg17 _ 100 _ q_a (by decide)
  have q_b9 : g17 b9 = some (109, (.inl (G.2.1 1, 288, .inl (fun _ => 0)))) := by rw [hgg17]; exact gh_us
  clear hgg17
  show gh_W l G _ X g17 9 13802 [some (.ref a)] 78 [.ref b9, .ref a]
  refine gh_putF hK (hI rfl) (fs' := [.int 0, .int 0, .ref b1, .int 0, .ref b2, .int 0, .int 0, .ref b3, .ref b4, .ref b5, .ref b6, .ref b7, .ref b8, .ref b9, .int 0, .int 0, .int 0, .int 0, .int 0, .int 0, .int 0, .null, .int 0, .null, .null, .null]) d_Md_init_78 in_Md t_Md ty_Md nm_Md rfl q_a 13 (by decide) kf_Md_34 rfl rfl (by first | rfl | (cases fr <;> rfl)) (by first | rfl | (cases fr <;> rfl)) (Nat.le_of_ble_eq_true rfl) rfl ?_
  obtain ⟨g18, hgg18⟩ : ∃ x, x = gh_up g17 a 100 (.inr (10, [.int 0, .int 0, .ref b1, .int 0, .ref b2, .int 0, .int 0, .ref b3, .ref b4, .ref b5, .ref b6, .ref b7, .ref b8, .ref b9, .int 0, .int 0, .int 0, .int 0, .int 0, .int 0, .int 0, .null, .int 0, .null, .null, .null])) := ⟨_, rfl⟩
  rw [← hgg18]
  have mg18 : gh_M [100] g17 g18 := by rw [hgg18]; exact gh_M.up q_a (by decide)
  replace q_b1 := mg18 _ 101 _ q_b1 (by decide)
  replace q_b2 := mg18 _ 102 _ q_b2 (by decide)
  replace q_b3 := mg18 _ 103 _ q_b3 (by decide)
  replace q_b4 := mg18 _ 104 _ q_b4 (by decide)
  replace q_b5 := mg18 _ 105 _ q_b5 (by decide)
  replace q_b6 := mg18 _ 106 _ q_b6 (by decide)
  replace q_b7 := mg18 _ 107 _ q_b7 (by decide)
  replace q_b8 := mg18 _ 108 _ q_b8 (by decide)
  replace q_b9 := mg18 _ 109 _ q_b9 (by decide)
  have q_a : g18 a = some (100, (.inr (10, [.int 0, .int 0, .ref b1, .int 0, .ref b2, .int 0, .int 0, .ref b3, .ref b4, .ref b5, .ref b6, .ref b7, .ref b8, .ref b9, .int 0, .int 0, .int 0, .int 0, .int 0, .int 0, .int 0, .null, .int 0, .null, .null, .null]))) := by rw [hgg18]; exact gh_us
  clear hgg18
  show gh_W l G _ X g18 9 13802 [some (.ref a)] 81 []
  refine gh_aload_n hK d_Md_init_81 rfl ?_
  refine gh_bipush (v := nI 64) hK d_Md_init_82 (by decide) ?_
  refine gh_newi (N := 64) (t0 := 1) 110 hK d_Md_init_84 rfl w_ai rfl (by decide) (Nat.le_of_ble_eq_true rfl) (Nat.le_of_ble_eq_true rfl) (fun b10 hb10 => ?_)
  obtain ⟨g19, hgg19⟩ : ∃ x, x = gh_up g18 b10 110 (.inl (G.2.1 1, 64, .inl (fun _ => 0))) := ⟨_, rfl⟩
  rw [← hgg19]
  have mg19 : gh_M [] g18 g19 := by rw [hgg19]; exact gh_M.nw hb10
  replace q_b1 := mg19 _ 101 _ q_b1 (by decide)
  replace q_b2 := mg19 _ 102 _ q_b2 (by decide)
  replace q_b3 := mg19 _ 103 _ q_b3 (by decide)
  replace q_b4 := mg19 _ 104 _ q_b4 (by decide)
  replace q_b5 := mg19 _ 105 _ q_b5 (by decide)
  replace q_b6 := mg19 _ 106 _ q_b6 (by decide)
  replace q_b7 := mg19 _ 107 _ q_b7 (by decide)
  replace q_b8 := mg19 _ 108 _ q_b8 (by decide)
  replace q_b9 := mg19 _ 109 _ q_b9 (by decide)
  replace q_a := mg19 _ 100 _ q_a (by decide)
  have q_b10 : g19 b10 = some (110, (.inl (G.2.1 1, 64, .inl (fun _ => 0)))) := by rw [hgg19]; exact gh_us
  clear hgg19
  show gh_W l G _ X g19 10 13866 [some (.ref a)] 86 [.ref b10, .ref a]
  refine gh_putF hK (hI rfl) (fs' := [.int 0, .int 0, .ref b1, .int 0, .ref b2, .int 0, .int 0, .ref b3, .ref b4, .ref b5, .ref b6, .ref b7, .ref b8, .ref b9, .int 0, .int 0, .int 0, .int 0, .int 0, .int 0, .int 0, .ref b10, .int 0, .null, .null, .null]) d_Md_init_86 in_Md t_Md ty_Md nm_Md rfl q_a 21 (by decide) kf_Md_37 rfl rfl (by first | rfl | (cases fr <;> rfl)) (by first | rfl | (cases fr <;> rfl)) (Nat.le_of_ble_eq_true rfl) rfl ?_
  obtain ⟨g20, hgg20⟩ : ∃ x, x = gh_up g19 a 100 (.inr (10, [.int 0, .int 0, .ref b1, .int 0, .ref b2, .int 0, .int 0, .ref b3, .ref b4, .ref b5, .ref b6, .ref b7, .ref b8, .ref b9, .int 0, .int 0, .int 0, .int 0, .int 0, .int 0, .int 0, .ref b10, .int 0, .null, .null, .null])) := ⟨_, rfl⟩
  rw [← hgg20]
  have mg20 : gh_M [100] g19 g20 := by rw [hgg20]; exact gh_M.up q_a (by decide)
  replace q_b1 := mg20 _ 101 _ q_b1 (by decide)
  replace q_b2 := mg20 _ 102 _ q_b2 (by decide)
  replace q_b3 := mg20 _ 103 _ q_b3 (by decide)
  replace q_b4 := mg20 _ 104 _ q_b4 (by decide)
  replace q_b5 := mg20 _ 105 _ q_b5 (by decide)
  replace q_b6 := mg20 _ 106 _ q_b6 (by decide)
  replace q_b7 := mg20 _ 107 _ q_b7 (by decide)
  replace q_b8 := mg20 _ 108 _ q_b8 (by decide)
  replace q_b9 := mg20 _ 109 _ q_b9 (by decide)
  replace q_b10 := mg20 _ 110 _ q_b10 (by decide)
  have q_a : g20 a = some (100, (.inr (10, [.int 0, .int 0, .ref b1, .int 0, .ref b2, .int 0, .int 0, .ref b3, .ref b4, .ref b5, .ref b6, .ref b7, .ref b8, .ref b9, .int 0, .int 0, .int 0, .int 0, .int 0, .int 0, .int 0, .ref b10, .int 0, .null, .null, .null]))) := by rw [hgg20]; exact gh_us
  clear hgg20
  show gh_W l G _ X g20 10 13866 [some (.ref a)] 89 []
  refine gh_aload_n hK d_Md_init_89 rfl ?_
  refine gh_sipush (v := nI 1024) hK d_Md_init_90 (by decide) ?_
  refine gh_newi (N := 1024) (t0 := 1) 111 hK d_Md_init_93 rfl w_ai rfl (by decide) (Nat.le_of_ble_eq_true rfl) (Nat.le_of_ble_eq_true rfl) (fun b11 hb11 => ?_)
  obtain ⟨g21, hgg21⟩ : ∃ x, x = gh_up g20 b11 111 (.inl (G.2.1 1, 1024, .inl (fun _ => 0))) := ⟨_, rfl⟩
  rw [← hgg21]
  have mg21 : gh_M [] g20 g21 := by rw [hgg21]; exact gh_M.nw hb11
  replace q_b1 := mg21 _ 101 _ q_b1 (by decide)
  replace q_b2 := mg21 _ 102 _ q_b2 (by decide)
  replace q_b3 := mg21 _ 103 _ q_b3 (by decide)
  replace q_b4 := mg21 _ 104 _ q_b4 (by decide)
  replace q_b5 := mg21 _ 105 _ q_b5 (by decide)
  replace q_b6 := mg21 _ 106 _ q_b6 (by decide)
  replace q_b7 := mg21 _ 107 _ q_b7 (by decide)
  replace q_b8 := mg21 _ 108 _ q_b8 (by decide)
  replace q_b9 := mg21 _ 109 _ q_b9 (by decide)
  replace q_b10 := mg21 _ 110 _ q_b10 (by decide)
  replace q_a := mg21 _ 100 _ q_a (by decide)
  have q_b11 : g21 b11 = some (111, (.inl (G.2.1 1, 1024, .inl (fun _ => 0)))) := by rw [hgg21]; exact gh_us
  clear hgg21
  show gh_W l G _ X g21 11 14890 [some (.ref a)] 95 [.ref b11, .ref a]
  refine gh_putF hK (hI rfl) (fs' := [.int 0, .int 0, .ref b1, .int 0, .ref b2, .int 0, .int 0, .ref b3, .ref b4, .ref b5, .ref b6, .ref b7, .ref b8, .ref b9, .int 0, .int 0, .int 0, .int 0, .int 0, .int 0, .int 0, .ref b10, .int 0, .ref b11, .null, .null]) d_Md_init_95 in_Md t_Md ty_Md nm_Md rfl q_a 23 (by decide) kf_Md_40 rfl rfl (by first | rfl | (cases fr <;> rfl)) (by first | rfl | (cases fr <;> rfl)) (Nat.le_of_ble_eq_true rfl) rfl ?_
  obtain ⟨g22, hgg22⟩ : ∃ x, x = gh_up g21 a 100 (.inr (10, [.int 0, .int 0, .ref b1, .int 0, .ref b2, .int 0, .int 0, .ref b3, .ref b4, .ref b5, .ref b6, .ref b7, .ref b8, .ref b9, .int 0, .int 0, .int 0, .int 0, .int 0, .int 0, .int 0, .ref b10, .int 0, .ref b11, .null, .null])) := ⟨_, rfl⟩
  rw [← hgg22]
  have mg22 : gh_M [100] g21 g22 := by rw [hgg22]; exact gh_M.up q_a (by decide)
  replace q_b1 := mg22 _ 101 _ q_b1 (by decide)
  replace q_b2 := mg22 _ 102 _ q_b2 (by decide)
  replace q_b3 := mg22 _ 103 _ q_b3 (by decide)
  replace q_b4 := mg22 _ 104 _ q_b4 (by decide)
  replace q_b5 := mg22 _ 105 _ q_b5 (by decide)
  replace q_b6 := mg22 _ 106 _ q_b6 (by decide)
  replace q_b7 := mg22 _ 107 _ q_b7 (by decide)
  replace q_b8 := mg22 _ 108 _ q_b8 (by decide)
  replace q_b9 := mg22 _ 109 _ q_b9 (by decide)
  replace q_b10 := mg22 _ 110 _ q_b10 (by decide)
  replace q_b11 := mg22 _ 111 _ q_b11 (by decide)
  have q_a : g22 a = some (100, (.inr (10, [.int 0, .int 0, .ref b1, .int 0, .ref b2, .int 0, .int 0, .ref b3, .ref b4, .ref b5, .ref b6, .ref b7, .ref b8, .ref b9, .int 0, .int 0, .int 0, .int 0, .int 0, .int 0, .int 0, .ref b10, .int 0, .ref b11, .null, .null]))) := by rw [hgg22]; exact gh_us
  clear hgg22
  show gh_W l G _ X g22 11 14890 [some (.ref a)] 98 []
  refine gh_aload_n hK d_Md_init_98 rfl ?_
  refine gh_sipush (v := nI 1024) hK d_Md_init_99 (by decide) ?_
  refine gh_newi (N := 1024) (t0 := 1) 112 hK d_Md_init_102 rfl w_ai rfl (by decide) (Nat.le_of_ble_eq_true rfl) (Nat.le_of_ble_eq_true rfl) (fun b12 hb12 => ?_)
  obtain ⟨g23, hgg23⟩ : ∃ x, x = gh_up g22 b12 112 (.inl (G.2.1 1, 1024, .inl (fun _ => 0))) := ⟨_, rfl⟩
  rw [← hgg23]
  have mg23 : gh_M [] g22 g23 := by rw [hgg23]; exact gh_M.nw hb12
  replace q_b1 := mg23 _ 101 _ q_b1 (by decide)
  replace q_b2 := mg23 _ 102 _ q_b2 (by decide)
  replace q_b3 := mg23 _ 103 _ q_b3 (by decide)
  replace q_b4 := mg23 _ 104 _ q_b4 (by decide)
  replace q_b5 := mg23 _ 105 _ q_b5 (by decide)
  replace q_b6 := mg23 _ 106 _ q_b6 (by decide)
  replace q_b7 := mg23 _ 107 _ q_b7 (by decide)
  replace q_b8 := mg23 _ 108 _ q_b8 (by decide)
  replace q_b9 := mg23 _ 109 _ q_b9 (by decide)
  replace q_b10 := mg23 _ 110 _ q_b10 (by decide)
  replace q_b11 := mg23 _ 111 _ q_b11 (by decide)
  replace q_a := mg23 _ 100 _ q_a (by decide)
  have q_b12 : g23 b12 = some (112, (.inl (G.2.1 1, 1024, .inl (fun _ => 0)))) := by rw [hgg23]; exact gh_us
  clear hgg23
  show gh_W l G _ X g23 12 15914 [some (.ref a)] 104 [.ref b12, .ref a]
  refine gh_putF hK (hI rfl) (fs' := [.int 0, .int 0, .ref b1, .int 0, .ref b2, .int 0, .int 0, .ref b3, .ref b4, .ref b5, .ref b6, .ref b7, .ref b8, .ref b9, .int 0, .int 0, .int 0, .int 0, .int 0, .int 0, .int 0, .ref b10, .int 0, .ref b11, .ref b12, .null]) d_Md_init_104 in_Md t_Md ty_Md nm_Md rfl q_a 24 (by decide) kf_Md_43 rfl rfl (by first | rfl | (cases fr <;> rfl)) (by first | rfl | (cases fr <;> rfl)) (Nat.le_of_ble_eq_true rfl) rfl ?_
  obtain ⟨g24, hgg24⟩ : ∃ x, x = gh_up g23 a 100 (.inr (10, [.int 0, .int 0, .ref b1, .int 0, .ref b2, .int 0, .int 0, .ref b3, .ref b4, .ref b5, .ref b6, .ref b7, .ref b8, .ref b9, .int 0, .int 0, .int 0, .int 0, .int 0, .int 0, .int 0, .ref b10, .int 0, .ref b11, .ref b12, .null])) := ⟨_, rfl⟩
  rw [← hgg24]
  have mg24 : gh_M [100] g23 g24 := by rw [hgg24]; exact gh_M.up q_a (by decide)
  replace q_b1 := mg24 _ 101 _ q_b1 (by decide)
  replace q_b2 := mg24 _ 102 _ q_b2 (by decide)
  replace q_b3 := mg24 _ 103 _ q_b3 (by decide)
  replace q_b4 := mg24 _ 104 _ q_b4 (by decide)
  replace q_b5 := mg24 _ 105 _ q_b5 (by decide)
  replace q_b6 := mg24 _ 106 _ q_b6 (by decide)
  replace q_b7 := mg24 _ 107 _ q_b7 (by decide)
  replace q_b8 := mg24 _ 108 _ q_b8 (by decide)
  replace q_b9 := mg24 _ 109 _ q_b9 (by decide)
  replace q_b10 := mg24 _ 110 _ q_b10 (by decide)
  replace q_b11 := mg24 _ 111 _ q_b11 (by decide)
  replace q_b12 := mg24 _ 112 _ q_b12 (by decide)
  have q_a : g24 a = some (100, (.inr (10, [.int 0, .int 0, .ref b1, .int 0, .ref b2, .int 0, .int 0, .ref b3, .ref b4, .ref b5, .ref b6, .ref b7, .ref b8, .ref b9, .int 0, .int 0, .int 0, .int 0, .int 0, .int 0, .int 0, .ref b10, .int 0, .ref b11, .ref b12, .null]))) := by rw [hgg24]; exact gh_us
  clear hgg24
  show gh_W l G _ X g24 12 15914 [some (.ref a)] 107 []
  refine gh_aload_n hK d_Md_init_107 rfl ?_
  refine gh_sipush (v := nI 4096) hK d_Md_init_108 (by decide) ?_
  refine gh_newi (N := 4096) (t0 := 1) 113 hK d_Md_init_111 rfl w_ai rfl (by decide) (Nat.le_of_ble_eq_true rfl) (Nat.le_of_ble_eq_true rfl) (fun b13 hb13 => ?_)
  obtain ⟨g25, hgg25⟩ : ∃ x, x = gh_up g24 b13 113 (.inl (G.2.1 1, 4096, .inl (fun _ => 0))) := ⟨_, rfl⟩
  rw [← hgg25]
  have mg25 : gh_M [] g24 g25 := by rw [hgg25]; exact gh_M.nw hb13
  replace q_b1 := mg25 _ 101 _ q_b1 (by decide)
  replace q_b2 := mg25 _ 102 _ q_b2 (by decide)
  replace q_b3 := mg25 _ 103 _ q_b3 (by decide)
  replace q_b4 := mg25 _ 104 _ q_b4 (by decide)
  replace q_b5 := mg25 _ 105 _ q_b5 (by decide)
  replace q_b6 := mg25 _ 106 _ q_b6 (by decide)
  replace q_b7 := mg25 _ 107 _ q_b7 (by decide)
  replace q_b8 := mg25 _ 108 _ q_b8 (by decide)
  replace q_b9 := mg25 _ 109 _ q_b9 (by decide)
  replace q_b10 := mg25 _ 110 _ q_b10 (by decide)
  replace q_b11 := mg25 _ 111 _ q_b11 (by decide)
  replace q_b12 := mg25 _ 112 _ q_b12 (by decide)
  replace q_a := mg25 _ 100 _ q_a (by decide)
  have q_b13 : g25 b13 = some (113, (.inl (G.2.1 1, 4096, .inl (fun _ => 0)))) := by rw [hgg25]; exact gh_us
  clear hgg25
  show gh_W l G _ X g25 13 20010 [some (.ref a)] 113 [.ref b13, .ref a]
  refine gh_putF hK (hI rfl) (fs' := [.int 0, .int 0, .ref b1, .int 0, .ref b2, .int 0, .int 0, .ref b3, .ref b4, .ref b5, .ref b6, .ref b7, .ref b8, .ref b9, .int 0, .int 0, .int 0, .int 0, .int 0, .int 0, .int 0, .ref b10, .int 0, .ref b11, .ref b12, .ref b13]) d_Md_init_113 in_Md t_Md ty_Md nm_Md rfl q_a 25 (by decide) kf_Md_46 rfl rfl (by first | rfl | (cases fr <;> rfl)) (by first | rfl | (cases fr <;> rfl)) (Nat.le_of_ble_eq_true rfl) rfl ?_
  obtain ⟨g26, hgg26⟩ : ∃ x, x = gh_up g25 a 100 (.inr (10, [.int 0, .int 0, .ref b1, .int 0, .ref b2, .int 0, .int 0, .ref b3, .ref b4, .ref b5, .ref b6, .ref b7, .ref b8, .ref b9, .int 0, .int 0, .int 0, .int 0, .int 0, .int 0, .int 0, .ref b10, .int 0, .ref b11, .ref b12, .ref b13])) := ⟨_, rfl⟩
  rw [← hgg26]
  have mg26 : gh_M [100] g25 g26 := by rw [hgg26]; exact gh_M.up q_a (by decide)
  replace q_b1 := mg26 _ 101 _ q_b1 (by decide)
  replace q_b2 := mg26 _ 102 _ q_b2 (by decide)
  replace q_b3 := mg26 _ 103 _ q_b3 (by decide)
  replace q_b4 := mg26 _ 104 _ q_b4 (by decide)
  replace q_b5 := mg26 _ 105 _ q_b5 (by decide)
  replace q_b6 := mg26 _ 106 _ q_b6 (by decide)
  replace q_b7 := mg26 _ 107 _ q_b7 (by decide)
  replace q_b8 := mg26 _ 108 _ q_b8 (by decide)
  replace q_b9 := mg26 _ 109 _ q_b9 (by decide)
  replace q_b10 := mg26 _ 110 _ q_b10 (by decide)
  replace q_b11 := mg26 _ 111 _ q_b11 (by decide)
  replace q_b12 := mg26 _ 112 _ q_b12 (by decide)
  replace q_b13 := mg26 _ 113 _ q_b13 (by decide)
  have q_a : g26 a = some (100, (.inr (10, [.int 0, .int 0, .ref b1, .int 0, .ref b2, .int 0, .int 0, .ref b3, .ref b4, .ref b5, .ref b6, .ref b7, .ref b8, .ref b9, .int 0, .int 0, .int 0, .int 0, .int 0, .int 0, .int 0, .ref b10, .int 0, .ref b11, .ref b12, .ref b13]))) := by rw [hgg26]; exact gh_us
  clear hgg26
  show gh_W l G _ X g26 13 20010 [some (.ref a)] 116 []
  refine gh_vret hK hE d_Md_init_116 (Nat.le_of_ble_eq_true rfl) (Nat.le_of_ble_eq_true rfl) ⟨rfl, mkB a b1 b2 b3 b4 b5 b6 b7 b8 b9 b10 b11 b12 b13, rfl, ⟨q_a, fun j hj => ?_, ⟨_, q_b2, chs_nil⟩, Nat.zero_le _⟩, (gh_M.tr (gh_M.tr (gh_M.tr (gh_M.tr (gh_M.tr (gh_M.tr (gh_M.tr (gh_M.tr (gh_M.tr (gh_M.tr (gh_M.tr (gh_M.tr (gh_M.tr (gh_M.tr (gh_M.tr (gh_M.tr (gh_M.tr (gh_M.tr (gh_M.tr (gh_M.tr (gh_M.tr (gh_M.tr (gh_M.tr (gh_M.tr (gh_M.tr (mg1.wd (by decide)) (mg2.wd (by decide))) (mg3.wd (by decide))) (mg4.wd (by decide))) (mg5.wd (by decide))) (mg6.wd (by decide))) (mg7.wd (by decide))) (mg8.wd (by decide))) (mg9.wd (by decide))) (mg10.wd (by decide))) (mg11.wd (by decide))) (mg12.wd (by decide))) (mg13.wd (by decide))) (mg14.wd (by decide))) (mg15.wd (by decide))) (mg16.wd (by decide))) (mg17.wd (by decide))) (mg18.wd (by decide))) (mg19.wd (by decide))) (mg20.wd (by decide))) (mg21.wd (by decide))) (mg22.wd (by decide))) (mg23.wd (by decide))) (mg24.wd (by decide))) (mg25.wd (by decide))) (mg26.wd (by decide)))⟩
  simp [mAr] at hj
  rcases hj with rfl | rfl | rfl | rfl | rfl | rfl | rfl | rfl | rfl | rfl | rfl | rfl
  · exact q_b1
  · exact q_b3
  · exact q_b4
  · exact q_b5
  · exact q_b6
  · exact q_b7
  · exact q_b8
  · exact q_b9
  · exact q_b10
  · exact q_b11
  · exact q_b12
  · exact q_b13
