/-! a piece packed into a long -/
def pkL : List Nat → Int64
  | [] => 0
  | c :: l => (pkL l <<< ((nI 8).toInt64 &&& 63)) ||| (nI c).toInt64
def pkN : List Nat → Nat
  | [] => 0
  | c :: l => pkN l * 256 + c
theorem pkN_lt : ∀ l : List Nat, (∀ c ∈ l, c < 256) → pkN l < 256 ^ l.length
  | [], _ => by simp [pkN]
  | c :: l, h => by
    have ih := pkN_lt l (fun c hc => h c (List.mem_cons_of_mem _ hc))
    have hc := h c List.mem_cons_self
    rw [pkN, List.length_cons, Nat.pow_succ]
    omega
theorem pkL_N : ∀ l : List Nat, l.length ≤ 8 → (∀ c ∈ l, c < 256) → (pkL l).toBitVec.toNat = pkN l
  | [], _, _ => by decide
  | c :: l, hl, h => by
    rw [List.length_cons] at hl
    have h2 : ∀ c ∈ l, c < 256 := fun c hc => h c (List.mem_cons_of_mem _ hc)
    have ih := pkL_N l (by omega) h2
    have hlt := pkN_lt l h2
    have hc := h c List.mem_cons_self
    have h7 : 256 ^ l.length ≤ 256 ^ 7 := Nat.pow_le_pow_right (by decide) (by omega)
    have e7 : (256 : Nat) ^ 7 = 72057594037927936 := by decide
    rw [e7] at h7
    have ec : (nI c).toInt64.toBitVec.toNat = c := by
      rw [Int32.toBitVec_toInt64, BitVec.toNat_signExtend, BitVec.msb_eq_false_iff_two_mul_lt.mpr (by rw [pk_tn (by omega)]; omega)]
      rw [BitVec.toNat_setWidth, pk_tn (by omega)]
      simp
      omega
    have es : (pkL l <<< ((nI 8).toInt64 &&& 63)).toBitVec.toNat = pkN l * 2 ^ 8 := by
      have e8 : (nI 8).toInt64 &&& 63 = 8 := by decide
      rw [e8, Int64.toBitVec_shiftLeft]
      have e9 : ((8 : Int64).toBitVec.smod 64) = 8#64 := by decide
      rw [e9, BitVec.shiftLeft_eq', BitVec.toNat_shiftLeft, ih, Nat.shiftLeft_eq]
      show pkN l * 2 ^ 8 % 2 ^ 64 = _
      rw [Nat.mod_eq_of_lt (by omega)]
    rw [pkL, Int64.toBitVec_or, BitVec.toNat_or, es, ec, pkN, ← Nat.shiftLeft_eq, ← Nat.shiftLeft_add_eq_or_of_lt (by omega), Nat.shiftLeft_eq]
theorem pkN_inj : ∀ a b : List Nat, (∀ c ∈ a, 0 < c ∧ c < 256) → (∀ c ∈ b, 0 < c ∧ c < 256) → pkN a = pkN b → a = b
  | [], [], _, _, _ => rfl
  | [], c :: b, _, h, e => by
    have := h c List.mem_cons_self
    rw [pkN, pkN] at e
    omega
  | c :: a, [], h, _, e => by
    have := h c List.mem_cons_self
    rw [pkN, pkN] at e
    omega
  | c :: a, d :: b, h1, h2, e => by
    have k1 := h1 c List.mem_cons_self
    have k2 := h2 d List.mem_cons_self
    rw [pkN, pkN] at e
    have := pkN_inj a b (fun c hc => h1 c (List.mem_cons_of_mem _ hc)) (fun c hc => h2 c (List.mem_cons_of_mem _ hc)) (by omega)
    rw [this, show c = d by omega]
theorem pkL_inj {a b : List Nat} (ha : a.length ≤ 8) (hb : b.length ≤ 8) (h1 : ∀ c ∈ a, 0 < c ∧ c < 256) (h2 : ∀ c ∈ b, 0 < c ∧ c < 256) : pkL a = pkL b ↔ a = b := by
  constructor
  · intro e
    refine pkN_inj a b h1 h2 ?_
    rw [← pkL_N a ha (fun c hc => (h1 c hc).2), ← pkL_N b hb (fun c hc => (h2 c hc).2), e]
  · intro e; rw [e]
theorem nI_prd {j : Nat} (h : j < 2 ^ 30) : nI j - nI 1 < nI j := by
  by_cases z : j = 0
  · subst z; decide
  · rw [pk_sub (by omega)]
    exact nI_lt (by omega) (by omega)
theorem slice_cons {tx : List Nat} {j e : Nat} (h : j < e) (he : e ≤ tx.length) : (tx.drop j).take (e - j) = tx.getD j 0 :: (tx.drop (j + 1)).take (e - (j + 1)) := by
  rw [drop_D (by omega), show e - j = (e - (j + 1)) + 1 by omega, List.take_succ_cons]
set_option maxRecDepth 20000 in
set_option maxHeartbeats 4000000 in
theorem c_Md_is (l : Launch) (G : GG) {g : GH} {B : Nat → Nat} {cd ty ne fr tt ap fi en wr mk wd : Nat} {F : Nat → Nat → Int32} {o : List Nat × Nat} {tx : List Nat} {w : Int64} (h : Md G g B (mS cd ty ne fr tt ap fi en wr mk wd) F o) (ht : TxA F tx) (hf : fi ≤ en) (hen : en ≤ tx.length) : gMet l G y_Md_is b_Md_is 6 (some .boolean) (rmk 0 0 0 0) [.ref (B 0), .long w] g (fun v g' => v = some (.int (nI (bn (decide (en - fi ≤ 8) && decide (pkL ((tx.drop fi).take (en - fi)) = w))))) ∧ g' = g) := by
  have htl := ht.1
  refine gMet.ofV (by decide +kernel) (Nat.le_of_ble_eq_true rfl) (fun X hK hE => ?_)
  have ret : ∀ (q : Bool) (L : Nat × List (Nat × Value)), q = (decide (en - fi ≤ 8) && decide (pkL ((tx.drop fi).take (en - fi)) = w)) → gh_V l G (rmk 0 0 0 0) X g 0 0 L 64 [.int (nI (bn q))] := by
    intro q L e
    exact gv_zret (by cases q <;> decide) hK hE d_Md_is_64 (Nat.le_of_ble_eq_true rfl) (Nat.le_of_ble_eq_true rfl) ⟨by rw [e], rfl⟩
  have no : ∀ (L : Nat × List (Nat × Value)), false = (decide (en - fi ≤ 8) && decide (pkL ((tx.drop fi).take (en - fi)) = w)) → gh_V l G (rmk 0 0 0 0) X g 0 0 L 63 [] := by
    intro L e
    refine gv_iconst (v := nI 0) hK d_Md_is_63 (by decide) ?_
    exact ret false L e
  have lp : ∀ (m j : Nat) (v : Int64), fi + m = j → j ≤ en → v = pkL ((tx.drop j).take (en - j)) → gh_V l G (rmk 0 0 0 0) X g 0 0 (6, [(5, .int (nI j - nI 1)), (3, .long v), (0, .ref (B 0)), (1, .long w)]) 10 [] := by
    intro m
    induction m with
    | zero =>
      intro j v hj hje hv
      have hj : j = fi := by omega
      subst hj
      refine gv_iload (x := nI j - nI 1) hK d_Md_is_10 (by simp) ?_
      refine gv_aload_n (x := B 0) hK d_Md_is_12 (by simp) ?_
      refine gv_get (v := .int (nI j)) hK d_Md_is_13 in_Md rfl h.1 17 (by decide) kf_Md_76 rfl rfl ?_
      refine gv_icmp_lt hK d_Md_is_16 (tgt := 39) (by decide) (fun _ => ?_) (fun z => absurd (nI_prd (by omega)) z)
      refine gv_aload_n (x := B 0) hK d_Md_is_39 (by simp) ?_
      refine gv_get (v := .int (nI en)) hK d_Md_is_40 in_Md rfl h.1 18 (by decide) kf_Md_79 rfl rfl ?_
      refine gv_aload_n (x := B 0) hK d_Md_is_43 (by simp) ?_
      refine gv_get (v := .int (nI j)) hK d_Md_is_44 in_Md rfl h.1 17 (by decide) kf_Md_76 rfl rfl ?_
      refine gv_isub hK d_Md_is_47 ?_
      rw [pk_sub hf]
      refine gv_bipush (v := nI 8) hK d_Md_is_48 (by decide) ?_
      refine gv_icmp_gt hK d_Md_is_50 (tgt := 63) (by decide) (fun z => ?_) (fun z => ?_)
      · rw [nI_ltI (by decide) (by omega)] at z
        exact no _ (by rw [decide_eq_false (by omega)]; rfl)
      · rw [nI_ltI (by decide) (by omega)] at z
        refine gv_lload_n (x := v) hK d_Md_is_53 (.tail _ (.head _)) ?_
        refine gv_lload_n (x := w) hK d_Md_is_54 (by simp) ?_
        refine gv_lcmp hK d_Md_is_55 (fun c hc => ?_)
        refine gv_if_ne hK d_Md_is_56 (tgt := 63) (by decide) (fun z2 => ?_) (fun z2 => ?_)
        · exact no _ (by rw [← hv, decide_eq_false (fun e => z2 (hc.mpr e)), Bool.and_false])
        · refine gv_iconst (v := nI 1) hK d_Md_is_59 (by decide) ?_
          refine gv_goto (tgt := 64) hK d_Md_is_60 (by decide) ?_
          exact ret true _ (by rw [← hv, decide_eq_true (hc.mp z2), decide_eq_true (by omega)]; rfl)
    | succ m ih =>
      intro j v hj hje hv
      have hj : j = fi + m + 1 := by omega
      subst hj
      have hc := ht.2 (fi + m) (by omega)
      rw [pk_sub (by omega)]
      refine gv_iload (x := nI (fi + m + 1 - 1)) hK d_Md_is_10 (by simp) ?_
      refine gv_aload_n (x := B 0) hK d_Md_is_12 (by simp) ?_
      refine gv_get (v := .int (nI fi)) hK d_Md_is_13 in_Md rfl h.1 17 (by decide) kf_Md_76 rfl rfl ?_
      refine gv_icmp_lt hK d_Md_is_16 (tgt := 39) (by decide) (fun z => absurd ((nI_ltI (by omega) (by omega)).mp z) (by omega)) (fun _ => ?_)
      refine gv_lload_n (x := v) hK d_Md_is_19 (.tail _ (.head _)) ?_
      refine gv_bipush (v := nI 8) hK d_Md_is_20 (by decide) ?_
      refine gv_lshl hK d_Md_is_22 rfl ?_
      refine gv_aload_n (x := B 0) hK d_Md_is_23 (by simp) ?_
      refine gv_get (v := .ref (B 1)) hK d_Md_is_24 in_Md rfl h.1 2 (by decide) kf_Md_7 rfl rfl ?_
      refine gv_iload (x := nI (fi + m + 1 - 1)) hK d_Md_is_27 (by simp) ?_
      refine gv_ialdN (t0 := 1) (j := fi + m) hK d_Md_is_29 (h.2.1 1 (by decide)) rfl (by show fi + m < 2048; omega) (by decide) ?_
      rw [hc.1]
      refine gv_i2l hK d_Md_is_30 rfl ?_
      refine gv_lor hK d_Md_is_31 ?_
      refine gv_lstore_n (L' := [(3, .long ((v <<< ((nI 8).toInt64 &&& 63)) ||| (nI (tx.getD (fi + m) 0)).toInt64)), (5, .int (nI (fi + m + 1 - 1))), (0, .ref (B 0)), (1, .long w)]) hK d_Md_is_32 (Nat.le_of_ble_eq_true rfl) rfl ?_
      refine gv_iinc (q := 1) (x := nI (fi + m)) (v := nI (fi + m) - nI 1) (L' := [(5, .int (nI (fi + m) - nI 1)), (3, .long ((v <<< ((nI 8).toInt64 &&& 63)) ||| (nI (tx.getD (fi + m) 0)).toInt64)), (0, .ref (B 0)), (1, .long w)]) hK d_Md_is_33 rfl (by rw [Int32.sub_eq_add_neg]; rfl) (Nat.le_of_ble_eq_true rfl) rfl ?_
      refine gv_goto (tgt := 10) hK d_Md_is_36 (by decide) ?_
      exact ih (fi + m) _ rfl (by omega) (by rw [slice_cons (j := fi + m) (by omega) hen, pkL, ← hv])
  show gh_V l G (rmk 0 0 0 0) X g 0 0 (6, [(0, .ref (B 0)), (1, .long w)]) 0 []
  refine gv_lconst (v := 0) hK d_Md_is_0 (by decide) ?_
  refine gv_lstore_n (L' := [(3, .long 0), (0, .ref (B 0)), (1, .long w)]) hK d_Md_is_1 (Nat.le_of_ble_eq_true rfl) rfl ?_
  refine gv_aload_n (x := B 0) hK d_Md_is_2 (by simp) ?_
  refine gv_get (v := .int (nI en)) hK d_Md_is_3 in_Md rfl h.1 18 (by decide) kf_Md_79 rfl rfl ?_
  refine gv_iconst (v := nI 1) hK d_Md_is_6 (by decide) ?_
  refine gv_isub hK d_Md_is_7 ?_
  refine gv_istore (L' := [(5, .int (nI en - nI 1)), (3, .long 0), (0, .ref (B 0)), (1, .long w)]) hK d_Md_is_8 (Nat.le_of_ble_eq_true rfl) rfl ?_
  exact lp (en - fi) en 0 (by omega) (Nat.le_refl _) (by rw [Nat.sub_self, List.take_zero]; rfl)
set_option maxRecDepth 20000 in
set_option maxHeartbeats 4000000 in
theorem c_Md_compare (l : Launch) (G : GG) {g : GH} {B : Nat → Nat} {cd ty ne fr tt ap fi en wr mk wd : Nat} {F : Nat → Nat → Int32} {o : List Nat × Nat} {ja jb af bf : Nat} {xs ys : List Nat} (h : Md G g B (mS cd ty ne fr tt ap fi en wr mk wd) F o) (hja : ja ∈ mAr) (hjb : jb ∈ mAr) (hx : sA (F ja) af xs) (hy : sA (F jb) bf ys) (hxl : af + xs.length ≤ mcp ja) (hyl : bf + ys.length ≤ mcp jb) : gMet l G y_Md_compare b_Md_compare 7 (some .int) (rmk 0 0 0 0) [.ref (B ja), .int (nI af), .int (nI xs.length), .ref (B jb), .int (nI bf), .int (nI ys.length)] g (fun v g' => ∃ r : Int32, v = some (.int r) ∧ r.toInt = cmpL xs ys ∧ g' = g) := by
  refine gMet.of [some (.ref (B ja)), some (.int (nI af)), some (.int (nI xs.length)), some (.ref (B jb)), some (.int (nI bf)), some (.int (nI ys.length)), none] (by decide +kernel) rfl (Nat.le_of_ble_eq_true rfl) rfl (fun X hK hI hE => ?_)
  have ca := mcp_le hja
  have cb := mcp_le hjb
  have hend : ∀ i, i ≤ xs.length → i ≤ ys.length → (xs.length ≤ i ∨ ys.length ≤ i) → cmpL xs ys = cmpL (xs.drop i) (ys.drop i) → (nI xs.length - nI ys.length).toInt = cmpL xs ys := by
    intro i hi1 hi2 hor e
    rw [e, pk_sub_toInt (by omega) (by omega)]
    rcases hor with q | q
    · rw [List.drop_eq_nil_of_le q, cmpL_nil_l, List.length_drop]
      omega
    · rw [List.drop_eq_nil_of_le (as := ys) q, cmpL_nil_r, List.length_drop]
      omega
  have loop : ∀ (m i : Nat), i + m = xs.length + ys.length → i ≤ xs.length → i ≤ ys.length → cmpL xs ys = cmpL (xs.drop i) (ys.drop i) → gh_W l G (rmk 0 0 0 0) X g 0 0 [some (.ref (B ja)), some (.int (nI af)), some (.int (nI xs.length)), some (.ref (B jb)), some (.int (nI bf)), some (.int (nI ys.length)), some (.int (nI i))] 3 [] := by
    intro m
    induction m with
    | zero =>
      intro i hi hi1 hi2 e
      refine gh_iload hK d_Md_compare_3 rfl ?_
      refine gh_iload_n hK d_Md_compare_5 rfl ?_
      refine gh_icmp_geN hK d_Md_compare_6 (tgt := 53) (by decide) (by omega) (by omega) (fun z => ?_) (fun z => absurd z (by omega))
      refine gh_iload_n hK d_Md_compare_53 rfl ?_
      refine gh_iload hK d_Md_compare_54 rfl ?_
      refine gh_isub hK d_Md_compare_56 ?_
      exact gh_iret hK hE d_Md_compare_57 (Nat.le_of_ble_eq_true rfl) (Nat.le_of_ble_eq_true rfl) ⟨_, rfl, hend i hi1 hi2 (Or.inl z) e, rfl⟩
    | succ m ih =>
      intro i hi hi1 hi2 e
      refine gh_iload hK d_Md_compare_3 rfl ?_
      refine gh_iload_n hK d_Md_compare_5 rfl ?_
      refine gh_icmp_geN hK d_Md_compare_6 (tgt := 53) (by decide) (by omega) (by omega) (fun z => ?_) (fun z => ?_)
      · refine gh_iload_n hK d_Md_compare_53 rfl ?_
        refine gh_iload hK d_Md_compare_54 rfl ?_
        refine gh_isub hK d_Md_compare_56 ?_
        exact gh_iret hK hE d_Md_compare_57 (Nat.le_of_ble_eq_true rfl) (Nat.le_of_ble_eq_true rfl) ⟨_, rfl, hend i hi1 hi2 (Or.inl z) e, rfl⟩
      refine gh_iload hK d_Md_compare_9 rfl ?_
      refine gh_iload hK d_Md_compare_11 rfl ?_
      refine gh_icmp_geN hK d_Md_compare_13 (tgt := 53) (by decide) (by omega) (by omega) (fun z2 => ?_) (fun z2 => ?_)
      · refine gh_iload_n hK d_Md_compare_53 rfl ?_
        refine gh_iload hK d_Md_compare_54 rfl ?_
        refine gh_isub hK d_Md_compare_56 ?_
        exact gh_iret hK hE d_Md_compare_57 (Nat.le_of_ble_eq_true rfl) (Nat.le_of_ble_eq_true rfl) ⟨_, rfl, hend i hi1 hi2 (Or.inr z2) e, rfl⟩
      have ex := hx i z
      have ey := hy i z2
      refine gh_aload_n hK d_Md_compare_16 rfl ?_
      refine gh_iload_n hK d_Md_compare_17 rfl ?_
      refine gh_iload hK d_Md_compare_18 rfl ?_
      refine gh_addN hK d_Md_compare_20 ?_
      refine gh_mald hK d_Md_compare_21 h ja hja (i := af + i) (by omega) ex.1 ?_
      refine gh_aload_n hK d_Md_compare_22 rfl ?_
      refine gh_iload hK d_Md_compare_23 rfl ?_
      refine gh_iload hK d_Md_compare_25 rfl ?_
      refine gh_addN hK d_Md_compare_27 ?_
      refine gh_mald hK d_Md_compare_28 h jb hjb (i := bf + i) (by omega) ey.1 ?_
      refine gh_icmp_eqN hK d_Md_compare_29 (tgt := 47) (by decide) (by omega) (by omega) (fun z5 => ?_) (fun z5 => ?_)
      · refine gh_incN (lv' := [some (.ref (B ja)), some (.int (nI af)), some (.int (nI xs.length)), some (.ref (B jb)), some (.int (nI bf)), some (.int (nI ys.length)), some (.int (nI (i + 1)))]) hK d_Md_compare_47 rfl rfl ?_
        refine gh_goto (tgt := 3) hK d_Md_compare_50 (by decide) ?_
        exact ih (i + 1) (by omega) (by omega) (by omega) (by rw [e, drop_D z, drop_D z2, cmpL_cons, if_pos z5])
      refine gh_aload_n hK d_Md_compare_32 rfl ?_
      refine gh_iload_n hK d_Md_compare_33 rfl ?_
      refine gh_iload hK d_Md_compare_34 rfl ?_
      refine gh_addN hK d_Md_compare_36 ?_
      refine gh_mald hK d_Md_compare_37 h ja hja (i := af + i) (by omega) ex.1 ?_
      refine gh_aload_n hK d_Md_compare_38 rfl ?_
      refine gh_iload hK d_Md_compare_39 rfl ?_
      refine gh_iload hK d_Md_compare_41 rfl ?_
      refine gh_addN hK d_Md_compare_43 ?_
      refine gh_mald hK d_Md_compare_44 h jb hjb (i := bf + i) (by omega) ey.1 ?_
      refine gh_isub hK d_Md_compare_45 ?_
      refine gh_iret hK hE d_Md_compare_46 (Nat.le_of_ble_eq_true rfl) (Nat.le_of_ble_eq_true rfl) ⟨_, rfl, ?_, rfl⟩
      rw [e, drop_D z, drop_D z2, cmpL_cons, if_neg z5, pk_sub_toInt (by omega) (by omega)]
  refine gh_iconst (v := nI 0) hK d_Md_compare_0 (by decide) ?_
  refine gh_istore (lv' := [some (.ref (B ja)), some (.int (nI af)), some (.int (nI xs.length)), some (.ref (B jb)), some (.int (nI bf)), some (.int (nI ys.length)), some (.int (nI 0))]) hK d_Md_compare_1 (Nat.le_of_ble_eq_true rfl) rfl ?_
  exact loop (xs.length + ys.length) 0 (by omega) (Nat.zero_le _) (Nat.zero_le _) rfl
