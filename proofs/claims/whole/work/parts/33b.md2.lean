set_option maxRecDepth 20000 in
set_option maxHeartbeats 4000000 in
theorem c_Md_thrown (l : Launch) (G : GG) {g : GH} {B : Nat → Nat} {cd ty ne fr tt ap fi en wr mk wd : Nat} {F : Nat → Nat → Int32} {o : List Nat × Nat}  (h : Md G g B (mS cd ty ne fr tt ap fi en wr mk wd) F o)  : gMet l G y_Md_thrown b_Md_thrown 1 (some .int) (rmk 0 0 0 0) [.ref (B 0)] g (fun v g' => v = some (.int (nI cd)) ∧ Md G g' B (mS cd ty ne fr tt ap fi en wr mk wd) F o ∧ gh_M MDT g g') := by
  refine gMet.of [some (.ref (B 0))] (by decide +kernel) rfl (Nat.le_of_ble_eq_true rfl) rfl (fun X hK hI hE => ?_)
  have mm : gh_M MDT g g := gh_M.rf
  refine gh_aload_n hK d_Md_thrown_0 rfl ?_
  refine gh_get (v := .int (nI cd)) hK d_Md_thrown_1 in_Md rfl h.1 0 (by decide) kf_Md_49 rfl rfl ?_
  exact gh_iret hK hE d_Md_thrown_4 (Nat.le_of_ble_eq_true rfl) (Nat.le_of_ble_eq_true rfl) ⟨rfl, h, mm⟩
set_option maxRecDepth 20000 in
set_option maxHeartbeats 4000000 in
theorem c_Md_typed (l : Launch) (G : GG) {g : GH} {B : Nat → Nat} {cd ty ne fr tt ap fi en wr mk wd : Nat} {F : Nat → Nat → Int32} {o : List Nat × Nat}  (h : Md G g B (mS cd ty ne fr tt ap fi en wr mk wd) F o)  : gMet l G y_Md_typed b_Md_typed 1 (some .int) (rmk 0 0 0 0) [.ref (B 0)] g (fun v g' => v = some (.int (nI ty)) ∧ Md G g' B (mS 0 ty ne fr tt ap fi en wr mk wd) F o ∧ gh_M MDT g g') := by
  refine gMet.of [some (.ref (B 0))] (by decide +kernel) rfl (Nat.le_of_ble_eq_true rfl) rfl (fun X hK hI hE => ?_)
  have mm : gh_M MDT g g := gh_M.rf
  refine gh_aload_n hK d_Md_typed_0 rfl ?_
  refine gh_iconst (v := nI 0) hK d_Md_typed_1 (by decide) ?_
  refine gh_mput hK d_Md_typed_2 h 0 (mS 0 ty ne fr tt ap fi en wr mk wd) rfl (by decide) kf_Md_49 rfl rfl rfl rfl (by decide) (fun g_1 h_1 mx => ?_)
  have mm := mm.tr mx
  show gh_W l G _ X g_1 0 0 [some (.ref (B 0))] 5 []
  refine gh_aload_n hK d_Md_typed_5 rfl ?_
  refine gh_get (v := .int (nI ty)) hK d_Md_typed_6 in_Md rfl h_1.1 1 (by decide) kf_Md_57 rfl rfl ?_
  exact gh_iret hK hE d_Md_typed_9 (Nat.le_of_ble_eq_true rfl) (Nat.le_of_ble_eq_true rfl) ⟨rfl, h_1, mm⟩
set_option maxRecDepth 20000 in
set_option maxHeartbeats 4000000 in
theorem c_Md_size (l : Launch) (G : GG) {g : GH} {B : Nat → Nat} {cd ty ne fr tt ap fi en wr mk wd : Nat} {F : Nat → Nat → Int32} {o : List Nat × Nat}  (h : Md G g B (mS cd ty ne fr tt ap fi en wr mk wd) F o)  : gMet l G y_Md_size b_Md_size 1 (some .int) (rmk 0 0 0 0) [.ref (B 0)] g (fun v g' => v = some (.int (nI o.1.length)) ∧ Md G g' B (mS 0 ty ne fr tt ap fi en wr mk wd) F o ∧ gh_M MDT g g') := by
  refine gMet.of [some (.ref (B 0))] (by decide +kernel) rfl (Nat.le_of_ble_eq_true rfl) rfl (fun X hK hI hE => ?_)
  have mm : gh_M MDT g g := gh_M.rf
  refine gh_aload_n hK d_Md_size_0 rfl ?_
  refine gh_iconst (v := nI 0) hK d_Md_size_1 (by decide) ?_
  refine gh_mput hK d_Md_size_2 h 0 (mS 0 ty ne fr tt ap fi en wr mk wd) rfl (by decide) kf_Md_49 rfl rfl rfl rfl (by decide) (fun g_1 h_1 mx => ?_)
  have mm := mm.tr mx
  show gh_W l G _ X g_1 0 0 [some (.ref (B 0))] 5 []
  refine gh_aload_n hK d_Md_size_5 rfl ?_
  refine gh_get (v := .int (nI o.1.length)) hK d_Md_size_6 in_Md rfl h_1.1 3 (by decide) kf_Md_60 rfl rfl ?_
  exact gh_iret hK hE d_Md_size_9 (Nat.le_of_ble_eq_true rfl) (Nat.le_of_ble_eq_true rfl) ⟨rfl, h_1, mm⟩
set_option maxRecDepth 20000 in
set_option maxHeartbeats 4000000 in
theorem c_Md_lost (l : Launch) (G : GG) {g : GH} {B : Nat → Nat} {cd ty ne fr tt ap fi en wr mk wd : Nat} {F : Nat → Nat → Int32} {o : List Nat × Nat}  (h : Md G g B (mS cd ty ne fr tt ap fi en wr mk wd) F o)  : gMet l G y_Md_lost b_Md_lost 1 (some .int) (rmk 0 0 0 0) [.ref (B 0)] g (fun v g' => v = some (.int (nI o.2)) ∧ Md G g' B (mS 0 ty ne fr tt ap fi en wr mk wd) F o ∧ gh_M MDT g g') := by
  refine gMet.of [some (.ref (B 0))] (by decide +kernel) rfl (Nat.le_of_ble_eq_true rfl) rfl (fun X hK hI hE => ?_)
  have mm : gh_M MDT g g := gh_M.rf
  refine gh_aload_n hK d_Md_lost_0 rfl ?_
  refine gh_iconst (v := nI 0) hK d_Md_lost_1 (by decide) ?_
  refine gh_mput hK d_Md_lost_2 h 0 (mS 0 ty ne fr tt ap fi en wr mk wd) rfl (by decide) kf_Md_49 rfl rfl rfl rfl (by decide) (fun g_1 h_1 mx => ?_)
  have mm := mm.tr mx
  show gh_W l G _ X g_1 0 0 [some (.ref (B 0))] 5 []
  refine gh_aload_n hK d_Md_lost_5 rfl ?_
  refine gh_get (v := .int (nI o.2)) hK d_Md_lost_6 in_Md rfl h_1.1 5 (by decide) kf_Md_63 rfl rfl ?_
  exact gh_iret hK hE d_Md_lost_9 (Nat.le_of_ble_eq_true rfl) (Nat.le_of_ble_eq_true rfl) ⟨rfl, h_1, mm⟩
set_option maxRecDepth 20000 in
set_option maxHeartbeats 4000000 in
theorem c_Md_entries (l : Launch) (G : GG) {g : GH} {B : Nat → Nat} {cd ty ne fr tt ap fi en wr mk wd : Nat} {F : Nat → Nat → Int32} {o : List Nat × Nat}  (h : Md G g B (mS cd ty ne fr tt ap fi en wr mk wd) F o)  : gMet l G y_Md_entries b_Md_entries 1 (some .int) (rmk 0 0 0 0) [.ref (B 0)] g (fun v g' => v = some (.int (nI ne)) ∧ Md G g' B (mS 0 ty ne fr tt ap fi en wr mk wd) F o ∧ gh_M MDT g g') := by
  refine gMet.of [some (.ref (B 0))] (by decide +kernel) rfl (Nat.le_of_ble_eq_true rfl) rfl (fun X hK hI hE => ?_)
  have mm : gh_M MDT g g := gh_M.rf
  refine gh_aload_n hK d_Md_entries_0 rfl ?_
  refine gh_iconst (v := nI 0) hK d_Md_entries_1 (by decide) ?_
  refine gh_mput hK d_Md_entries_2 h 0 (mS 0 ty ne fr tt ap fi en wr mk wd) rfl (by decide) kf_Md_49 rfl rfl rfl rfl (by decide) (fun g_1 h_1 mx => ?_)
  have mm := mm.tr mx
  show gh_W l G _ X g_1 0 0 [some (.ref (B 0))] 5 []
  refine gh_aload_n hK d_Md_entries_5 rfl ?_
  refine gh_get (v := .int (nI ne)) hK d_Md_entries_6 in_Md rfl h_1.1 6 (by decide) kf_Md_106 rfl rfl ?_
  exact gh_iret hK hE d_Md_entries_9 (Nat.le_of_ble_eq_true rfl) (Nat.le_of_ble_eq_true rfl) ⟨rfl, h_1, mm⟩
set_option maxRecDepth 20000 in
set_option maxHeartbeats 4000000 in
theorem c_Md_rules (l : Launch) (G : GG) {g : GH} {B : Nat → Nat} {cd ty ne fr tt ap fi en wr mk wd : Nat} {F : Nat → Nat → Int32} {o : List Nat × Nat} {b : Bool} {n1 n2 : Nat} (h : Md G g B (mS cd ty ne fr tt ap fi en wr mk wd) F o) (hc1 : F 6 0 = nI n1) (hc2 : F 6 1 = nI n2) : gMet l G y_Md_rules b_Md_rules 2 (some .int) (rmk 0 0 0 0) [.ref (B 0), .int (nI (bn b))] g (fun v g' => v = some (.int (nI (if b = true then n1 else n2))) ∧ Md G g' B (mS 0 ty ne fr tt ap fi en wr mk wd) F o ∧ gh_M MDT g g') := by
  refine gMet.of [some (.ref (B 0)), some (.int (nI (bn b)))] (by decide +kernel) rfl (Nat.le_of_ble_eq_true rfl) rfl (fun X hK hI hE => ?_)
  have mm : gh_M MDT g g := gh_M.rf
  refine gh_aload_n hK d_Md_rules_0 rfl ?_
  refine gh_iconst (v := nI 0) hK d_Md_rules_1 (by decide) ?_
  refine gh_mput hK d_Md_rules_2 h 0 (mS 0 ty ne fr tt ap fi en wr mk wd) rfl (by decide) kf_Md_49 rfl rfl rfl rfl (by decide) (fun g_1 h_1 mx => ?_)
  have mm := mm.tr mx
  show gh_W l G _ X g_1 0 0 [some (.ref (B 0)), some (.int (nI (bn b)))] 5 []
  refine gh_iload_n hK d_Md_rules_5 rfl ?_
  refine gh_if_eqB hK d_Md_rules_6 (tgt := 18) (by decide) (fun z => ?_) (fun z => ?_)
  · refine gh_aload_n hK d_Md_rules_18 rfl ?_
    refine gh_get (v := .ref (B 6)) hK d_Md_rules_19 in_Md rfl h_1.1 10 (by decide) kf_Md_25 rfl rfl ?_
    refine gh_iconst (v := nI 1) hK d_Md_rules_22 (by decide) ?_
    refine gh_mald hK d_Md_rules_23 h_1 6 (by decide) (i := 1) (x := (nI n2)) (by show 1 < 2; omega) hc2 ?_
    exact gh_iret hK hE d_Md_rules_24 (Nat.le_of_ble_eq_true rfl) (Nat.le_of_ble_eq_true rfl) ⟨by rw [z]; rfl, h_1, mm⟩
  · refine gh_aload_n hK d_Md_rules_9 rfl ?_
    refine gh_get (v := .ref (B 6)) hK d_Md_rules_10 in_Md rfl h_1.1 10 (by decide) kf_Md_25 rfl rfl ?_
    refine gh_iconst (v := nI 0) hK d_Md_rules_13 (by decide) ?_
    refine gh_mald hK d_Md_rules_14 h_1 6 (by decide) (i := 0) (x := (nI n1)) (by show 0 < 2; omega) hc1 ?_
    refine gh_goto (tgt := 24) hK d_Md_rules_15 (by decide) ?_
    exact gh_iret hK hE d_Md_rules_24 (Nat.le_of_ble_eq_true rfl) (Nat.le_of_ble_eq_true rfl) ⟨by rw [z]; rfl, h_1, mm⟩
theorem Md.out {G : GG} {g : GH} {B : Nat → Nat} {s : MdS} {F : Nat → Nat → Int32} {o : List Nat × Nat} (h : Md G g B s F o) : Md G (gh_up g (B 0) 100 (.inr (10, MdF B s ([], 0)))) B s F ([], 0) ∧ gh_M MDT g (gh_up g (B 0) 100 (.inr (10, MdF B s ([], 0)))) := by
  have n2 := h.n2
  refine ⟨⟨gh_us, fun j hj => by rw [gh_un (h.nj hj).1]; exact h.2.1 j hj, ?_, by decide⟩, gh_M.up h.1 (by decide)⟩
  obtain ⟨f, h3, h4⟩ := h.2.2.1
  exact ⟨f, by rw [gh_un n2]; exact h3, chs_nil⟩
theorem gh_up2 {g : GH} {a t u : Nat} {e e2 : va_E} : gh_up (gh_up g a t e) a u e2 = gh_up g a u e2 := by
  funext q
  by_cases z : q = a
  · subst z; rw [gh_us, gh_us]
  · rw [gh_un z, gh_un z, gh_un z]
set_option maxRecDepth 20000 in
set_option maxHeartbeats 4000000 in
theorem c_Md_wipe (l : Launch) (G : GG) {g : GH} {B : Nat → Nat} {cd ty ne fr tt ap fi en wr mk wd : Nat} {F : Nat → Nat → Int32} {o : List Nat × Nat}  (h : Md G g B (mS cd ty ne fr tt ap fi en wr mk wd) F o)  : gMet l G y_Md_wipe b_Md_wipe 1 none (rmk 0 0 0 0) [.ref (B 0)] g (fun v g' => v = none ∧ Md G g' B (mS 0 ty ne fr tt ap fi en wr mk wd) F ([], 0) ∧ gh_M MDT g g') := by
  refine gMet.of [some (.ref (B 0))] (by decide +kernel) rfl (Nat.le_of_ble_eq_true rfl) rfl (fun X hK hI hE => ?_)
  have mm : gh_M MDT g g := gh_M.rf
  refine gh_aload_n hK d_Md_wipe_0 rfl ?_
  refine gh_iconst (v := nI 0) hK d_Md_wipe_1 (by decide) ?_
  refine gh_mput hK d_Md_wipe_2 h 0 (mS 0 ty ne fr tt ap fi en wr mk wd) rfl (by decide) kf_Md_49 rfl rfl rfl rfl (by decide) (fun g_1 h_1 mx => ?_)
  have mm := mm.tr mx
  show gh_W l G _ X g_1 0 0 [some (.ref (B 0))] 5 []
  refine gh_aload_n hK d_Md_wipe_5 rfl ?_
  refine gh_iconst (v := nI 0) hK d_Md_wipe_6 (by decide) ?_
  refine gh_put (fs' := [.int (nI 0), .int (nI ty), .ref (B 1), .int (nI 0), .ref (B 2), .int (nI o.2), .int (nI ne), .ref (B 3), .ref (B 4), .ref (B 5), .ref (B 6), .ref (B 7), .ref (B 8), .ref (B 9), .int (nI fr), .int (nI tt), .int (nI ap), .int (nI fi), .int (nI en), .int (nI wr), .int (nI mk), .ref (B 10), .int (nI wd), .ref (B 11), .ref (B 12), .ref (B 13)]) hK d_Md_wipe_7 in_Md t_Md ty_Md nm_Md rfl h_1.1 3 (by decide) kf_Md_60 rfl rfl rfl rfl (Nat.le_of_ble_eq_true rfl) rfl ?_
  refine gh_aload_n hK d_Md_wipe_10 rfl ?_
  refine gh_iconst (v := nI 0) hK d_Md_wipe_11 (by decide) ?_
  refine gh_put (fs' := [.int (nI 0), .int (nI ty), .ref (B 1), .int (nI 0), .ref (B 2), .int (nI 0), .int (nI ne), .ref (B 3), .ref (B 4), .ref (B 5), .ref (B 6), .ref (B 7), .ref (B 8), .ref (B 9), .int (nI fr), .int (nI tt), .int (nI ap), .int (nI fi), .int (nI en), .int (nI wr), .int (nI mk), .ref (B 10), .int (nI wd), .ref (B 11), .ref (B 12), .ref (B 13)]) hK d_Md_wipe_12 in_Md t_Md ty_Md nm_Md rfl gh_us 5 (by decide) kf_Md_63 rfl rfl rfl rfl (Nat.le_of_ble_eq_true rfl) rfl ?_
  rw [gh_up2]
  obtain ⟨e1, e2⟩ := h_1.out
  exact gh_vret hK hE d_Md_wipe_15 (Nat.le_of_ble_eq_true rfl) (Nat.le_of_ble_eq_true rfl) ⟨rfl, e1, mm.tr e2⟩
set_option maxRecDepth 20000 in
set_option maxHeartbeats 4000000 in
theorem c_Md_put (l : Launch) (G : GG) {g : GH} {B : Nat → Nat} {cd ty ne fr tt ap fi en wr mk wd : Nat} {F : Nat → Nat → Int32} {o : List Nat × Nat} {c : Nat} (h : Md G g B (mS cd ty ne fr tt ap fi en wr mk wd) F o) (hc : c < 65536) : gMet l G y_Md_put b_Md_put 2 none (rmk 0 0 0 0) [.ref (B 0), .int (nI c)] g (fun v g' => v = none ∧ Md G g' B (mS cd ty ne fr tt ap fi en wr mk wd) F (prt o c) ∧ gh_M MDT g g') := by
  refine gMet.of [some (.ref (B 0)), some (.int (nI c))] (by decide +kernel) rfl (Nat.le_of_ble_eq_true rfl) rfl (fun X hK hI hE => ?_)
  have mm : gh_M MDT g g := gh_M.rf
  have ho := h.2.2.2
  refine gh_aload_n hK d_Md_put_0 rfl ?_
  refine gh_get (v := .int (nI o.1.length)) hK d_Md_put_1 in_Md rfl h.1 3 (by decide) kf_Md_60 rfl rfl ?_
  refine gh_sipush (v := nI 6000) hK d_Md_put_4 (by decide) ?_
  refine gh_icmp_neN hK d_Md_put_7 (tgt := 21) (by decide) (by omega) (by omega) (fun z => ?_) (fun z => ?_)
  rotate_left
  · have ep : prt o c = (o.1, o.2 + 1) := by rw [prt, if_neg (by omega)]
    rw [ep] at hE
    refine gh_aload_n hK d_Md_put_10 rfl ?_
    refine gh_dup hK d_Md_put_11 rfl ?_
    refine gh_get (v := .int (nI o.2)) hK d_Md_put_12 in_Md rfl h.1 5 (by decide) kf_Md_63 rfl rfl ?_
    refine gh_iconst (v := nI 1) hK d_Md_put_15 (by decide) ?_
    refine gh_addN hK d_Md_put_16 ?_
    refine gh_put (fs' := MdF B (mS cd ty ne fr tt ap fi en wr mk wd) (o.1, o.2 + 1)) hK d_Md_put_17 in_Md t_Md ty_Md nm_Md rfl h.1 5 (by decide) kf_Md_63 rfl rfl rfl rfl (Nat.le_of_ble_eq_true rfl) rfl ?_
    have n2 := h.n2
    obtain ⟨f, h3, h4⟩ := h.2.2.1
    exact gh_vret hK hE d_Md_put_20 (Nat.le_of_ble_eq_true rfl) (Nat.le_of_ble_eq_true rfl) ⟨rfl, ⟨gh_us, fun j hj => (by rw [gh_un (h.nj hj).1]; exact h.2.1 j hj), ⟨f, by rw [gh_un n2]; exact h3, h4⟩, ho⟩, gh_M.up h.1 (by decide)⟩
  have ep : prt o c = (o.1 ++ [c], o.2) := by rw [prt, if_pos (by omega)]
  rw [ep] at hE
  have n2 := h.n2
  obtain ⟨f, h3, h4⟩ := h.2.2.1
  refine gh_aload_n hK d_Md_put_21 rfl ?_
  refine gh_get (v := .ref (B 2)) hK d_Md_put_22 in_Md rfl h.1 4 (by decide) kf_Md_13 rfl rfl ?_
  refine gh_aload_n hK d_Md_put_25 rfl ?_
  refine gh_get (v := .int (nI o.1.length)) hK d_Md_put_26 in_Md rfl h.1 3 (by decide) kf_Md_60 rfl rfl ?_
  refine gh_iload_n hK d_Md_put_29 rfl ?_
  refine gh_iastN (t0 := 1) hK d_Md_put_30 h3 rfl (by omega) (by decide) ?_
  have e0 : gh_up g (B 2) 102 (.inl (G.2.1 1, 6000, .inl (upd f o.1.length (nI c)))) (B 0) = some (100, .inr (10, MdF B (mS cd ty ne fr tt ap fi en wr mk wd) o)) := by rw [gh_un (fun z => n2 z.symm)]; exact h.1
  refine gh_aload_n hK d_Md_put_31 rfl ?_
  refine gh_dup hK d_Md_put_32 rfl ?_
  refine gh_get (v := .int (nI o.1.length)) hK d_Md_put_33 in_Md rfl e0 3 (by decide) kf_Md_60 rfl rfl ?_
  refine gh_iconst (v := nI 1) hK d_Md_put_36 (by decide) ?_
  refine gh_addN hK d_Md_put_37 ?_
  refine gh_put (fs' := MdF B (mS cd ty ne fr tt ap fi en wr mk wd) (o.1 ++ [c], o.2)) hK d_Md_put_38 in_Md t_Md ty_Md nm_Md rfl e0 3 (by decide) kf_Md_60 rfl rfl rfl rfl (Nat.le_of_ble_eq_true rfl) (by have e : (o.1 ++ [c]).length = o.1.length + 1 := List.length_append; dsimp only [MdF]; rw [e]; rfl) ?_
  refine gh_vret hK hE d_Md_put_41 (Nat.le_of_ble_eq_true rfl) (Nat.le_of_ble_eq_true rfl) ⟨rfl, ⟨gh_us, fun j hj => ?_, ⟨_, by rw [gh_un n2, gh_us], chs_app h4 hc⟩, by rw [List.length_append]; show _ + 1 ≤ _; omega⟩, gh_M.tr (gh_M.up h3 (by decide)) (gh_M.up e0 (by decide))⟩
  obtain ⟨q1, q2, -⟩ := h.nj hj
  rw [gh_un q1, gh_un q2]
  exact h.2.1 j hj
set_option maxRecDepth 20000 in
set_option maxHeartbeats 4000000 in
theorem c_Md_ok (l : Launch) (G : GG) {g : GH} {B : Nat → Nat} {cd ty ne fr tt ap fi en wr mk wd : Nat} {F : Nat → Nat → Int32} {o : List Nat × Nat}  (h : Md G g B (mS cd ty ne fr tt ap fi en wr mk wd) F o)  : gMet l G y_Md_ok b_Md_ok 1 none (rmk 1 0 0 21) [.ref (B 0)] g (fun v g' => v = none ∧ Md G g' B (mS cd ty ne fr tt ap fi en wr mk wd) F (prs o [111, 107]) ∧ gh_M MDT g g') := by
  refine gMet.of [some (.ref (B 0))] (by decide +kernel) rfl (Nat.le_of_ble_eq_true rfl) rfl (fun X hK hI hE => ?_)
  have mm : gh_M MDT g g := gh_M.rf
  refine gh_aload_n hK d_Md_ok_0 rfl ?_
  refine gh_bipush (v := nI 111) hK d_Md_ok_1 (by decide) ?_
  refine gh_callV (rest := []) [.int (nI 111)] hK (c_Md_put l G h (c := 111) (by decide)) Y_Md_put V_Md_put km_Md_66 h.1 rfl rfl d_Md_ok_3 rfl rfl (Nat.le_of_ble_eq_true rfl) ⟨(Nat.le_of_ble_eq_true rfl), (Nat.le_of_ble_eq_true rfl)⟩ ⟨(Nat.le_of_ble_eq_true rfl), (Nat.le_of_ble_eq_true rfl)⟩ (fun v g_1 hp => ?_)
  obtain ⟨rfl, h_1, mx⟩ := hp
  have mm := mm.tr mx
  show gh_W l G _ X g_1 0 0 [some (.ref (B 0))] 6 []
  refine gh_aload_n hK d_Md_ok_6 rfl ?_
  refine gh_bipush (v := nI 107) hK d_Md_ok_7 (by decide) ?_
  refine gh_callV (rest := []) [.int (nI 107)] hK (c_Md_put l G h_1 (c := 107) (by decide)) Y_Md_put V_Md_put km_Md_66 h_1.1 rfl rfl d_Md_ok_9 rfl rfl (Nat.le_of_ble_eq_true rfl) ⟨(Nat.le_of_ble_eq_true rfl), (Nat.le_of_ble_eq_true rfl)⟩ ⟨(Nat.le_of_ble_eq_true rfl), (Nat.le_of_ble_eq_true rfl)⟩ (fun v g_2 hp => ?_)
  obtain ⟨rfl, h_2, mx⟩ := hp
  have mm := mm.tr mx
  show gh_W l G _ X g_2 0 0 [some (.ref (B 0))] 12 []
  exact gh_vret hK hE d_Md_ok_12 (Nat.le_of_ble_eq_true rfl) (Nat.le_of_ble_eq_true rfl) ⟨rfl, h_2, mm⟩
set_option maxRecDepth 20000 in
set_option maxHeartbeats 4000000 in
theorem c_Md_none (l : Launch) (G : GG) {g : GH} {B : Nat → Nat} {cd ty ne fr tt ap fi en wr mk wd : Nat} {F : Nat → Nat → Int32} {o : List Nat × Nat}  (h : Md G g B (mS cd ty ne fr tt ap fi en wr mk wd) F o)  : gMet l G y_Md_none b_Md_none 1 none (rmk 1 0 0 21) [.ref (B 0)] g (fun v g' => v = none ∧ Md G g' B (mS cd ty ne fr tt ap fi en wr mk wd) F (prs o [110, 111, 110, 101]) ∧ gh_M MDT g g') := by
  refine gMet.of [some (.ref (B 0))] (by decide +kernel) rfl (Nat.le_of_ble_eq_true rfl) rfl (fun X hK hI hE => ?_)
  have mm : gh_M MDT g g := gh_M.rf
  refine gh_aload_n hK d_Md_none_0 rfl ?_
  refine gh_bipush (v := nI 110) hK d_Md_none_1 (by decide) ?_
  refine gh_callV (rest := []) [.int (nI 110)] hK (c_Md_put l G h (c := 110) (by decide)) Y_Md_put V_Md_put km_Md_66 h.1 rfl rfl d_Md_none_3 rfl rfl (Nat.le_of_ble_eq_true rfl) ⟨(Nat.le_of_ble_eq_true rfl), (Nat.le_of_ble_eq_true rfl)⟩ ⟨(Nat.le_of_ble_eq_true rfl), (Nat.le_of_ble_eq_true rfl)⟩ (fun v g_1 hp => ?_)
  obtain ⟨rfl, h_1, mx⟩ := hp
  have mm := mm.tr mx
  show gh_W l G _ X g_1 0 0 [some (.ref (B 0))] 6 []
  refine gh_aload_n hK d_Md_none_6 rfl ?_
  refine gh_bipush (v := nI 111) hK d_Md_none_7 (by decide) ?_
  refine gh_callV (rest := []) [.int (nI 111)] hK (c_Md_put l G h_1 (c := 111) (by decide)) Y_Md_put V_Md_put km_Md_66 h_1.1 rfl rfl d_Md_none_9 rfl rfl (Nat.le_of_ble_eq_true rfl) ⟨(Nat.le_of_ble_eq_true rfl), (Nat.le_of_ble_eq_true rfl)⟩ ⟨(Nat.le_of_ble_eq_true rfl), (Nat.le_of_ble_eq_true rfl)⟩ (fun v g_2 hp => ?_)
  obtain ⟨rfl, h_2, mx⟩ := hp
  have mm := mm.tr mx
  show gh_W l G _ X g_2 0 0 [some (.ref (B 0))] 12 []
  refine gh_aload_n hK d_Md_none_12 rfl ?_
  refine gh_bipush (v := nI 110) hK d_Md_none_13 (by decide) ?_
  refine gh_callV (rest := []) [.int (nI 110)] hK (c_Md_put l G h_2 (c := 110) (by decide)) Y_Md_put V_Md_put km_Md_66 h_2.1 rfl rfl d_Md_none_15 rfl rfl (Nat.le_of_ble_eq_true rfl) ⟨(Nat.le_of_ble_eq_true rfl), (Nat.le_of_ble_eq_true rfl)⟩ ⟨(Nat.le_of_ble_eq_true rfl), (Nat.le_of_ble_eq_true rfl)⟩ (fun v g_3 hp => ?_)
  obtain ⟨rfl, h_3, mx⟩ := hp
  have mm := mm.tr mx
  show gh_W l G _ X g_3 0 0 [some (.ref (B 0))] 18 []
  refine gh_aload_n hK d_Md_none_18 rfl ?_
  refine gh_bipush (v := nI 101) hK d_Md_none_19 (by decide) ?_
  refine gh_callV (rest := []) [.int (nI 101)] hK (c_Md_put l G h_3 (c := 101) (by decide)) Y_Md_put V_Md_put km_Md_66 h_3.1 rfl rfl d_Md_none_21 rfl rfl (Nat.le_of_ble_eq_true rfl) ⟨(Nat.le_of_ble_eq_true rfl), (Nat.le_of_ble_eq_true rfl)⟩ ⟨(Nat.le_of_ble_eq_true rfl), (Nat.le_of_ble_eq_true rfl)⟩ (fun v g_4 hp => ?_)
  obtain ⟨rfl, h_4, mx⟩ := hp
  have mm := mm.tr mx
  show gh_W l G _ X g_4 0 0 [some (.ref (B 0))] 24 []
  exact gh_vret hK hE d_Md_none_24 (Nat.le_of_ble_eq_true rfl) (Nat.le_of_ble_eq_true rfl) ⟨rfl, h_4, mm⟩
set_option maxRecDepth 20000 in
set_option maxHeartbeats 4000000 in
theorem c_Md_full (l : Launch) (G : GG) {g : GH} {B : Nat → Nat} {cd ty ne fr tt ap fi en wr mk wd : Nat} {F : Nat → Nat → Int32} {o : List Nat × Nat}  (h : Md G g B (mS cd ty ne fr tt ap fi en wr mk wd) F o)  : gMet l G y_Md_full b_Md_full 1 none (rmk 1 0 0 21) [.ref (B 0)] g (fun v g' => v = none ∧ Md G g' B (mS cd ty ne fr tt ap fi en wr mk wd) F (prs o [102, 117, 108, 108]) ∧ gh_M MDT g g') := by
  refine gMet.of [some (.ref (B 0))] (by decide +kernel) rfl (Nat.le_of_ble_eq_true rfl) rfl (fun X hK hI hE => ?_)
  have mm : gh_M MDT g g := gh_M.rf
  refine gh_aload_n hK d_Md_full_0 rfl ?_
  refine gh_bipush (v := nI 102) hK d_Md_full_1 (by decide) ?_
  refine gh_callV (rest := []) [.int (nI 102)] hK (c_Md_put l G h (c := 102) (by decide)) Y_Md_put V_Md_put km_Md_66 h.1 rfl rfl d_Md_full_3 rfl rfl (Nat.le_of_ble_eq_true rfl) ⟨(Nat.le_of_ble_eq_true rfl), (Nat.le_of_ble_eq_true rfl)⟩ ⟨(Nat.le_of_ble_eq_true rfl), (Nat.le_of_ble_eq_true rfl)⟩ (fun v g_1 hp => ?_)
  obtain ⟨rfl, h_1, mx⟩ := hp
  have mm := mm.tr mx
  show gh_W l G _ X g_1 0 0 [some (.ref (B 0))] 6 []
  refine gh_aload_n hK d_Md_full_6 rfl ?_
  refine gh_bipush (v := nI 117) hK d_Md_full_7 (by decide) ?_
  refine gh_callV (rest := []) [.int (nI 117)] hK (c_Md_put l G h_1 (c := 117) (by decide)) Y_Md_put V_Md_put km_Md_66 h_1.1 rfl rfl d_Md_full_9 rfl rfl (Nat.le_of_ble_eq_true rfl) ⟨(Nat.le_of_ble_eq_true rfl), (Nat.le_of_ble_eq_true rfl)⟩ ⟨(Nat.le_of_ble_eq_true rfl), (Nat.le_of_ble_eq_true rfl)⟩ (fun v g_2 hp => ?_)
  obtain ⟨rfl, h_2, mx⟩ := hp
  have mm := mm.tr mx
  show gh_W l G _ X g_2 0 0 [some (.ref (B 0))] 12 []
  refine gh_aload_n hK d_Md_full_12 rfl ?_
  refine gh_bipush (v := nI 108) hK d_Md_full_13 (by decide) ?_
  refine gh_callV (rest := []) [.int (nI 108)] hK (c_Md_put l G h_2 (c := 108) (by decide)) Y_Md_put V_Md_put km_Md_66 h_2.1 rfl rfl d_Md_full_15 rfl rfl (Nat.le_of_ble_eq_true rfl) ⟨(Nat.le_of_ble_eq_true rfl), (Nat.le_of_ble_eq_true rfl)⟩ ⟨(Nat.le_of_ble_eq_true rfl), (Nat.le_of_ble_eq_true rfl)⟩ (fun v g_3 hp => ?_)
  obtain ⟨rfl, h_3, mx⟩ := hp
  have mm := mm.tr mx
  show gh_W l G _ X g_3 0 0 [some (.ref (B 0))] 18 []
  refine gh_aload_n hK d_Md_full_18 rfl ?_
  refine gh_bipush (v := nI 108) hK d_Md_full_19 (by decide) ?_
  refine gh_callV (rest := []) [.int (nI 108)] hK (c_Md_put l G h_3 (c := 108) (by decide)) Y_Md_put V_Md_put km_Md_66 h_3.1 rfl rfl d_Md_full_21 rfl rfl (Nat.le_of_ble_eq_true rfl) ⟨(Nat.le_of_ble_eq_true rfl), (Nat.le_of_ble_eq_true rfl)⟩ ⟨(Nat.le_of_ble_eq_true rfl), (Nat.le_of_ble_eq_true rfl)⟩ (fun v g_4 hp => ?_)
  obtain ⟨rfl, h_4, mx⟩ := hp
  have mm := mm.tr mx
  show gh_W l G _ X g_4 0 0 [some (.ref (B 0))] 24 []
  exact gh_vret hK hE d_Md_full_24 (Nat.le_of_ble_eq_true rfl) (Nat.le_of_ble_eq_true rfl) ⟨rfl, h_4, mm⟩
set_option maxRecDepth 20000 in
set_option maxHeartbeats 4000000 in
theorem c_Md_refuse (l : Launch) (G : GG) {g : GH} {B : Nat → Nat} {cd ty ne fr tt ap fi en wr mk wd : Nat} {F : Nat → Nat → Int32} {o : List Nat × Nat}  (h : Md G g B (mS cd ty ne fr tt ap fi en wr mk wd) F o) (hf : fr ≤ fi) : gMet l G y_Md_refuse b_Md_refuse 1 (some .boolean) (rmk 0 0 0 0) [.ref (B 0)] g (fun v g' => v = some (.int (nI 0)) ∧ Md G g' B (mS cd ty ne fr tt ap fi en (fi - fr + 1) mk wd) F o ∧ gh_M MDT g g') := by
  refine gMet.of [some (.ref (B 0))] (by decide +kernel) rfl (Nat.le_of_ble_eq_true rfl) rfl (fun X hK hI hE => ?_)
  have mm : gh_M MDT g g := gh_M.rf
  refine gh_aload_n hK d_Md_refuse_0 rfl ?_
  refine gh_aload_n hK d_Md_refuse_1 rfl ?_
  refine gh_get (v := .int (nI fi)) hK d_Md_refuse_2 in_Md rfl h.1 17 (by decide) kf_Md_76 rfl rfl ?_
  refine gh_aload_n hK d_Md_refuse_5 rfl ?_
  refine gh_get (v := .int (nI fr)) hK d_Md_refuse_6 in_Md rfl h.1 14 (by decide) kf_Md_86 rfl rfl ?_
  refine gh_subN hK d_Md_refuse_9 (by omega) ?_
  refine gh_iconst (v := nI 1) hK d_Md_refuse_10 (by decide) ?_
  refine gh_addN hK d_Md_refuse_11 ?_
  refine gh_mput hK d_Md_refuse_12 h 19 (mS cd ty ne fr tt ap fi en ((fi - fr) + 1) mk wd) rfl (by decide) kf_Md_89 rfl rfl rfl rfl (by decide) (fun g_1 h_1 mx => ?_)
  have mm := mm.tr mx
  show gh_W l G _ X g_1 0 0 [some (.ref (B 0))] 15 []
  refine gh_iconst (v := nI 0) hK d_Md_refuse_15 (by decide) ?_
  exact gh_zret (by decide) hK hE d_Md_refuse_16 (Nat.le_of_ble_eq_true rfl) (Nat.le_of_ble_eq_true rfl) ⟨rfl, h_1, mm⟩
