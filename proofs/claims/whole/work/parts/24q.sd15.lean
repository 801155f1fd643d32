abbrev DkS := List (Nat × List Nat × Nat) × List (Nat × RuR) × List (Nat × RuR) × (List Nat × Nat)
/-- the lines of a text: k characters are left behind place i, the line begins at st -/
def lnsG (tx : List Nat) : Nat → Nat → Nat → List (Nat × Nat)
  | 0, i, st => if st < i then [(st, i)] else []
  | k + 1, i, st => if tx.getD i 0 = 10 then (st, i) :: lnsG tx k (i + 1) (i + 1) else lnsG tx k (i + 1) st
/-- what lines do, one after the other; each new object lies anywhere -/
def rnS (tx : List Nat) : List (Nat × Nat) → DkS → DkS → Prop
  | [], s, s' => s' = s
  | p :: r, s, s' => ∃ a, SDb s.1 s.2.1 s.2.2.1 ∧ rnS tx r (lnX a s.1 s.2.1 s.2.2.1 tx s.2.2.2 p.1 p.2) s'
theorem SDr.tx {G : GG} {g g' : GH} {A : Nat → Nat} {es : List (Nat × List Nat × Nat)} {us1 us2 : List (Nat × RuR)} {tx tx' : List Nat} {S : List Nat} (h : SDr G g A es us1 us2 tx) (hM : gh_M S g g') (hS : ∀ t, t ∈ S → t ∈ [1, 2]) (hd : Lt G g' (A 1) 1 (A 2) 2 2048 tx') : SDr G g' A es us1 us2 tx' := ⟨h.1.M hM (fun t ht q => by have := hS t q; simp at ht this; omega), ⟨h.2.1.1.M hM (fun t ht q => by have := hS t q; simp at ht this; omega), h.2.1.2.1.M hM (fun t ht q => by have := hS t q; simp at ht this; omega), h.2.1.2.2.1.M hM (fun t ht q => by have := hS t q; simp at ht this; omega), hd⟩, h.2.2⟩
set_option maxRecDepth 20000 in
set_option maxHeartbeats 4000000 in
theorem c_SD_run (l : Launch) (G : GG) {g : GH} {A : Nat → Nat} {es : List (Nat × List Nat × Nat)} {us1 us2 : List (Nat × RuR)} {tx : List Nat} {o : List Nat × Nat} {ls0 le0 s0 e0 wf wl : Nat} (h : SDr G g A es us1 us2 tx) (hP : Pr G g (A 4) (A 5) (A 6) o 0) (hL : Ln g (A 3) (A 1) ls0 le0 s0 e0 wf wl) : gMet l G y_SD_run b_SD_run 5 (some .int) (rmk 10 (8 * tx.length) (500 * tx.length) 261) [.ref (A 0)] g (fun v g' => v = some (.int (nI (lnsG tx tx.length 0 0).length)) ∧ ∃ t : DkS, rnS tx (lnsG tx tx.length 0 0) (es, us1, us2, o) t ∧ LiP G A [] g t g') := by
  refine gMet.of [some (.ref (A 0)), none, none, none, none] (by decide +kernel) rfl (Nat.le_of_ble_eq_true rfl) rfl (fun X hK hI hE => ?_)
  have htl := h.2.1.2.2.2.len
  have tail : ∀ (k n c : Nat) (t : DkS) (g4 : GH) (v2 v3 v4 : Option Value), k ≤ 8 * tx.length → n ≤ 500 * tx.length → LiP G A tx g t g4 → rnS tx (lnsG tx tx.length 0 0) (es, us1, us2, o) t → c = (lnsG tx tx.length 0 0).length → gh_W l G (rmk 10 (8 * tx.length) (500 * tx.length) 261) X g4 k n [some (.ref (A 0)), some (.int (nI c)), v2, v3, v4] 70 [] := by
    intro k n c t g4 v2 v3 v4 hk hn h4 ht hc
    obtain ⟨h4, hP4, ⟨y1, y2, y3, y4, y5, y6, hL4⟩, m4⟩ := h4
    subst hc
    refine gh_aload_n hK d_SD_run_70 rfl ?_
    refine gh_get hK d_SD_run_71 in_SD rfl h4.1.1 0 (by decide) kf_SD_14 rfl rfl ?_
    refine gh_callV (rest := []) [] hK (c_Lt_clear l G h4.2.1.2.2.2) Y_Lt_clear V_Lt_clear km_SD_97 h4.2.1.2.2.2.ob rfl rfl d_SD_run_74 rfl rfl (Nat.le_of_ble_eq_true rfl) ⟨(Nat.le_of_ble_eq_true rfl), (Nat.le_of_ble_eq_true rfl)⟩ ⟨hk, hn⟩ (fun v g5 hp => ?_)
    obtain ⟨rfl, hq1, hq2⟩ := hp
    show gh_W l G _ X g5 k n [some (.ref (A 0)), some (.int (nI ((lnsG tx tx.length 0 0).length))), v2, v3, v4] 77 []
    have m5 : gh_M [1] g4 g5 := gh_N.M hq2 (fun q hq => by rw [List.mem_singleton] at hq; subst hq; exact ⟨1, _, h4.2.1.2.2.2.ob, by decide⟩)
    refine gh_iload_n hK d_SD_run_77 rfl ?_
    exact gh_iret hK hE d_SD_run_78 hk hn ⟨rfl, t, ht, h4.tx m5 (by decide) hq1, hP4.M m5 (by decide) (by decide) (by decide), ⟨_, _, _, _, _, _, hL4.M m5 (by decide)⟩, m4.tr (m5.wd (by decide))⟩
  have loop : ∀ (m i k n c st : Nat) (t : DkS) (g4 : GH), i + m = tx.length → st ≤ i → k ≤ 8 * st → n ≤ 500 * st → LiP G A tx g t g4 → (∀ t', rnS tx (lnsG tx m i st) t t' → rnS tx (lnsG tx tx.length 0 0) (es, us1, us2, o) t') → c + (lnsG tx m i st).length = (lnsG tx tx.length 0 0).length → gh_W l G (rmk 10 (8 * tx.length) (500 * tx.length) 261) X g4 k n [some (.ref (A 0)), some (.int (nI c)), some (.int (nI st)), some (.int (nI tx.length)), some (.int (nI i))] 15 [] := by
    intro m
    induction m with
    | zero =>
      intro i k n c st t g4 hi hst hk hn h4 hr hc
      have hi : i = tx.length := by omega
      subst hi
      refine gh_iload hK d_SD_run_15 rfl ?_
      refine gh_iload_n hK d_SD_run_17 rfl ?_
      refine gh_icmp_geN hK d_SD_run_18 (tgt := 56) (by decide) (by omega) (by omega) (fun z => ?_) (fun z => by omega)
      refine gh_iload_n hK d_SD_run_56 rfl ?_
      refine gh_iload_n hK d_SD_run_57 rfl ?_
      refine gh_icmp_geN hK d_SD_run_58 (tgt := 70) (by decide) (by omega) (by omega) (fun z2 => ?_) (fun z2 => ?_)
      · rw [lnsG, if_neg (by omega)] at hr hc
        exact tail k n c t g4 _ _ _ (by omega) (by omega) h4 (hr t rfl) hc
      rw [lnsG, if_pos z2] at hr hc
      refine gh_aload_n hK d_SD_run_61 rfl ?_
      refine gh_iload_n hK d_SD_run_62 rfl ?_
      refine gh_iload_n hK d_SD_run_63 rfl ?_
      obtain ⟨q1, q2, ⟨y1, y2, y3, y4, y5, y6, q3⟩, q4⟩ := h4
      refine gh_callV (rest := []) [.int (nI st), .int (nI tx.length)] hK (c_SD_doLine l G q1 q2 q3 (fr := st) (to := tx.length) hst (Nat.le_refl _)) Y_SD_doLine V_SD_doLine km_SD_93 q1.1.1 rfl rfl d_SD_run_64 rfl rfl (Nat.le_of_ble_eq_true rfl) ⟨(Nat.le_of_ble_eq_true rfl), (Nat.le_of_ble_eq_true rfl)⟩ ⟨(by show k + 8 * (tx.length - st) ≤ 8 * tx.length; omega), (by show n + 500 * (tx.length - st) ≤ 500 * tx.length; omega)⟩ (fun v g5 hp => ?_)
      obtain ⟨rfl, a, h5⟩ := hp
      show gh_W l G _ X g5 (k + 8 * (tx.length - st)) (n + 500 * (tx.length - st)) [some (.ref (A 0)), some (.int (nI c)), some (.int (nI st)), some (.int (nI tx.length)), some (.int (nI tx.length))] 67 []
      refine gh_incN (lv' := [some (.ref (A 0)), some (.int (nI (c + 1))), some (.int (nI st)), some (.int (nI tx.length)), some (.int (nI tx.length))]) hK d_SD_run_67 rfl rfl ?_
      exact tail _ _ _ _ g5 _ _ _ (by omega) (by omega) ⟨h5.1, h5.2.1, h5.2.2.1, q4.tr h5.2.2.2⟩ (hr _ ⟨a, q1.2.2, rfl⟩) hc
    | succ m ih =>
      intro i k n c st t g4 hi hst hk hn h4 hr hc
      obtain ⟨q1, q2, ⟨y1, y2, y3, y4, y5, y6, q3⟩, q4⟩ := h4
      refine gh_iload hK d_SD_run_15 rfl ?_
      refine gh_iload_n hK d_SD_run_17 rfl ?_
      refine gh_icmp_geN hK d_SD_run_18 (tgt := 56) (by decide) (by omega) (by omega) (fun z => by omega) (fun z => ?_)
      refine gh_aload_n hK d_SD_run_21 rfl ?_
      refine gh_get hK d_SD_run_22 in_SD rfl q1.1.1 0 (by decide) kf_SD_14 rfl rfl ?_
      refine gh_iload hK d_SD_run_25 rfl ?_
      refine gh_callV (rest := []) [.int (nI i)] hK (c_Lt_at l G q1.2.1.2.2.2 (j := i) (by omega)) Y_Lt_at V_Lt_at km_SD_89 q1.2.1.2.2.2.ob rfl rfl d_SD_run_27 rfl rfl (Nat.le_of_ble_eq_true rfl) ⟨(Nat.le_of_ble_eq_true rfl), (Nat.le_of_ble_eq_true rfl)⟩ ⟨(by show k + 0 ≤ 8 * tx.length; omega), (by show n + 0 ≤ 500 * tx.length; omega)⟩ (fun v g' hp => ?_)
      rw [hp.1, hp.2]
      show gh_W l G _ X g4 k n [some (.ref (A 0)), some (.int (nI c)), some (.int (nI st)), some (.int (nI tx.length)), some (.int (nI i))] 30 [.int (nI (tx.getD i 0))]
      refine gh_bipush (v := nI 10) hK d_SD_run_30 (by decide) ?_
      have hch := q1.2.1.2.2.2.getD i
      refine gh_icmp_neN hK d_SD_run_32 (tgt := 50) (by decide) (by omega) (by omega) (fun z2 => ?_) (fun z2 => ?_)
      · rw [lnsG, if_neg z2] at hr hc
        refine gh_incN (lv' := [some (.ref (A 0)), some (.int (nI c)), some (.int (nI st)), some (.int (nI tx.length)), some (.int (nI (i + 1)))]) hK d_SD_run_50 rfl rfl ?_
        refine gh_goto (tgt := 15) hK d_SD_run_53 (by decide) ?_
        exact ih (i + 1) k n c st t g4 (by omega) (by omega) hk hn ⟨q1, q2, ⟨_, _, _, _, _, _, q3⟩, q4⟩ hr hc
      rw [lnsG, if_pos z2] at hr hc
      refine gh_aload_n hK d_SD_run_35 rfl ?_
      refine gh_iload_n hK d_SD_run_36 rfl ?_
      refine gh_iload hK d_SD_run_37 rfl ?_
      refine gh_callV (rest := []) [.int (nI st), .int (nI i)] hK (c_SD_doLine l G q1 q2 q3 (fr := st) (to := i) hst (by omega)) Y_SD_doLine V_SD_doLine km_SD_93 q1.1.1 rfl rfl d_SD_run_39 rfl rfl (Nat.le_of_ble_eq_true rfl) ⟨(Nat.le_of_ble_eq_true rfl), (Nat.le_of_ble_eq_true rfl)⟩ ⟨(by show k + 8 * (i - st) ≤ 8 * tx.length; omega), (by show n + 500 * (i - st) ≤ 500 * tx.length; omega)⟩ (fun v g5 hp => ?_)
      obtain ⟨rfl, a, h5⟩ := hp
      show gh_W l G _ X g5 (k + 8 * (i - st)) (n + 500 * (i - st)) [some (.ref (A 0)), some (.int (nI c)), some (.int (nI st)), some (.int (nI tx.length)), some (.int (nI i))] 42 []
      refine gh_incN (lv' := [some (.ref (A 0)), some (.int (nI (c + 1))), some (.int (nI st)), some (.int (nI tx.length)), some (.int (nI i))]) hK d_SD_run_42 rfl rfl ?_
      refine gh_iload hK d_SD_run_45 rfl ?_
      refine gh_iconst (v := nI 1) hK d_SD_run_47 (by decide) ?_
      refine gh_addN hK d_SD_run_48 ?_
      refine gh_istore_n (lv' := [some (.ref (A 0)), some (.int (nI (c + 1))), some (.int (nI (i + 1))), some (.int (nI tx.length)), some (.int (nI i))]) hK d_SD_run_49 (Nat.le_of_ble_eq_true rfl) rfl ?_
      refine gh_incN (lv' := [some (.ref (A 0)), some (.int (nI (c + 1))), some (.int (nI (i + 1))), some (.int (nI tx.length)), some (.int (nI (i + 1)))]) hK d_SD_run_50 rfl rfl ?_
      refine gh_goto (tgt := 15) hK d_SD_run_53 (by decide) ?_
      exact ih (i + 1) _ _ (c + 1) (i + 1) _ g5 (by omega) (by omega) (by omega) (by omega) ⟨h5.1, h5.2.1, h5.2.2.1, q4.tr h5.2.2.2⟩ (fun t' ht => hr t' ⟨a, q1.2.2, ht⟩) (by rw [List.length_cons] at hc; omega)
  refine gh_iconst (v := nI 0) hK d_SD_run_0 (by decide) ?_
  refine gh_istore_n (lv' := [some (.ref (A 0)), some (.int (nI 0)), none, none, none]) hK d_SD_run_1 (Nat.le_of_ble_eq_true rfl) rfl ?_
  refine gh_iconst (v := nI 0) hK d_SD_run_2 (by decide) ?_
  refine gh_istore_n (lv' := [some (.ref (A 0)), some (.int (nI 0)), some (.int (nI 0)), none, none]) hK d_SD_run_3 (Nat.le_of_ble_eq_true rfl) rfl ?_
  refine gh_aload_n hK d_SD_run_4 rfl ?_
  refine gh_get hK d_SD_run_5 in_SD rfl h.1.1 0 (by decide) kf_SD_14 rfl rfl ?_
  refine gh_callV (rest := []) [] hK (c_Lt_count l G h.2.1.2.2.2) Y_Lt_count V_Lt_count km_SD_75 h.2.1.2.2.2.ob rfl rfl d_SD_run_8 rfl rfl (Nat.le_of_ble_eq_true rfl) ⟨(Nat.le_of_ble_eq_true rfl), (Nat.le_of_ble_eq_true rfl)⟩ ⟨Nat.zero_le _, Nat.zero_le _⟩ (fun v g' hp => ?_)
  rw [hp.1, hp.2]
  show gh_W l G _ X g 0 0 [some (.ref (A 0)), some (.int (nI 0)), some (.int (nI 0)), none, none] 11 [.int (nI tx.length)]
  refine gh_istore_n (lv' := [some (.ref (A 0)), some (.int (nI 0)), some (.int (nI 0)), some (.int (nI tx.length)), none]) hK d_SD_run_11 (Nat.le_of_ble_eq_true rfl) rfl ?_
  refine gh_iconst (v := nI 0) hK d_SD_run_12 (by decide) ?_
  refine gh_istore (lv' := [some (.ref (A 0)), some (.int (nI 0)), some (.int (nI 0)), some (.int (nI tx.length)), some (.int (nI 0))]) hK d_SD_run_13 (Nat.le_of_ble_eq_true rfl) rfl ?_
  exact loop tx.length 0 0 0 0 0 (es, us1, us2, o) g (by omega) (Nat.le_refl _) (Nat.zero_le _) (Nat.zero_le _) ⟨h, hP, ⟨_, _, _, _, _, _, hL⟩, gh_M.rf⟩ (fun _ z => z) (Nat.zero_add _)
