/-! THE OUTPUT as characters: at most 6000, the rest is lost -/
def prt (o : List Nat × Nat) (c : Nat) : List Nat × Nat := if o.1.length < 6000 then (o.1 ++ [c], o.2) else (o.1, o.2 + 1)
def prs (o : List Nat × Nat) (cs : List Nat) : List Nat × Nat := cs.foldl prt o
theorem prs_nil (o : List Nat × Nat) : prs o [] = o := rfl
theorem prs_cons (o : List Nat × Nat) (c : Nat) (cs : List Nat) : prs o (c :: cs) = prs (prt o c) cs := rfl
theorem prs_app (o : List Nat × Nat) (a b : List Nat) : prs o (a ++ b) = prs (prs o a) b := List.foldl_append ..
theorem prs_one (o : List Nat × Nat) (c : Nat) : prs o [c] = prt o c := rfl
/-- digits of n from the place k down -/
def dgs : Nat → Nat → List Nat
  | 0, n => [48 + n % 10]
  | k + 1, n => (48 + n / 10 ^ (k + 1) % 10) :: dgs k n
def nkd (n : Nat) : Nat := if n < 10 then 0 else if n < 100 then 1 else if n < 1000 then 2 else if n < 10000 then 3 else if n < 100000 then 4 else 5
def decL (n : Nat) : List Nat := dgs (nkd n) n
theorem nkd_of {n k : Nat} (hn : n < 1000000) (h1 : k = 0 ∨ 10 ^ k ≤ n) (h2 : n < 10 ^ (k + 1)) : k = nkd n := by
  unfold nkd
  rcases (show k = 0 ∨ k = 1 ∨ k = 2 ∨ k = 3 ∨ k = 4 ∨ k = 5 ∨ 6 ≤ k by omega) with rfl | rfl | rfl | rfl | rfl | rfl | h
  · simp at h2 ⊢; omega
  · simp at h1 h2 ⊢; (repeat' split) <;> omega
  · simp at h1 h2 ⊢; (repeat' split) <;> omega
  · simp at h1 h2 ⊢; (repeat' split) <;> omega
  · simp at h1 h2 ⊢; (repeat' split) <;> omega
  · simp at h1 h2 ⊢; (repeat' split) <;> omega
  · have h3 : 10 ^ 6 ≤ 10 ^ k := Nat.pow_le_pow_right (by omega) h
    have h4 : (10 : Nat) ^ 6 = 1000000 := by decide
    rcases h1 with h1 | h1 <;> omega
theorem p10_le {k m : Nat} (h : k ≤ m) : 10 ^ k ≤ 10 ^ m := Nat.pow_le_pow_right (by omega) h
theorem p10_pos (k : Nat) : 0 < 10 ^ k := Nat.pow_pos (by omega)
theorem p10_6 {k : Nat} (h : k ≤ 6) : 10 ^ k ≤ 1000000 := by
  have := p10_le h
  simpa using this
theorem p10_div (k : Nat) : 10 ^ (k + 1) / 10 = 10 ^ k := by rw [Nat.pow_succ]; exact Nat.mul_div_cancel _ (by omega)
theorem p10_dd (n k : Nat) : n / 10 ^ k / 10 = n / 10 ^ (k + 1) := by rw [Nat.div_div_eq_div_mul, Nat.pow_succ]
theorem p10_lt {n k : Nat} (h : n / 10 ^ k = 0) : n < 10 ^ k := by
  rcases Nat.div_eq_zero_iff.mp h with h | h
  · have := p10_pos k; omega
  · exact h
theorem p10_ge {n k : Nat} (h : 0 < n / 10 ^ k) : 10 ^ k ≤ n := by
  rcases Nat.lt_or_ge n (10 ^ k) with q | q
  · rw [Nat.div_eq_of_lt q] at h; omega
  · exact q
/-! THE PRINTER -/
def Pr (G : GG) (g : GH) (pa pl pb : Nat) (o : List Nat × Nat) (it : Nat) : Prop := g pa = some (4, .inr (5, [.ref pl, .int (nI o.2), .int (nI it)])) ∧ Lt G g pl 5 pb 6 6000 o.1
theorem Pr.N {G : GG} {g g' : GH} {pa pl pb it : Nat} {o : List Nat × Nat} {S : List Nat} (h : Pr G g pa pl pb o it) (hN : gh_N S g g') (h1 : pa ∉ S) (h2 : pl ∉ S) (h3 : pb ∉ S) : Pr G g' pa pl pb o it := ⟨by rw [hN pa h1 (by rw [h.1]; exact fun z => by cases z)]; exact h.1, h.2.N hN h2 h3⟩
theorem Pr.M {G : GG} {g g' : GH} {pa pl pb it : Nat} {o : List Nat × Nat} {S : List Nat} (h : Pr G g pa pl pb o it) (hM : gh_M S g g') (h1 : 4 ∉ S) (h2 : 5 ∉ S) (h3 : 6 ∉ S) : Pr G g' pa pl pb o it := ⟨hM pa 4 _ h.1 h1, h.2.M hM h2 h3⟩
theorem Pr.ne {G : GG} {g : GH} {pa pl pb it : Nat} {o : List Nat × Nat} (h : Pr G g pa pl pb o it) : pa ≠ pl ∧ pa ≠ pb ∧ pl ≠ pb := by
  obtain ⟨h1, f, ⟨h2, h3, -⟩, -⟩ := h
  exact ⟨gh_ne h1 h2 (by show (4 : Nat) ≠ 5; decide), gh_ne h1 h3 (by show (4 : Nat) ≠ 6; decide), gh_ne h2 h3 (by show (5 : Nat) ≠ 6; decide)⟩
/-- what printing changes -/
theorem Pr.toM {G : GG} {g g' : GH} {pa pl pb it : Nat} {o : List Nat × Nat} (h : Pr G g pa pl pb o it) (hN : gh_N [pa, pl, pb] g g') : gh_M [4, 5, 6] g g' := hN.M fun a ha => by
  obtain ⟨h1, f, ⟨h2, h3, -⟩, -⟩ := h
  rcases List.mem_cons.mp ha with rfl | ha
  · exact ⟨_, _, h1, by decide⟩
  · rcases List.mem_cons.mp ha with rfl | ha
    · exact ⟨_, _, h2, by decide⟩
    · rw [List.mem_singleton.mp ha]
      exact ⟨_, _, h3, by decide⟩
set_option maxRecDepth 20000 in
set_option maxHeartbeats 4000000 in
theorem c_Pr_count (l : Launch) (G : GG) {g : GH} {pa pl pb it : Nat} {o : List Nat × Nat} (h : Pr G g pa pl pb o it) : gMet l G y_Pr_count b_Pr_count 1 (some .int) (rmk 1 0 0 20) [.ref pa] g (fun v g' => v = some (.int (nI o.1.length)) ∧ g' = g) := by
  refine gMet.of [some (.ref pa)] (by decide +kernel) rfl (Nat.le_of_ble_eq_true rfl) rfl (fun X hK hI hE => ?_)
  refine gh_aload_n hK d_Pr_count_0 rfl ?_
  refine gh_get hK d_Pr_count_1 in_Pr rfl h.1 0 (by decide) kf_Pr_14 rfl rfl ?_
  refine gh_callV (rest := []) [] hK (c_Lt_count l G h.2) Y_Lt_count V_Lt_count km_Pr_20 h.2.ob rfl rfl d_Pr_count_4 rfl rfl (Nat.le_of_ble_eq_true rfl) ⟨(Nat.le_of_ble_eq_true rfl), (Nat.le_of_ble_eq_true rfl)⟩ ⟨(Nat.le_of_ble_eq_true rfl), (Nat.le_of_ble_eq_true rfl)⟩ (fun v g' hp => ?_)
  rw [hp.1, hp.2]
  show gh_W l G _ X g _ _ [some (.ref pa)] 7 [.int (nI o.1.length)]
  exact gh_iret hK hE d_Pr_count_7 (Nat.le_of_ble_eq_true rfl) (Nat.le_of_ble_eq_true rfl) ⟨rfl, rfl⟩
set_option maxRecDepth 20000 in
set_option maxHeartbeats 4000000 in
theorem c_Pr_at (l : Launch) (G : GG) {g : GH} {pa pl pb it : Nat} {o : List Nat × Nat} {j : Nat} (h : Pr G g pa pl pb o it) (hj : j < 2 ^ 31) : gMet l G y_Pr_at b_Pr_at 2 (some .char) (rmk 1 0 0 21) [.ref pa, .int (nI j)] g (fun v g' => v = some (.int (nI (o.1.getD j 0))) ∧ g' = g) := by
  refine gMet.of [some (.ref pa), some (.int (nI j))] (by decide +kernel) rfl (Nat.le_of_ble_eq_true rfl) rfl (fun X hK hI hE => ?_)
  refine gh_aload_n hK d_Pr_at_0 rfl ?_
  refine gh_get hK d_Pr_at_1 in_Pr rfl h.1 0 (by decide) kf_Pr_14 rfl rfl ?_
  refine gh_iload_n hK d_Pr_at_4 rfl ?_
  refine gh_callV (rest := []) [.int (nI j)] hK (c_Lt_at l G h.2 hj) Y_Lt_at V_Lt_at km_Pr_24 h.2.ob rfl rfl d_Pr_at_5 rfl rfl (Nat.le_of_ble_eq_true rfl) ⟨(Nat.le_of_ble_eq_true rfl), (Nat.le_of_ble_eq_true rfl)⟩ ⟨(Nat.le_of_ble_eq_true rfl), (Nat.le_of_ble_eq_true rfl)⟩ (fun v g' hp => ?_)
  rw [hp.1, hp.2]
  show gh_W l G _ X g _ _ [some (.ref pa), some (.int (nI j))] 8 [.int (nI (o.1.getD j 0))]
  exact gh_zret (pk_charN (h.2.getD j)).1 hK hE d_Pr_at_8 (Nat.le_of_ble_eq_true rfl) (Nat.le_of_ble_eq_true rfl) ⟨rfl, rfl⟩
set_option maxRecDepth 20000 in
set_option maxHeartbeats 4000000 in
theorem c_Pr_lostCount (l : Launch) (G : GG) {g : GH} {pa pl pb it : Nat} {o : List Nat × Nat} (h : Pr G g pa pl pb o it) : gMet l G y_Pr_lostCount b_Pr_lostCount 1 (some .int) (rmk 0 0 0 0) [.ref pa] g (fun v g' => v = some (.int (nI o.2)) ∧ g' = g) := by
  refine gMet.of [some (.ref pa)] (by decide +kernel) rfl (Nat.le_of_ble_eq_true rfl) rfl (fun X hK hI hE => ?_)
  refine gh_aload_n hK d_Pr_lostCount_0 rfl ?_
  refine gh_get hK d_Pr_lostCount_1 in_Pr rfl h.1 1 (by decide) kf_Pr_28 rfl rfl ?_
  exact gh_iret hK hE d_Pr_lostCount_4 (Nat.le_of_ble_eq_true rfl) (Nat.le_of_ble_eq_true rfl) ⟨rfl, rfl⟩
set_option maxRecDepth 20000 in
set_option maxHeartbeats 4000000 in
theorem c_Pr_clear (l : Launch) (G : GG) {g : GH} {pa pl pb it : Nat} {o : List Nat × Nat} (h : Pr G g pa pl pb o it) : gMet l G y_Pr_clear b_Pr_clear 1 none (rmk 1 0 0 20) [.ref pa] g (fun v g' => v = none ∧ Pr G g' pa pl pb ([], 0) it ∧ gh_N [pa, pl, pb] g g') := by
  refine gMet.of [some (.ref pa)] (by decide +kernel) rfl (Nat.le_of_ble_eq_true rfl) rfl (fun X hK hI hE => ?_)
  obtain ⟨n1, n2, n3⟩ := h.ne
  refine gh_aload_n hK d_Pr_clear_0 rfl ?_
  refine gh_get hK d_Pr_clear_1 in_Pr rfl h.1 0 (by decide) kf_Pr_14 rfl rfl ?_
  refine gh_callV (rest := []) [] hK (c_Lt_clear l G h.2) Y_Lt_clear V_Lt_clear km_Pr_32 h.2.ob rfl rfl d_Pr_clear_4 rfl rfl (Nat.le_of_ble_eq_true rfl) ⟨(Nat.le_of_ble_eq_true rfl), (Nat.le_of_ble_eq_true rfl)⟩ ⟨(Nat.le_of_ble_eq_true rfl), (Nat.le_of_ble_eq_true rfl)⟩ (fun v g1 hp => ?_)
  obtain ⟨rfl, hp1, hpN⟩ := hp
  have h1 : g1 pa = some (4, .inr (5, [.ref pl, .int (nI o.2), .int (nI it)])) := by rw [hpN pa (by simpa using n1) (by rw [h.1]; exact fun z => by cases z)]; exact h.1
  show gh_W l G _ X g1 _ _ [some (.ref pa)] 7 []
  refine gh_aload_n hK d_Pr_clear_7 rfl ?_
  refine gh_iconst (v := nI 0) hK d_Pr_clear_8 (by decide) ?_
  refine gh_put hK d_Pr_clear_9 in_Pr t_Pr ty_Pr nm_Pr rfl h1 1 (by decide) kf_Pr_28 rfl rfl rfl rfl (Nat.le_of_ble_eq_true rfl) rfl ?_
  exact gh_vret hK hE d_Pr_clear_12 (Nat.le_of_ble_eq_true rfl) (Nat.le_of_ble_eq_true rfl) ⟨rfl, ⟨by rw [gh_us]; rfl, hp1.N (gh_N.up (S := [pa]) (by simp)) (by simpa using n1.symm) (by simpa using n2.symm)⟩, (hpN.wd (by simp)).tr (gh_N.up (by simp))⟩
set_option maxRecDepth 20000 in
set_option maxHeartbeats 4000000 in
theorem c_Pr_print (l : Launch) (G : GG) {g : GH} {pa pl pb it : Nat} {o : List Nat × Nat} {c : Nat} (h : Pr G g pa pl pb o it) (hc : c < 65536) : gMet l G y_Pr_print b_Pr_print 2 none (rmk 1 0 0 21) [.ref pa, .int (nI c)] g (fun v g' => v = none ∧ Pr G g' pa pl pb (prt o c) it ∧ gh_N [pa, pl, pb] g g') := by
  refine gMet.of [some (.ref pa), some (.int (nI c))] (by decide +kernel) rfl (Nat.le_of_ble_eq_true rfl) rfl (fun X hK hI hE => ?_)
  obtain ⟨n1, n2, n3⟩ := h.ne
  refine gh_aload_n hK d_Pr_print_0 rfl ?_
  refine gh_get hK d_Pr_print_1 in_Pr rfl h.1 0 (by decide) kf_Pr_14 rfl rfl ?_
  refine gh_iload_n hK d_Pr_print_4 rfl ?_
  by_cases hlt : o.1.length < 6000
  · refine gh_callV (rest := []) [.int (nI c)] hK (c_Lt_append l G h.2 hc) Y_Lt_append V_Lt_append km_Pr_57 h.2.ob rfl rfl d_Pr_print_5 rfl rfl (Nat.le_of_ble_eq_true rfl) ⟨(Nat.le_of_ble_eq_true rfl), (Nat.le_of_ble_eq_true rfl)⟩ ⟨(Nat.le_of_ble_eq_true rfl), (Nat.le_of_ble_eq_true rfl)⟩ (fun v g1 hp => ?_)
    obtain ⟨hp1, -, hpN⟩ := hp
    obtain ⟨rfl, hp2⟩ := hp1 hlt
    show gh_W l G _ X g1 _ _ [some (.ref pa), some (.int (nI c))] 8 [.int (nI 1)]
    refine gh_if_neN hK d_Pr_print_8 (tgt := 21) (by decide) (by decide) (fun z => ?_) (fun z => absurd z (by decide))
    refine gh_vret hK hE d_Pr_print_21 (Nat.le_of_ble_eq_true rfl) (Nat.le_of_ble_eq_true rfl) ⟨rfl, ?_, hpN.wd (by simp)⟩
    rw [show prt o c = (o.1 ++ [c], o.2) from if_pos hlt]
    exact ⟨by rw [hpN pa (by simp [n1, n2]) (by rw [h.1]; exact fun z => by cases z)]; exact h.1, hp2⟩
  · refine gh_callV (rest := []) [.int (nI c)] hK (c_Lt_append l G h.2 hc) Y_Lt_append V_Lt_append km_Pr_57 h.2.ob rfl rfl d_Pr_print_5 rfl rfl (Nat.le_of_ble_eq_true rfl) ⟨(Nat.le_of_ble_eq_true rfl), (Nat.le_of_ble_eq_true rfl)⟩ ⟨(Nat.le_of_ble_eq_true rfl), (Nat.le_of_ble_eq_true rfl)⟩ (fun v g1 hp => ?_)
    obtain ⟨-, hp1, -⟩ := hp
    rw [(hp1 hlt).1, (hp1 hlt).2]
    show gh_W l G _ X g _ _ [some (.ref pa), some (.int (nI c))] 8 [.int (nI 0)]
    refine gh_if_neN hK d_Pr_print_8 (tgt := 21) (by decide) (by decide) (fun z => absurd z (by decide)) (fun z => ?_)
    refine gh_aload_n hK d_Pr_print_11 rfl ?_
    refine gh_dup hK d_Pr_print_12 rfl ?_
    refine gh_get hK d_Pr_print_13 in_Pr rfl h.1 1 (by decide) kf_Pr_28 rfl rfl ?_
    refine gh_iconst (v := nI 1) hK d_Pr_print_16 (by decide) ?_
    refine gh_addN hK d_Pr_print_17 ?_
    refine gh_put hK d_Pr_print_18 in_Pr t_Pr ty_Pr nm_Pr rfl h.1 1 (by decide) kf_Pr_28 rfl rfl rfl rfl (Nat.le_of_ble_eq_true rfl) rfl ?_
    refine gh_vret hK hE d_Pr_print_21 (Nat.le_of_ble_eq_true rfl) (Nat.le_of_ble_eq_true rfl) ⟨rfl, ?_, gh_N.up (by simp)⟩
    rw [show prt o c = (o.1, o.2 + 1) from if_neg hlt]
    exact ⟨gh_us, h.2.N (gh_N.up (S := [pa]) (by simp)) (by simpa using n1.symm) (by simpa using n2.symm)⟩
set_option maxRecDepth 20000 in
set_option maxHeartbeats 4000000 in
theorem c_Pr_printText (l : Launch) (G : GG) {g : GH} {pa pl pb it : Nat} {o : List Nat × Nat} {i : Nat} (h : Pr G g pa pl pb o it) (hi : i < st_N) : gMet l G y_Pr_printText b_Pr_printText 3 none (rmk 4 0 0 85) [.ref pa, .ref (G.2.2.1 i)] g (fun v g' => v = none ∧ Pr G g' pa pl pb (prs o (st_txt.getD i [])) it ∧ gh_N [pa, pl, pb] g g') := by
  refine gMet.of [some (.ref pa), some (.ref (G.2.2.1 i)), none] (by decide +kernel) rfl (Nat.le_of_ble_eq_true rfl) rfl (fun X hK hI hE => ?_)
  obtain ⟨e1, e2, e3⟩ := st_all i hi
  have loop : ∀ (m j : Nat) (g1 : GH), j + m = (st_txt.getD i []).length → Pr G g1 pa pl pb (prs o ((st_txt.getD i []).take j)) it → gh_N [pa, pl, pb] g g1 → gh_W l G (rmk 4 0 0 85) X g1 0 0 [some (.ref pa), some (.ref (G.2.2.1 i)), some (.int (nI j))] 2 [] := by
    intro m
    induction m with
    | zero =>
      intro j g1 hj h1 hN
      rw [List.take_of_length_le (by omega)] at h1
      refine gh_iload_n hK d_Pr_printText_2 rfl ?_
      refine gh_aload_n hK d_Pr_printText_3 rfl ?_
      refine gh_callVs (i := i) (rest := [.int (nI j)]) [] hK (c_Str_length l G (g := g1) hi) Y_Str_length V_Str_length km_Pr_35 hi rfl rfl d_Pr_printText_4 rfl rfl (Nat.le_of_ble_eq_true rfl) ⟨(Nat.le_of_ble_eq_true rfl), (Nat.le_of_ble_eq_true rfl)⟩ ⟨(Nat.le_of_ble_eq_true rfl), (Nat.le_of_ble_eq_true rfl)⟩ (fun v g' hp => ?_)
      rw [hp.1, hp.2]
      show gh_W l G _ X g1 0 0 [some (.ref pa), some (.ref (G.2.2.1 i)), some (.int (nI j))] 7 [.int (nI ((st_txt.getD i []).length)), .int (nI j)]
      refine gh_icmp_geN hK d_Pr_printText_7 (tgt := 25) (by decide) (by omega) (by omega) (fun z => ?_) (fun z => absurd z (by omega))
      exact gh_vret hK hE d_Pr_printText_25 (Nat.le_of_ble_eq_true rfl) (Nat.le_of_ble_eq_true rfl) ⟨rfl, h1, hN⟩
    | succ m ih =>
      intro j g1 hj h1 hN
      refine gh_iload_n hK d_Pr_printText_2 rfl ?_
      refine gh_aload_n hK d_Pr_printText_3 rfl ?_
      refine gh_callVs (i := i) (rest := [.int (nI j)]) [] hK (c_Str_length l G (g := g1) hi) Y_Str_length V_Str_length km_Pr_35 hi rfl rfl d_Pr_printText_4 rfl rfl (Nat.le_of_ble_eq_true rfl) ⟨(Nat.le_of_ble_eq_true rfl), (Nat.le_of_ble_eq_true rfl)⟩ ⟨(Nat.le_of_ble_eq_true rfl), (Nat.le_of_ble_eq_true rfl)⟩ (fun v g' hp => ?_)
      rw [hp.1, hp.2]
      show gh_W l G _ X g1 0 0 [some (.ref pa), some (.ref (G.2.2.1 i)), some (.int (nI j))] 7 [.int (nI ((st_txt.getD i []).length)), .int (nI j)]
      refine gh_icmp_geN hK d_Pr_printText_7 (tgt := 25) (by decide) (by omega) (by omega) (fun z => absurd z (by omega)) (fun z => ?_)
      refine gh_aload_n hK d_Pr_printText_10 rfl ?_
      refine gh_aload_n hK d_Pr_printText_11 rfl ?_
      refine gh_iload_n hK d_Pr_printText_12 rfl ?_
      refine gh_callVs (i := i) (rest := [.ref pa]) [.int (nI j)] hK (c_Str_charAt l G (g := g1) hi (j := j) (by omega)) Y_Str_charAt V_Str_charAt km_Pr_40 hi rfl rfl d_Pr_printText_13 rfl rfl (Nat.le_of_ble_eq_true rfl) ⟨(Nat.le_of_ble_eq_true rfl), (Nat.le_of_ble_eq_true rfl)⟩ ⟨(Nat.le_of_ble_eq_true rfl), (Nat.le_of_ble_eq_true rfl)⟩ (fun v g' hp => ?_)
      rw [hp.1, hp.2]
      show gh_W l G _ X g1 0 0 [some (.ref pa), some (.ref (G.2.2.1 i)), some (.int (nI j))] 16 [.int (nI ((st_txt.getD i []).getD j 0)), .ref pa]
      have hch := (e3 j (by omega)).2
      refine gh_callV (rest := []) [.int (nI ((st_txt.getD i []).getD j 0))] hK (c_Pr_print l G h1 (c := (st_txt.getD i []).getD j 0) (by omega)) Y_Pr_print V_Pr_print km_Pr_43 h1.1 rfl rfl d_Pr_printText_16 rfl rfl (Nat.le_of_ble_eq_true rfl) ⟨(Nat.le_of_ble_eq_true rfl), (Nat.le_of_ble_eq_true rfl)⟩ ⟨(Nat.le_of_ble_eq_true rfl), (Nat.le_of_ble_eq_true rfl)⟩ (fun v g2 hp => ?_)
      obtain ⟨rfl, hp1, hpN⟩ := hp
      show gh_W l G _ X g2 _ _ [some (.ref pa), some (.ref (G.2.2.1 i)), some (.int (nI j))] 19 []
      refine gh_incN (lv' := [some (.ref pa), some (.ref (G.2.2.1 i)), some (.int (nI (j + 1)))]) hK d_Pr_printText_19 rfl rfl ?_
      refine gh_goto (tgt := 2) hK d_Pr_printText_22 (by decide) ?_
      refine ih (j + 1) g2 (by omega) ?_ (hN.tr hpN)
      rw [take_succD (by omega), prs_app, prs_one]
      exact hp1
  refine gh_iconst (v := nI 0) hK d_Pr_printText_0 (by decide) ?_
  refine gh_istore_n (lv' := [some (.ref pa), some (.ref (G.2.2.1 i)), some (.int (nI 0))]) hK d_Pr_printText_1 (Nat.le_of_ble_eq_true rfl) rfl ?_
  exact loop _ 0 g (Nat.zero_add _) (by rw [List.take_zero]; exact h) gh_N.rf
set_option maxRecDepth 20000 in
set_option maxHeartbeats 4000000 in
theorem c_Pr_printLetters (l : Launch) (G : GG) {g : GH} {pa pl pb it : Nat} {o : List Nat × Nat} {ra rt rb ru rcap fr len : Nat} {ys : List Nat} (h : Pr G g pa pl pb o it) (hr : Lt G g ra rt rb ru rcap ys) (hn1 : ra ∉ [pa, pl, pb]) (hn2 : rb ∉ [pa, pl, pb]) (hf : fr + len ≤ ys.length) : gMet l G y_Pr_printLetters b_Pr_printLetters 5 none (rmk 2 0 0 42) [.ref pa, .ref ra, .int (nI fr), .int (nI len)] g (fun v g' => v = none ∧ Pr G g' pa pl pb (prs o ((ys.drop fr).take len)) it ∧ gh_N [pa, pl, pb] g g') := by
  refine gMet.of [some (.ref pa), some (.ref ra), some (.int (nI fr)), some (.int (nI len)), none] (by decide +kernel) rfl (Nat.le_of_ble_eq_true rfl) rfl (fun X hK hI hE => ?_)
  obtain ⟨hsl, hsl2⟩ := hr.len
  have loop : ∀ (m i : Nat) (g1 : GH), i + m = len → Pr G g1 pa pl pb (prs o ((ys.drop fr).take i)) it → gh_N [pa, pl, pb] g g1 → gh_W l G (rmk 2 0 0 42) X g1 0 0 [some (.ref pa), some (.ref ra), some (.int (nI fr)), some (.int (nI len)), some (.int (nI i))] 3 [] := by
    intro m
    induction m with
    | zero =>
      intro i g1 hi h1 hN
      obtain rfl : i = len := by omega
      refine gh_iload hK d_Pr_printLetters_3 rfl ?_
      refine gh_iload_n hK d_Pr_printLetters_5 rfl ?_
      refine gh_icmp_geN hK d_Pr_printLetters_6 (tgt := 27) (by decide) (by omega) (by omega) (fun z => ?_) (fun z => absurd z (by omega))
      exact gh_vret hK hE d_Pr_printLetters_27 (Nat.le_of_ble_eq_true rfl) (Nat.le_of_ble_eq_true rfl) ⟨rfl, h1, hN⟩
    | succ m ih =>
      intro i g1 hi h1 hN
      have hr1 := hr.N hN hn1 hn2
      refine gh_iload hK d_Pr_printLetters_3 rfl ?_
      refine gh_iload_n hK d_Pr_printLetters_5 rfl ?_
      refine gh_icmp_geN hK d_Pr_printLetters_6 (tgt := 27) (by decide) (by omega) (by omega) (fun z => absurd z (by omega)) (fun z => ?_)
      refine gh_aload_n hK d_Pr_printLetters_9 rfl ?_
      refine gh_aload_n hK d_Pr_printLetters_10 rfl ?_
      refine gh_iload_n hK d_Pr_printLetters_11 rfl ?_
      refine gh_iload hK d_Pr_printLetters_12 rfl ?_
      refine gh_addN hK d_Pr_printLetters_14 ?_
      refine gh_callV (rest := [.ref pa]) [.int (nI (fr + i))] hK (c_Lt_at l G hr1 (j := fr + i) (by omega)) Y_Lt_at V_Lt_at km_Pr_24 hr1.ob rfl rfl d_Pr_printLetters_15 rfl rfl (Nat.le_of_ble_eq_true rfl) ⟨(Nat.le_of_ble_eq_true rfl), (Nat.le_of_ble_eq_true rfl)⟩ ⟨(Nat.le_of_ble_eq_true rfl), (Nat.le_of_ble_eq_true rfl)⟩ (fun v g' hp => ?_)
      rw [hp.1, hp.2]
      show gh_W l G _ X g1 _ _ [some (.ref pa), some (.ref ra), some (.int (nI fr)), some (.int (nI len)), some (.int (nI i))] 18 [.int (nI (ys.getD (fr + i) 0)), .ref pa]
      refine gh_callV (rest := []) [.int (nI (ys.getD (fr + i) 0))] hK (c_Pr_print l G h1 (hr1.getD (fr + i))) Y_Pr_print V_Pr_print km_Pr_43 h1.1 rfl rfl d_Pr_printLetters_18 rfl rfl (Nat.le_of_ble_eq_true rfl) ⟨(Nat.le_of_ble_eq_true rfl), (Nat.le_of_ble_eq_true rfl)⟩ ⟨(Nat.le_of_ble_eq_true rfl), (Nat.le_of_ble_eq_true rfl)⟩ (fun v g2 hp => ?_)
      obtain ⟨rfl, hp1, hpN⟩ := hp
      show gh_W l G _ X g2 _ _ [some (.ref pa), some (.ref ra), some (.int (nI fr)), some (.int (nI len)), some (.int (nI i))] 21 []
      refine gh_incN (lv' := [some (.ref pa), some (.ref ra), some (.int (nI fr)), some (.int (nI len)), some (.int (nI (i + 1)))]) hK d_Pr_printLetters_21 rfl rfl ?_
      refine gh_goto (tgt := 3) hK d_Pr_printLetters_24 (by decide) ?_
      refine ih (i + 1) g2 (by omega) ?_ (hN.tr hpN)
      rw [slice_succ (by omega), prs_app, prs_one]
      exact hp1
  refine gh_iconst (v := nI 0) hK d_Pr_printLetters_0 (by decide) ?_
  refine gh_istore (lv' := [some (.ref pa), some (.ref ra), some (.int (nI fr)), some (.int (nI len)), some (.int (nI 0))]) hK d_Pr_printLetters_1 (Nat.le_of_ble_eq_true rfl) rfl ?_
  exact loop len 0 g (by omega) (by rw [List.take_zero]; exact h) gh_N.rf
set_option maxRecDepth 20000 in
set_option maxHeartbeats 4000000 in
theorem c_Pr_printNumber (l : Launch) (G : GG) {g : GH} {pa pl pb it : Nat} {o : List Nat × Nat} {x : Nat} (h : Pr G g pa pl pb o it) (hx : x < 1000000) : gMet l G y_Pr_printNumber b_Pr_printNumber 4 none (rmk 2 0 0 42) [.ref pa, .int (nI x)] g (fun v g' => v = none ∧ Pr G g' pa pl pb (prs o (decL x)) it ∧ gh_N [pa, pl, pb] g g') := by
  refine gMet.of [some (.ref pa), some (.int (nI x)), none, none] (by decide +kernel) rfl (Nat.le_of_ble_eq_true rfl) rfl (fun X hK hI hE => ?_)
  have loop2 : ∀ (k : Nat) (g1 : GH) (o1 : List Nat × Nat) (o2 : Option Value), k ≤ 6 → Pr G g1 pa pl pb o1 it → prs o1 (dgs k x) = prs o (decL x) → gh_N [pa, pl, pb] g g1 → gh_W l G (rmk 2 0 0 42) X g1 0 0 [some (.ref pa), some (.int (nI x)), o2, some (.int (nI (10 ^ k)))] 26 [] := by
    intro k
    induction k with
    | zero =>
      intro g1 o1 o2 hk h1 he hN
      refine gh_iload_n hK d_Pr_printNumber_26 rfl ?_
      refine gh_if_leN hK d_Pr_printNumber_27 (tgt := 52) (by decide) (by omega) (fun z => absurd z (by omega)) (fun z => ?_)
      refine gh_aload_n hK d_Pr_printNumber_30 rfl ?_
      refine gh_bipush (v := nI 48) hK d_Pr_printNumber_31 (by decide) ?_
      refine gh_iload_n hK d_Pr_printNumber_33 rfl ?_
      refine gh_iload_n hK d_Pr_printNumber_34 rfl ?_
      refine gh_divN hK d_Pr_printNumber_35 (by omega) (by omega) (by omega) ?_
      refine gh_bipush (v := nI 10) hK d_Pr_printNumber_36 (by decide) ?_
      refine gh_remN hK d_Pr_printNumber_38 (by omega) (by omega) (by omega) ?_
      refine gh_addN hK d_Pr_printNumber_39 ?_
      refine gh_i2c (v := nI (48 + x / 10 ^ 0 % 10)) hK d_Pr_printNumber_40 (by rw [pk_char, pk_tn (by omega)]; congr 1; omega) ?_
      refine gh_callV (rest := []) [.int (nI (48 + x / 10 ^ 0 % 10))] hK (c_Pr_print l G h1 (by omega)) Y_Pr_print V_Pr_print km_Pr_43 h1.1 rfl rfl d_Pr_printNumber_41 rfl rfl (Nat.le_of_ble_eq_true rfl) ⟨(Nat.le_of_ble_eq_true rfl), (Nat.le_of_ble_eq_true rfl)⟩ ⟨(Nat.le_of_ble_eq_true rfl), (Nat.le_of_ble_eq_true rfl)⟩ (fun v g2 hp => ?_)
      obtain ⟨rfl, hp1, hpN⟩ := hp
      show gh_W l G _ X g2 _ _ [some (.ref pa), some (.int (nI x)), o2, some (.int (nI (10 ^ 0)))] 44 []
      refine gh_iload_n hK d_Pr_printNumber_44 rfl ?_
      refine gh_bipush (v := nI 10) hK d_Pr_printNumber_45 (by decide) ?_
      refine gh_divN hK d_Pr_printNumber_47 (by omega) (by omega) (by omega) ?_
      refine gh_istore_n (lv' := [some (.ref pa), some (.int (nI x)), o2, some (.int (nI ((10 ^ 0) / 10)))]) hK d_Pr_printNumber_48 (Nat.le_of_ble_eq_true rfl) rfl ?_
      rw [show (10 : Nat) ^ 0 / 10 = 0 from rfl]
      refine gh_goto (tgt := 26) hK d_Pr_printNumber_49 (by decide) ?_
      refine gh_iload_n hK d_Pr_printNumber_26 rfl ?_
      refine gh_if_leN hK d_Pr_printNumber_27 (tgt := 52) (by decide) (by decide) (fun z => ?_) (fun z => absurd z (by omega))
      refine gh_vret hK hE d_Pr_printNumber_52 (Nat.le_of_ble_eq_true rfl) (Nat.le_of_ble_eq_true rfl) ⟨rfl, ?_, hN.tr hpN⟩
      rw [← he]
      have e0 : x / 10 ^ 0 = x := by rw [Nat.pow_zero, Nat.div_one]
      rw [e0] at hp1
      exact hp1
    | succ k ih =>
      intro g1 o1 o2 hk h1 he hN
      have hk1 := p10_6 hk
      have hk2 := p10_pos (k + 1)
      have hk3 : x / 10 ^ (k + 1) ≤ x := Nat.div_le_self _ _
      refine gh_iload_n hK d_Pr_printNumber_26 rfl ?_
      refine gh_if_leN hK d_Pr_printNumber_27 (tgt := 52) (by decide) (by omega) (fun z => absurd z (by omega)) (fun z => ?_)
      refine gh_aload_n hK d_Pr_printNumber_30 rfl ?_
      refine gh_bipush (v := nI 48) hK d_Pr_printNumber_31 (by decide) ?_
      refine gh_iload_n hK d_Pr_printNumber_33 rfl ?_
      refine gh_iload_n hK d_Pr_printNumber_34 rfl ?_
      refine gh_divN hK d_Pr_printNumber_35 (by omega) (by omega) (by omega) ?_
      refine gh_bipush (v := nI 10) hK d_Pr_printNumber_36 (by decide) ?_
      refine gh_remN hK d_Pr_printNumber_38 (by omega) (by omega) (by omega) ?_
      refine gh_addN hK d_Pr_printNumber_39 ?_
      refine gh_i2c (v := nI (48 + x / 10 ^ (k + 1) % 10)) hK d_Pr_printNumber_40 (by rw [pk_char, pk_tn (by omega)]; congr 1; omega) ?_
      refine gh_callV (rest := []) [.int (nI (48 + x / 10 ^ (k + 1) % 10))] hK (c_Pr_print l G h1 (by omega)) Y_Pr_print V_Pr_print km_Pr_43 h1.1 rfl rfl d_Pr_printNumber_41 rfl rfl (Nat.le_of_ble_eq_true rfl) ⟨(Nat.le_of_ble_eq_true rfl), (Nat.le_of_ble_eq_true rfl)⟩ ⟨(Nat.le_of_ble_eq_true rfl), (Nat.le_of_ble_eq_true rfl)⟩ (fun v g2 hp => ?_)
      obtain ⟨rfl, hp1, hpN⟩ := hp
      show gh_W l G _ X g2 _ _ [some (.ref pa), some (.int (nI x)), o2, some (.int (nI (10 ^ (k + 1))))] 44 []
      refine gh_iload_n hK d_Pr_printNumber_44 rfl ?_
      refine gh_bipush (v := nI 10) hK d_Pr_printNumber_45 (by decide) ?_
      refine gh_divN hK d_Pr_printNumber_47 (by omega) (by omega) (by omega) ?_
      refine gh_istore_n (lv' := [some (.ref pa), some (.int (nI x)), o2, some (.int (nI ((10 ^ (k + 1)) / 10)))]) hK d_Pr_printNumber_48 (Nat.le_of_ble_eq_true rfl) rfl ?_
      rw [p10_div]
      refine gh_goto (tgt := 26) hK d_Pr_printNumber_49 (by decide) ?_
      exact ih g2 _ _ (by omega) hp1 he (hN.tr hpN)
  have loop1 : ∀ (m k : Nat), k + m = 6 → (k = 0 ∨ 10 ^ k ≤ x) → gh_W l G (rmk 2 0 0 42) X g 0 0 [some (.ref pa), some (.int (nI x)), some (.int (nI (10 ^ k))), some (.int (nI (x / 10 ^ (k + 1))))] 7 [] := by
    intro m
    induction m with
    | zero =>
      intro k hk h0
      obtain rfl : k = 6 := by omega
      rcases h0 with h0 | h0
      · omega
      · simp at h0; omega
    | succ m ih =>
      intro k hk h0
      have hk1 := p10_6 (k := k) (by omega)
      have hk2 : x / 10 ^ (k + 1) ≤ x := Nat.div_le_self _ _
      refine gh_iload_n hK d_Pr_printNumber_7 rfl ?_
      refine gh_if_leN hK d_Pr_printNumber_8 (tgt := 24) (by decide) (by omega) (fun z => ?_) (fun z => ?_)
      · refine gh_iload_n hK d_Pr_printNumber_24 rfl ?_
        refine gh_istore_n (lv' := [some (.ref pa), some (.int (nI x)), some (.int (nI (10 ^ k))), some (.int (nI (10 ^ k)))]) hK d_Pr_printNumber_25 (Nat.le_of_ble_eq_true rfl) rfl ?_
        have hkd := nkd_of hx h0 (p10_lt z)
        exact loop2 k g o _ (by omega) h (by rw [hkd]; rfl) gh_N.rf
      · refine gh_iload_n hK d_Pr_printNumber_11 rfl ?_
        refine gh_bipush (v := nI 10) hK d_Pr_printNumber_12 (by decide) ?_
        refine gh_mulN hK d_Pr_printNumber_14 ?_
        rw [← Nat.pow_succ]
        refine gh_istore_n (lv' := [some (.ref pa), some (.int (nI x)), some (.int (nI (10 ^ (k + 1)))), some (.int (nI (x / 10 ^ (k + 1))))]) hK d_Pr_printNumber_15 (Nat.le_of_ble_eq_true rfl) rfl ?_
        refine gh_iload_n hK d_Pr_printNumber_16 rfl ?_
        refine gh_bipush (v := nI 10) hK d_Pr_printNumber_17 (by decide) ?_
        refine gh_divN hK d_Pr_printNumber_19 (by omega) (by omega) (by omega) ?_
        rw [p10_dd]
        refine gh_istore_n (lv' := [some (.ref pa), some (.int (nI x)), some (.int (nI (10 ^ (k + 1)))), some (.int (nI (x / 10 ^ (k + 1 + 1))))]) hK d_Pr_printNumber_20 (Nat.le_of_ble_eq_true rfl) rfl ?_
        refine gh_goto (tgt := 7) hK d_Pr_printNumber_21 (by decide) ?_
        exact ih (k + 1) (by omega) (Or.inr (p10_ge z))
  refine gh_iconst (v := nI 1) hK d_Pr_printNumber_0 (by decide) ?_
  refine gh_istore_n (lv' := [some (.ref pa), some (.int (nI x)), some (.int (nI 1)), none]) hK d_Pr_printNumber_1 (Nat.le_of_ble_eq_true rfl) rfl ?_
  refine gh_iload_n hK d_Pr_printNumber_2 rfl ?_
  refine gh_bipush (v := nI 10) hK d_Pr_printNumber_3 (by decide) ?_
  refine gh_divN hK d_Pr_printNumber_5 (by omega) (by omega) (by omega) ?_
  have e1 : x / 10 = x / 10 ^ (0 + 1) := by rw [Nat.zero_add, Nat.pow_one]
  rw [e1]
  refine gh_istore_n (lv' := [some (.ref pa), some (.int (nI x)), some (.int (nI 1)), some (.int (nI (x / 10 ^ (0 + 1))))]) hK d_Pr_printNumber_6 (Nat.le_of_ble_eq_true rfl) rfl ?_
  exact loop1 6 0 (by omega) (Or.inl rfl)
set_option maxRecDepth 20000 in
set_option maxHeartbeats 4000000 in
theorem c_Pr_startItem (l : Launch) (G : GG) {g : GH} {pa pl pb it : Nat} {o : List Nat × Nat} (h : Pr G g pa pl pb o it) (hit : it < 1000000) : gMet l G y_Pr_startItem b_Pr_startItem 1 none (rmk 2 0 0 42) [.ref pa] g (fun v g' => v = none ∧ Pr G g' pa pl pb (if 0 < it then prt o 32 else o) (it + 1) ∧ gh_N [pa, pl, pb] g g') := by
  refine gMet.of [some (.ref pa)] (by decide +kernel) rfl (Nat.le_of_ble_eq_true rfl) rfl (fun X hK hI hE => ?_)
  obtain ⟨n1, n2, n3⟩ := h.ne
  refine gh_aload_n hK d_Pr_startItem_0 rfl ?_
  refine gh_get hK d_Pr_startItem_1 in_Pr rfl h.1 2 (by decide) kf_Pr_47 rfl rfl ?_
  refine gh_if_leN hK d_Pr_startItem_4 (tgt := 13) (by decide) (by omega) (fun z => ?_) (fun z => ?_)
  · refine gh_aload_n hK d_Pr_startItem_13 rfl ?_
    refine gh_dup hK d_Pr_startItem_14 rfl ?_
    refine gh_get hK d_Pr_startItem_15 in_Pr rfl h.1 2 (by decide) kf_Pr_47 rfl rfl ?_
    refine gh_iconst (v := nI 1) hK d_Pr_startItem_18 (by decide) ?_
    refine gh_addN hK d_Pr_startItem_19 ?_
    refine gh_put hK d_Pr_startItem_20 in_Pr t_Pr ty_Pr nm_Pr rfl h.1 2 (by decide) kf_Pr_47 rfl rfl rfl rfl (Nat.le_of_ble_eq_true rfl) rfl ?_
    refine gh_vret hK hE d_Pr_startItem_23 (Nat.le_of_ble_eq_true rfl) (Nat.le_of_ble_eq_true rfl) ⟨rfl, ?_, gh_N.up (by simp)⟩
    rw [if_neg (by omega)]
    exact ⟨gh_us, h.2.N (gh_N.up (S := [pa]) (by simp)) (by simpa using n1.symm) (by simpa using n2.symm)⟩
  · refine gh_aload_n hK d_Pr_startItem_7 rfl ?_
    refine gh_bipush (v := nI 32) hK d_Pr_startItem_8 (by decide) ?_
    refine gh_callV (rest := []) [.int (nI 32)] hK (c_Pr_print l G h (c := 32) (by decide)) Y_Pr_print V_Pr_print km_Pr_43 h.1 rfl rfl d_Pr_startItem_10 rfl rfl (Nat.le_of_ble_eq_true rfl) ⟨(Nat.le_of_ble_eq_true rfl), (Nat.le_of_ble_eq_true rfl)⟩ ⟨(Nat.le_of_ble_eq_true rfl), (Nat.le_of_ble_eq_true rfl)⟩ (fun v g1 hp => ?_)
    obtain ⟨rfl, hp1, hpN⟩ := hp
    show gh_W l G _ X g1 _ _ [some (.ref pa)] 13 []
    refine gh_aload_n hK d_Pr_startItem_13 rfl ?_
    refine gh_dup hK d_Pr_startItem_14 rfl ?_
    refine gh_get hK d_Pr_startItem_15 in_Pr rfl hp1.1 2 (by decide) kf_Pr_47 rfl rfl ?_
    refine gh_iconst (v := nI 1) hK d_Pr_startItem_18 (by decide) ?_
    refine gh_addN hK d_Pr_startItem_19 ?_
    refine gh_put hK d_Pr_startItem_20 in_Pr t_Pr ty_Pr nm_Pr rfl hp1.1 2 (by decide) kf_Pr_47 rfl rfl rfl rfl (Nat.le_of_ble_eq_true rfl) rfl ?_
    refine gh_vret hK hE d_Pr_startItem_23 (Nat.le_of_ble_eq_true rfl) (Nat.le_of_ble_eq_true rfl) ⟨rfl, ?_, hpN.tr (gh_N.up (by simp))⟩
    rw [if_pos z]
    exact ⟨gh_us, hp1.2.N (gh_N.up (S := [pa]) (by simp)) (by simpa using n1.symm) (by simpa using n2.symm)⟩
set_option maxRecDepth 20000 in
set_option maxHeartbeats 4000000 in
theorem c_Pr_printItem (l : Launch) (G : GG) {g : GH} {pa pl pb it : Nat} {o : List Nat × Nat} {ra rt rb ru rcap fr len : Nat} {ys : List Nat} (h : Pr G g pa pl pb o it) (hit : it < 1000000) (hr : Lt G g ra rt rb ru rcap ys) (hn1 : ra ∉ [pa, pl, pb]) (hn2 : rb ∉ [pa, pl, pb]) (hf : fr + len ≤ ys.length) : gMet l G y_Pr_printItem b_Pr_printItem 4 none (rmk 3 0 0 66) [.ref pa, .ref ra, .int (nI fr), .int (nI len)] g (fun v g' => v = none ∧ Pr G g' pa pl pb (prs (if 0 < it then prt o 32 else o) ((ys.drop fr).take len)) (it + 1) ∧ gh_N [pa, pl, pb] g g') := by
  refine gMet.of [some (.ref pa), some (.ref ra), some (.int (nI fr)), some (.int (nI len))] (by decide +kernel) rfl (Nat.le_of_ble_eq_true rfl) rfl (fun X hK hI hE => ?_)
  refine gh_aload_n hK d_Pr_printItem_0 rfl ?_
  refine gh_callV (rest := []) [] hK (c_Pr_startItem l G h hit) Y_Pr_startItem V_Pr_startItem km_Pr_50 h.1 rfl rfl d_Pr_printItem_1 rfl rfl (Nat.le_of_ble_eq_true rfl) ⟨(Nat.le_of_ble_eq_true rfl), (Nat.le_of_ble_eq_true rfl)⟩ ⟨(Nat.le_of_ble_eq_true rfl), (Nat.le_of_ble_eq_true rfl)⟩ (fun v g1 hp => ?_)
  obtain ⟨rfl, hp1, hpN⟩ := hp
  show gh_W l G _ X g1 _ _ [some (.ref pa), some (.ref ra), some (.int (nI fr)), some (.int (nI len))] 4 []
  refine gh_aload_n hK d_Pr_printItem_4 rfl ?_
  refine gh_aload_n hK d_Pr_printItem_5 rfl ?_
  refine gh_iload_n hK d_Pr_printItem_6 rfl ?_
  refine gh_iload_n hK d_Pr_printItem_7 rfl ?_
  refine gh_callV (rest := []) [.ref ra, .int (nI fr), .int (nI len)] hK (c_Pr_printLetters l G hp1 (hr.N hpN hn1 hn2) hn1 hn2 hf) Y_Pr_printLetters V_Pr_printLetters km_Pr_53 hp1.1 rfl rfl d_Pr_printItem_8 rfl rfl (Nat.le_of_ble_eq_true rfl) ⟨(Nat.le_of_ble_eq_true rfl), (Nat.le_of_ble_eq_true rfl)⟩ ⟨(Nat.le_of_ble_eq_true rfl), (Nat.le_of_ble_eq_true rfl)⟩ (fun v g2 hp => ?_)
  obtain ⟨rfl, hp2, hpN2⟩ := hp
  show gh_W l G _ X g2 _ _ [some (.ref pa), some (.ref ra), some (.int (nI fr)), some (.int (nI len))] 11 []
  exact gh_vret hK hE d_Pr_printItem_11 (Nat.le_of_ble_eq_true rfl) (Nat.le_of_ble_eq_true rfl) ⟨rfl, hp2, hpN.tr hpN2⟩
set_option maxRecDepth 20000 in
set_option maxHeartbeats 4000000 in
theorem c_Pr_endItems (l : Launch) (G : GG) {g : GH} {pa pl pb it : Nat} {o : List Nat × Nat} (h : Pr G g pa pl pb o it) (hit : it < 1000000) : gMet l G y_Pr_endItems b_Pr_endItems 1 none (rmk 2 0 0 42) [.ref pa] g (fun v g' => v = none ∧ Pr G g' pa pl pb (if it = 0 then prt o 45 else o) it ∧ gh_N [pa, pl, pb] g g') := by
  refine gMet.of [some (.ref pa)] (by decide +kernel) rfl (Nat.le_of_ble_eq_true rfl) rfl (fun X hK hI hE => ?_)
  refine gh_aload_n hK d_Pr_endItems_0 rfl ?_
  refine gh_get hK d_Pr_endItems_1 in_Pr rfl h.1 2 (by decide) kf_Pr_47 rfl rfl ?_
  refine gh_if_neN hK d_Pr_endItems_4 (tgt := 13) (by decide) (by omega) (fun z => ?_) (fun z => ?_)
  · exact gh_vret hK hE d_Pr_endItems_13 (Nat.le_of_ble_eq_true rfl) (Nat.le_of_ble_eq_true rfl) ⟨rfl, by rw [if_neg (by omega)]; exact h, gh_N.rf⟩
  · refine gh_aload_n hK d_Pr_endItems_7 rfl ?_
    refine gh_bipush (v := nI 45) hK d_Pr_endItems_8 (by decide) ?_
    refine gh_callV (rest := []) [.int (nI 45)] hK (c_Pr_print l G h (c := 45) (by decide)) Y_Pr_print V_Pr_print km_Pr_43 h.1 rfl rfl d_Pr_endItems_10 rfl rfl (Nat.le_of_ble_eq_true rfl) ⟨(Nat.le_of_ble_eq_true rfl), (Nat.le_of_ble_eq_true rfl)⟩ ⟨(Nat.le_of_ble_eq_true rfl), (Nat.le_of_ble_eq_true rfl)⟩ (fun v g1 hp => ?_)
    obtain ⟨rfl, hp1, hpN⟩ := hp
    show gh_W l G _ X g1 _ _ [some (.ref pa)] 13 []
    exact gh_vret hK hE d_Pr_endItems_13 (Nat.le_of_ble_eq_true rfl) (Nat.le_of_ble_eq_true rfl) ⟨rfl, by rw [if_pos z]; exact hp1, hpN⟩
set_option maxRecDepth 20000 in
set_option maxHeartbeats 4000000 in
theorem c_Pr_endLine (l : Launch) (G : GG) {g : GH} {pa pl pb it : Nat} {o : List Nat × Nat} (h : Pr G g pa pl pb o it) : gMet l G y_Pr_endLine b_Pr_endLine 1 none (rmk 2 0 0 42) [.ref pa] g (fun v g' => v = none ∧ Pr G g' pa pl pb (prt o 10) 0 ∧ gh_N [pa, pl, pb] g g') := by
  refine gMet.of [some (.ref pa)] (by decide +kernel) rfl (Nat.le_of_ble_eq_true rfl) rfl (fun X hK hI hE => ?_)
  obtain ⟨n1, n2, n3⟩ := h.ne
  refine gh_aload_n hK d_Pr_endLine_0 rfl ?_
  refine gh_bipush (v := nI 10) hK d_Pr_endLine_1 (by decide) ?_
  refine gh_callV (rest := []) [.int (nI 10)] hK (c_Pr_print l G h (c := 10) (by decide)) Y_Pr_print V_Pr_print km_Pr_43 h.1 rfl rfl d_Pr_endLine_3 rfl rfl (Nat.le_of_ble_eq_true rfl) ⟨(Nat.le_of_ble_eq_true rfl), (Nat.le_of_ble_eq_true rfl)⟩ ⟨(Nat.le_of_ble_eq_true rfl), (Nat.le_of_ble_eq_true rfl)⟩ (fun v g1 hp => ?_)
  obtain ⟨rfl, hp1, hpN⟩ := hp
  show gh_W l G _ X g1 _ _ [some (.ref pa)] 6 []
  refine gh_aload_n hK d_Pr_endLine_6 rfl ?_
  refine gh_iconst (v := nI 0) hK d_Pr_endLine_7 (by decide) ?_
  refine gh_put hK d_Pr_endLine_8 in_Pr t_Pr ty_Pr nm_Pr rfl hp1.1 2 (by decide) kf_Pr_47 rfl rfl rfl rfl (Nat.le_of_ble_eq_true rfl) rfl ?_
  exact gh_vret hK hE d_Pr_endLine_11 (Nat.le_of_ble_eq_true rfl) (Nat.le_of_ble_eq_true rfl) ⟨rfl, ⟨gh_us, hp1.2.N (gh_N.up (S := [pa]) (by simp)) (by simpa using n1.symm) (by simpa using n2.symm)⟩, hpN.tr (gh_N.up (by simp))⟩
