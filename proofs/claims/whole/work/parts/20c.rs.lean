/-! THE RULES OF A KIND: (address, flag, strip, add, condition), by their numbers; tags from B on -/
abbrev RuR : Type := Nat × List Nat × List Nat × List Nat
def Rs (G : GG) (g : GH) (ra aa na B : Nat) (fr : Bool) (us : List (Nat × RuR)) : Prop := g ra = some (B, .inr (7, [.int (nI (bn fr)), .ref aa, .ref na])) ∧ Al G g aa (B + 1) (B + 2) (us.map fun x => x.1) ∧ Ru G g na (B + 3) (B + 4) (B + 5) fr 0 [] [] [] ∧ ∀ x, x ∈ us → Ru G g x.1 60 61 62 fr x.2.1 x.2.2.1 x.2.2.2.1 x.2.2.2.2
theorem Rs.M {G : GG} {g g' : GH} {ra aa na B : Nat} {fr : Bool} {us : List (Nat × RuR)} {S : List Nat} (h : Rs G g ra aa na B fr us) (hM : gh_M S g g') (h1 : ∀ t, t ∈ [B, B + 1, B + 2, B + 3, B + 4, B + 5, 60, 61, 62] → t ∉ S) : Rs G g' ra aa na B fr us := ⟨hM ra B _ h.1 (h1 _ (by simp)), h.2.1.M hM (h1 _ (by simp)) (h1 _ (by simp)), h.2.2.1.M hM (h1 _ (by simp)) (h1 _ (by simp)) (h1 _ (by simp)), fun x hx => (h.2.2.2 x hx).M hM (h1 _ (by simp)) (h1 _ (by simp)) (h1 _ (by simp))⟩
theorem Rs.T {G : GG} {g : GH} {ra aa na B : Nat} {fr : Bool} {us : List (Nat × RuR)} (h : Rs G g ra aa na B fr us) : AlT g 6 60 (us.map fun x => x.1) := fun r hr => by
  obtain ⟨x, hx, rfl⟩ := List.mem_map.mp hr
  obtain ⟨sa, sb, aa1, ab, ca, cb, k1, -⟩ := h.2.2.2 x hx
  exact ⟨_, k1⟩
theorem Rs.len {G : GG} {g : GH} {ra aa na B : Nat} {fr : Bool} {us : List (Nat × RuR)} (h : Rs G g ra aa na B fr us) : us.length ≤ 450 := by
  have := h.2.1.len
  rwa [List.length_map] at this
/-- the rule of a number: 0 is none -/
def rlN (us : List (Nat × RuR)) (j : Nat) : RuR := if j = 0 then (0, [], [], []) else ((us[j - 1]?).map fun x => x.2).getD (0, [], [], [])
/-- a rule somewhere, whichever its tags -/
def RuX (G : GG) (g : GH) (q : Nat) (fr : Bool) (u : RuR) : Prop := ∃ t1 t2 t3, t1 ∈ [13, 23, 60] ∧ t2 ∈ [14, 24, 61] ∧ t3 ∈ [15, 25, 62] ∧ Ru G g q t1 t2 t3 fr u.1 u.2.1 u.2.2.1 u.2.2.2
theorem RuX.M {G : GG} {g g' : GH} {q : Nat} {fr : Bool} {u : RuR} {S : List Nat} (h : RuX G g q fr u) (hM : gh_M S g g') (h1 : ∀ t, t ∈ [13, 14, 15, 23, 24, 25, 60, 61, 62] → t ∉ S) : RuX G g' q fr u := by
  obtain ⟨t1, t2, t3, k1, k2, k3, k4⟩ := h
  refine ⟨t1, t2, t3, k1, k2, k3, k4.M hM (h1 _ ?_) (h1 _ ?_) (h1 _ ?_)⟩
  · simp at k1 ⊢; omega
  · simp at k2 ⊢; omega
  · simp at k3 ⊢; omega
set_option maxRecDepth 20000 in
set_option maxHeartbeats 4000000 in
theorem c_Rs_atFront (l : Launch) (G : GG) {g : GH} {ra aa na B : Nat} {fr : Bool} {us : List (Nat × RuR)} (h : Rs G g ra aa na B fr us) : gMet l G y_Rs_atFront b_Rs_atFront 1 (some .boolean) (rmk 0 0 0 0) [.ref ra] g (fun v g' => v = some (.int (nI (bn fr))) ∧ g' = g) := by
  refine gMet.of [some (.ref ra)] (by decide +kernel) rfl (Nat.le_of_ble_eq_true rfl) rfl (fun X hK hI hE => ?_)
  refine gh_aload_n hK d_Rs_atFront_0 rfl ?_
  refine gh_get hK d_Rs_atFront_1 in_Rs rfl h.1 0 (by decide) kf_Rs_7 rfl rfl ?_
  exact gh_zret (bn_nar _) hK hE d_Rs_atFront_4 (Nat.le_of_ble_eq_true rfl) (Nat.le_of_ble_eq_true rfl) ⟨rfl, rfl⟩
set_option maxRecDepth 20000 in
set_option maxHeartbeats 4000000 in
theorem c_Rs_count (l : Launch) (G : GG) {g : GH} {ra aa na B : Nat} {fr : Bool} {us : List (Nat × RuR)} (h : Rs G g ra aa na B fr us) : gMet l G y_Rs_count b_Rs_count 1 (some .int) (rmk 1 0 0 20) [.ref ra] g (fun v g' => v = some (.int (nI us.length)) ∧ g' = g) := by
  refine gMet.of [some (.ref ra)] (by decide +kernel) rfl (Nat.le_of_ble_eq_true rfl) rfl (fun X hK hI hE => ?_)
  obtain ⟨k0, k1⟩ := h.2.1.ob
  refine gh_aload_n hK d_Rs_count_0 rfl ?_
  refine gh_get hK d_Rs_count_1 in_Rs rfl h.1 1 (by decide) kf_Rs_16 rfl rfl ?_
  refine gh_callV (rest := []) [] hK (c_AL_size l G h.2.1) Y_AL_size V_AL_size km_Rs_34 k1 rfl rfl d_Rs_count_4 rfl rfl (Nat.le_of_ble_eq_true rfl) ⟨(Nat.le_of_ble_eq_true rfl), (Nat.le_of_ble_eq_true rfl)⟩ ⟨(Nat.le_of_ble_eq_true rfl), (Nat.le_of_ble_eq_true rfl)⟩ (fun v g' hp => ?_)
  rw [hp.1, hp.2]
  show gh_W l G _ X g _ _ [some (.ref ra)] 7 [.int (nI ((us.map fun x => x.1).length))]
  rw [List.length_map]
  exact gh_iret hK hE d_Rs_count_7 (Nat.le_of_ble_eq_true rfl) (Nat.le_of_ble_eq_true rfl) ⟨rfl, rfl⟩
set_option maxRecDepth 20000 in
set_option maxHeartbeats 4000000 in
theorem c_Rs_clear (l : Launch) (G : GG) {g : GH} {ra aa na B : Nat} {fr : Bool} {us : List (Nat × RuR)} (h : Rs G g ra aa na B fr us) (hB : B = 10 ∨ B = 20) : gMet l G y_Rs_clear b_Rs_clear 1 none (rmk 1 0 0 23) [.ref ra] g (fun v g' => v = none ∧ Rs G g' ra aa na B fr [] ∧ gh_M [B + 1, B + 2] g g') := by
  refine gMet.of [some (.ref ra)] (by decide +kernel) rfl (Nat.le_of_ble_eq_true rfl) rfl (fun X hK hI hE => ?_)
  obtain ⟨k0, k1⟩ := h.2.1.ob
  refine gh_aload_n hK d_Rs_clear_0 rfl ?_
  refine gh_get hK d_Rs_clear_1 in_Rs rfl h.1 1 (by decide) kf_Rs_16 rfl rfl ?_
  refine gh_callV (rest := []) [] hK (c_AL_clear l G h.2.1) Y_AL_clear V_AL_clear km_Rs_38 k1 rfl rfl d_Rs_clear_4 rfl rfl (Nat.le_of_ble_eq_true rfl) ⟨(Nat.le_of_ble_eq_true rfl), (Nat.le_of_ble_eq_true rfl)⟩ ⟨(Nat.le_of_ble_eq_true rfl), (Nat.le_of_ble_eq_true rfl)⟩ (fun v g1 hp => ?_)
  obtain ⟨rfl, hp1, hp2⟩ := hp
  show gh_W l G _ X g1 _ _ [some (.ref ra)] 7 []
  exact gh_vret hK hE d_Rs_clear_7 (Nat.le_of_ble_eq_true rfl) (Nat.le_of_ble_eq_true rfl) ⟨rfl, ⟨hp2 ra B _ h.1 (by simp), hp1, h.2.2.1.M hp2 (by simp) (by simp) (by simp), fun x hx => absurd hx List.not_mem_nil⟩, hp2⟩
set_option maxRecDepth 20000 in
set_option maxHeartbeats 4000000 in
theorem c_Rs_append (l : Launch) (G : GG) {g : GH} {ra aa na B : Nat} {fr : Bool} {us : List (Nat × RuR)} {e : Nat} {u : RuR} (h : Rs G g ra aa na B fr us) (hB : B = 10 ∨ B = 20) (hlt : us.length < 300) (he : Ru G g e 60 61 62 fr u.1 u.2.1 u.2.2.1 u.2.2.2) : gMet l G y_Rs_append b_Rs_append 2 none (rmk 7 1 450 195) [.ref ra, .ref e] g (fun v g' => v = none ∧ Rs G g' ra aa na B fr (us ++ [(e, u)]) ∧ gh_M [B + 1, B + 2] g g') := by
  refine gMet.of [some (.ref ra), some (.ref e)] (by decide +kernel) rfl (Nat.le_of_ble_eq_true rfl) rfl (fun X hK hI hE => ?_)
  obtain ⟨k0, k1⟩ := h.2.1.ob
  obtain ⟨sa, sb, aa1, ab, ca, cb, e1, -⟩ := id he
  have h60 : 60 ∉ [B + 1, B + 2] := by rcases hB with rfl | rfl <;> decide
  have h61 : 61 ∉ [B + 1, B + 2] := by rcases hB with rfl | rfl <;> decide
  have h62 : 62 ∉ [B + 1, B + 2] := by rcases hB with rfl | rfl <;> decide
  refine gh_aload_n hK d_Rs_append_0 rfl ?_
  refine gh_get hK d_Rs_append_1 in_Rs rfl h.1 1 (by decide) kf_Rs_16 rfl rfl ?_
  refine gh_aload_n hK d_Rs_append_4 rfl ?_
  refine gh_callV (rest := []) [.ref e] hK (c_AL_add l G h.2.1 (by rw [List.length_map]; exact hlt) h.T (ci := 6) rfl (Or.inr rfl) e1 h60) Y_AL_add1 V_AL_add1 km_Rs_41 k1 rfl rfl d_Rs_append_5 rfl rfl (Nat.le_of_ble_eq_true rfl) ⟨(Nat.le_of_ble_eq_true rfl), (Nat.le_of_ble_eq_true rfl)⟩ ⟨(Nat.le_of_ble_eq_true rfl), (Nat.le_of_ble_eq_true rfl)⟩ (fun v g1 hp => ?_)
  obtain ⟨rfl, hp1, hp2⟩ := hp
  show gh_W l G _ X g1 _ _ [some (.ref ra), some (.ref e)] 8 [.int (nI 1)]
  refine gh_pop hK d_Rs_append_8 rfl ?_
  refine gh_vret hK hE d_Rs_append_9 (Nat.le_of_ble_eq_true rfl) (Nat.le_of_ble_eq_true rfl) ⟨rfl, ⟨hp2 ra B _ h.1 (by simp), by rw [List.map_append]; exact hp1, h.2.2.1.M hp2 (by simp) (by simp) (by simp), fun x hx => ?_⟩, hp2⟩
  rcases List.mem_append.mp hx with q | q
  · exact (h.2.2.2 x q).M hp2 h60 h61 h62
  · rw [List.mem_singleton.mp q]
    exact he.M hp2 h60 h61 h62
/-- where the rule of a number lies -/
def rlA (na : Nat) (us : List (Nat × RuR)) (j : Nat) : Nat := if j = 0 then na else ((us[j - 1]?).map fun x => x.1).getD na
theorem Rs.x {G : GG} {g : GH} {ra aa na B : Nat} {fr : Bool} {us : List (Nat × RuR)} (h : Rs G g ra aa na B fr us) (hB : B = 10 ∨ B = 20) {j : Nat} (hj : j ≤ us.length) : RuX G g (rlA na us j) fr (rlN us j) := by
  unfold rlA rlN
  by_cases z : j = 0
  · rw [if_pos z, if_pos z]
    refine ⟨B + 3, B + 4, B + 5, ?_, ?_, ?_, h.2.2.1⟩
    · rcases hB with rfl | rfl <;> decide
    · rcases hB with rfl | rfl <;> decide
    · rcases hB with rfl | rfl <;> decide
  · rw [if_neg z, if_neg z]
    obtain ⟨x, hx⟩ : ∃ x, us[j - 1]? = some x := ⟨_, List.getElem?_eq_getElem (by omega)⟩
    rw [hx]
    exact ⟨60, 61, 62, by decide, by decide, by decide, h.2.2.2 x (List.mem_of_getElem? hx)⟩
set_option maxRecDepth 20000 in
set_option maxHeartbeats 4000000 in
theorem c_Rs_at (l : Launch) (G : GG) {g : GH} {ra aa na B : Nat} {fr : Bool} {us : List (Nat × RuR)} {j : Nat} (h : Rs G g ra aa na B fr us) (hB : B = 10 ∨ B = 20) (hj : j ≤ us.length) : gMet l G y_Rs_at b_Rs_at 2 (some (.object "SpellDesk$Rule")) (rmk 3 0 0 64) [.ref ra, .int (nI j)] g (fun v g' => v = some (.ref (rlA na us j)) ∧ g' = g) := by
  refine gMet.of [some (.ref ra), some (.int (nI j))] (by decide +kernel) rfl (Nat.le_of_ble_eq_true rfl) rfl (fun X hK hI hE => ?_)
  have hlen := h.len
  obtain ⟨k0, k1⟩ := h.2.1.ob
  refine gh_iload_n hK d_Rs_at_0 rfl ?_
  refine gh_iconst (v := nI 1) hK d_Rs_at_1 (by decide) ?_
  refine gh_icmp_ltN hK d_Rs_at_2 (tgt := 32) (by decide) (by omega) (by decide) (fun z => ?_) (fun z => ?_)
  · refine gh_aload_n hK d_Rs_at_32 rfl ?_
    refine gh_get hK d_Rs_at_33 in_Rs rfl h.1 2 (by decide) kf_Rs_30 rfl rfl ?_
    exact gh_aret (Or.inl ⟨_, rfl⟩) (Or.inr ⟨_, rfl⟩) hK hE d_Rs_at_36 (Nat.le_of_ble_eq_true rfl) (Nat.le_of_ble_eq_true rfl) ⟨by rw [rlA, if_pos (by omega)], rfl⟩
  · refine gh_iload_n hK d_Rs_at_5 rfl ?_
    refine gh_aload_n hK d_Rs_at_6 rfl ?_
    refine gh_get hK d_Rs_at_7 in_Rs rfl h.1 1 (by decide) kf_Rs_16 rfl rfl ?_
    refine gh_callV (rest := [.int (nI j)]) [] hK (c_AL_size l G h.2.1) Y_AL_size V_AL_size km_Rs_34 k1 rfl rfl d_Rs_at_10 rfl rfl (Nat.le_of_ble_eq_true rfl) ⟨(Nat.le_of_ble_eq_true rfl), (Nat.le_of_ble_eq_true rfl)⟩ ⟨(Nat.le_of_ble_eq_true rfl), (Nat.le_of_ble_eq_true rfl)⟩ (fun v g' hp => ?_)
    rw [hp.1, hp.2]
    show gh_W l G _ X g _ _ [some (.ref ra), some (.int (nI j))] 13 [.int (nI ((us.map fun x => x.1).length)), .int (nI j)]
    rw [List.length_map]
    refine gh_icmp_gtN hK d_Rs_at_13 (tgt := 32) (by decide) (by omega) (by omega) (fun z2 => absurd z2 (by omega)) (fun z2 => ?_)
    obtain ⟨x, hx⟩ : ∃ x, us[j - 1]? = some x := ⟨_, List.getElem?_eq_getElem (by omega)⟩
    have hu := h.2.2.2 x (List.mem_of_getElem? hx)
    obtain ⟨sa, sb, aa1, ab, ca, cb, e1, -⟩ := id hu
    refine gh_aload_n hK d_Rs_at_16 rfl ?_
    refine gh_get hK d_Rs_at_17 in_Rs rfl h.1 1 (by decide) kf_Rs_16 rfl rfl ?_
    refine gh_iload_n hK d_Rs_at_20 rfl ?_
    refine gh_iconst (v := nI 1) hK d_Rs_at_21 (by decide) ?_
    refine gh_subN hK d_Rs_at_22 (by omega) ?_
    refine gh_callV (rest := []) [.int (nI (j - 1))] hK (c_AL_get l G h.2.1 (j := j - 1) (r := x.1) (by rw [List.getElem?_map, hx]; rfl)) Y_AL_get V_AL_get km_Rs_45 k1 rfl rfl d_Rs_at_23 rfl rfl (Nat.le_of_ble_eq_true rfl) ⟨(Nat.le_of_ble_eq_true rfl), (Nat.le_of_ble_eq_true rfl)⟩ ⟨(Nat.le_of_ble_eq_true rfl), (Nat.le_of_ble_eq_true rfl)⟩ (fun v g' hp => ?_)
    rw [hp.1, hp.2]
    show gh_W l G _ X g _ _ [some (.ref ra), some (.int (nI j))] 26 [.ref x.1]
    refine gh_cast0 hK d_Rs_at_26 kc_Rs_25 e1 rfl ?_
    refine gh_goto (tgt := 36) hK d_Rs_at_29 (by decide) ?_
    exact gh_aret (Or.inl ⟨_, rfl⟩) (Or.inr ⟨_, rfl⟩) hK hE d_Rs_at_36 (Nat.le_of_ble_eq_true rfl) (Nat.le_of_ble_eq_true rfl) ⟨by rw [rlA, if_neg (by omega), hx]; rfl, rfl⟩
