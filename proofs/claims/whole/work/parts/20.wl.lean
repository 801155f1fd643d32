/-! LISTS OF WORDS: stretches of one row, in order, each word once -/
def wls (ys : List Nat) (ps : List (Nat × Nat)) : List (List Nat) := ps.map fun p => (ys.drop p.1).take p.2
def Wl (G : GG) (g : GH) (wa tw sa ts la tl ra cap : Nat) (ps : List (Nat × Nat)) : Prop := ∃ f1 f2, g wa = some (tw, .inr (9, [.ref ra, .ref sa, .ref la, .int (nI ps.length)])) ∧ g sa = some (ts, .inl (G.2.1 1, cap, .inl f1)) ∧ g la = some (tl, .inl (G.2.1 1, cap, .inl f2)) ∧ ps.length ≤ cap ∧ cap < 65536 ∧ ∀ i p, ps[i]? = some p → f1 i = nI p.1 ∧ f2 i = nI p.2
theorem Wl.M {G : GG} {g g' : GH} {wa tw sa ts la tl ra cap : Nat} {ps : List (Nat × Nat)} {S : List Nat} (h : Wl G g wa tw sa ts la tl ra cap ps) (hM : gh_M S g g') (h1 : tw ∉ S) (h2 : ts ∉ S) (h3 : tl ∉ S) : Wl G g' wa tw sa ts la tl ra cap ps := by
  obtain ⟨f1, f2, k1, k2, k3, k4⟩ := h
  exact ⟨f1, f2, hM wa tw _ k1 h1, hM sa ts _ k2 h2, hM la tl _ k3 h3, k4⟩
theorem Wl.ob {G : GG} {g : GH} {wa tw sa ts la tl ra cap : Nat} {ps : List (Nat × Nat)} (h : Wl G g wa tw sa ts la tl ra cap ps) : g wa = some (tw, .inr (9, [.ref ra, .ref sa, .ref la, .int (nI ps.length)])) := by
  obtain ⟨f1, f2, k1, k2, k3, k4⟩ := h
  exact k1
set_option maxRecDepth 20000 in
set_option maxHeartbeats 4000000 in
theorem c_Wl_count (l : Launch) (G : GG) {g : GH} {wa tw sa ts la tl ra cap : Nat} {ps : List (Nat × Nat)} (h : Wl G g wa tw sa ts la tl ra cap ps) : gMet l G y_Wl_count b_Wl_count 1 (some .int) (rmk 0 0 0 0) [.ref wa] g (fun v g' => v = some (.int (nI ps.length)) ∧ g' = g) := by
  refine gMet.of [some (.ref wa)] (by decide +kernel) rfl (Nat.le_of_ble_eq_true rfl) rfl (fun X hK hI hE => ?_)
  obtain ⟨f1, f2, k1, k2, k3, k4, k5, k6⟩ := h
  refine gh_aload_n hK d_Wl_count_0 rfl ?_
  refine gh_get hK d_Wl_count_1 in_Wl rfl k1 3 (by decide) kf_Wl_28 rfl rfl ?_
  exact gh_iret hK hE d_Wl_count_4 (Nat.le_of_ble_eq_true rfl) (Nat.le_of_ble_eq_true rfl) ⟨rfl, rfl⟩
set_option maxRecDepth 20000 in
set_option maxHeartbeats 4000000 in
theorem c_Wl_row (l : Launch) (G : GG) {g : GH} {wa tw sa ts la tl ra cap : Nat} {ps : List (Nat × Nat)} (h : Wl G g wa tw sa ts la tl ra cap ps) : gMet l G y_Wl_row b_Wl_row 1 (some (.object "SpellDesk$Letters")) (rmk 0 0 0 0) [.ref wa] g (fun v g' => v = some (.ref ra) ∧ g' = g) := by
  refine gMet.of [some (.ref wa)] (by decide +kernel) rfl (Nat.le_of_ble_eq_true rfl) rfl (fun X hK hI hE => ?_)
  obtain ⟨f1, f2, k1, k2, k3, k4, k5, k6⟩ := h
  refine gh_aload_n hK d_Wl_row_0 rfl ?_
  refine gh_get hK d_Wl_row_1 in_Wl rfl k1 0 (by decide) kf_Wl_9 rfl rfl ?_
  exact gh_aret (Or.inl ⟨_, rfl⟩) (Or.inr ⟨_, rfl⟩) hK hE d_Wl_row_4 (Nat.le_of_ble_eq_true rfl) (Nat.le_of_ble_eq_true rfl) ⟨rfl, rfl⟩
set_option maxRecDepth 20000 in
set_option maxHeartbeats 4000000 in
theorem c_Wl_clear (l : Launch) (G : GG) {g : GH} {wa tw sa ts la tl ra cap : Nat} {ps : List (Nat × Nat)} (h : Wl G g wa tw sa ts la tl ra cap ps) : gMet l G y_Wl_clear b_Wl_clear 1 none (rmk 0 0 0 0) [.ref wa] g (fun v g' => v = none ∧ Wl G g' wa tw sa ts la tl ra cap [] ∧ gh_N [wa] g g') := by
  refine gMet.of [some (.ref wa)] (by decide +kernel) rfl (Nat.le_of_ble_eq_true rfl) rfl (fun X hK hI hE => ?_)
  obtain ⟨f1, f2, k1, k2, k3, k4, k5, k6⟩ := h
  have n1 : wa ≠ sa := fun z => by rw [z, k2] at k1; cases k1
  have n2 : wa ≠ la := fun z => by rw [z, k3] at k1; cases k1
  refine gh_aload_n hK d_Wl_clear_0 rfl ?_
  refine gh_iconst (v := nI 0) hK d_Wl_clear_1 (by decide) ?_
  refine gh_put hK d_Wl_clear_2 in_Wl t_Wl ty_Wl nm_Wl rfl k1 3 (by decide) kf_Wl_28 rfl rfl rfl rfl (Nat.le_of_ble_eq_true rfl) rfl ?_
  exact gh_vret hK hE d_Wl_clear_5 (Nat.le_of_ble_eq_true rfl) (Nat.le_of_ble_eq_true rfl) ⟨rfl, ⟨f1, f2, gh_us, by rw [gh_un n1.symm]; exact k2, by rw [gh_un n2.symm]; exact k3, Nat.zero_le _, k5, fun i p hp => by simp at hp⟩, gh_N.up (by simp)⟩
set_option maxRecDepth 20000 in
set_option maxHeartbeats 4000000 in
theorem c_Wl_from (l : Launch) (G : GG) {g : GH} {wa tw sa ts la tl ra cap : Nat} {ps : List (Nat × Nat)} {j : Nat} {p : Nat × Nat} (h : Wl G g wa tw sa ts la tl ra cap ps) (hj : ps[j]? = some p) : gMet l G y_Wl_from b_Wl_from 2 (some .int) (rmk 0 0 0 0) [.ref wa, .int (nI j)] g (fun v g' => v = some (.int (nI p.1)) ∧ g' = g) := by
  refine gMet.of [some (.ref wa), some (.int (nI j))] (by decide +kernel) rfl (Nat.le_of_ble_eq_true rfl) rfl (fun X hK hI hE => ?_)
  obtain ⟨f1, f2, k1, k2, k3, k4, k5, k6⟩ := h
  have hlt := (List.getElem?_eq_some_iff.mp hj).1
  refine gh_iload_n hK d_Wl_from_0 rfl ?_
  refine gh_if_ltN hK d_Wl_from_1 (tgt := 21) (by decide) (by omega) ?_
  refine gh_iload_n hK d_Wl_from_4 rfl ?_
  refine gh_aload_n hK d_Wl_from_5 rfl ?_
  refine gh_get hK d_Wl_from_6 in_Wl rfl k1 3 (by decide) kf_Wl_28 rfl rfl ?_
  refine gh_icmp_geN hK d_Wl_from_9 (tgt := 21) (by decide) (by omega) (by omega) (fun z => absurd z (by omega)) (fun z => ?_)
  refine gh_aload_n hK d_Wl_from_12 rfl ?_
  refine gh_get hK d_Wl_from_13 in_Wl rfl k1 1 (by decide) kf_Wl_21 rfl rfl ?_
  refine gh_iload_n hK d_Wl_from_16 rfl ?_
  refine gh_ialdN (j := j) hK d_Wl_from_17 k2 (t0 := 1) rfl (by omega) (by omega) ?_
  rw [(k6 j p hj).1]
  refine gh_goto (tgt := 22) hK d_Wl_from_18 (by decide) ?_
  exact gh_iret hK hE d_Wl_from_22 (Nat.le_of_ble_eq_true rfl) (Nat.le_of_ble_eq_true rfl) ⟨rfl, rfl⟩
set_option maxRecDepth 20000 in
set_option maxHeartbeats 4000000 in
theorem c_Wl_length (l : Launch) (G : GG) {g : GH} {wa tw sa ts la tl ra cap : Nat} {ps : List (Nat × Nat)} {j : Nat} {p : Nat × Nat} (h : Wl G g wa tw sa ts la tl ra cap ps) (hj : ps[j]? = some p) : gMet l G y_Wl_length b_Wl_length 2 (some .int) (rmk 0 0 0 0) [.ref wa, .int (nI j)] g (fun v g' => v = some (.int (nI p.2)) ∧ g' = g) := by
  refine gMet.of [some (.ref wa), some (.int (nI j))] (by decide +kernel) rfl (Nat.le_of_ble_eq_true rfl) rfl (fun X hK hI hE => ?_)
  obtain ⟨f1, f2, k1, k2, k3, k4, k5, k6⟩ := h
  have hlt := (List.getElem?_eq_some_iff.mp hj).1
  refine gh_iload_n hK d_Wl_length_0 rfl ?_
  refine gh_if_ltN hK d_Wl_length_1 (tgt := 21) (by decide) (by omega) ?_
  refine gh_iload_n hK d_Wl_length_4 rfl ?_
  refine gh_aload_n hK d_Wl_length_5 rfl ?_
  refine gh_get hK d_Wl_length_6 in_Wl rfl k1 3 (by decide) kf_Wl_28 rfl rfl ?_
  refine gh_icmp_geN hK d_Wl_length_9 (tgt := 21) (by decide) (by omega) (by omega) (fun z => absurd z (by omega)) (fun z => ?_)
  refine gh_aload_n hK d_Wl_length_12 rfl ?_
  refine gh_get hK d_Wl_length_13 in_Wl rfl k1 2 (by decide) kf_Wl_25 rfl rfl ?_
  refine gh_iload_n hK d_Wl_length_16 rfl ?_
  refine gh_ialdN (j := j) hK d_Wl_length_17 k3 (t0 := 1) rfl (by omega) (by omega) ?_
  rw [(k6 j p hj).2]
  refine gh_goto (tgt := 22) hK d_Wl_length_18 (by decide) ?_
  exact gh_iret hK hE d_Wl_length_22 (Nat.le_of_ble_eq_true rfl) (Nat.le_of_ble_eq_true rfl) ⟨rfl, rfl⟩
set_option maxRecDepth 20000 in
set_option maxHeartbeats 4000000 in
theorem c_Wl_put (l : Launch) (G : GG) {g : GH} {wa tw sa ts la tl ra cap : Nat} {ps : List (Nat × Nat)} {rt rb ru rcap fr len : Nat} {ys : List Nat} (h : Wl G g wa tw sa ts la tl ra cap ps) (hts : ts ≠ tl) (hr : Lt G g ra rt rb ru rcap ys) (hv : ∀ p ∈ ps, p.1 + p.2 ≤ ys.length) (hf : fr + len ≤ ys.length) (hs : srtL (wls ys ps)) (hcap : ps.length < cap) : gMet l G y_Wl_put b_Wl_put 8 none (rmk 1 0 0 64) [.ref wa, .int (nI fr), .int (nI len)] g (fun v g' => v = none ∧ Wl G g' wa tw sa ts la tl ra cap (if (ys.drop fr).take len ∈ wls ys ps then ps else insA ps (rnkL ((ys.drop fr).take len) (wls ys ps)) (fr, len)) ∧ gh_N [wa, sa, la] g g') := by
  refine gMet.of [some (.ref wa), some (.int (nI fr)), some (.int (nI len)), none, none, none, none, none] (by decide +kernel) rfl (Nat.le_of_ble_eq_true rfl) rfl (fun X hK hI hE => ?_)
  obtain ⟨f1, f2, k1, k2, k3, k4, k5, k6⟩ := h
  obtain ⟨b1, b2⟩ := hr.len
  have n1 : wa ≠ sa := fun z => by rw [z, k2] at k1; cases k1
  have n2 : wa ≠ la := fun z => by rw [z, k3] at k1; cases k1
  have n3 : sa ≠ la := gh_ne k2 k3 hts
  have hwl : (wls ys ps).length = ps.length := List.length_map ..
  have hrk := rnkL_le ((ys.drop fr).take len) (wls ys ps)
  rw [hwl] at hrk
  generalize hw : (ys.drop fr).take len = w at hrk hE ⊢
  have wat : ∀ (i : Nat) (p : Nat × Nat), ps[i]? = some p → (wls ys ps)[i]? = some ((ys.drop p.1).take p.2) := fun i p hp => by unfold wls; rw [List.getElem?_map, hp]; rfl
  have fin : ∀ (r : Nat) (o4 o5 o6 o7 : Option Value), r = rnkL w (wls ys ps) → w ∉ wls ys ps → gh_W l G (rmk 1 0 0 64) X g 0 0 [some (.ref wa), some (.int (nI fr)), some (.int (nI len)), some (.int (nI r)), o4, o5, o6, o7] 90 [] := by
    intro r o4 o5 o6 o7 hr0 hnm
    have hrn : r ≤ ps.length := by omega
    refine gh_aload_n hK d_Wl_put_90 rfl ?_
    refine gh_get hK d_Wl_put_91 in_Wl rfl k1 3 (by decide) kf_Wl_28 rfl rfl ?_
    refine gh_aload_n hK d_Wl_put_94 rfl ?_
    refine gh_get hK d_Wl_put_95 in_Wl rfl k1 1 (by decide) kf_Wl_21 rfl rfl ?_
    refine gh_alen (v := nI cap) hK d_Wl_put_98 k2 (t0 := 1) rfl rfl ?_
    refine gh_icmp_ltN hK d_Wl_put_99 (tgt := 103) (by decide) (by omega) (by omega) (fun z => ?_) (fun z => absurd z (by omega))
    refine gh_aload_n hK d_Wl_put_103 rfl ?_
    refine gh_get hK d_Wl_put_104 in_Wl rfl k1 1 (by decide) kf_Wl_21 rfl rfl ?_
    refine gh_iload_n hK d_Wl_put_107 rfl ?_
    refine gh_aload_n hK d_Wl_put_108 rfl ?_
    refine gh_get hK d_Wl_put_109 in_Wl rfl k1 1 (by decide) kf_Wl_21 rfl rfl ?_
    refine gh_iload_n hK d_Wl_put_112 rfl ?_
    refine gh_iconst (v := nI 1) hK d_Wl_put_113 (by decide) ?_
    refine gh_addN hK d_Wl_put_114 ?_
    refine gh_aload_n hK d_Wl_put_115 rfl ?_
    refine gh_get hK d_Wl_put_116 in_Wl rfl k1 3 (by decide) kf_Wl_28 rfl rfl ?_
    refine gh_iload_n hK d_Wl_put_119 rfl ?_
    refine gh_subN hK d_Wl_put_120 (by omega) ?_
    refine gh_copyi hK d_Wl_put_121 km_Wl_38 k2 (t0 := 1) rfl (by omega) (by omega) (by omega) rfl (Nat.le_of_ble_eq_true rfl) (Nat.le_of_ble_eq_true rfl) ?_
    have j1 : gh_up g sa ts (.inl (G.2.1 1, cap, .inl (va_cpy f1 f1 r (r + 1) (ps.length - r)))) wa = some (tw, .inr (9, [.ref ra, .ref sa, .ref la, .int (nI ps.length)])) := by rw [gh_un n1]; exact k1
    have j3 : gh_up g sa ts (.inl (G.2.1 1, cap, .inl (va_cpy f1 f1 r (r + 1) (ps.length - r)))) la = some (tl, .inl (G.2.1 1, cap, .inl f2)) := by rw [gh_un n3.symm]; exact k3
    refine gh_aload_n hK d_Wl_put_124 rfl ?_
    refine gh_get hK d_Wl_put_125 in_Wl rfl j1 2 (by decide) kf_Wl_25 rfl rfl ?_
    refine gh_iload_n hK d_Wl_put_128 rfl ?_
    refine gh_aload_n hK d_Wl_put_129 rfl ?_
    refine gh_get hK d_Wl_put_130 in_Wl rfl j1 2 (by decide) kf_Wl_25 rfl rfl ?_
    refine gh_iload_n hK d_Wl_put_133 rfl ?_
    refine gh_iconst (v := nI 1) hK d_Wl_put_134 (by decide) ?_
    refine gh_addN hK d_Wl_put_135 ?_
    refine gh_aload_n hK d_Wl_put_136 rfl ?_
    refine gh_get hK d_Wl_put_137 in_Wl rfl j1 3 (by decide) kf_Wl_28 rfl rfl ?_
    refine gh_iload_n hK d_Wl_put_140 rfl ?_
    refine gh_subN hK d_Wl_put_141 (by omega) ?_
    refine gh_copyi hK d_Wl_put_142 km_Wl_38 j3 (t0 := 1) rfl (by omega) (by omega) (by omega) rfl (Nat.le_of_ble_eq_true rfl) (Nat.le_of_ble_eq_true rfl) ?_
    have hN1 : gh_N [wa, sa, la] g (gh_up (gh_up g sa ts (.inl (G.2.1 1, cap, .inl (va_cpy f1 f1 r (r + 1) (ps.length - r))))) la tl (.inl (G.2.1 1, cap, .inl (va_cpy f2 f2 r (r + 1) (ps.length - r))))) := (gh_N.up (by simp)).tr (gh_N.up (by simp))
    generalize hg1 : gh_up (gh_up g sa ts (.inl (G.2.1 1, cap, .inl (va_cpy f1 f1 r (r + 1) (ps.length - r))))) la tl (.inl (G.2.1 1, cap, .inl (va_cpy f2 f2 r (r + 1) (ps.length - r)))) = g1 at hN1 ⊢
    have i1 : g1 wa = some (tw, .inr (9, [.ref ra, .ref sa, .ref la, .int (nI ps.length)])) := by rw [← hg1, gh_un n2]; exact j1
    have i2 : g1 sa = some (ts, .inl (G.2.1 1, cap, .inl (va_cpy f1 f1 r (r + 1) (ps.length - r)))) := by rw [← hg1, gh_un n3, gh_us]
    have i3 : g1 la = some (tl, .inl (G.2.1 1, cap, .inl (va_cpy f2 f2 r (r + 1) (ps.length - r)))) := by rw [← hg1, gh_us]
    refine gh_aload_n hK d_Wl_put_145 rfl ?_
    refine gh_get hK d_Wl_put_146 in_Wl rfl i1 1 (by decide) kf_Wl_21 rfl rfl ?_
    refine gh_iload_n hK d_Wl_put_149 rfl ?_
    refine gh_iload_n hK d_Wl_put_150 rfl ?_
    refine gh_iastN hK d_Wl_put_151 i2 (t0 := 1) rfl (by omega) (by omega) ?_
    have hN2 : gh_N [wa, sa, la] g (gh_up g1 sa ts (.inl (G.2.1 1, cap, .inl (upd (va_cpy f1 f1 r (r + 1) (ps.length - r)) r (nI fr))))) := hN1.tr (gh_N.up (by simp))
    generalize hg2 : gh_up g1 sa ts (.inl (G.2.1 1, cap, .inl (upd (va_cpy f1 f1 r (r + 1) (ps.length - r)) r (nI fr)))) = g2 at hN2 ⊢
    have u1 : g2 wa = some (tw, .inr (9, [.ref ra, .ref sa, .ref la, .int (nI ps.length)])) := by rw [← hg2, gh_un n1]; exact i1
    have u2 : g2 sa = some (ts, .inl (G.2.1 1, cap, .inl (upd (va_cpy f1 f1 r (r + 1) (ps.length - r)) r (nI fr)))) := by rw [← hg2, gh_us]
    have u3 : g2 la = some (tl, .inl (G.2.1 1, cap, .inl (va_cpy f2 f2 r (r + 1) (ps.length - r)))) := by rw [← hg2, gh_un n3.symm]; exact i3
    refine gh_aload_n hK d_Wl_put_152 rfl ?_
    refine gh_get hK d_Wl_put_153 in_Wl rfl u1 2 (by decide) kf_Wl_25 rfl rfl ?_
    refine gh_iload_n hK d_Wl_put_156 rfl ?_
    refine gh_iload_n hK d_Wl_put_157 rfl ?_
    refine gh_iastN hK d_Wl_put_158 u3 (t0 := 1) rfl (by omega) (by omega) ?_
    have hN3 : gh_N [wa, sa, la] g (gh_up g2 la tl (.inl (G.2.1 1, cap, .inl (upd (va_cpy f2 f2 r (r + 1) (ps.length - r)) r (nI len))))) := hN2.tr (gh_N.up (by simp))
    generalize hg3 : gh_up g2 la tl (.inl (G.2.1 1, cap, .inl (upd (va_cpy f2 f2 r (r + 1) (ps.length - r)) r (nI len)))) = g3 at hN3 ⊢
    have v1 : g3 wa = some (tw, .inr (9, [.ref ra, .ref sa, .ref la, .int (nI ps.length)])) := by rw [← hg3, gh_un n2]; exact u1
    have v2 : g3 sa = some (ts, .inl (G.2.1 1, cap, .inl (upd (va_cpy f1 f1 r (r + 1) (ps.length - r)) r (nI fr)))) := by rw [← hg3, gh_un n3]; exact u2
    have v3 : g3 la = some (tl, .inl (G.2.1 1, cap, .inl (upd (va_cpy f2 f2 r (r + 1) (ps.length - r)) r (nI len)))) := by rw [← hg3, gh_us]
    refine gh_aload_n hK d_Wl_put_159 rfl ?_
    refine gh_dup hK d_Wl_put_160 rfl ?_
    refine gh_get hK d_Wl_put_161 in_Wl rfl v1 3 (by decide) kf_Wl_28 rfl rfl ?_
    refine gh_iconst (v := nI 1) hK d_Wl_put_164 (by decide) ?_
    refine gh_addN hK d_Wl_put_165 ?_
    refine gh_put hK d_Wl_put_166 in_Wl t_Wl ty_Wl nm_Wl rfl v1 3 (by decide) kf_Wl_28 rfl rfl rfl rfl (Nat.le_of_ble_eq_true rfl) rfl ?_
    refine gh_vret hK hE d_Wl_put_169 (Nat.le_of_ble_eq_true rfl) (Nat.le_of_ble_eq_true rfl) ⟨rfl, ?_, hN3.tr (gh_N.up (by simp))⟩
    rw [if_neg hnm, ← hr0]
    refine ⟨_, _, by rw [insA_len hrn]; exact gh_us, by rw [gh_un n1.symm]; exact v2, by rw [gh_un n2.symm]; exact v3, by rw [insA_len hrn]; omega, k5, fun i p hp => ?_⟩
    have hil := (List.getElem?_eq_some_iff.mp hp).1
    rw [insA_len hrn] at hil
    rcases Nat.lt_trichotomy i r with q | q | q
    · rw [insA_lt hrn q] at hp
      rw [pk_un (by omega), pk_un (by omega), pk_cpy_out (by omega), pk_cpy_out (by omega)]
      exact k6 i p hp
    · rw [q, insA_eq hrn] at hp
      cases hp
      rw [q, pk_us, pk_us]
      exact ⟨rfl, rfl⟩
    · rw [insA_gt hrn q] at hp
      rw [pk_un (by omega), pk_un (by omega), pk_cpy_in (by omega) (by omega), pk_cpy_in (by omega) (by omega), show r + (i - (r + 1)) = i - 1 by omega]
      exact k6 (i - 1) p hp
  have loop : ∀ (m i lo hi : Nat) (o6 o7 : Option Value), i + m = 32 → hi - lo < 2 ^ m → lo ≤ rnkL w (wls ys ps) → rnkL w (wls ys ps) ≤ hi → hi ≤ ps.length → (∀ a, (wls ys ps)[hi]? = some a → 0 < cmpL a w) → gh_W l G (rmk 1 0 0 64) X g 0 0 [some (.ref wa), some (.int (nI fr)), some (.int (nI len)), some (.int (nI lo)), some (.int (nI hi)), some (.int (nI i)), o6, o7] 11 [] := by
    have out : ∀ (lo hi i : Nat) (o6 o7 : Option Value), hi ≤ lo → lo ≤ rnkL w (wls ys ps) → rnkL w (wls ys ps) ≤ hi → (∀ a, (wls ys ps)[hi]? = some a → 0 < cmpL a w) → gh_W l G (rmk 1 0 0 64) X g 0 0 [some (.ref wa), some (.int (nI fr)), some (.int (nI len)), some (.int (nI lo)), some (.int (nI hi)), some (.int (nI i)), o6, o7] 90 [] := by
      intro lo hi i o6 o7 h1 h2 h3 h4
      refine fin lo _ _ o6 o7 (by omega) (fun q => ?_)
      have q1 := (rnkL_mem w hs).mp q
      rw [show rnkL w (wls ys ps) = hi by omega] at q1
      have q2 := h4 w q1
      rw [cmpL_self] at q2
      omega
    intro m
    induction m with
    | zero =>
      intro i lo hi o6 o7 hi0 hm h1 h2 h3 h4
      refine gh_iload hK d_Wl_put_11 rfl ?_
      refine gh_bipush (v := nI 32) hK d_Wl_put_13 (by decide) ?_
      refine gh_icmp_geN hK d_Wl_put_15 (tgt := 90) (by decide) (by omega) (by decide) (fun z => ?_) (fun z => absurd z (by omega))
      exact out lo hi i o6 o7 (by simp at hm; omega) h1 h2 h4
    | succ m ih =>
      intro i lo hi o6 o7 hi0 hm h1 h2 h3 h4
      rw [Nat.pow_succ] at hm
      refine gh_iload hK d_Wl_put_11 rfl ?_
      refine gh_bipush (v := nI 32) hK d_Wl_put_13 (by decide) ?_
      refine gh_icmp_geN hK d_Wl_put_15 (tgt := 90) (by decide) (by omega) (by decide) (fun z => absurd z (by omega)) (fun z => ?_)
      refine gh_iload_n hK d_Wl_put_18 rfl ?_
      refine gh_iload hK d_Wl_put_19 rfl ?_
      refine gh_icmp_geN hK d_Wl_put_21 (tgt := 90) (by decide) (by omega) (by omega) (fun z2 => ?_) (fun z2 => ?_)
      · exact out lo hi i o6 o7 z2 h1 h2 h4
      · refine gh_iload_n hK d_Wl_put_24 rfl ?_
        refine gh_iload hK d_Wl_put_25 rfl ?_
        refine gh_addN hK d_Wl_put_27 ?_
        refine gh_iconst (v := nI 2) hK d_Wl_put_28 (by decide) ?_
        refine gh_divN hK d_Wl_put_29 (by omega) (by omega) (by omega) ?_
        have hmd : (lo + hi) / 2 < hi := by omega
        have hmd2 : lo ≤ (lo + hi) / 2 := by omega
        have hmd3 : (lo + hi) / 2 - lo < 2 ^ m := by omega
        have hmd4 : hi - ((lo + hi) / 2 + 1) < 2 ^ m := by omega
        obtain ⟨p, hp⟩ : ∃ p, ps[(lo + hi) / 2]? = some p := ⟨_, List.getElem?_eq_getElem (by omega)⟩
        have hwm := wat _ _ hp
        have hpv := hv p (List.mem_of_getElem? hp)
        generalize (lo + hi) / 2 = md at hmd hmd2 hmd3 hmd4 hp hwm ⊢
        refine gh_istore (lv' := [some (.ref wa), some (.int (nI fr)), some (.int (nI len)), some (.int (nI lo)), some (.int (nI hi)), some (.int (nI i)), some (.int (nI md)), o7]) hK d_Wl_put_30 (Nat.le_of_ble_eq_true rfl) rfl ?_
        refine gh_aload_n hK d_Wl_put_32 rfl ?_
        refine gh_get hK d_Wl_put_33 in_Wl rfl k1 0 (by decide) kf_Wl_9 rfl rfl ?_
        refine gh_aload_n hK d_Wl_put_36 rfl ?_
        refine gh_get hK d_Wl_put_37 in_Wl rfl k1 1 (by decide) kf_Wl_21 rfl rfl ?_
        refine gh_iload hK d_Wl_put_40 rfl ?_
        refine gh_ialdN (j := md) hK d_Wl_put_42 k2 (t0 := 1) rfl (by omega) (by omega) ?_
        rw [(k6 md p hp).1]
        refine gh_aload_n hK d_Wl_put_43 rfl ?_
        refine gh_get hK d_Wl_put_44 in_Wl rfl k1 2 (by decide) kf_Wl_25 rfl rfl ?_
        refine gh_iload hK d_Wl_put_47 rfl ?_
        refine gh_ialdN (j := md) hK d_Wl_put_49 k3 (t0 := 1) rfl (by omega) (by omega) ?_
        rw [(k6 md p hp).2]
        refine gh_aload_n hK d_Wl_put_50 rfl ?_
        refine gh_get hK d_Wl_put_51 in_Wl rfl k1 0 (by decide) kf_Wl_9 rfl rfl ?_
        refine gh_iload_n hK d_Wl_put_54 rfl ?_
        refine gh_iload_n hK d_Wl_put_55 rfl ?_
        refine gh_callV (rest := []) [.int (nI p.1), .int (nI p.2), .ref ra, .int (nI fr), .int (nI len)] hK (c_Lt_compare l G hr hr (fr := p.1) (len := p.2) (of := fr) (ol := len) hpv hf) Y_Lt_compare V_Lt_compare km_Wl_32 hr.ob rfl rfl d_Wl_put_56 rfl rfl (Nat.le_of_ble_eq_true rfl) ⟨(Nat.le_of_ble_eq_true rfl), (Nat.le_of_ble_eq_true rfl)⟩ ⟨(Nat.le_of_ble_eq_true rfl), (Nat.le_of_ble_eq_true rfl)⟩ (fun v g' hp => ?_)
        obtain ⟨r, rfl, hr1, hg⟩ := hp
        rw [hg]
        show gh_W l G _ X g _ _ [some (.ref wa), some (.int (nI fr)), some (.int (nI len)), some (.int (nI lo)), some (.int (nI hi)), some (.int (nI i)), some (.int (nI md)), o7] 59 [.int r]
        rw [hw] at hr1
        refine gh_istore (lv' := [some (.ref wa), some (.int (nI fr)), some (.int (nI len)), some (.int (nI lo)), some (.int (nI hi)), some (.int (nI i)), some (.int (nI md)), some (.int r)]) hK d_Wl_put_59 (Nat.le_of_ble_eq_true rfl) rfl ?_
        refine gh_iload hK d_Wl_put_61 rfl ?_
        refine gh_if_neI hK d_Wl_put_63 (tgt := 67) (by decide) hr1 (fun z3 => ?_) (fun z3 => ?_)
        · refine gh_iload hK d_Wl_put_67 rfl ?_
          refine gh_if_geI hK d_Wl_put_69 (tgt := 80) (by decide) hr1 (fun z4 => ?_) (fun z4 => ?_)
          · refine gh_iload hK d_Wl_put_80 rfl ?_
            refine gh_istore (lv' := [some (.ref wa), some (.int (nI fr)), some (.int (nI len)), some (.int (nI lo)), some (.int (nI md)), some (.int (nI i)), some (.int (nI md)), some (.int r)]) hK d_Wl_put_82 (Nat.le_of_ble_eq_true rfl) rfl ?_
            refine gh_incN (lv' := [some (.ref wa), some (.int (nI fr)), some (.int (nI len)), some (.int (nI lo)), some (.int (nI md)), some (.int (nI (i + 1))), some (.int (nI md)), some (.int r)]) hK d_Wl_put_84 rfl rfl ?_
            refine gh_goto (tgt := 11) hK d_Wl_put_87 (by decide) ?_
            refine ih (i + 1) lo md _ _ (by omega) (by omega) h1 ?_ (by omega) (fun a ha => ?_)
            · rcases Nat.lt_or_ge md (rnkL w (wls ys ps)) with q | q
              · have := rnkL_lt w hwm q; omega
              · exact q
            · rw [hwm] at ha
              cases ha
              omega
          · refine gh_iload hK d_Wl_put_72 rfl ?_
            refine gh_iconst (v := nI 1) hK d_Wl_put_74 (by decide) ?_
            refine gh_addN hK d_Wl_put_75 ?_
            refine gh_istore_n (lv' := [some (.ref wa), some (.int (nI fr)), some (.int (nI len)), some (.int (nI (md + 1))), some (.int (nI hi)), some (.int (nI i)), some (.int (nI md)), some (.int r)]) hK d_Wl_put_76 (Nat.le_of_ble_eq_true rfl) rfl ?_
            refine gh_goto (tgt := 84) hK d_Wl_put_77 (by decide) ?_
            refine gh_incN (lv' := [some (.ref wa), some (.int (nI fr)), some (.int (nI len)), some (.int (nI (md + 1))), some (.int (nI hi)), some (.int (nI (i + 1))), some (.int (nI md)), some (.int r)]) hK d_Wl_put_84 rfl rfl ?_
            refine gh_goto (tgt := 11) hK d_Wl_put_87 (by decide) ?_
            exact ih (i + 1) (md + 1) hi _ _ (by omega) (by omega) ((rnkL_at w hs hwm).mp z4) h2 h3 h4
        · refine gh_vret hK hE d_Wl_put_66 (Nat.le_of_ble_eq_true rfl) (Nat.le_of_ble_eq_true rfl) ⟨rfl, ?_, gh_N.rf⟩
          rw [if_pos (by rw [← (cmpL_zero _ _).mp z3]; exact List.mem_of_getElem? hwm)]
          exact ⟨f1, f2, k1, k2, k3, k4, k5, k6⟩
  refine gh_iconst (v := nI 0) hK d_Wl_put_0 (by decide) ?_
  refine gh_istore_n (lv' := [some (.ref wa), some (.int (nI fr)), some (.int (nI len)), some (.int (nI 0)), none, none, none, none]) hK d_Wl_put_1 (Nat.le_of_ble_eq_true rfl) rfl ?_
  refine gh_aload_n hK d_Wl_put_2 rfl ?_
  refine gh_get hK d_Wl_put_3 in_Wl rfl k1 3 (by decide) kf_Wl_28 rfl rfl ?_
  refine gh_istore (lv' := [some (.ref wa), some (.int (nI fr)), some (.int (nI len)), some (.int (nI 0)), some (.int (nI ps.length)), none, none, none]) hK d_Wl_put_6 (Nat.le_of_ble_eq_true rfl) rfl ?_
  refine gh_iconst (v := nI 0) hK d_Wl_put_8 (by decide) ?_
  refine gh_istore (lv' := [some (.ref wa), some (.int (nI fr)), some (.int (nI len)), some (.int (nI 0)), some (.int (nI ps.length)), some (.int (nI 0)), none, none]) hK d_Wl_put_9 (Nat.le_of_ble_eq_true rfl) rfl ?_
  exact loop 32 0 0 ps.length none none (by omega) (by omega) (Nat.zero_le _) hrk (Nat.le_refl _) (fun a ha => by
    have := (List.getElem?_eq_some_iff.mp ha).1
    omega)
