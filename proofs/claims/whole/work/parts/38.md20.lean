/-! UNDOING AND MAKING: the ways of the class are those of the reference -/
abbrev rs2 (us : List (Nat × RuR)) : List RuR := us.map fun x => x.2
theorem rlN_rl2 (us : List (Nat × RuR)) (p : Nat) : rlN us p = rl2 (rs2 us) p := by
  unfold rlN rl2 rs2
  split
  · rfl
  · rw [List.getD_eq_getElem?_getD, List.getElem?_map]
def noD (u : RuR) : Prop := (∀ c, c ∈ u.2.1 → c ≠ 46) ∧ ∀ c, c ∈ u.2.2.1 → c ≠ 46
theorem noD_rl2 {us : List RuR} (h : ∀ u, u ∈ us → noD u) (p : Nat) : noD (rl2 us p) := by
  unfold rl2
  split
  · exact ⟨fun c hc => (by cases hc), fun c hc => (by cases hc)⟩
  · rw [List.getD_eq_getElem?_getD]
    cases hq : us[p - 1]? with
    | none => exact ⟨fun c hc => (by cases hc), fun c hc => (by cases hc)⟩
    | some u => exact h u (List.mem_of_getElem? hq)
theorem RlA.nd {F : Nat → Nat → Int32} {b : Nat} {us : List RuR} (h : RlA F b us) : ∀ u, u ∈ us → noD u := fun u hu => by
  obtain ⟨j, hj, e⟩ := List.getElem_of_mem hu
  have k := h.2.2 j u (by rw [List.getElem?_eq_getElem hj, e])
  exact k.2.2.2.2
theorem getD_ne {l : List Nat} {i : Nat} (hi : i < l.length) (h : ∀ c, c ∈ l → c ≠ 46) : l.getD i 0 ≠ 46 := by
  rw [List.getD_eq_getElem?_getD, List.getElem?_eq_getElem hi]
  exact h _ (List.getElem_mem hi)
theorem ext_getD {a b : List Nat} (hl : a.length = b.length) (h : ∀ i, i < a.length → a.getD i 0 = b.getD i 0) : a = b := by
  apply List.ext_getElem hl
  intro i h1 h2
  have := h i h1
  rwa [List.getD_eq_getElem?_getD, List.getD_eq_getElem?_getD, List.getElem?_eq_getElem h1, List.getElem?_eq_getElem h2] at this
theorem st_pre {p w : List Nat} (hd : ∀ c, c ∈ p → c ≠ 46) (h : stO true p w = true) : w = p ++ w.drop p.length := by
  obtain ⟨h1, h2⟩ := stO_iff.mp h
  have e : w.take p.length = p := by
    refine ext_getD (by rw [List.length_take]; omega) (fun i hi => ?_)
    rw [List.length_take] at hi
    rcases h2 i (by omega) with q | q
    · exact absurd q (getD_ne (by omega) hd)
    · rw [q, if_pos rfl, Nat.zero_add, List.getD_eq_getElem?_getD, List.getElem?_take_of_lt (by omega), ← List.getD_eq_getElem?_getD]
  have := List.take_append_drop p.length w
  rw [e] at this
  exact this.symm
theorem st_suf {p w : List Nat} (hd : ∀ c, c ∈ p → c ≠ 46) (h : stO false p w = true) : w = w.take (w.length - p.length) ++ p := by
  obtain ⟨h1, h2⟩ := stO_iff.mp h
  have e : w.drop (w.length - p.length) = p := by
    refine ext_getD (by rw [List.length_drop]; omega) (fun i hi => ?_)
    rw [List.length_drop] at hi
    rcases h2 i (by omega) with q | q
    · exact absurd q (getD_ne (by omega) hd)
    · rw [q, if_neg (by decide), List.getD_eq_getElem?_getD, List.getElem?_drop, ← List.getD_eq_getElem?_getD]
  have := List.take_append_drop (w.length - p.length) w
  rw [e] at this
  exact this.symm
theorem st_pre_of (p m : List Nat) : stO true p (p ++ m) = true := by
  refine stO_iff.mpr ⟨by rw [List.length_append]; omega, fun i hi => Or.inr ?_⟩
  rw [if_pos rfl, Nat.zero_add, List.getD_eq_getElem?_getD (l := p ++ m), List.getElem?_append_left hi, ← List.getD_eq_getElem?_getD]
theorem st_suf_of (p m : List Nat) : stO false p (m ++ p) = true := by
  refine stO_iff.mpr ⟨by rw [List.length_append]; omega, fun i hi => Or.inr ?_⟩
  rw [if_neg (by decide), List.getD_eq_getElem?_getD (l := m ++ p), List.getElem?_append_right (by rw [List.length_append]; omega), ← List.getD_eq_getElem?_getD, List.length_append]
  congr 1
  omega
/-- a word with known ends: its middle -/
theorem mid_of {a b w : List Nat} (h1 : w = a ++ w.drop a.length) (h2 : w = w.take (w.length - b.length) ++ b) (h : a.length + b.length ≤ w.length) : w = a ++ ((w.drop a.length).take (w.length - a.length - b.length) ++ b) := by
  have e2 : w.drop (w.length - b.length) = b := by
    have := congrArg (List.drop (w.length - b.length)) h2
    rw [List.drop_left' (by rw [List.length_take]; omega)] at this
    exact this
  have e3 : w.drop a.length = (w.drop a.length).take (w.length - a.length - b.length) ++ b := by
    have := (List.take_append_drop (w.length - a.length - b.length) (w.drop a.length)).symm
    rw [List.drop_drop, show a.length + (w.length - a.length - b.length) = w.length - b.length by omega, e2] at this
    exact this
  rw [← e3]
  exact h1
theorem mid_take (a m b : List Nat) : ((a ++ m ++ b).drop a.length).take ((a ++ m ++ b).length - a.length - b.length) = m := by
  rw [List.append_assoc, List.drop_left, List.length_append, List.length_append, show a.length + (m.length + b.length) - a.length - b.length = m.length by omega, List.take_left]
theorem mkO_iff {u1 u2 : RuR} {x : List Nat × Nat} {w : List Nat} (d1 : noD u1) (d2 : noD u2) : mkO u1 u2 x = some w ↔ ∃ m, m ≠ [] ∧ x.1 = u1.2.1 ++ m ++ u2.2.1 ∧ w = u1.2.2.1 ++ m ++ u2.2.2.1 ∧ goO true u1.1 u1.2.1 u1.2.2.2 x.1 x.2 = true ∧ goO false u2.1 u2.2.1 u2.2.2.2 x.1 x.2 = true := by
  unfold mkO
  constructor
  · intro h
    by_cases hg : (goO true u1.1 u1.2.1 u1.2.2.2 x.1 x.2 && goO false u2.1 u2.2.1 u2.2.2.2 x.1 x.2) = true
    · rw [if_pos hg, fmF] at h
      rw [Bool.and_eq_true] at hg
      by_cases hl : u1.2.1.length + u2.2.1.length < x.1.length
      · rw [if_pos hl] at h
        have g1 := hg.1
        have g2 := hg.2
        unfold goO at g1 g2
        rw [Bool.and_eq_true, Bool.and_eq_true] at g1 g2
        have e := mid_of (st_pre d1.1 g1.2.1) (st_suf d2.1 g2.2.1) (by omega)
        refine ⟨(x.1.drop u1.2.1.length).take (x.1.length - u1.2.1.length - u2.2.1.length), fun q => ?_, by rw [List.append_assoc]; exact e, (Option.some.inj h).symm, hg.1, hg.2⟩
        have := congrArg List.length q
        rw [List.length_take, List.length_drop, List.length_nil] at this
        omega
      · rw [if_neg hl] at h; cases h
    · rw [if_neg hg] at h; cases h
  · rintro ⟨m, hm, hx, hw, g1, g2⟩
    rw [g1, g2, if_pos (by decide), fmF]
    have hml : 0 < m.length := List.length_pos_iff.mpr hm
    have hl : u1.2.1.length + u2.2.1.length < x.1.length := by rw [hx, List.length_append, List.length_append]; omega
    rw [if_pos hl, hw]
    have := mid_take u1.2.1 m u2.2.1
    rw [← hx] at this
    rw [this]
theorem wyM_iff {es : List (Nat × List Nat × Nat)} {u1 u2 : RuR} {p s c : Nat} {w : List Nat} (d1 : noD u1) (d2 : noD u2) (hs : srtL (dws es)) (h16 : ∀ x, x ∈ es → x.2.1.length ≤ 16) : wyM es u1 u2 p s w = some c ↔ ∃ i x, es[i]? = some x ∧ mkO u1 u2 x.2 = some w ∧ c = (i * 9 + p) * 9 + s := by
  constructor
  · intro h
    unfold wyM at h
    by_cases hst : stO true u1.2.2.1 w = true ∧ stO false u2.2.2.1 w = true
    · rw [if_pos hst] at h
      cases hu : undB u1 u2 w with
      | none => rw [hu] at h; cases h
      | some b =>
        rw [hu] at h
        dsimp only at h
        cases hx : es[rnkL b (dws es)]? with
        | none => rw [hx] at h; cases h
        | some x =>
          rw [hx] at h
          dsimp only at h
          by_cases hg : x.2.1 = b ∧ goO true u1.1 u1.2.1 u1.2.2.2 x.2.1 x.2.2 = true ∧ goO false u2.1 u2.2.1 u2.2.2.2 x.2.1 x.2.2 = true
          · rw [if_pos hg] at h
            refine ⟨_, x, hx, ?_, (Option.some.inj h).symm⟩
            unfold undB at hu
            by_cases hl : u1.2.2.1.length + u2.2.2.1.length < w.length ∧ u1.2.1.length + (w.length - u1.2.2.1.length - u2.2.2.1.length) + u2.2.1.length ≤ 16
            · rw [if_pos hl] at hu
              have hb := Option.some.inj hu
              refine (mkO_iff d1 d2).mpr ⟨(w.drop u1.2.2.1.length).take (w.length - u1.2.2.1.length - u2.2.2.1.length), fun q => ?_, by rw [hg.1]; exact hb.symm, ?_, hg.2.1, hg.2.2⟩
              · have := congrArg List.length q
                rw [List.length_take, List.length_drop, List.length_nil] at this
                omega
              · rw [List.append_assoc]
                exact mid_of (st_pre d1.2 hst.1) (st_suf d2.2 hst.2) (by omega)
            · rw [if_neg hl] at hu; cases hu
          · rw [if_neg hg] at h; cases h
    · rw [if_neg hst] at h; cases h
  · rintro ⟨i, x, hi, hm, hc⟩
    obtain ⟨m, hm0, hx, hw, g1, g2⟩ := (mkO_iff d1 d2).mp hm
    have hml : 0 < m.length := List.length_pos_iff.mpr hm0
    have hxl := h16 x (List.mem_of_getElem? hi)
    have hxl2 := congrArg List.length hx
    rw [List.length_append, List.length_append] at hxl2
    have hwl := congrArg List.length hw
    rw [List.length_append, List.length_append] at hwl
    have hin : x.2.1 ∈ dws es := List.mem_map.mpr ⟨x, List.mem_of_getElem? hi, rfl⟩
    have hr : rnkL x.2.1 (dws es) = i := srtL_inj hs ((rnkL_mem _ hs).mp hin) (dws_at hi)
    have hu : undB u1 u2 w = some x.2.1 := by
      unfold undB
      rw [if_pos ⟨by omega, by omega⟩, hx, hw, mid_take]
    unfold wyM
    rw [if_pos ⟨by rw [hw, List.append_assoc]; exact st_pre_of _ _, by rw [hw]; exact st_suf_of _ _⟩, hu]
    dsimp only
    rw [hr, hi]
    dsimp only
    rw [if_pos ⟨rfl, g1, g2⟩, hc]
/-! sorted lists of numbers -/
theorem lt_ext : ∀ {l m : List Nat}, l.Pairwise (· < ·) → m.Pairwise (· < ·) → (∀ x, x ∈ l ↔ x ∈ m) → l = m
  | [], [], _, _, _ => rfl
  | [], b :: m, _, _, h => by have := (h b).mpr List.mem_cons_self; cases this
  | a :: l, [], _, _, h => by have := (h a).mp List.mem_cons_self; cases this
  | a :: l, b :: m, h1, h2, h => by
    rw [List.pairwise_cons] at h1 h2
    have hab : a = b := by
      rcases List.mem_cons.mp ((h a).mp List.mem_cons_self) with q | q
      · exact q
      · rcases List.mem_cons.mp ((h b).mpr List.mem_cons_self) with q2 | q2
        · exact q2.symm
        · have := h2.1 a q
          have := h1.1 b q2
          omega
    subst hab
    congr 1
    refine lt_ext h1.2 h2.2 (fun x => ⟨fun q => ?_, fun q => ?_⟩)
    · rcases List.mem_cons.mp ((h x).mp (List.mem_cons_of_mem _ q)) with e | e
      · have := h1.1 x q; omega
      · exact e
    · rcases List.mem_cons.mp ((h x).mpr (List.mem_cons_of_mem _ q)) with e | e
      · have := h2.1 x q; omega
      · exact e
theorem ins_lt (c : Nat) : ∀ {l : List Nat}, l.Pairwise (· < ·) → c ∉ l → (insA l (posN c l) c).Pairwise (· < ·)
  | [], _, _ => by simp [insA, posN]
  | a :: l, h, hc => by
    rw [List.pairwise_cons] at h
    have hne : c ≠ a := fun q => hc (q ▸ List.mem_cons_self)
    rw [posN]
    split
    · next q =>
      show (a :: insA l (posN c l) c).Pairwise (· < ·)
      rw [List.pairwise_cons]
      refine ⟨fun b hb => ?_, ins_lt c h.2 (fun z => hc (List.mem_cons_of_mem _ z))⟩
      rcases insA_mem hb with z | z
      · exact h.1 b z
      · omega
    · next q =>
      show (c :: a :: l).Pairwise (· < ·)
      rw [List.pairwise_cons, List.pairwise_cons]
      refine ⟨fun b hb => ?_, h⟩
      rcases List.mem_cons.mp hb with z | z
      · omega
      · have := h.1 b z; omega
theorem mem_insA {l : List Nat} {r c y : Nat} : y ∈ insA l r c ↔ y = c ∨ y ∈ l := by
  rw [insA_perm.mem_iff, List.mem_cons]
/-! the class's list of ways -/
theorem wyM_mod {es : List (Nat × List Nat × Nat)} {u1 u2 : RuR} {p s c : Nat} {w : List Nat} (h : wyM es u1 u2 p s w = some c) (hp : p < 9) (hs : s < 9) : c % 81 = 9 * p + s := by
  unfold wyM at h
  split at h
  · split at h
    · cases h
    · split at h
      · cases h
      · split at h
        · have := Option.some.inj h
          omega
        · cases h
  · cases h
theorem wyS_all {es : List (Nat × List Nat × Nat)} {u1 : RuR} {us2 : List (Nat × RuR)} {p : Nat} {w : List Nat} (hp : p < 9) : ∀ (k s : Nat) (ws : List Nat), s + k ≤ 9 → ws.Pairwise (· < ·) → ws.length ≤ 9 * p + s → (∀ y, y ∈ ws → y % 81 < 9 * p + s) → (wyS es u1 us2 p 81 w k s ws).Pairwise (· < ·) ∧ (wyS es u1 us2 p 81 w k s ws).length ≤ 9 * p + (s + k) ∧ (∀ y, y ∈ wyS es u1 us2 p 81 w k s ws → y % 81 < 9 * p + (s + k)) ∧ ∀ y, y ∈ wyS es u1 us2 p 81 w k s ws ↔ y ∈ ws ∨ ∃ t, s ≤ t ∧ t < s + k ∧ wyM es u1 (rlN us2 t) p t w = some y
  | 0, s, ws, _, h1, h2, h3 => ⟨h1, h2, h3, fun y => ⟨Or.inl, fun q => by rcases q with q | ⟨t, a, b, _⟩; (exact q); omega⟩⟩
  | k + 1, s, ws, hk, h1, h2, h3 => by
    rw [wyS]
    have step : (wyP 81 ws (wyM es u1 (rlN us2 s) p s w)).Pairwise (· < ·) ∧ (wyP 81 ws (wyM es u1 (rlN us2 s) p s w)).length ≤ 9 * p + (s + 1) ∧ (∀ y, y ∈ wyP 81 ws (wyM es u1 (rlN us2 s) p s w) → y % 81 < 9 * p + (s + 1)) ∧ ∀ y, y ∈ wyP 81 ws (wyM es u1 (rlN us2 s) p s w) ↔ y ∈ ws ∨ wyM es u1 (rlN us2 s) p s w = some y := by
      cases hm : wyM es u1 (rlN us2 s) p s w with
      | none =>
        rw [wyP_none]
        exact ⟨h1, by omega, fun y hy => by have := h3 y hy; omega, fun y => ⟨Or.inl, fun q => by rcases q with q | q; (exact q); cases q⟩⟩
      | some c =>
        have hc := wyM_mod hm hp (by omega)
        have hn : c ∉ ws := fun q => by have := h3 c q; omega
        unfold wyP
        rw [if_pos (by omega)]
        dsimp only
        refine ⟨ins_lt c h1 hn, ?_, fun y hy => ?_, fun y => ?_⟩
        · rw [insA_len (posN_le _ _)]; omega
        · rcases mem_insA.mp hy with q | q
          · omega
          · have := h3 y q; omega
        · rw [mem_insA]
          constructor
          · rintro (q | q)
            · exact Or.inr (by rw [q])
            · exact Or.inl q
          · rintro (q | q)
            · exact Or.inr q
            · exact Or.inl (Option.some.inj q).symm
    obtain ⟨s1, s2, s3, s4⟩ := step
    obtain ⟨k1, k2, k3, k4⟩ := wyS_all (es := es) (u1 := u1) (us2 := us2) (w := w) hp k (s + 1) _ (by omega) s1 s2 s3
    refine ⟨k1, by omega, fun y hy => by have := k3 y hy; omega, fun y => ?_⟩
    rw [k4, s4]
    constructor
    · rintro ((q | q) | ⟨t, a, b, c⟩)
      · exact Or.inl q
      · exact Or.inr ⟨s, Nat.le_refl _, by omega, q⟩
      · exact Or.inr ⟨t, by omega, by omega, c⟩
    · rintro (q | ⟨t, a, b, c⟩)
      · exact Or.inl (Or.inl q)
      · by_cases z : t = s
        · subst z; exact Or.inl (Or.inr c)
        · exact Or.inr ⟨t, by omega, by omega, c⟩
theorem wyO_all {es : List (Nat × List Nat × Nat)} {us1 us2 : List (Nat × RuR)} {w : List Nat} (h2l : us2.length ≤ 8) : ∀ (k p : Nat) (ws : List Nat), p + k ≤ 9 → ws.Pairwise (· < ·) → ws.length ≤ 9 * p → (∀ y, y ∈ ws → y % 81 < 9 * p) → (wyO es us1 us2 81 w k p ws).Pairwise (· < ·) ∧ ∀ y, y ∈ wyO es us1 us2 81 w k p ws ↔ y ∈ ws ∨ ∃ r t, p ≤ r ∧ r < p + k ∧ t ≤ us2.length ∧ wyM es (rlN us1 r) (rlN us2 t) r t w = some y
  | 0, p, ws, _, h1, h2, h3 => ⟨h1, fun y => ⟨Or.inl, fun q => by rcases q with q | ⟨r, t, a, b, _⟩; (exact q); omega⟩⟩
  | k + 1, p, ws, hk, h1, h2, h3 => by
    rw [wyO]
    obtain ⟨s1, s2, s3, s4⟩ := wyS_all (es := es) (u1 := rlN us1 p) (us2 := us2) (w := w) (show p < 9 by omega) (us2.length + 1) 0 ws (by omega) h1 (by omega) (fun y hy => by have := h3 y hy; omega)
    obtain ⟨k1, k2⟩ := wyO_all (es := es) (us1 := us1) (us2 := us2) (w := w) h2l k (p + 1) _ (by omega) s1 (by omega) (fun y hy => by have := s3 y hy; omega)
    refine ⟨k1, fun y => ?_⟩
    rw [k2, s4]
    constructor
    · rintro ((q | ⟨t, a, b, c⟩) | ⟨r, t, a, b, c, d⟩)
      · exact Or.inl q
      · exact Or.inr ⟨p, t, Nat.le_refl _, by omega, by omega, c⟩
      · exact Or.inr ⟨r, t, by omega, by omega, c, d⟩
    · rintro (q | ⟨r, t, a, b, c, d⟩)
      · exact Or.inl (Or.inl q)
      · by_cases z : r = p
        · subst z; exact Or.inl (Or.inr ⟨t, Nat.zero_le _, by omega, d⟩)
        · exact Or.inr ⟨r, t, by omega, by omega, c, d⟩
/-! the list of ways, entry by entry -/
def eS (us1 us2 : List RuR) (w : List Nat) (i : Nat) (x : List Nat × Nat) (p : Nat) : Nat → Nat → List Nat
  | 0, _ => []
  | k + 1, s => (if mkO (rl2 us1 p) (rl2 us2 s) x = some w then [(i * 9 + p) * 9 + s] else []) ++ eS us1 us2 w i x p k (s + 1)
def eP (us1 us2 : List RuR) (w : List Nat) (i : Nat) (x : List Nat × Nat) : Nat → Nat → List Nat
  | 0, _ => []
  | k + 1, p => eS us1 us2 w i x p (us2.length + 1) 0 ++ eP us1 us2 w i x k (p + 1)
def eE (us1 us2 : List RuR) (w : List Nat) : List (List Nat × Nat) → Nat → List Nat
  | [], _ => []
  | x :: l, i => eP us1 us2 w i x (us1.length + 1) 0 ++ eE us1 us2 w l (i + 1)
theorem eS_all {us1 us2 : List RuR} {w : List Nat} {i : Nat} {x : List Nat × Nat} {p : Nat} : ∀ k s, (eS us1 us2 w i x p k s).Pairwise (· < ·) ∧ ∀ y, y ∈ eS us1 us2 w i x p k s ↔ ∃ t, s ≤ t ∧ t < s + k ∧ mkO (rl2 us1 p) (rl2 us2 t) x = some w ∧ y = (i * 9 + p) * 9 + t
  | 0, s => ⟨List.Pairwise.nil, fun y => ⟨fun q => (by cases q), fun ⟨t, a, b, _⟩ => by omega⟩⟩
  | k + 1, s => by
    obtain ⟨h1, h2⟩ := eS_all (us1 := us1) (us2 := us2) (w := w) (i := i) (x := x) (p := p) k (s + 1)
    rw [eS]
    by_cases z : mkO (rl2 us1 p) (rl2 us2 s) x = some w
    · rw [if_pos z, List.singleton_append]
      refine ⟨List.pairwise_cons.mpr ⟨fun b hb => ?_, h1⟩, fun y => ?_⟩
      · obtain ⟨t, a, _, _, e⟩ := (h2 b).mp hb
        omega
      · rw [List.mem_cons, h2]
        constructor
        · rintro (q | ⟨t, a, b, c, d⟩)
          · exact ⟨s, Nat.le_refl _, by omega, z, q⟩
          · exact ⟨t, by omega, by omega, c, d⟩
        · rintro ⟨t, a, b, c, d⟩
          by_cases q : t = s
          · subst q; exact Or.inl d
          · exact Or.inr ⟨t, by omega, by omega, c, d⟩
    · rw [if_neg z, List.nil_append]
      refine ⟨h1, fun y => ?_⟩
      rw [h2]
      constructor
      · rintro ⟨t, a, b, c, d⟩; exact ⟨t, by omega, by omega, c, d⟩
      · rintro ⟨t, a, b, c, d⟩
        by_cases q : t = s
        · subst q; exact absurd c z
        · exact ⟨t, by omega, by omega, c, d⟩
theorem eP_all {us1 us2 : List RuR} {w : List Nat} {i : Nat} {x : List Nat × Nat} (h2l : us2.length ≤ 8) : ∀ k p, (eP us1 us2 w i x k p).Pairwise (· < ·) ∧ ∀ y, y ∈ eP us1 us2 w i x k p ↔ ∃ r t, p ≤ r ∧ r < p + k ∧ t ≤ us2.length ∧ mkO (rl2 us1 r) (rl2 us2 t) x = some w ∧ y = (i * 9 + r) * 9 + t
  | 0, p => ⟨List.Pairwise.nil, fun y => ⟨fun q => (by cases q), fun ⟨r, t, a, b, _⟩ => by omega⟩⟩
  | k + 1, p => by
    obtain ⟨h1, h2⟩ := eP_all (us1 := us1) (us2 := us2) (w := w) (i := i) (x := x) h2l k (p + 1)
    obtain ⟨s1, s2⟩ := eS_all (us1 := us1) (us2 := us2) (w := w) (i := i) (x := x) (p := p) (us2.length + 1) 0
    rw [eP]
    refine ⟨List.pairwise_append.mpr ⟨s1, h1, fun a ha b hb => ?_⟩, fun y => ?_⟩
    · obtain ⟨t, _, e1, _, e2⟩ := (s2 a).mp ha
      obtain ⟨r, t2, e3, _, _, _, e4⟩ := (h2 b).mp hb
      omega
    · rw [List.mem_append, s2, h2]
      constructor
      · rintro (⟨t, a, b, c, d⟩ | ⟨r, t, a, b, c, d, e⟩)
        · exact ⟨p, t, Nat.le_refl _, by omega, by omega, c, d⟩
        · exact ⟨r, t, by omega, by omega, c, d, e⟩
      · rintro ⟨r, t, a, b, c, d, e⟩
        by_cases q : r = p
        · subst q; exact Or.inl ⟨t, Nat.zero_le _, by omega, d, e⟩
        · exact Or.inr ⟨r, t, by omega, by omega, c, d, e⟩
theorem eE_all {us1 us2 : List RuR} {w : List Nat} (h1l : us1.length ≤ 8) (h2l : us2.length ≤ 8) : ∀ (l : List (List Nat × Nat)) (i : Nat), (eE us1 us2 w l i).Pairwise (· < ·) ∧ ∀ y, y ∈ eE us1 us2 w l i ↔ ∃ j x, l[j]? = some x ∧ ∃ r t, r ≤ us1.length ∧ t ≤ us2.length ∧ mkO (rl2 us1 r) (rl2 us2 t) x = some w ∧ y = ((i + j) * 9 + r) * 9 + t
  | [], i => ⟨List.Pairwise.nil, fun y => ⟨fun q => (by cases q), fun ⟨j, x, a, _⟩ => by simp at a⟩⟩
  | x :: l, i => by
    obtain ⟨h1, h2⟩ := eE_all (us1 := us1) (us2 := us2) (w := w) h1l h2l l (i + 1)
    obtain ⟨s1, s2⟩ := eP_all (us1 := us1) (us2 := us2) (w := w) (i := i) (x := x) h2l (us1.length + 1) 0
    rw [eE]
    refine ⟨List.pairwise_append.mpr ⟨s1, h1, fun a ha b hb => ?_⟩, fun y => ?_⟩
    · obtain ⟨r, t, _, e1, e2, _, e3⟩ := (s2 a).mp ha
      obtain ⟨j, x2, _, r2, t2, e4, e5, _, e6⟩ := (h2 b).mp hb
      omega
    · rw [List.mem_append, s2, h2]
      constructor
      · rintro (⟨r, t, _, b, c, d, e⟩ | ⟨j, x2, a, r, t, b, c, d, e⟩)
        · exact ⟨0, x, rfl, r, t, by omega, c, d, e⟩
        · exact ⟨j + 1, x2, a, r, t, b, c, d, by rw [e]; omega⟩
      · rintro ⟨j, x2, a, r, t, b, c, d, e⟩
        cases j with
        | zero => cases a; exact Or.inl ⟨r, t, Nat.zero_le _, by omega, c, d, e⟩
        | succ j => exact Or.inr ⟨j, x2, a, r, t, b, c, d, by rw [e]; omega⟩
theorem wy_eE {es : List (Nat × List Nat × Nat)} {us1 us2 : List (Nat × RuR)} {w : List Nat} (h1l : us1.length ≤ 8) (h2l : us2.length ≤ 8) (hs : srtL (dws es)) (h16 : ∀ x, x ∈ es → x.2.1.length ≤ 16) (d1 : ∀ u, u ∈ rs2 us1 → noD u) (d2 : ∀ u, u ∈ rs2 us2 → noD u) : wyA es us1 us2 81 w = eE (rs2 us1) (rs2 us2) w (es2 es) 0 := by
  have hl1 : (rs2 us1).length = us1.length := List.length_map ..
  have hl2 : (rs2 us2).length = us2.length := List.length_map ..
  obtain ⟨a1, a2⟩ := wyO_all (es := es) (us1 := us1) (us2 := us2) (w := w) h2l (us1.length + 1) 0 [] (by omega) List.Pairwise.nil (Nat.zero_le _) (fun y hy => by cases hy)
  obtain ⟨b1, b2⟩ := eE_all (us1 := rs2 us1) (us2 := rs2 us2) (w := w) (by omega) (by omega) (es2 es) 0
  refine lt_ext a1 b1 (fun y => ?_)
  rw [a2, b2]
  constructor
  · rintro (q | ⟨r, t, _, b, c, d⟩)
    · cases q
    · rw [rlN_rl2, rlN_rl2] at d
      obtain ⟨i, x, hi, hm, hc⟩ := (wyM_iff (noD_rl2 d1 r) (noD_rl2 d2 t) hs h16).mp d
      exact ⟨i, x.2, by rw [es2, List.getElem?_map, hi]; rfl, r, t, by omega, by omega, hm, by rw [hc, Nat.zero_add]⟩
  · rintro ⟨j, x, a, r, t, b, c, d, e⟩
    refine Or.inr ⟨r, t, Nat.zero_le _, by omega, by omega, ?_⟩
    rw [es2, List.getElem?_map] at a
    cases hq : es[j]? with
    | none => rw [hq] at a; cases a
    | some y2 =>
      rw [hq] at a
      have : y2.2 = x := Option.some.inj a
      rw [rlN_rl2, rlN_rl2]
      exact (wyM_iff (noD_rl2 d1 r) (noD_rl2 d2 t) hs h16).mpr ⟨j, y2, hq, by rw [this]; exact d, by rw [e, Nat.zero_add]⟩
/-! the texts of the ways -/
theorem wyX_at {es : List (Nat × List Nat × Nat)} {i p s : Nat} {x : Nat × List Nat × Nat} (h : es[i]? = some x) (hp : p < 9) (hs : s < 9) : wyX es ((i * 9 + p) * 9 + s) = wyT x.2.1 p s := by
  unfold wyX
  rw [show ((i * 9 + p) * 9 + s) / 81 = i by omega, show ((i * 9 + p) * 9 + s) / 9 % 9 = p by omega, show ((i * 9 + p) * 9 + s) % 9 = s by omega, h]
  rfl
theorem eS_map {es : List (Nat × List Nat × Nat)} {us1 us2 : List RuR} {w : List Nat} {i p : Nat} {x : Nat × List Nat × Nat} (h : es[i]? = some x) (hp : p < 9) : ∀ k s, s + k ≤ 9 → (eS us1 us2 w i x.2 p k s).map (wyX es) = whS us1 us2 w x.2 p k s
  | 0, s, _ => rfl
  | k + 1, s, hk => by
    rw [eS, whS, List.map_append, eS_map h hp k (s + 1) (by omega)]
    congr 1
    unfold wyI1
    split
    · rw [List.map_cons, List.map_nil, wyX_at h hp (by omega)]
    · rfl
theorem eP_map {es : List (Nat × List Nat × Nat)} {us1 us2 : List RuR} {w : List Nat} {i : Nat} {x : Nat × List Nat × Nat} (h : es[i]? = some x) (h2l : us2.length ≤ 8) : ∀ k p, p + k ≤ 9 → (eP us1 us2 w i x.2 k p).map (wyX es) = whP us1 us2 w x.2 k p
  | 0, p, _ => rfl
  | k + 1, p, hk => by rw [eP, whP, List.map_append, eP_map h h2l k (p + 1) (by omega), eS_map h (by omega) _ _ (by omega)]
theorem eE_map {es : List (Nat × List Nat × Nat)} {us1 us2 : List RuR} {w : List Nat} (h1l : us1.length ≤ 8) (h2l : us2.length ≤ 8) : ∀ (l : List (Nat × List Nat × Nat)) (i : Nat), (∀ j x, l[j]? = some x → es[i + j]? = some x) → (eE us1 us2 w (es2 l) i).map (wyX es) = whE us1 us2 w (es2 l)
  | [], _, _ => rfl
  | x :: l, i, h => by
    show (eE us1 us2 w (x.2 :: es2 l) i).map _ = whE us1 us2 w (x.2 :: es2 l)
    rw [eE, whE, List.map_append, eE_map h1l h2l l (i + 1) (fun j y hy => by have := h (j + 1) y hy; rwa [show i + (j + 1) = i + 1 + j by omega] at this), eP_map (i := i) (h 0 x rfl) h2l _ _ (by omega)]
theorem why_eq {es : List (Nat × List Nat × Nat)} {us1 us2 : List (Nat × RuR)} {w : List Nat} (h1l : us1.length ≤ 8) (h2l : us2.length ≤ 8) (hs : srtL (dws es)) (h16 : ∀ x, x ∈ es → x.2.1.length ≤ 16) (d1 : ∀ u, u ∈ rs2 us1 → noD u) (d2 : ∀ u, u ∈ rs2 us2 → noD u) : whE (rs2 us1) (rs2 us2) w (es2 es) = (wyA es us1 us2 81 w).map (wyX es) := by
  rw [wy_eE h1l h2l hs h16 d1 d2]
  exact (eE_map (by rw [rs2, List.length_map]; exact h1l) (by rw [rs2, List.length_map]; exact h2l) es 0 (fun j x hj => by rw [Nat.zero_add]; exact hj)).symm
