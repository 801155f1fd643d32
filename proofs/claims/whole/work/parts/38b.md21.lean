/-! WORDS THAT BEGIN WITH A WORD lie together -/
theorem bg_iff {v w : List Nat} : bgO v w = true ↔ ∃ t, v = w ++ t := by
  unfold bgO
  rw [decide_eq_true_iff]
  constructor
  · rintro ⟨h1, h2⟩
    refine ⟨v.drop w.length, ?_⟩
    have := List.take_append_drop w.length v
    rw [h2] at this
    exact this.symm
  · rintro ⟨t, rfl⟩
    exact ⟨by rw [List.length_append]; omega, List.take_left⟩
theorem cmp_app : ∀ (w t : List Nat), cmpL (w ++ t) w = (t.length : Int)
  | [], t => cmpL_nil_r t
  | c :: w, t => by rw [List.cons_append, cmpL_cons, if_pos rfl]; exact cmp_app w t
theorem bg_mid : ∀ (w a b : List Nat), ¬ cmpL a w < 0 → cmpL a b < 0 → bgO b w = true → bgO a w = true
  | [], a, b, _, _, _ => bg_iff.mpr ⟨a, rfl⟩
  | c :: w, a, b, h1, h2, h3 => by
    obtain ⟨t, rfl⟩ := bg_iff.mp h3
    cases a with
    | nil => rw [cmpL_nil_l] at h1; simp at h1
    | cons d a =>
      rw [List.cons_append, cmpL_cons] at h2
      rw [cmpL_cons] at h1
      have hd : d = c := by
        by_cases z : d = c
        · exact z
        · rw [if_neg z] at h1 h2; omega
      subst hd
      rw [if_pos rfl] at h1 h2
      obtain ⟨t2, e⟩ := bg_iff.mp (bg_mid w a (w ++ t) h1 h2 (bg_iff.mpr ⟨t, rfl⟩))
      exact bg_iff.mpr ⟨t2, by rw [e]; rfl⟩
theorem lk_no {w v : List Nat} (h : cmpL v w < 0) : bgO v w = false := by
  cases q : bgO v w with
  | false => rfl
  | true =>
    obtain ⟨t, e⟩ := bg_iff.mp q
    rw [e, cmp_app] at h
    omega
theorem lk_tail {w : List Nat} : ∀ (l : List (Nat × List Nat × Nat)), srtL (dws l) → (∀ x, x ∈ l → ¬ cmpL x.2.1 w < 0) → (dws l).filter (fun v => bgO v w) = lkW w l
  | [], _, _ => rfl
  | x :: l, hs, h => by
    have hs2 : (∀ b ∈ dws l, cmpL x.2.1 b < 0) ∧ srtL (dws l) := hs
    have ih := lk_tail (w := w) l hs2.2 (fun y hy => h y (List.mem_cons_of_mem _ hy))
    rw [lkW]
    by_cases z : bgO x.2.1 w = true
    · rw [if_pos z, ← ih]
      exact List.filter_cons_of_pos z
    · rw [if_neg z]
      rw [List.filter_eq_nil_iff]
      intro v hv q
      rcases List.mem_cons.mp (show v ∈ x.2.1 :: dws l from hv) with e | e
      · rw [e] at q; exact z q
      · exact z (bg_mid w x.2.1 v (h x List.mem_cons_self) (hs2.1 v e) q)
theorem lk_eq {es : List (Nat × List Nat × Nat)} {w : List Nat} (hs : srtL (dws es)) : (wsD (es2 es)).filter (fun v => bgO v w) = lkW w (es.drop (rnkL w (dws es))) := by
  rw [wsD_es2]
  have e : dws es = dws (es.take (rnkL w (dws es))) ++ dws (es.drop (rnkL w (dws es))) := by
    unfold dws
    rw [← List.map_append, List.take_append_drop]
  have hs2 := hs
  rw [e] at hs2
  obtain ⟨k1, k2, k3⟩ := srtL_app.mp hs2
  have h1 : (dws (es.take (rnkL w (dws es)))).filter (fun v => bgO v w) = [] := by
    rw [List.filter_eq_nil_iff]
    intro v hv q
    obtain ⟨i, hi, e1⟩ := List.getElem_of_mem hv
    have hi2 : i < rnkL w (dws es) := by
      have hl : (dws (es.take (rnkL w (dws es)))).length = (es.take (rnkL w (dws es))).length := List.length_map ..
      rw [hl, List.length_take] at hi
      omega
    have : (dws es)[i]? = some v := by
      rw [e, List.getElem?_append_left hi, List.getElem?_eq_getElem hi, e1]
    rw [lk_no (rnkL_lt w this hi2)] at q
    cases q
  have h2 : ∀ x, x ∈ es.drop (rnkL w (dws es)) → ¬ cmpL x.2.1 w < 0 := fun x hx => by
    obtain ⟨i, hi, e1⟩ := List.getElem_of_mem hx
    have : (dws es)[rnkL w (dws es) + i]? = some x.2.1 := by
      refine dws_at ?_
      rw [← List.getElem?_drop, List.getElem?_eq_getElem hi, e1]
    exact rnkL_ge w hs this (by omega)
  have h3 := lk_tail (w := w) _ k2 h2
  generalize rnkL w (dws es) = r at *
  rw [e, List.filter_append, h1, List.nil_append]
  exact h3
/-! the forms, as a set -/
theorem fS_mem {us1 us2 : List RuR} {x : List Nat × Nat} {p : Nat} {w : List Nat} : ∀ k s, w ∈ fS us1 us2 x p k s ↔ ∃ t, s ≤ t ∧ t < s + k ∧ mkO (rl2 us1 p) (rl2 us2 t) x = some w
  | 0, s => ⟨fun q => (by cases q), fun ⟨t, a, b, _⟩ => by omega⟩
  | k + 1, s => by
    rw [fS, List.mem_append, Option.mem_toList, fS_mem k (s + 1)]
    constructor
    · rintro (q | ⟨t, a, b, c⟩)
      · exact ⟨s, Nat.le_refl _, by omega, q⟩
      · exact ⟨t, by omega, by omega, c⟩
    · rintro ⟨t, a, b, c⟩
      by_cases q : t = s
      · subst q; exact Or.inl c
      · exact Or.inr ⟨t, by omega, by omega, c⟩
theorem fP_mem {us1 us2 : List RuR} {x : List Nat × Nat} {w : List Nat} : ∀ k p, w ∈ fP us1 us2 x k p ↔ ∃ r t, p ≤ r ∧ r < p + k ∧ t ≤ us2.length ∧ mkO (rl2 us1 r) (rl2 us2 t) x = some w
  | 0, p => ⟨fun q => (by cases q), fun ⟨r, t, a, b, _⟩ => by omega⟩
  | k + 1, p => by
    rw [fP, List.mem_append, fS_mem, fP_mem k (p + 1)]
    constructor
    · rintro (⟨t, a, b, c⟩ | ⟨r, t, a, b, c, d⟩)
      · exact ⟨p, t, Nat.le_refl _, by omega, by omega, c⟩
      · exact ⟨r, t, by omega, by omega, c, d⟩
    · rintro ⟨r, t, a, b, c, d⟩
      by_cases q : r = p
      · subst q; exact Or.inl ⟨t, Nat.zero_le _, by omega, d⟩
      · exact Or.inr ⟨r, t, by omega, by omega, c, d⟩
theorem mk_go {u1 u2 : RuR} {w : List Nat} {ef : Nat} {f : List Nat} : mkO u1 u2 (w, ef) = some f ↔ goO true u1.1 u1.2.1 u1.2.2.2 w ef = true ∧ goO false u2.1 u2.2.1 u2.2.2.2 w ef = true ∧ fmF u1 u2 w = some f := by
  unfold mkO
  constructor
  · intro h
    by_cases z : (goO true u1.1 u1.2.1 u1.2.2.2 w ef && goO false u2.1 u2.2.1 u2.2.2.2 w ef) = true
    · rw [if_pos z] at h
      rw [Bool.and_eq_true] at z
      exact ⟨z.1, z.2, h⟩
    · rw [if_neg z] at h; cases h
  · rintro ⟨a, b, c⟩
    rw [a, b, if_pos (by decide)]
    exact c
theorem fmS_all {u1 : RuR} {us2 : List (Nat × RuR)} {w : List Nat} {ef : Nat} : ∀ (k s : Nat) (ws : List (List Nat)), srtL ws → srtL (fmS u1 us2 w ef k s ws) ∧ ∀ f, f ∈ fmS u1 us2 w ef k s ws ↔ f ∈ ws ∨ ∃ t, s ≤ t ∧ t < s + k ∧ goO false (rlN us2 t).1 (rlN us2 t).2.1 (rlN us2 t).2.2.2 w ef = true ∧ fmF u1 (rlN us2 t) w = some f
  | 0, s, ws, h => ⟨h, fun f => ⟨Or.inl, fun q => by rcases q with q | ⟨t, a, b, _⟩; (exact q); omega⟩⟩
  | k + 1, s, ws, h => by
    rw [fmS]
    have step : srtL (fmP u1 (rlN us2 s) w ef ws) ∧ ∀ f, f ∈ fmP u1 (rlN us2 s) w ef ws ↔ f ∈ ws ∨ (goO false (rlN us2 s).1 (rlN us2 s).2.1 (rlN us2 s).2.2.2 w ef = true ∧ fmF u1 (rlN us2 s) w = some f) := by
      unfold fmP
      by_cases z : goO false (rlN us2 s).1 (rlN us2 s).2.1 (rlN us2 s).2.2.2 w ef = true
      · rw [if_pos z]
        cases hf : fmF u1 (rlN us2 s) w with
        | none => exact ⟨h, fun f => ⟨Or.inl, fun q => by rcases q with q | ⟨_, q⟩; (exact q); cases q⟩⟩
        | some g =>
          refine ⟨addW_srt h, fun f => ?_⟩
          rw [mem_addW]
          constructor
          · rintro (q | q)
            · exact Or.inr ⟨z, by rw [q]⟩
            · exact Or.inl q
          · rintro (q | ⟨_, q⟩)
            · exact Or.inr q
            · exact Or.inl (Option.some.inj q).symm
      · rw [if_neg z]
        exact ⟨h, fun f => ⟨Or.inl, fun q => by rcases q with q | ⟨q, _⟩; (exact q); exact absurd q z⟩⟩
    obtain ⟨k1, k2⟩ := fmS_all (u1 := u1) (us2 := us2) (w := w) (ef := ef) k (s + 1) _ step.1
    refine ⟨k1, fun f => ?_⟩
    rw [k2, step.2]
    constructor
    · rintro ((q | q) | ⟨t, a, b, c⟩)
      · exact Or.inl q
      · exact Or.inr ⟨s, Nat.le_refl _, by omega, q⟩
      · exact Or.inr ⟨t, by omega, by omega, c⟩
    · rintro (q | ⟨t, a, b, c⟩)
      · exact Or.inl (Or.inl q)
      · by_cases z : t = s
        · subst z; exact Or.inl (Or.inr c)
        · exact Or.inr ⟨t, by omega, by omega, c⟩
theorem fmO_all {us1 us2 : List (Nat × RuR)} {w : List Nat} {ef : Nat} : ∀ (k p : Nat) (ws : List (List Nat)), srtL ws → srtL (fmO us1 us2 w ef k p ws) ∧ ∀ f, f ∈ fmO us1 us2 w ef k p ws ↔ f ∈ ws ∨ ∃ r t, p ≤ r ∧ r < p + k ∧ t ≤ us2.length ∧ mkO (rlN us1 r) (rlN us2 t) (w, ef) = some f
  | 0, p, ws, h => ⟨h, fun f => ⟨Or.inl, fun q => by rcases q with q | ⟨r, t, a, b, _⟩; (exact q); omega⟩⟩
  | k + 1, p, ws, h => by
    rw [fmO]
    have step : srtL (if goO true (rlN us1 p).1 (rlN us1 p).2.1 (rlN us1 p).2.2.2 w ef = true then fmS (rlN us1 p) us2 w ef (us2.length + 1) 0 ws else ws) ∧ ∀ f, (f ∈ if goO true (rlN us1 p).1 (rlN us1 p).2.1 (rlN us1 p).2.2.2 w ef = true then fmS (rlN us1 p) us2 w ef (us2.length + 1) 0 ws else ws) ↔ f ∈ ws ∨ ∃ t, t ≤ us2.length ∧ mkO (rlN us1 p) (rlN us2 t) (w, ef) = some f := by
      by_cases z : goO true (rlN us1 p).1 (rlN us1 p).2.1 (rlN us1 p).2.2.2 w ef = true
      · rw [if_pos z]
        obtain ⟨s1, s2⟩ := fmS_all (u1 := rlN us1 p) (us2 := us2) (w := w) (ef := ef) (us2.length + 1) 0 ws h
        refine ⟨s1, fun f => ?_⟩
        rw [s2]
        constructor
        · rintro (q | ⟨t, a, b, c, d⟩)
          · exact Or.inl q
          · exact Or.inr ⟨t, by omega, mk_go.mpr ⟨z, c, d⟩⟩
        · rintro (q | ⟨t, a, b⟩)
          · exact Or.inl q
          · obtain ⟨_, c, d⟩ := mk_go.mp b
            exact Or.inr ⟨t, Nat.zero_le _, by omega, c, d⟩
      · rw [if_neg z]
        exact ⟨h, fun f => ⟨Or.inl, fun q => by rcases q with q | ⟨t, _, q⟩; (exact q); exact absurd (mk_go.mp q).1 z⟩⟩
    obtain ⟨k1, k2⟩ := fmO_all (us1 := us1) (us2 := us2) (w := w) (ef := ef) k (p + 1) _ step.1
    refine ⟨k1, fun f => ?_⟩
    rw [k2, step.2]
    constructor
    · rintro ((q | ⟨t, a, b⟩) | ⟨r, t, a, b, c⟩)
      · exact Or.inl q
      · exact Or.inr ⟨p, t, Nat.le_refl _, by omega, a, b⟩
      · exact Or.inr ⟨r, t, by omega, by omega, c⟩
    · rintro (q | ⟨r, t, a, b, c, d⟩)
      · exact Or.inl (Or.inl q)
      · by_cases z : r = p
        · subst z; exact Or.inl (Or.inr ⟨t, c, d⟩)
        · exact Or.inr ⟨r, t, by omega, by omega, c, d⟩
theorem frW_srt {es : List (Nat × List Nat × Nat)} {us1 us2 : List (Nat × RuR)} {w : List Nat} : srtL (frW es us1 us2 w) := by
  unfold frW
  split
  · split
    · exact (fmO_all _ _ [] trivial).1
    · trivial
  · trivial
theorem frX_yes {ds : List (List Nat × Nat)} {es : List (Nat × List Nat × Nat)} {us1 us2 : List (Nat × RuR)} {w : List Nat} (hs : srtL (dws es)) (hP : ds.Perm (es2 es)) : ∀ x, x ∈ ds → x.1 = w → ∀ f, f ∈ frW es us1 us2 w ↔ f ∈ fP (rs2 us1) (rs2 us2) x ((rs2 us1).length + 1) 0 := fun x hx hw f => by
  obtain ⟨e, he, e1⟩ := List.getElem_of_mem hx
  obtain ⟨h1, h2⟩ := ds_at hs hP (e := e) (x := x) (by rw [List.getElem?_eq_getElem he, e1])
  rw [hw] at h1 h2
  rw [es2, List.getElem?_map] at h2
  have hl1 : (rs2 us1).length = us1.length := List.length_map ..
  have hl2 : (rs2 us2).length = us2.length := List.length_map ..
  unfold frW
  cases hq : es[rnkL w (dws es)]? with
  | none => rw [hq] at h2; cases h2
  | some y =>
    rw [hq] at h2
    have hy : y.2 = x := Option.some.inj h2
    dsimp only
    rw [if_pos (by rw [hy]; exact hw), (fmO_all _ _ [] trivial).2, fP_mem]
    have hxx : (w, y.2.2) = x := by rw [hy, ← hw]
    rw [hxx]
    constructor
    · rintro (q | ⟨r, t, a, b, c, d⟩)
      · cases q
      · exact ⟨r, t, a, by omega, by omega, by rw [← rlN_rl2, ← rlN_rl2]; exact d⟩
    · rintro ⟨r, t, a, b, c, d⟩
      exact Or.inr ⟨r, t, a, by omega, by omega, by rw [rlN_rl2, rlN_rl2]; exact d⟩
theorem frX_no {ds : List (List Nat × Nat)} {es : List (Nat × List Nat × Nat)} {us1 us2 : List (Nat × RuR)} {w : List Nat} (hs : srtL (dws es)) (hP : ds.Perm (es2 es)) (h : w ∉ wsD ds) : frW es us1 us2 w = [] := by
  have k := fnd_no hs (fun q => h ((ds_dws hP).mpr q))
  unfold frW
  cases hq : es[rnkL w (dws es)]? with
  | none => rfl
  | some y => exact if_neg (k y hq)
/-! a word is right, or not -/
theorem wyP_len {lim : Nat} {ws : List Nat} {q : Option Nat} (hl : 0 < lim) : (wyP lim ws q).length = 0 ↔ ws.length = 0 ∧ q = none := by
  cases q with
  | none => rw [wyP_none]; exact ⟨fun h => ⟨h, rfl⟩, fun h => h.1⟩
  | some c =>
    unfold wyP
    split
    · rw [insA_len (posN_le _ _)]
      exact ⟨fun h => by omega, fun h => by cases h.2⟩
    · exact ⟨fun h => by omega, fun h => by cases h.2⟩
theorem wyS_len {es : List (Nat × List Nat × Nat)} {u1 : RuR} {us2 : List (Nat × RuR)} {p lim : Nat} {w : List Nat} (hl : 0 < lim) : ∀ (k s : Nat) (ws : List Nat), (wyS es u1 us2 p lim w k s ws).length = 0 ↔ ws.length = 0 ∧ ∀ t, s ≤ t → t < s + k → wyM es u1 (rlN us2 t) p t w = none
  | 0, s, ws => ⟨fun h => ⟨h, fun t a b => by omega⟩, fun h => h.1⟩
  | k + 1, s, ws => by
    rw [wyS, wyS_len hl k (s + 1), wyP_len hl]
    constructor
    · rintro ⟨⟨a, b⟩, c⟩
      refine ⟨a, fun t h1 h2 => ?_⟩
      by_cases z : t = s
      · rw [z]; exact b
      · exact c t (by omega) (by omega)
    · rintro ⟨a, b⟩
      exact ⟨⟨a, b s (Nat.le_refl _) (by omega)⟩, fun t h1 h2 => b t (by omega) (by omega)⟩
theorem wyO_len {es : List (Nat × List Nat × Nat)} {us1 us2 : List (Nat × RuR)} {lim : Nat} {w : List Nat} (hl : 0 < lim) : ∀ (k p : Nat) (ws : List Nat), (wyO es us1 us2 lim w k p ws).length = 0 ↔ ws.length = 0 ∧ ∀ r t, p ≤ r → r < p + k → t ≤ us2.length → wyM es (rlN us1 r) (rlN us2 t) r t w = none
  | 0, p, ws => ⟨fun h => ⟨h, fun r t a b => by omega⟩, fun h => h.1⟩
  | k + 1, p, ws => by
    rw [wyO, wyO_len hl k (p + 1), wyS_len hl]
    constructor
    · rintro ⟨⟨a, b⟩, c⟩
      refine ⟨a, fun r t h1 h2 h3 => ?_⟩
      by_cases z : r = p
      · rw [z]; exact b t (Nat.zero_le _) (by omega)
      · exact c r t (by omega) (by omega) h3
    · rintro ⟨a, b⟩
      exact ⟨⟨a, fun t h1 h2 => b p t (Nat.le_refl _) (by omega) (by omega)⟩, fun r t h1 h2 h3 => b r t (by omega) (by omega) h3⟩
theorem ck_iff {ds : List (List Nat × Nat)} {es : List (Nat × List Nat × Nat)} {us1 us2 : List (Nat × RuR)} {w : List Nat} (hs : srtL (dws es)) (hP : ds.Perm (es2 es)) (h16 : ∀ x, x ∈ es → x.2.1.length ≤ 16) (d1 : ∀ u, u ∈ rs2 us1 → noD u) (d2 : ∀ u, u ∈ rs2 us2 → noD u) : ckN es us1 us2 w = true ↔ ¬ rgt ds (rs2 us1) (rs2 us2) w := by
  have hl1 : (rs2 us1).length = us1.length := List.length_map ..
  have hl2 : (rs2 us2).length = us2.length := List.length_map ..
  unfold ckN
  rw [decide_eq_true_iff, wyO_len (by decide)]
  constructor
  · rintro ⟨-, h⟩ ⟨x, hx, p, hp, s, hs2, hm⟩
    obtain ⟨y, hy, e⟩ := List.mem_map.mp (hP.mem_iff.mp hx)
    obtain ⟨i, hi, e2⟩ := List.getElem_of_mem hy
    have k := h p s (Nat.zero_le _) (by omega) (by omega)
    rw [rlN_rl2, rlN_rl2] at k
    have := (wyM_iff (p := p) (s := s) (noD_rl2 d1 p) (noD_rl2 d2 s) hs h16).mpr ⟨i, y, by rw [List.getElem?_eq_getElem hi, e2], by rw [e]; exact hm, rfl⟩
    rw [k] at this
    cases this
  · intro h
    refine ⟨rfl, fun r t _ h2 h3 => ?_⟩
    cases hq : wyM es (rlN us1 r) (rlN us2 t) r t w with
    | none => rfl
    | some c =>
      rw [rlN_rl2, rlN_rl2] at hq
      obtain ⟨i, x, hi, hm, -⟩ := (wyM_iff (noD_rl2 d1 r) (noD_rl2 d2 t) hs h16).mp hq
      exact absurd ⟨x.2, hP.mem_iff.mpr (List.mem_map.mpr ⟨x, List.mem_of_getElem? hi, rfl⟩), r, by omega, t, by omega, hm⟩ h
