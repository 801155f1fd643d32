/-! A NEW ENTRY: the piece read from the stroke, and from its letters -/
theorem sc_uniq {p : Nat → Bool} {e s t : Nat} (hs : s ≤ t) (ht : t ≤ e) (hall : ∀ i, s ≤ i → i < t → p i = true) (hend : t = e ∨ p t = false) : sc p e s = t := by
  have h1 := sc_ge p e s
  have h2 := sc_le (p := p) (show s ≤ e by omega)
  by_cases z : sc p e s < t
  · have := sc_stop (p := p) (e := e) (i := s) (by omega) (by omega)
    rw [hall _ h1 z] at this
    cases this
  · by_cases z2 : t < sc p e s
    · have := sc_all (p := p) (e := e) hs z2
      rcases hend with q | q
      · omega
      · rw [q] at this; cases this
    · omega
def strk (tx : List Nat) (e s : Nat) : Nat := sc (fun i => decide (tx.getD i 0 ≠ 47)) e s
theorem strk_le {tx : List Nat} {e s : Nat} (h : s ≤ e) : s ≤ strk tx e s ∧ strk tx e s ≤ e := ⟨sc_ge _ _ _, sc_le h⟩
theorem strk_at {tx : List Nat} {e s : Nat} (h : s ≤ e) (h2 : strk tx e s < e) : tx.getD (strk tx e s) 0 = 47 := by
  have := sc_stop (p := fun i => decide (tx.getD i 0 ≠ 47)) (e := e) (i := s) h2 h
  simpa [strk] using this
/-- what the reference finds of the piece -/
def adR (tx : List Nat) (s e : Nat) : Option Nat := if alO tx s (strk tx e s) 16 false = true then (if strk tx e s = e then some 0 else if 1 < e - strk tx e s then fgF tx (e - (strk tx e s + 1)) (strk tx e s + 1) 0 else none) else none
theorem isLet_47 {c : Nat} (h : isLet c = true) : c ≠ 47 := by
  have := of_decide_eq_true h
  omega
theorem ad_eq {tx : List Nat} {le e : Nat} (he : e ≤ le) (h : nxS tx le e < nxE tx le e) : adR tx (nxS tx le e) (nxE tx le e) = (if adG tx le e = true then adF tx le e else none) ∧ (adG tx le e = true → adL tx le e = strk tx (nxE tx le e) (nxS tx le e) - nxS tx le e) := by
  unfold adG adF adL
  generalize nxS tx le e = S at h ⊢
  generalize nxE tx le e = E at h ⊢
  have hk := strk_le (tx := tx) (show S ≤ E by omega)
  have hl1 := sc_ge (fun i => isLet (tx.getD i 0)) E S
  have hl2 := sc_le (p := fun i => isLet (tx.getD i 0)) (show S ≤ E by omega)
  have ep : ptL tx false = fun i => isLet (tx.getD i 0) := by funext i; rw [ptL, Bool.false_and, Bool.or_false]
  have hld : ldL tx E S = sc (fun i => isLet (tx.getD i 0)) E S := rfl
  obtain ⟨T, hT⟩ : ∃ x, x = strk tx E S := ⟨_, rfl⟩
  unfold adR
  rw [← hT] at hk ⊢
  by_cases ha : alO tx S T 16 false = true
  · rw [if_pos ha]
    unfold alO at ha
    rw [ep, Bool.and_eq_true, Bool.and_eq_true, decide_eq_true_iff, decide_eq_true_iff, decide_eq_true_iff] at ha
    obtain ⟨⟨a1, a2⟩, a3⟩ := ha
    have hL : ldL tx E S = T := by
      rw [hld]
      refine sc_uniq (by omega) hk.2 (fun i h1 h2 => sc_all (p := fun i => isLet (tx.getD i 0)) (e := T) h1 (by omega)) ?_
      by_cases z : T = E
      · exact Or.inl z
      · have := strk_at (tx := tx) (e := E) (s := S) (by omega) (by omega)
        rw [← hT] at this
        right
        rw [this]
        decide
    rw [hL, show S + (T - S) = T by omega]
    refine ⟨?_, fun _ => rfl⟩
    unfold flB
    rw [decide_eq_true ⟨h, by omega, by omega⟩, Bool.true_and]
    by_cases z : T = E
    · rw [if_pos z, if_pos z]; rfl
    · rw [if_neg z, if_neg z]
      have h47 := strk_at (tx := tx) (e := E) (s := S) (by omega) (by omega)
      rw [← hT] at h47
      by_cases z2 : 1 < E - T
      · have c47 : tx.getD T 0 = 47 ∧ T + 1 ≠ E := ⟨h47, by omega⟩
        simp only [if_pos z2, if_pos c47]
        cases fgF tx (E - (T + 1)) (T + 1) 0 <;> rfl
      · have c47 : ¬ (tx.getD T 0 = 47 ∧ T + 1 ≠ E) := fun q => q.2 (by omega)
        simp only [if_neg z2, if_neg c47]
        rfl
  · rw [if_neg ha]
    have hG : ¬ ((decide (S < E ∧ 1 ≤ ldL tx E S - S ∧ ldL tx E S - S ≤ 16) && (flB tx E (S + (ldL tx E S - S))).isSome) = true) := by
      intro q
      rw [Bool.and_eq_true, decide_eq_true_iff] at q
      obtain ⟨⟨q1, q2, q3⟩, q4⟩ := q
      rw [show S + (ldL tx E S - S) = ldL tx E S by rw [hld]; omega] at q4
      apply ha
      have hT2 : T = ldL tx E S := by
        rw [hT]
        refine sc_uniq (by rw [hld]; omega) (by rw [hld]; omega) (fun i h1 h2 => decide_eq_true (isLet_47 (sc_all (p := fun i => isLet (tx.getD i 0)) (e := E) h1 (by rw [hld] at h2; exact h2)))) ?_
        by_cases z : ldL tx E S = E
        · exact Or.inl z
        · right
          unfold flB at q4
          rw [if_neg z] at q4
          by_cases z2 : tx.getD (ldL tx E S) 0 = 47 ∧ ldL tx E S + 1 ≠ E
          · exact decide_eq_false (fun q => q z2.1)
          · rw [if_neg z2] at q4; cases q4
      unfold alO
      rw [ep, Bool.and_eq_true, Bool.and_eq_true, decide_eq_true_iff, decide_eq_true_iff, decide_eq_true_iff]
      refine ⟨⟨by omega, by omega⟩, ?_⟩
      refine sc_uniq (by omega) (Nat.le_refl _) (fun i h1 h2 => sc_all (p := fun i => isLet (tx.getD i 0)) (e := E) h1 (by rw [hT2, hld] at h2; exact h2)) (Or.inl rfl)
    rw [if_neg hG]
    exact ⟨rfl, fun q => absurd q hG⟩
/-! permutations of entries -/
theorem er_perm {α : Type} : ∀ {l : List α} {i : Nat} {x : α}, l[i]? = some x → l.Perm (x :: l.eraseIdx i)
  | [], i, x, h => by simp at h
  | a :: l, 0, x, h => by
    cases h
    exact List.Perm.refl _
  | a :: l, i + 1, x, h => by
    have := er_perm (l := l) (i := i) (x := x) h
    exact (List.Perm.cons a this).trans (List.Perm.swap x a _)
theorem set_perm {α : Type} : ∀ {l : List α} {i : Nat} {x y : α}, l[i]? = some x → (l.set i y).Perm (y :: l.eraseIdx i)
  | [], i, x, y, h => by simp at h
  | a :: l, 0, x, y, h => List.Perm.refl _
  | a :: l, i + 1, x, y, h => by
    have := set_perm (l := l) (i := i) (x := x) (y := y) h
    exact (List.Perm.cons a this).trans (List.Perm.swap y a _)
theorem er_cong {α : Type} {l m : List α} {i j : Nat} {x : α} (h : l.Perm m) (h1 : l[i]? = some x) (h2 : m[j]? = some x) : (l.eraseIdx i).Perm (m.eraseIdx j) := List.Perm.cons_inv (((er_perm h1).symm.trans h).trans (er_perm h2))
theorem set_cong {α : Type} {l m : List α} {i j : Nat} {x y : α} (h : l.Perm m) (h1 : l[i]? = some x) (h2 : m[j]? = some x) : (l.set i y).Perm (m.set j y) := ((set_perm h1).trans (List.Perm.cons y (er_cong h h1 h2))).trans (set_perm h2).symm
theorem insA_perm {α : Type} {l : List α} {r : Nat} {x : α} : (insA l r x).Perm (x :: l) := by
  unfold insA
  have := List.perm_middle (a := x) (l₁ := l.take r) (l₂ := l.drop r)
  rw [List.take_append_drop] at this
  exact this
