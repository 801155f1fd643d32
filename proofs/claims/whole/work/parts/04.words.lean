/-! what a method may change, by the tags -/
def gh_M (S : List Nat) (g g' : GH) : Prop := ∀ (q t : Nat) (e : va_E), g q = some (t, e) → t ∉ S → g' q = some (t, e)
theorem gh_M.rf {S : List Nat} {g : GH} : gh_M S g g := fun _ _ _ h _ => h
theorem gh_M.tr {S : List Nat} {g1 g2 g3 : GH} (h1 : gh_M S g1 g2) (h2 : gh_M S g2 g3) : gh_M S g1 g3 := fun q t e h hn => h2 q t e (h1 q t e h hn) hn
theorem gh_M.wd {S S' : List Nat} {g g' : GH} (h : gh_M S g g') (hs : ∀ t, t ∈ S → t ∈ S') : gh_M S' g g' := fun q t e hq hn => h q t e hq (fun z => hn (hs t z))
theorem gh_M.up {S : List Nat} {g : GH} {a t : Nat} {e0 e : va_E} (ha : g a = some (t, e0)) (ht : t ∈ S) : gh_M S g (gh_up g a t e) := fun q t1 e1 hq hn => by
  have hne : q ≠ a := fun z => by
    rw [z, ha] at hq
    cases hq
    exact hn ht
  rw [gh_un hne]
  exact hq
theorem gh_M.nw {S : List Nat} {g : GH} {a t : Nat} {e : va_E} (ha : g a = none) : gh_M S g (gh_up g a t e) := fun q t1 e1 hq hn => by
  have hne : q ≠ a := fun z => by rw [z, ha] at hq; cases hq
  rw [gh_un hne]
  exact hq
/-- what a method may change, by addresses -/
def gh_N (S : List Nat) (g g' : GH) : Prop := ∀ q : Nat, q ∉ S → g q ≠ none → g' q = g q
theorem gh_N.rf {S : List Nat} {g : GH} : gh_N S g g := fun _ _ _ => rfl
theorem gh_N.tr {S : List Nat} {g1 g2 g3 : GH} (h1 : gh_N S g1 g2) (h2 : gh_N S g2 g3) : gh_N S g1 g3 := fun q hq hn => by
  have e := h1 q hq hn
  rw [h2 q hq (by rw [e]; exact hn), e]
theorem gh_N.up {S : List Nat} {g : GH} {a t : Nat} {e : va_E} (ha : a ∈ S) : gh_N S g (gh_up g a t e) := fun q hq _ => gh_un (fun z => hq (z ▸ ha))
theorem gh_N.nw {S : List Nat} {g : GH} {a t : Nat} {e : va_E} (ha : g a = none) : gh_N S g (gh_up g a t e) := fun q _ hn => gh_un (fun z => hn (z ▸ ha))
theorem gh_N.wd {S S' : List Nat} {g g' : GH} (h : gh_N S g g') (hs : ∀ a, a ∈ S → a ∈ S') : gh_N S' g g' := fun q hq hn => h q (fun z => hq (hs q z)) hn
/-- cells that are new don't count -/
theorem gh_N.fresh {S S' : List Nat} {g g1 g' : GH} (h1 : gh_N S g g1) (h : gh_N S' g1 g') (hs : ∀ a, a ∈ S' → a ∈ S ∨ g a = none) : gh_N S g g' := fun q hq hn => by
  have e := h1 q hq hn
  rw [h q (fun z => (hs q z).elim hq hn) (by rw [e]; exact hn), e]
theorem gh_N.M {S T : List Nat} {g g' : GH} (h : gh_N S g g') (hs : ∀ a, a ∈ S → ∃ t e, g a = some (t, e) ∧ t ∈ T) : gh_M T g g' := fun q t e hq hn => by
  rw [h q (fun z => by
    obtain ⟨t1, e1, h1, h2⟩ := hs q z
    rw [hq] at h1
    cases h1
    exact hn h2) (by rw [hq]; exact fun z => by cases z)]
  exact hq
/-- chars in an array -/
def chs (f : Nat → Int32) (xs : List Nat) : Prop := ∀ (i x : Nat), xs[i]? = some x → f i = nI x ∧ x < 65536
theorem chs_nil {f : Nat → Int32} : chs f [] := fun i x h => by simp at h
theorem chs_app {f : Nat → Int32} {xs : List Nat} {c : Nat} (h : chs f xs) (hc : c < 65536) : chs (upd f xs.length (nI c)) (xs ++ [c]) := fun i x hi => by
  by_cases hl : i < xs.length
  · rw [List.getElem?_append_left hl] at hi
    obtain ⟨h1, h2⟩ := h i x hi
    exact ⟨by rw [pk_un (by omega)]; exact h1, h2⟩
  · rw [List.getElem?_append_right (by omega)] at hi
    have hz : i - xs.length < 1 := (List.getElem?_eq_some_iff.mp hi).1
    rw [show i - xs.length = 0 by omega] at hi
    cases hi
    rw [show i = xs.length by omega, pk_us]
    exact ⟨rfl, hc⟩
theorem slice_succ {ys : List Nat} {fr i : Nat} (h : fr + i < ys.length) : (ys.drop fr).take (i + 1) = (ys.drop fr).take i ++ [ys.getD (fr + i) 0] := by
  have hlt : i < (ys.drop fr).length := by rw [List.length_drop]; omega
  rw [List.take_succ_eq_append_getElem hlt, List.getElem_drop, List.getD_eq_getElem?_getD, List.getElem?_eq_getElem h]
  rfl
theorem slice_drop {ys : List Nat} {fr len i : Nat} (h : fr + len ≤ ys.length) (hi : i < len) : ((ys.drop fr).take len).drop i = ys.getD (fr + i) 0 :: ((ys.drop fr).take len).drop (i + 1) := by
  have hlt : i < ((ys.drop fr).take len).length := by rw [List.length_take, List.length_drop]; omega
  rw [List.drop_eq_getElem_cons hlt, List.getElem_take, List.getElem_drop, List.getD_eq_getElem?_getD, List.getElem?_eq_getElem (show fr + i < ys.length by omega)]
  rfl
theorem slice_len {ys : List Nat} {fr len : Nat} (h : fr + len ≤ ys.length) : ((ys.drop fr).take len).length = len := by rw [List.length_take, List.length_drop]; omega
theorem getD_some {ys : List Nat} {i : Nat} (h : i < ys.length) : ys[i]? = some (ys.getD i 0) := by rw [List.getD_eq_getElem?_getD, List.getElem?_eq_getElem h]; rfl
theorem ch_255 {x : Nat} (h : x < 128) : ((nI x &&& nI 255).toUInt32 % 65536).toInt32 = nI x := by
  rw [pk_char, show nI x &&& nI 255 = nI (x % 2 ^ 8) from pk_andN (by omega) 8 (by decide), pk_tn (by omega)]
  congr 1
  omega
theorem take_succD {ys : List Nat} {j : Nat} (h : j < ys.length) : ys.take (j + 1) = ys.take j ++ [ys.getD j 0] := by
  rw [List.take_succ_eq_append_getElem h, List.getD_eq_getElem?_getD, List.getElem?_eq_getElem h]
  rfl
theorem slice_getD {ys : List Nat} {fr len i : Nat} (h : fr + len ≤ ys.length) (hi : i < len) : ((ys.drop fr).take len).getD i 0 = ys.getD (fr + i) 0 := by
  rw [List.getD_eq_getElem?_getD, List.getElem?_take_of_lt hi, List.getElem?_drop, ← List.getD_eq_getElem?_getD]
/-! WORDS IN ORDER: comparison, rank, sorted lists (no machine here) -/
def cmpL : List Nat → List Nat → Int
  | [], ys => -(ys.length : Int)
  | x :: xs, [] => ((x :: xs).length : Int)
  | x :: xs, y :: ys => if x = y then cmpL xs ys else (x : Int) - (y : Int)
theorem cmpL_nil_r : ∀ xs : List Nat, cmpL xs [] = (xs.length : Int)
  | [] => rfl
  | _ :: _ => rfl
theorem cmpL_nil_l (ys : List Nat) : cmpL [] ys = -(ys.length : Int) := by cases ys <;> rfl
theorem cmpL_cons (x y : Nat) (xs ys : List Nat) : cmpL (x :: xs) (y :: ys) = if x = y then cmpL xs ys else (x : Int) - (y : Int) := rfl
theorem cmpL_anti : ∀ a b : List Nat, cmpL a b = - cmpL b a
  | [], b => by rw [cmpL_nil_l, cmpL_nil_r]
  | a :: as, [] => by rw [cmpL_nil_l, cmpL_nil_r]; omega
  | a :: as, b :: bs => by
    rw [cmpL_cons, cmpL_cons]
    by_cases h : a = b
    · rw [if_pos h, if_pos h.symm]; exact cmpL_anti as bs
    · rw [if_neg h, if_neg (fun z => h z.symm)]; omega
theorem cmpL_zero : ∀ a b : List Nat, cmpL a b = 0 ↔ a = b
  | [], [] => by simp [cmpL]
  | [], b :: bs => by
    rw [cmpL_nil_l]
    constructor
    · intro h
      have : ((b :: bs).length : Int) = 0 := by omega
      simp at this
      omega
    · intro h; cases h
  | a :: as, [] => by
    rw [cmpL_nil_r]
    constructor
    · intro h
      simp at h
      omega
    · intro h; cases h
  | a :: as, b :: bs => by
    rw [cmpL_cons]
    by_cases h : a = b
    · rw [if_pos h, cmpL_zero as bs]
      subst h
      simp
    · rw [if_neg h]
      constructor
      · intro z; exact absurd (by omega) h
      · intro z; cases z; exact absurd rfl h
theorem cmpL_trans : ∀ a b c : List Nat, cmpL a b < 0 → cmpL b c < 0 → cmpL a c < 0
  | [], b, c, _, h2 => by
    cases c with
    | nil => rw [cmpL_nil_r] at h2; omega
    | cons z zs => rw [cmpL_nil_l]; simp
  | a :: as, [], c, h1, _ => by rw [cmpL_nil_r] at h1; omega
  | a :: as, b :: bs, [], _, h2 => by rw [cmpL_nil_r] at h2; omega
  | a :: as, b :: bs, c :: cs, h1, h2 => by
    rw [cmpL_cons] at h1 h2 ⊢
    by_cases hab : a = b
    · subst hab
      rw [if_pos rfl] at h1
      by_cases hac : a = c
      · subst hac
        rw [if_pos rfl] at h2 ⊢
        exact cmpL_trans as bs cs h1 h2
      · rw [if_neg hac] at h2 ⊢
        exact h2
    · rw [if_neg hab] at h1
      by_cases hbc : b = c
      · subst hbc
        rw [if_neg hab]
        exact h1
      · rw [if_neg hbc] at h2
        rw [if_neg (by omega)]
        omega
theorem cmpL_self (a : List Nat) : cmpL a a = 0 := (cmpL_zero a a).mpr rfl
/-- strictly in order -/
def srtL : List (List Nat) → Prop
  | [] => True
  | a :: l => (∀ b ∈ l, cmpL a b < 0) ∧ srtL l
def rnkL (w : List Nat) : List (List Nat) → Nat
  | [] => 0
  | a :: l => if cmpL a w < 0 then rnkL w l + 1 else 0
theorem rnkL_le (w : List Nat) : ∀ l : List (List Nat), rnkL w l ≤ l.length
  | [] => Nat.le_refl 0
  | a :: l => by
    have := rnkL_le w l
    rw [rnkL]
    split <;> simp <;> omega
theorem srtL_get : ∀ {l : List (List Nat)} (_ : srtL l) {i j : Nat} {a b : List Nat}, i < j → l[i]? = some a → l[j]? = some b → cmpL a b < 0
  | [], _, i, j, a, b, _, ha, _ => by simp at ha
  | c :: l, h, i, j, a, b, hij, ha, hb => by
    cases j with
    | zero => omega
    | succ j =>
      rw [List.getElem?_cons_succ] at hb
      cases i with
      | zero =>
        rw [List.getElem?_cons_zero] at ha
        cases ha
        exact h.1 b (List.mem_of_getElem? hb)
      | succ i =>
        rw [List.getElem?_cons_succ] at ha
        exact srtL_get h.2 (by omega) ha hb
/-- below the rank the words are less, from it on they aren't -/
theorem rnkL_lt (w : List Nat) : ∀ {l : List (List Nat)} {i : Nat} {a : List Nat}, l[i]? = some a → i < rnkL w l → cmpL a w < 0
  | [], i, a, h, _ => by simp at h
  | c :: l, i, a, h, hi => by
    rw [rnkL] at hi
    split at hi
    · next hc =>
      cases i with
      | zero => rw [List.getElem?_cons_zero] at h; cases h; exact hc
      | succ i => rw [List.getElem?_cons_succ] at h; exact rnkL_lt w h (by omega)
    · omega
theorem rnkL_ge (w : List Nat) : ∀ {l : List (List Nat)} (_ : srtL l) {i : Nat} {a : List Nat}, l[i]? = some a → rnkL w l ≤ i → ¬ cmpL a w < 0
  | [], _, i, a, h, _ => by simp at h
  | c :: l, hs, i, a, h, hi => by
    rw [rnkL] at hi
    split at hi
    · next hc =>
      cases i with
      | zero => omega
      | succ i => rw [List.getElem?_cons_succ] at h; exact rnkL_ge w hs.2 h (by omega)
    · next hc =>
      cases i with
      | zero => rw [List.getElem?_cons_zero] at h; cases h; exact hc
      | succ i =>
        rw [List.getElem?_cons_succ] at h
        intro z
        exact hc (cmpL_trans c a w (hs.1 a (List.mem_of_getElem? h)) z)
theorem rnkL_at (w : List Nat) {l : List (List Nat)} (hs : srtL l) {i : Nat} {a : List Nat} (h : l[i]? = some a) : cmpL a w < 0 ↔ i < rnkL w l := by
  constructor
  · intro z
    rcases Nat.lt_or_ge i (rnkL w l) with q | q
    · exact q
    · exact absurd z (rnkL_ge w hs h q)
  · exact rnkL_lt w h
/-- the word is there iff it stands at its rank -/
theorem rnkL_mem (w : List Nat) {l : List (List Nat)} (hs : srtL l) : w ∈ l ↔ l[rnkL w l]? = some w := by
  constructor
  · intro h
    obtain ⟨i, hi⟩ := List.getElem?_of_mem h
    have h1 : ¬ i < rnkL w l := fun z => by
      have := rnkL_lt w hi z
      rw [cmpL_self] at this
      omega
    rcases Nat.lt_or_ge (rnkL w l) i with q | q
    · have hlt : rnkL w l < l.length := Nat.lt_trans q (List.getElem?_eq_some_iff.mp hi).1
      obtain ⟨b, hb⟩ : ∃ b, l[rnkL w l]? = some b := ⟨_, List.getElem?_eq_getElem hlt⟩
      exact absurd (srtL_get hs q hb hi) (rnkL_ge w hs hb (Nat.le_refl _))
    · rw [show rnkL w l = i by omega]
      exact hi
  · exact fun h => List.mem_of_getElem? h
/-- a word more, at its rank -/
def putL (w : List Nat) (l : List (List Nat)) : List (List Nat) := l.take (rnkL w l) ++ w :: l.drop (rnkL w l)
theorem srtL_app : ∀ {l m : List (List Nat)}, srtL (l ++ m) ↔ srtL l ∧ srtL m ∧ ∀ a ∈ l, ∀ b ∈ m, cmpL a b < 0
  | [], m => by simp [srtL]
  | c :: l, m => by
    have ih := srtL_app (l := l) (m := m)
    show ((∀ b ∈ l ++ m, cmpL c b < 0) ∧ srtL (l ++ m)) ↔ _
    rw [ih]
    constructor
    · rintro ⟨h1, h2, h3, h4⟩
      exact ⟨⟨fun b hb => h1 b (List.mem_append_left _ hb), h2⟩, h3, fun a ha b hb => by
        rcases List.mem_cons.mp ha with rfl | ha
        · exact h1 b (List.mem_append_right _ hb)
        · exact h4 a ha b hb⟩
    · rintro ⟨⟨h1, h2⟩, h3, h4⟩
      exact ⟨fun b hb => by
        rcases List.mem_append.mp hb with hb | hb
        · exact h1 b hb
        · exact h4 c List.mem_cons_self b hb, h2, h3, fun a ha b hb => h4 a (List.mem_cons_of_mem _ ha) b hb⟩
theorem srtL_put (w : List Nat) {l : List (List Nat)} (hs : srtL l) (hw : w ∉ l) : srtL (putL w l) := by
  unfold putL
  have e : l = l.take (rnkL w l) ++ l.drop (rnkL w l) := (List.take_append_drop _ _).symm
  have hs2 := hs
  rw [e] at hs2
  obtain ⟨h1, h2, h3⟩ := srtL_app.mp hs2
  refine srtL_app.mpr ⟨h1, ⟨fun b hb => ?_, h2⟩, fun a ha b hb => ?_⟩
  · obtain ⟨i, hi⟩ := List.getElem?_of_mem hb
    rw [List.getElem?_drop] at hi
    have h4 := rnkL_ge w hs hi (by omega)
    have h5 : cmpL b w ≠ 0 := fun z => hw ((cmpL_zero b w).mp z ▸ List.mem_of_getElem? hi)
    have h6 := cmpL_anti b w
    omega
  · obtain ⟨i, hi⟩ := List.getElem?_of_mem ha
    have hlt : i < rnkL w l := by
      have := (List.getElem?_eq_some_iff.mp hi).1
      rw [List.length_take] at this
      omega
    rw [List.getElem?_take_of_lt hlt] at hi
    have h4 := rnkL_lt w hi hlt
    rcases List.mem_cons.mp hb with rfl | hb
    · exact h4
    · exact h3 a ha b hb
theorem putL_mem (w : List Nat) (l : List (List Nat)) (x : List Nat) : x ∈ putL w l ↔ x = w ∨ x ∈ l := by
  unfold putL
  have e : l = l.take (rnkL w l) ++ l.drop (rnkL w l) := (List.take_append_drop _ _).symm
  constructor
  · intro h
    rcases List.mem_append.mp h with h | h
    · exact Or.inr (List.mem_of_mem_take h)
    · rcases List.mem_cons.mp h with h | h
      · exact Or.inl h
      · exact Or.inr (List.mem_of_mem_drop h)
  · rintro (h | h)
    · rw [h]; exact List.mem_append_right _ List.mem_cons_self
    · rw [e] at h
      rcases List.mem_append.mp h with h | h
      · exact List.mem_append_left _ h
      · exact List.mem_append_right _ (List.mem_cons_of_mem _ h)
/-- two lists in order with the same words are one -/
theorem srtL_ext : ∀ {l m : List (List Nat)}, srtL l → srtL m → (∀ x, x ∈ l ↔ x ∈ m) → l = m
  | [], [], _, _, _ => rfl
  | [], b :: m, _, _, h => absurd ((h b).mpr List.mem_cons_self) List.not_mem_nil
  | a :: l, [], _, _, h => absurd ((h a).mp List.mem_cons_self) List.not_mem_nil
  | a :: l, b :: m, h1, h2, h => by
    have hab : a = b := by
      rcases List.mem_cons.mp ((h a).mp List.mem_cons_self) with q | q
      · exact q
      · rcases List.mem_cons.mp ((h b).mpr List.mem_cons_self) with z | z
        · exact z.symm
        · have z1 := h2.1 a q
          have z2 := h1.1 b z
          have z3 := cmpL_anti a b
          omega
    subst hab
    have key : ∀ x, x ∈ l ↔ x ∈ m := by
      intro x
      constructor
      · intro hx
        rcases List.mem_cons.mp ((h x).mp (List.mem_cons_of_mem _ hx)) with q | q
        · subst q
          have := h1.1 x hx
          rw [cmpL_self] at this
          omega
        · exact q
      · intro hx
        rcases List.mem_cons.mp ((h x).mpr (List.mem_cons_of_mem _ hx)) with q | q
        · subst q
          have := h2.1 x hx
          rw [cmpL_self] at this
          omega
        · exact q
    rw [srtL_ext h1.2 h2.2 key]
/-! inserting into a list -/
def insA {α : Type} (l : List α) (r : Nat) (x : α) : List α := l.take r ++ x :: l.drop r
theorem insA_len {α : Type} {l : List α} {r : Nat} {x : α} (h : r ≤ l.length) : (insA l r x).length = l.length + 1 := by
  unfold insA
  rw [List.length_append, List.length_take, List.length_cons, List.length_drop]
  omega
theorem insA_lt {α : Type} {l : List α} {r i : Nat} {x : α} (h : r ≤ l.length) (hi : i < r) : (insA l r x)[i]? = l[i]? := by
  unfold insA
  rw [List.getElem?_append_left (by rw [List.length_take]; omega), List.getElem?_take_of_lt hi]
theorem insA_eq {α : Type} {l : List α} {r : Nat} {x : α} (h : r ≤ l.length) : (insA l r x)[r]? = some x := by
  unfold insA
  rw [List.getElem?_append_right (by rw [List.length_take]; omega), List.length_take, show r - min r l.length = 0 by omega]
  rfl
theorem insA_gt {α : Type} {l : List α} {r i : Nat} {x : α} (h : r ≤ l.length) (hi : r < i) : (insA l r x)[i]? = l[i - 1]? := by
  unfold insA
  rw [List.getElem?_append_right (by rw [List.length_take]; omega), List.length_take, show i - min r l.length = (i - r - 1) + 1 by omega, List.getElem?_cons_succ, List.getElem?_drop]
  congr 1
  omega
theorem insA_map {α β : Type} (f : α → β) (l : List α) (r : Nat) (x : α) : (insA l r x).map f = insA (l.map f) r (f x) := by
  unfold insA
  rw [List.map_append, List.map_cons, List.map_take, List.map_drop]
theorem insA_mem {α : Type} {l : List α} {r : Nat} {x y : α} (h : y ∈ insA l r x) : y ∈ l ∨ y = x := by
  rcases List.mem_append.mp h with h | h
  · exact Or.inl (List.mem_of_mem_take h)
  · rcases List.mem_cons.mp h with h | h
    · exact Or.inr h
    · exact Or.inl (List.mem_of_mem_drop h)
