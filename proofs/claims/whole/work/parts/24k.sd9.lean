/-! the line of an add: its word, its flags -/
def adL (tx : List Nat) (le e : Nat) : Nat := ldL tx (nxE tx le e) (nxS tx le e) - nxS tx le e
def adF (tx : List Nat) (le e : Nat) : Option Nat := flB tx (nxE tx le e) (nxS tx le e + adL tx le e)
def adG (tx : List Nat) (le e : Nat) : Bool := decide (nxS tx le e < nxE tx le e ∧ 1 ≤ adL tx le e ∧ adL tx le e ≤ 16) && (adF tx le e).isSome
def adO (tx : List Nat) (le e : Nat) : Bool := adG tx le e && decide (nxE tx le (nxE tx le e) ≤ nxS tx le (nxE tx le e))
def adQ (tx : List Nat) (le e : Nat) : Nat := if adG tx le e = true then nxS tx le (nxE tx le e) else nxS tx le e
abbrev adW (tx : List Nat) (le e : Nat) : List Nat := (tx.drop (nxS tx le e)).take (adL tx le e)
def stF (es : List (Nat × List Nat × Nat)) (r f : Nat) : List (Nat × List Nat × Nat) := match es[r]? with
  | some x => es.set r (x.1, x.2.1, f)
  | none => es
def adE (es : List (Nat × List Nat × Nat)) (a : Nat) (w : List Nat) (f : Nat) : List (Nat × List Nat × Nat) := if w ∈ dws es then stF es (rnkL w (dws es)) f else if es.length < 300 then insA es (rnkL w (dws es)) (a, w, f) else es
def adT (es : List (Nat × List Nat × Nat)) (w : List Nat) : List Nat := if w ∈ dws es then st_txt.getD 1 [] else if es.length < 300 then st_txt.getD 3 [] else st_txt.getD 2 []
theorem Lt.inj {G : GG} {g : GH} {a t b u cap t2 b2 u2 cap2 : Nat} {xs ys : List Nat} (h : Lt G g a t b u cap xs) (h2 : Lt G g a t2 b2 u2 cap2 ys) : xs = ys := by
  obtain ⟨f, ⟨k1, k2, k3, k4⟩, k5⟩ := h
  obtain ⟨f2, ⟨j1, j2, j3, j4⟩, j5⟩ := h2
  rw [k1] at j1
  injection j1 with j1
  injection j1 with e1 j1
  injection j1 with j1
  injection j1 with e2 j1
  injection j1 with e3 j1
  injection e3 with e3
  subst e3
  injection j1 with j1 j6
  injection j1 with j1
  rw [k2] at j2
  injection j2 with j2
  injection j2 with e4 j2
  injection j2 with j2
  injection j2 with e5 j2
  injection j2 with e6 j2
  injection j2 with j2
  subst j2
  have hl : xs.length = ys.length := (nI_eq (by omega) (by omega)).mp j1
  apply List.ext_getElem? 
  intro i
  by_cases hi : i < xs.length
  · have q1 := k5 i _ (List.getElem?_eq_getElem hi)
    have q2 := j5 i _ (List.getElem?_eq_getElem (by omega))
    rw [List.getElem?_eq_getElem hi, List.getElem?_eq_getElem (by omega)]
    have q3 := q1.1.symm.trans q2.1
    rw [(nI_eq (by omega) (by omega)).mp q3]
  · rw [List.getElem?_eq_none (by omega), List.getElem?_eq_none (by omega)]
theorem En.inj {G : GG} {g : GH} {a f f2 : Nat} {w w2 : List Nat} (h : En G g a w f) (h2 : En G g a w2 f2) : w = w2 := by
  obtain ⟨wa, wb, k1, k2⟩ := h
  obtain ⟨va, vb, j1, j2⟩ := h2
  rw [k1] at j1
  injection j1 with j1
  injection j1 with e1 j1
  injection j1 with j1
  injection j1 with e2 j1
  injection j1 with e3 j1
  injection e3 with e3
  subst e3
  exact k2.inj j2
theorem srtL_inj {l : List (List Nat)} (h : srtL l) {i j : Nat} {a : List Nat} (h1 : l[i]? = some a) (h2 : l[j]? = some a) : i = j := by
  have hz : ∀ a : List Nat, ¬ cmpL a a < 0 := fun a q => by have := (cmpL_zero a a).mpr rfl; omega
  rcases Nat.lt_trichotomy i j with q | q | q
  · exact absurd (srtL_get h q h1 h2) (hz _)
  · exact q
  · exact absurd (srtL_get h q h2 h1) (hz _)
theorem stF_map {es : List (Nat × List Nat × Nat)} {r f : Nat} {β : Type} (k : Nat × List Nat → β) : (stF es r f).map (fun x => k (x.1, x.2.1)) = es.map fun x => k (x.1, x.2.1) := by
  unfold stF
  cases hx : es[r]? with
  | none => rfl
  | some x =>
    dsimp only
    obtain ⟨hr, hx2⟩ := List.getElem?_eq_some_iff.mp hx
    apply List.ext_getElem? 
    intro i
    rw [List.getElem?_map, List.getElem?_map, List.getElem?_set]
    by_cases hi : r = i
    · subst hi
      rw [if_pos rfl, if_pos hr, hx]
      rfl
    · rw [if_neg hi]
theorem stF_mem {es : List (Nat × List Nat × Nat)} {r f : Nat} {x y : Nat × List Nat × Nat} (hx : es[r]? = some x) (h : y ∈ stF es r f) : y = (x.1, x.2.1, f) ∨ ∃ i, i ≠ r ∧ es[i]? = some y := by
  unfold stF at h
  rw [hx] at h
  dsimp only at h
  obtain ⟨i, hi⟩ := List.getElem?_of_mem h
  rw [List.getElem?_set] at hi
  by_cases q : r = i
  · rw [if_pos q] at hi
    split at hi
    · exact Or.inl (Option.some.inj hi).symm
    · cases hi
  · rw [if_neg q] at hi
    exact Or.inr ⟨i, fun z => q z.symm, hi⟩
theorem SDb.st {es : List (Nat × List Nat × Nat)} {us1 us2 : List (Nat × RuR)} (h : SDb es us1 us2) {r f : Nat} {x : Nat × List Nat × Nat} (hx : es[r]? = some x) (hf : f < 2 ^ 26) : SDb (stF es r f) us1 us2 := by
  obtain ⟨⟨k1, k2, k3, k4, k5, k6⟩, h2, h3, h4⟩ := h
  refine ⟨⟨?_, ?_, k3, k4, fun y hy => ?_, k6⟩, h2, h3, fun y hy => ?_⟩
  · rw [show dws (stF es r f) = dws es from stF_map (fun q => q.2)]
    exact k1
  · have e : ((stF es r f).map fun x => (x.1, x.2.1)).length = _ := congrArg List.length (stF_map (es := es) (r := r) (f := f) (fun q => q))
    rw [List.length_map, List.length_map] at e
    omega
  · rcases stF_mem hx hy with q | ⟨i, -, q⟩
    · rw [q]; exact hf
    · exact k5 y (List.mem_of_getElem? q)
  · rcases stF_mem hx hy with q | ⟨i, -, q⟩
    · rw [q]; exact h4 x (List.mem_of_getElem? hx)
    · exact h4 y (List.mem_of_getElem? q)
theorem SDb.ins {es : List (Nat × List Nat × Nat)} {us1 us2 : List (Nat × RuR)} (h : SDb es us1 us2) {a f : Nat} {w : List Nat} (hw : w ∉ dws es) (hl : es.length < 300) (hf : f < 2 ^ 26) (hw2 : w.length ≤ 16) : SDb (insA es (rnkL w (dws es)) (a, w, f)) us1 us2 := by
  obtain ⟨⟨k1, k2, k3, k4, k5, k6⟩, h2, h3, h4⟩ := h
  refine ⟨⟨?_, ?_, k3, k4, fun y hy => ?_, k6⟩, h2, h3, fun y hy => ?_⟩
  · unfold dws
    rw [insA_map]
    exact srtL_put w k1 hw
  · rw [insA_len (rnkd_le es w)]
    omega
  · rcases insA_mem hy with q | q
    · exact k5 y q
    · rw [q]; exact hf
  · rcases insA_mem hy with q | q
    · exact h4 y q
    · rw [q]; exact hw2
theorem Dc.st {G : GG} {g : GH} {da aa : Nat} {es : List (Nat × List Nat × Nat)} (h : Dc G g da aa es) (hs : srtL (dws es)) {r f wa wb : Nat} {x : Nat × List Nat × Nat} (hx : es[r]? = some x) (k1 : g x.1 = some (50, .inr (2, [.ref wa, .int (nI x.2.2)]))) (k2 : Lt G g wa 51 wb 52 x.2.1.length x.2.1) : Dc G (gh_up g x.1 50 (.inr (2, [.ref wa, .int (nI f)]))) da aa (stF es r f) := by
  have hM : gh_M [50] g (gh_up g x.1 50 (.inr (2, [.ref wa, .int (nI f)]))) := gh_M.up k1 (by decide)
  refine ⟨hM da 7 _ h.1 (by decide), ?_, fun y hy => ?_⟩
  · rw [stF_map (fun q => q.1)]
    exact h.2.1.M hM (by decide) (by decide)
  · rcases stF_mem hx hy with q | ⟨i, hi, q⟩
    · rw [q]
      exact ⟨wa, wb, gh_us, k2.M hM (by decide) (by decide)⟩
    · have hen := h.2.2 y (List.mem_of_getElem? q)
      have hne : y.1 ≠ x.1 := fun z => by
        have e := En.inj hen (show En G g y.1 x.2.1 x.2.2 by rw [z]; exact ⟨wa, wb, k1, k2⟩)
        exact hi (srtL_inj hs (i := i) (j := r) (a := x.2.1) (by rw [dws_at2, q, ← e]; rfl) (by rw [dws_at2, hx]; rfl))
      obtain ⟨va, vb, j1, j2⟩ := hen
      exact ⟨va, vb, by rw [gh_un hne]; exact j1, j2.M hM (by decide) (by decide)⟩
