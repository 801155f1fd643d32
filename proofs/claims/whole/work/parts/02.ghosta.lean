/-! THE GHOST LAYER: a world is a function from addresses to (tag, cell); each row of the machine is said over it -/
abbrev GH : Type := Nat → Option (Nat × va_E)
def gh_up (g : GH) (a t : Nat) (e : va_E) : GH := fun q => if q = a then some (t, e) else g q
theorem gh_us {g : GH} {a t : Nat} {e : va_E} : gh_up g a t e a = some (t, e) := by simp [gh_up]
theorem gh_un {g : GH} {a t q : Nat} {e : va_E} (h : q ≠ a) : gh_up g a t e q = g q := by simp [gh_up, h]
theorem gh_ne {g : GH} {a b : Nat} {x y : Nat × va_E} (ha : g a = some x) (hb : g b = some y) (h : x.1 ≠ y.1) : a ≠ b := fun z => by
  subst z
  rw [ha] at hb
  cases hb
  exact h rfl
def gh_P (D : va_G) (g : GH) (H : Heap) : Prop := ∀ (a t : Nat) (e : va_E), g a = some (t, e) → va_at D vwCl (a, e) H
def gh_A (g : GH) (sz : Nat) : Nat → Prop := fun q => g q ≠ none ∨ sz ≤ q
theorem gh_P.lt {D : va_G} {g : GH} {H : Heap} (h : gh_P D g H) {a t : Nat} {e : va_E} (ha : g a = some (t, e)) : a < H.size := (h a t e ha).lt
/-- the ghost world as a list, for the kit's rows -/
theorem gh_list {D : va_G} {g : GH} {H : Heap} {A : Nat → Prop} (hP : gh_P D g H) (hA : ∀ a, g a ≠ none → A a) : ∃ ws : va_W, va_P D vwCl ws H ∧ va_D A ws ∧ (∀ (a t : Nat) (e : va_E), g a = some (t, e) → ∃ k : Nat, ws[k]? = some (a, e)) ∧ ∀ (k : Nat) (q : Nat × va_E), ws[k]? = some q → ∃ t, g q.1 = some (t, q.2) := by
  have key : ∀ N : Nat, ∃ ws : va_W, (∀ (a t : Nat) (e : va_E), a < N → g a = some (t, e) → ∃ k : Nat, ws[k]? = some (a, e)) ∧ (∀ (k : Nat) (q : Nat × va_E), ws[k]? = some q → q.1 < N ∧ ∃ t, g q.1 = some (t, q.2)) ∧ ∀ (i j : Nat) (p q : Nat × va_E), ws[i]? = some p → ws[j]? = some q → p.1 = q.1 → i = j := by
    intro N
    induction N with
    | zero => exact ⟨[], fun a t e h => absurd h (Nat.not_lt_zero a), fun k q h => by simp at h, fun i j p q h => by simp at h⟩
    | succ N ih =>
      obtain ⟨ws, h1, h2, h3⟩ := ih
      cases hg : g N with
      | none =>
        refine ⟨ws, fun a t e ha he => ?_, fun k q h => ⟨Nat.lt_succ_of_lt (h2 k q h).1, (h2 k q h).2⟩, h3⟩
        rcases Nat.lt_succ_iff_lt_or_eq.mp ha with h | h
        · exact h1 a t e h he
        · subst h
          rw [hg] at he
          cases he
      | some x =>
        obtain ⟨t0, e0⟩ := x
        have key2 : ∀ (k : Nat) (q : Nat × va_E), (ws ++ [(N, e0)])[k]? = some q → (ws[k]? = some q ∧ q.1 < N) ∨ (k = ws.length ∧ q = (N, e0)) := by
          intro k q hk
          by_cases hl : k < ws.length
          · rw [List.getElem?_append_left hl] at hk
            exact Or.inl ⟨hk, (h2 k q hk).1⟩
          · rw [List.getElem?_append_right (by omega)] at hk
            have hz : k - ws.length < 1 := (List.getElem?_eq_some_iff.mp hk).1
            rw [show k - ws.length = 0 by omega] at hk
            cases hk
            exact Or.inr ⟨by omega, rfl⟩
        refine ⟨ws ++ [(N, e0)], fun a t e ha he => ?_, fun k q h => ?_, fun i j p q hi hj hpq => ?_⟩
        · rcases Nat.lt_succ_iff_lt_or_eq.mp ha with h | h
          · obtain ⟨k, hk⟩ := h1 a t e h he
            exact ⟨k, by rw [List.getElem?_append_left (List.getElem?_eq_some_iff.mp hk).1]; exact hk⟩
          · subst h
            rw [hg] at he
            cases he
            exact ⟨ws.length, by rw [List.getElem?_append_right (Nat.le_refl _), Nat.sub_self]; rfl⟩
        · rcases key2 k q h with ⟨h4, h5⟩ | ⟨-, h5⟩
          · exact ⟨Nat.lt_succ_of_lt h5, (h2 k q h4).2⟩
          · rw [h5]
            exact ⟨Nat.lt_succ_self N, t0, hg⟩
        · rcases key2 i p hi with ⟨a1, a2⟩ | ⟨a1, a2⟩ <;> rcases key2 j q hj with ⟨b1, b2⟩ | ⟨b1, b2⟩
          · exact h3 i j p q a1 b1 hpq
          · rw [b2] at hpq
            have hpq : p.1 = N := hpq
            omega
          · rw [a2] at hpq
            have hpq : N = q.1 := hpq
            omega
          · rw [a1, b1]
  obtain ⟨ws, h1, h2, h3⟩ := key H.size
  refine ⟨ws, fun k q hk => ?_, ⟨h3, fun k q hk => ?_⟩, fun a t e he => h1 a t e (hP.lt he) he, fun k q hk => (h2 k q hk).2⟩
  · obtain ⟨-, t, ht⟩ := h2 k q hk
    exact hP q.1 t q.2 ht
  · obtain ⟨-, t, ht⟩ := h2 k q hk
    exact hA q.1 (by rw [ht]; exact fun z => by cases z)
theorem gh_set {D : va_G} {g : GH} {H1 : Heap} {A : Nat → Prop} {ws : va_W} {k a : Nat} {e0 e : va_E} (t : Nat) (hD : va_D A ws) (hin : ∀ (a t : Nat) (e : va_E), g a = some (t, e) → ∃ k : Nat, ws[k]? = some (a, e)) (hk : ws[k]? = some (a, e0)) (h : va_P D vwCl (ws.set k (a, e)) H1) : gh_P D (gh_up g a t e) H1 := by
  have hl := (List.getElem?_eq_some_iff.mp hk).1
  intro b t1 e1 hb
  by_cases hba : b = a
  · subst hba
    rw [gh_us] at hb
    cases hb
    exact h k _ (List.getElem?_set_self hl)
  · rw [gh_un hba] at hb
    obtain ⟨j, hj⟩ := hin b t1 e1 hb
    have hjk : k ≠ j := fun z => by
      subst z
      rw [hk] at hj
      cases hj
      exact hba rfl
    exact h j _ (by rw [List.getElem?_set_ne hjk]; exact hj)
theorem gh_push {D : va_G} {g : GH} {H1 : Heap} {A : Nat → Prop} {ws : va_W} {a : Nat} {e : va_E} (t : Nat) (hin : ∀ (a t : Nat) (e : va_E), g a = some (t, e) → ∃ k : Nat, ws[k]? = some (a, e)) (h : va_P D vwCl (ws ++ [(a, e)]) H1) (hD : va_D A (ws ++ [(a, e)])) : g a = none ∧ gh_P D (gh_up g a t e) H1 := by
  have hlast : (ws ++ [(a, e)])[ws.length]? = some (a, e) := by rw [List.getElem?_append_right (Nat.le_refl _), Nat.sub_self]; rfl
  have hnone : g a = none := by
    cases hg : g a with
    | none => rfl
    | some x =>
      obtain ⟨k, hk⟩ := hin a x.1 x.2 hg
      have hlt := (List.getElem?_eq_some_iff.mp hk).1
      have := hD.1 k ws.length (a, x.2) (a, e) (by rw [List.getElem?_append_left hlt]; exact hk) hlast rfl
      omega
  refine ⟨hnone, fun b t1 e1 hb => ?_⟩
  by_cases hba : b = a
  · subst hba
    rw [gh_us] at hb
    cases hb
    exact h _ _ hlast
  · rw [gh_un hba] at hb
    obtain ⟨j, hj⟩ := hin b t1 e1 hb
    exact h j _ (by rw [List.getElem?_append_left (List.getElem?_eq_some_iff.mp hj).1]; exact hj)
/-! locals -/
def gh_L (ls : Array Slot) (lv : List (Option Value)) : Prop := ls.size = lv.length ∧ lv_wf ls ∧ ∀ (i : Nat) (v : Value), lv[i]? = some (some v) → v.category = 1 ∧ ls[i]? = some (.val v)
def gh_pr (lv : List (Option Value)) : List (Nat × Value) := (List.range lv.length).filterMap fun i => match lv[i]? with
  | some (some v) => some (i, v)
  | _ => none
theorem gh_pr_mem {lv : List (Option Value)} {i : Nat} {v : Value} : (i, v) ∈ gh_pr lv ↔ lv[i]? = some (some v) := by
  unfold gh_pr
  rw [List.mem_filterMap]
  constructor
  · rintro ⟨j, -, h⟩
    split at h
    · next w hw =>
      cases h
      exact hw
    · cases h
  · intro h
    exact ⟨i, List.mem_range.mpr (List.getElem?_eq_some_iff.mp h).1, by rw [h]⟩
theorem gh_L.has {ls : Array Slot} {lv : List (Option Value)} (h : gh_L ls lv) : lv_has ls lv.length (gh_pr lv) := ⟨h.1, h.2.1, fun q hq => (h.2.2 q.1 q.2 (gh_pr_mem.mp hq)).2⟩
theorem gh_L.put {ls ls' : Array Slot} {lv lv' : List (Option Value)} {i : Nat} {v : Value} (h : gh_L ls lv) (hv : v.category = 1) (hl : lv.set i (some v) = lv') (hn : lv_has ls' lv.length ((i, v) :: (gh_pr lv).filter (fun q => !(q.1 == i) && !(q.1 + 1 == i && q.2.category == 2)))) : gh_L ls' lv' := by
  subst hl
  refine ⟨by rw [List.length_set]; exact hn.1, hn.2.1, fun j w hj => ?_⟩
  by_cases hji : j = i
  · subst hji
    have hlt : j < lv.length := by
      have := (List.getElem?_eq_some_iff.mp hj).1
      rwa [List.length_set] at this
    rw [List.getElem?_set_self hlt] at hj
    cases hj
    exact ⟨hv, hn.2.2 (j, v) List.mem_cons_self⟩
  · rw [List.getElem?_set_ne (fun z => hji z.symm)] at hj
    have hc := (h.2.2 j w hj).1
    refine ⟨hc, hn.2.2 (j, w) (List.mem_cons_of_mem _ (List.mem_filter.mpr ⟨gh_pr_mem.mpr hj, ?_⟩))⟩
    simp [hji, hc]
theorem gh_args_in : ∀ (vs : List Value) (k i : Nat) (v : Value), (∀ w ∈ vs, w.category = 1) → vs[i]? = some v → (k + i, v) ∈ lv_args k vs
  | [], k, i, v, _, h => by simp at h
  | w :: vs, k, i, v, hc, h => by
    have hw : ¬ w.category = 2 := by
      have := hc w List.mem_cons_self
      omega
    simp only [lv_args, if_neg hw]
    cases i with
    | zero =>
      rw [List.getElem?_cons_zero] at h
      cases h
      exact List.mem_cons_self
    | succ i =>
      rw [List.getElem?_cons_succ] at h
      have := gh_args_in vs (k + 1) i v (fun w hw => hc w (List.mem_cons_of_mem _ hw)) h
      rw [show k + 1 + i = k + (i + 1) by omega] at this
      exact List.mem_cons_of_mem _ this
theorem gh_sl_len (vs : List Value) (hc : ∀ w ∈ vs, w.category = 1) : (lg_sl vs).length = vs.length := by
  induction vs with
  | nil => rfl
  | cons w vs ih =>
    have hw : ¬ w.category = 2 := by
      have := hc w List.mem_cons_self
      omega
    have := ih (fun w hw => hc w (List.mem_cons_of_mem _ hw))
    simp only [lg_sl, List.flatMap_cons, if_neg hw, List.length_append, List.length_cons, List.length_nil] at this ⊢
    omega
theorem gh_entry {vs : List Value} {n : Nat} {lv : List (Option Value)} (hc : ∀ w ∈ vs, w.category = 1) (hn : vs.length ≤ n) (hl : vs.map some ++ List.replicate (n - vs.length) none = lv) : gh_L ((lg_sl vs ++ List.replicate (n - (lg_sl vs).length) Slot.unset).toArray) lv := by
  subst hl
  have he := lv_entry vs (n := n) (by rw [gh_sl_len vs hc]; exact hn)
  refine ⟨by rw [he.1, List.length_append, List.length_map, List.length_replicate]; omega, he.2.1, fun i v h => ?_⟩
  by_cases hi : i < vs.length
  · rw [List.getElem?_append_left (by rw [List.length_map]; exact hi), List.getElem?_map] at h
    have h2 : vs[i]? = some v := by
      cases hv : vs[i]? with
      | none => rw [hv] at h; cases h
      | some w => rw [hv] at h; cases h; rfl
    have := gh_args_in vs 0 i v hc h2
    rw [Nat.zero_add] at this
    exact ⟨hc v (List.mem_of_getElem? h2), he.2.2 (i, v) this⟩
  · rw [List.getElem?_append_right (by rw [List.length_map]; omega)] at h
    have := List.eq_of_mem_replicate (List.mem_of_getElem? h)
    cases this

/-! the judgement -/
abbrev GX : Type := Program × Env × State × MethodId × Array Value × List Frame × Method × Code × (Nat → Prop) × (State → Prop)
def gh_W (l : Launch) (G : GG) (R : Room) (X : GX) (g : GH) (k n : Nat) (lv : List (Option Value)) (pc : Nat) (st : List Value) : Prop :=
  match X with
  | (p, e, s, m, args, below, meth, c, A, Q) => ∀ (H : Heap) (locs : List Loc) (ls : Array Slot), gh_P G.1 g H → (∀ a, g a ≠ none → A a) → va_S A s.heap H locs → gh_L ls lv → W p l e R s m args below meth c H locs k n Q (F0 m pc ls st)
def gh_K (G : GG) (X : GX) (cc : ByteArray) (nL : Nat) (own : String) : Prop :=
  match X with
  | (p, _, s, m, args, _, _, c, A, _) => p.tables.exec = Jvm.exec ∧ c.code = cc ∧ c.maxLocals = nL ∧ s.vm.findClass own = some m.cls ∧ (∀ w ∈ gTbl, w.before args s = true) ∧ gh_C G A s s.heap ∧ ∀ q, s.heap.size ≤ q → A q
def gh_I (X : GX) : Prop :=
  match X with
  | (_, _, _, _, _, _, meth, _, _, _) => meth.name = "<init>"
section GHR
variable {l : Launch} {G : GG} {R : Room} {X : GX} {cc : ByteArray} {nL : Nat} {own : String} {g : GH} {k n pc : Nat} {lv : List (Option Value)} {st : List Value}

theorem gh_iconst {i : Int} {v : Int32} (hK : gh_K G X cc nL own) (hd : decode cc pc = .ok (.iconst i, 1)) (hv : Int32.ofInt i = v) (kk : gh_W l G R X g k n lv (pc + 1) (.int v :: st)) : gh_W l G R X g k n lv pc (st) := by
  obtain ⟨p, e, s, m, args, below, meth, c, A, Q⟩ := X
  obtain ⟨hx, hb, hml, hown, hts, hC, hA⟩ := hK
  intro H locs ls hP hAa hS hl
  exact lv_iconst hx hb hd hv (kk H locs ls hP hAa hS hl)
theorem gh_bipush {i : Int} {v : Int32} (hK : gh_K G X cc nL own) (hd : decode cc pc = .ok (.bipush i, 2)) (hv : (Int8.ofInt i).toInt32 = v) (kk : gh_W l G R X g k n lv (pc + 2) (.int v :: st)) : gh_W l G R X g k n lv pc (st) := by
  obtain ⟨p, e, s, m, args, below, meth, c, A, Q⟩ := X
  obtain ⟨hx, hb, hml, hown, hts, hC, hA⟩ := hK
  intro H locs ls hP hAa hS hl
  exact lv_bipush hx hb hd hv (kk H locs ls hP hAa hS hl)
theorem gh_sipush {i : Int} {v : Int32} (hK : gh_K G X cc nL own) (hd : decode cc pc = .ok (.sipush i, 3)) (hv : (Int16.ofInt i).toInt32 = v) (kk : gh_W l G R X g k n lv (pc + 3) (.int v :: st)) : gh_W l G R X g k n lv pc (st) := by
  obtain ⟨p, e, s, m, args, below, meth, c, A, Q⟩ := X
  obtain ⟨hx, hb, hml, hown, hts, hC, hA⟩ := hK
  intro H locs ls hP hAa hS hl
  exact lv_sipush hx hb hd hv (kk H locs ls hP hAa hS hl)
theorem gh_null (hK : gh_K G X cc nL own) (hd : decode cc pc = .ok (.aconst_null, 1)) (kk : gh_W l G R X g k n lv (pc + 1) (.null :: st)) : gh_W l G R X g k n lv pc (st) := by
  obtain ⟨p, e, s, m, args, below, meth, c, A, Q⟩ := X
  obtain ⟨hx, hb, hml, hown, hts, hC, hA⟩ := hK
  intro H locs ls hP hAa hS hl
  exact lv_null hx hb hd (kk H locs ls hP hAa hS hl)
theorem gh_iload_n {i : Fin 4} {x : Int32} (hK : gh_K G X cc nL own) (hd : decode cc pc = .ok (.iload_n i, 1)) (hv : lv[i.val]? = some (some (.int x))) (kk : gh_W l G R X g k n lv (pc + 1) (.int x :: st)) : gh_W l G R X g k n lv pc (st) := by
  obtain ⟨p, e, s, m, args, below, meth, c, A, Q⟩ := X
  obtain ⟨hx, hb, hml, hown, hts, hC, hA⟩ := hK
  intro H locs ls hP hAa hS hl
  exact lv_iload_n hx hb hd rfl (hl.2.2 _ _ hv).2 (kk H locs ls hP hAa hS hl)
theorem gh_iload {i : Nat} {x : Int32} (hK : gh_K G X cc nL own) (hd : decode cc pc = .ok (.iload i, 2)) (hv : lv[i]? = some (some (.int x))) (kk : gh_W l G R X g k n lv (pc + 2) (.int x :: st)) : gh_W l G R X g k n lv pc (st) := by
  obtain ⟨p, e, s, m, args, below, meth, c, A, Q⟩ := X
  obtain ⟨hx, hb, hml, hown, hts, hC, hA⟩ := hK
  intro H locs ls hP hAa hS hl
  exact lv_iload hx hb hd (hl.2.2 _ _ hv).2 (kk H locs ls hP hAa hS hl)
theorem gh_aload_n {i : Fin 4} {x : Nat} (hK : gh_K G X cc nL own) (hd : decode cc pc = .ok (.aload_n i, 1)) (hv : lv[i.val]? = some (some (.ref x))) (kk : gh_W l G R X g k n lv (pc + 1) (.ref x :: st)) : gh_W l G R X g k n lv pc (st) := by
  obtain ⟨p, e, s, m, args, below, meth, c, A, Q⟩ := X
  obtain ⟨hx, hb, hml, hown, hts, hC, hA⟩ := hK
  intro H locs ls hP hAa hS hl
  exact lv_aload_n hx hb hd rfl (hl.2.2 _ _ hv).2 (kk H locs ls hP hAa hS hl)
theorem gh_aload {i x : Nat} (hK : gh_K G X cc nL own) (hd : decode cc pc = .ok (.aload i, 2)) (hv : lv[i]? = some (some (.ref x))) (kk : gh_W l G R X g k n lv (pc + 2) (.ref x :: st)) : gh_W l G R X g k n lv pc (st) := by
  obtain ⟨p, e, s, m, args, below, meth, c, A, Q⟩ := X
  obtain ⟨hx, hb, hml, hown, hts, hC, hA⟩ := hK
  intro H locs ls hP hAa hS hl
  exact lv_aload hx hb hd (hl.2.2 _ _ hv).2 (kk H locs ls hP hAa hS hl)
theorem gh_aload_nN {i : Fin 4} (hK : gh_K G X cc nL own) (hd : decode cc pc = .ok (.aload_n i, 1)) (hv : lv[i.val]? = some (some .null)) (kk : gh_W l G R X g k n lv (pc + 1) (.null :: st)) : gh_W l G R X g k n lv pc (st) := by
  obtain ⟨p, e, s, m, args, below, meth, c, A, Q⟩ := X
  obtain ⟨hx, hb, hml, hown, hts, hC, hA⟩ := hK
  intro H locs ls hP hAa hS hl
  exact lv_aload_nN hx hb hd rfl (hl.2.2 _ _ hv).2 (kk H locs ls hP hAa hS hl)
theorem gh_aloadN {i : Nat} (hK : gh_K G X cc nL own) (hd : decode cc pc = .ok (.aload i, 2)) (hv : lv[i]? = some (some .null)) (kk : gh_W l G R X g k n lv (pc + 2) (.null :: st)) : gh_W l G R X g k n lv pc (st) := by
  obtain ⟨p, e, s, m, args, below, meth, c, A, Q⟩ := X
  obtain ⟨hx, hb, hml, hown, hts, hC, hA⟩ := hK
  intro H locs ls hP hAa hS hl
  exact lv_aloadN hx hb hd (hl.2.2 _ _ hv).2 (kk H locs ls hP hAa hS hl)
theorem gh_iadd {x y : Int32} (hK : gh_K G X cc nL own) (hd : decode cc pc = .ok (.iadd, 1)) (kk : gh_W l G R X g k n lv (pc + 1) (.int (x + y) :: st)) : gh_W l G R X g k n lv pc (.int y :: .int x :: st) := by
  obtain ⟨p, e, s, m, args, below, meth, c, A, Q⟩ := X
  obtain ⟨hx, hb, hml, hown, hts, hC, hA⟩ := hK
  intro H locs ls hP hAa hS hl
  exact lv_iadd hx hb hd (kk H locs ls hP hAa hS hl)
theorem gh_isub {x y : Int32} (hK : gh_K G X cc nL own) (hd : decode cc pc = .ok (.isub, 1)) (kk : gh_W l G R X g k n lv (pc + 1) (.int (x - y) :: st)) : gh_W l G R X g k n lv pc (.int y :: .int x :: st) := by
  obtain ⟨p, e, s, m, args, below, meth, c, A, Q⟩ := X
  obtain ⟨hx, hb, hml, hown, hts, hC, hA⟩ := hK
  intro H locs ls hP hAa hS hl
  exact lv_isub hx hb hd (kk H locs ls hP hAa hS hl)
theorem gh_imul {x y : Int32} (hK : gh_K G X cc nL own) (hd : decode cc pc = .ok (.imul, 1)) (kk : gh_W l G R X g k n lv (pc + 1) (.int (x * y) :: st)) : gh_W l G R X g k n lv pc (.int y :: .int x :: st) := by
  obtain ⟨p, e, s, m, args, below, meth, c, A, Q⟩ := X
  obtain ⟨hx, hb, hml, hown, hts, hC, hA⟩ := hK
  intro H locs ls hP hAa hS hl
  exact lv_imul hx hb hd (kk H locs ls hP hAa hS hl)
theorem gh_iand {x y : Int32} (hK : gh_K G X cc nL own) (hd : decode cc pc = .ok (.iand, 1)) (kk : gh_W l G R X g k n lv (pc + 1) (.int (x &&& y) :: st)) : gh_W l G R X g k n lv pc (.int y :: .int x :: st) := by
  obtain ⟨p, e, s, m, args, below, meth, c, A, Q⟩ := X
  obtain ⟨hx, hb, hml, hown, hts, hC, hA⟩ := hK
  intro H locs ls hP hAa hS hl
  exact lv_iand hx hb hd (kk H locs ls hP hAa hS hl)
theorem gh_ior {x y : Int32} (hK : gh_K G X cc nL own) (hd : decode cc pc = .ok (.ior, 1)) (kk : gh_W l G R X g k n lv (pc + 1) (.int (x ||| y) :: st)) : gh_W l G R X g k n lv pc (.int y :: .int x :: st) := by
  obtain ⟨p, e, s, m, args, below, meth, c, A, Q⟩ := X
  obtain ⟨hx, hb, hml, hown, hts, hC, hA⟩ := hK
  intro H locs ls hP hAa hS hl
  exact lv_ior hx hb hd (kk H locs ls hP hAa hS hl)
theorem gh_ixor {x y : Int32} (hK : gh_K G X cc nL own) (hd : decode cc pc = .ok (.ixor, 1)) (kk : gh_W l G R X g k n lv (pc + 1) (.int (x ^^^ y) :: st)) : gh_W l G R X g k n lv pc (.int y :: .int x :: st) := by
  obtain ⟨p, e, s, m, args, below, meth, c, A, Q⟩ := X
  obtain ⟨hx, hb, hml, hown, hts, hC, hA⟩ := hK
  intro H locs ls hP hAa hS hl
  exact lv_ixor hx hb hd (kk H locs ls hP hAa hS hl)
theorem gh_ishl {x y : Int32} (hK : gh_K G X cc nL own) (hd : decode cc pc = .ok (.ishl, 1)) (kk : gh_W l G R X g k n lv (pc + 1) (.int (x <<< (y &&& 31)) :: st)) : gh_W l G R X g k n lv pc (.int y :: .int x :: st) := by
  obtain ⟨p, e, s, m, args, below, meth, c, A, Q⟩ := X
  obtain ⟨hx, hb, hml, hown, hts, hC, hA⟩ := hK
  intro H locs ls hP hAa hS hl
  exact lv_ishl hx hb hd (kk H locs ls hP hAa hS hl)
theorem gh_ishr {x y : Int32} (hK : gh_K G X cc nL own) (hd : decode cc pc = .ok (.ishr, 1)) (kk : gh_W l G R X g k n lv (pc + 1) (.int (x >>> (y &&& 31)) :: st)) : gh_W l G R X g k n lv pc (.int y :: .int x :: st) := by
  obtain ⟨p, e, s, m, args, below, meth, c, A, Q⟩ := X
  obtain ⟨hx, hb, hml, hown, hts, hC, hA⟩ := hK
  intro H locs ls hP hAa hS hl
  exact lv_ishr hx hb hd (kk H locs ls hP hAa hS hl)
theorem gh_idiv {x y : Int32} (hK : gh_K G X cc nL own) (hd : decode cc pc = .ok (.idiv, 1)) (hz : ¬ y = 0) (kk : gh_W l G R X g k n lv (pc + 1) (.int (x / y) :: st)) : gh_W l G R X g k n lv pc (.int y :: .int x :: st) := by
  obtain ⟨p, e, s, m, args, below, meth, c, A, Q⟩ := X
  obtain ⟨hx, hb, hml, hown, hts, hC, hA⟩ := hK
  intro H locs ls hP hAa hS hl
  exact lv_idiv hx hb hd hz (kk H locs ls hP hAa hS hl)
theorem gh_irem {x y : Int32} (hK : gh_K G X cc nL own) (hd : decode cc pc = .ok (.irem, 1)) (hz : ¬ y = 0) (kk : gh_W l G R X g k n lv (pc + 1) (.int (x - x / y * y) :: st)) : gh_W l G R X g k n lv pc (.int y :: .int x :: st) := by
  obtain ⟨p, e, s, m, args, below, meth, c, A, Q⟩ := X
  obtain ⟨hx, hb, hml, hown, hts, hC, hA⟩ := hK
  intro H locs ls hP hAa hS hl
  exact lv_irem hx hb hd hz (kk H locs ls hP hAa hS hl)
theorem gh_ineg {x : Int32} (hK : gh_K G X cc nL own) (hd : decode cc pc = .ok (.ineg, 1)) (kk : gh_W l G R X g k n lv (pc + 1) (.int (-x) :: st)) : gh_W l G R X g k n lv pc (.int x :: st) := by
  obtain ⟨p, e, s, m, args, below, meth, c, A, Q⟩ := X
  obtain ⟨hx, hb, hml, hown, hts, hC, hA⟩ := hK
  intro H locs ls hP hAa hS hl
  exact lv_ineg hx hb hd (kk H locs ls hP hAa hS hl)
theorem gh_iushr {x y v : Int32} (hK : gh_K G X cc nL own) (hd : decode cc pc = .ok (.iushr, 1)) (hv : (x.toUInt32 >>> (y.toUInt32 &&& Int32.toUInt32 31)).toInt32 = v) (kk : gh_W l G R X g k n lv (pc + 1) (.int v :: st)) : gh_W l G R X g k n lv pc (.int y :: .int x :: st) := by
  obtain ⟨p, e, s, m, args, below, meth, c, A, Q⟩ := X
  obtain ⟨hx, hb, hml, hown, hts, hC, hA⟩ := hK
  intro H locs ls hP hAa hS hl
  exact lv_iushr hx hb hd hv (kk H locs ls hP hAa hS hl)
theorem gh_i2c {x v : Int32} (hK : gh_K G X cc nL own) (hd : decode cc pc = .ok (.i2c, 1)) (hv : (x.toUInt32 % 65536).toInt32 = v) (kk : gh_W l G R X g k n lv (pc + 1) (.int v :: st)) : gh_W l G R X g k n lv pc (.int x :: st) := by
  obtain ⟨p, e, s, m, args, below, meth, c, A, Q⟩ := X
  obtain ⟨hx, hb, hml, hown, hts, hC, hA⟩ := hK
  intro H locs ls hP hAa hS hl
  exact lv_i2c hx hb hd hv (kk H locs ls hP hAa hS hl)
theorem gh_i2b {x v : Int32} (hK : gh_K G X cc nL own) (hd : decode cc pc = .ok (.i2b, 1)) (hv : x.toInt8.toInt32 = v) (kk : gh_W l G R X g k n lv (pc + 1) (.int v :: st)) : gh_W l G R X g k n lv pc (.int x :: st) := by
  obtain ⟨p, e, s, m, args, below, meth, c, A, Q⟩ := X
  obtain ⟨hx, hb, hml, hown, hts, hC, hA⟩ := hK
  intro H locs ls hP hAa hS hl
  exact lv_i2b hx hb hd hv (kk H locs ls hP hAa hS hl)
theorem gh_dup {va : Value} (hK : gh_K G X cc nL own) (hd : decode cc pc = .ok (.dup, 1)) (hc : va.category = 1) (kk : gh_W l G R X g k n lv (pc + 1) (va :: va :: st)) : gh_W l G R X g k n lv pc (va :: st) := by
  obtain ⟨p, e, s, m, args, below, meth, c, A, Q⟩ := X
  obtain ⟨hx, hb, hml, hown, hts, hC, hA⟩ := hK
  intro H locs ls hP hAa hS hl
  exact lv_dup hx hb hd hc (kk H locs ls hP hAa hS hl)
theorem gh_dup_x1 {va vb : Value} (hK : gh_K G X cc nL own) (hd : decode cc pc = .ok (.dup_x1, 1)) (hc : va.category = 1) (hc2 : vb.category = 1) (kk : gh_W l G R X g k n lv (pc + 1) (va :: vb :: va :: st)) : gh_W l G R X g k n lv pc (va :: vb :: st) := by
  obtain ⟨p, e, s, m, args, below, meth, c, A, Q⟩ := X
  obtain ⟨hx, hb, hml, hown, hts, hC, hA⟩ := hK
  intro H locs ls hP hAa hS hl
  exact lv_dup_x1 hx hb hd hc hc2 (kk H locs ls hP hAa hS hl)
theorem gh_dup_x2 {va vb vd : Value} (hK : gh_K G X cc nL own) (hd : decode cc pc = .ok (.dup_x2, 1)) (hc : va.category = 1) (hc2 : vb.category = 1) (hc3 : vd.category = 1) (kk : gh_W l G R X g k n lv (pc + 1) (va :: vb :: vd :: va :: st)) : gh_W l G R X g k n lv pc (va :: vb :: vd :: st) := by
  obtain ⟨p, e, s, m, args, below, meth, c, A, Q⟩ := X
  obtain ⟨hx, hb, hml, hown, hts, hC, hA⟩ := hK
  intro H locs ls hP hAa hS hl
  exact lv_dup_x2 hx hb hd hc hc2 hc3 (kk H locs ls hP hAa hS hl)
theorem gh_dup2 {va vb : Value} (hK : gh_K G X cc nL own) (hd : decode cc pc = .ok (.dup2, 1)) (hc : va.category = 1) (hc2 : vb.category = 1) (kk : gh_W l G R X g k n lv (pc + 1) (va :: vb :: va :: vb :: st)) : gh_W l G R X g k n lv pc (va :: vb :: st) := by
  obtain ⟨p, e, s, m, args, below, meth, c, A, Q⟩ := X
  obtain ⟨hx, hb, hml, hown, hts, hC, hA⟩ := hK
  intro H locs ls hP hAa hS hl
  exact lv_dup2_11 hx hb hd hc hc2 (kk H locs ls hP hAa hS hl)
theorem gh_pop {va : Value} (hK : gh_K G X cc nL own) (hd : decode cc pc = .ok (.pop, 1)) (hc : va.category = 1) (kk : gh_W l G R X g k n lv (pc + 1) (st)) : gh_W l G R X g k n lv pc (va :: st) := by
  obtain ⟨p, e, s, m, args, below, meth, c, A, Q⟩ := X
  obtain ⟨hx, hb, hml, hown, hts, hC, hA⟩ := hK
  intro H locs ls hP hAa hS hl
  exact lv_pop hx hb hd hc (kk H locs ls hP hAa hS hl)
theorem gh_goto {off : Int} {tgt : Nat} (hK : gh_K G X cc nL own) (hd : decode cc pc = .ok (.goto off, 3)) (ht : (pc : Int) + off = (tgt : Int)) (kk : gh_W l G R X g k n lv tgt (st)) : gh_W l G R X g k n lv pc (st) := by
  obtain ⟨p, e, s, m, args, below, meth, c, A, Q⟩ := X
  obtain ⟨hx, hb, hml, hown, hts, hC, hA⟩ := hK
  intro H locs ls hP hAa hS hl
  exact lv_goto hx hb hd ht (kk H locs ls hP hAa hS hl)
theorem gh_ifnonnull {x : Nat} {off : Int} {tgt : Nat} (hK : gh_K G X cc nL own) (hd : decode cc pc = .ok (.ifnonnull off, 3)) (ht : (pc : Int) + off = (tgt : Int)) (kk : gh_W l G R X g k n lv tgt (st)) : gh_W l G R X g k n lv pc (.ref x :: st) := by
  obtain ⟨p, e, s, m, args, below, meth, c, A, Q⟩ := X
  obtain ⟨hx, hb, hml, hown, hts, hC, hA⟩ := hK
  intro H locs ls hP hAa hS hl
  exact lv_ifnonnull hx hb hd ht (kk H locs ls hP hAa hS hl)
theorem gh_ifnonnullN {off : Int} (hK : gh_K G X cc nL own) (hd : decode cc pc = .ok (.ifnonnull off, 3)) (kk : gh_W l G R X g k n lv (pc + 3) (st)) : gh_W l G R X g k n lv pc (.null :: st) := by
  obtain ⟨p, e, s, m, args, below, meth, c, A, Q⟩ := X
  obtain ⟨hx, hb, hml, hown, hts, hC, hA⟩ := hK
  intro H locs ls hP hAa hS hl
  exact lv_ifnonnullN hx hb hd (kk H locs ls hP hAa hS hl)
theorem gh_ifnull {x : Nat} {off : Int} (hK : gh_K G X cc nL own) (hd : decode cc pc = .ok (.ifnull off, 3)) (kk : gh_W l G R X g k n lv (pc + 3) (st)) : gh_W l G R X g k n lv pc (.ref x :: st) := by
  obtain ⟨p, e, s, m, args, below, meth, c, A, Q⟩ := X
  obtain ⟨hx, hb, hml, hown, hts, hC, hA⟩ := hK
  intro H locs ls hP hAa hS hl
  exact lv_ifnull hx hb hd (kk H locs ls hP hAa hS hl)
theorem gh_ifnullN {off : Int} {tgt : Nat} (hK : gh_K G X cc nL own) (hd : decode cc pc = .ok (.ifnull off, 3)) (ht : (pc : Int) + off = (tgt : Int)) (kk : gh_W l G R X g k n lv tgt (st)) : gh_W l G R X g k n lv pc (.null :: st) := by
  obtain ⟨p, e, s, m, args, below, meth, c, A, Q⟩ := X
  obtain ⟨hx, hb, hml, hown, hts, hC, hA⟩ := hK
  intro H locs ls hP hAa hS hl
  exact lv_ifnullN hx hb hd ht (kk H locs ls hP hAa hS hl)
-- branches
theorem gh_if_eq {x : Int32} {off : Int} {tgt : Nat} (hK : gh_K G X cc nL own) (hd : decode cc pc = .ok (.ifCond .eq off, 3)) (ht : (pc : Int) + off = (tgt : Int)) (kt : x = 0 → gh_W l G R X g k n lv tgt st) (kf : ¬ x = 0 → gh_W l G R X g k n lv (pc + 3) st) : gh_W l G R X g k n lv pc (.int x :: st) := by
  obtain ⟨p, e, s, m, args, below, meth, c, A, Q⟩ := X
  obtain ⟨hx, hb, hml, hown, hts, hC, hA⟩ := hK
  intro H locs ls hP hAa hS hl
  exact lv_if_eq hx hb hd ht (fun z => kt z H locs ls hP hAa hS hl) (fun z => kf z H locs ls hP hAa hS hl)
theorem gh_icmp_eq {x y : Int32} {off : Int} {tgt : Nat} (hK : gh_K G X cc nL own) (hd : decode cc pc = .ok (.if_icmp .eq off, 3)) (ht : (pc : Int) + off = (tgt : Int)) (kt : x = y → gh_W l G R X g k n lv tgt st) (kf : ¬ x = y → gh_W l G R X g k n lv (pc + 3) st) : gh_W l G R X g k n lv pc (.int y :: .int x :: st) := by
  obtain ⟨p, e, s, m, args, below, meth, c, A, Q⟩ := X
  obtain ⟨hx, hb, hml, hown, hts, hC, hA⟩ := hK
  intro H locs ls hP hAa hS hl
  exact lv_icmp_eq hx hb hd ht (fun z => kt z H locs ls hP hAa hS hl) (fun z => kf z H locs ls hP hAa hS hl)
theorem gh_if_ne {x : Int32} {off : Int} {tgt : Nat} (hK : gh_K G X cc nL own) (hd : decode cc pc = .ok (.ifCond .ne off, 3)) (ht : (pc : Int) + off = (tgt : Int)) (kt : ¬ x = 0 → gh_W l G R X g k n lv tgt st) (kf : x = 0 → gh_W l G R X g k n lv (pc + 3) st) : gh_W l G R X g k n lv pc (.int x :: st) := by
  obtain ⟨p, e, s, m, args, below, meth, c, A, Q⟩ := X
  obtain ⟨hx, hb, hml, hown, hts, hC, hA⟩ := hK
  intro H locs ls hP hAa hS hl
  exact lv_if_ne hx hb hd ht (fun z => kt z H locs ls hP hAa hS hl) (fun z => kf z H locs ls hP hAa hS hl)
theorem gh_icmp_ne {x y : Int32} {off : Int} {tgt : Nat} (hK : gh_K G X cc nL own) (hd : decode cc pc = .ok (.if_icmp .ne off, 3)) (ht : (pc : Int) + off = (tgt : Int)) (kt : ¬ x = y → gh_W l G R X g k n lv tgt st) (kf : x = y → gh_W l G R X g k n lv (pc + 3) st) : gh_W l G R X g k n lv pc (.int y :: .int x :: st) := by
  obtain ⟨p, e, s, m, args, below, meth, c, A, Q⟩ := X
  obtain ⟨hx, hb, hml, hown, hts, hC, hA⟩ := hK
  intro H locs ls hP hAa hS hl
  exact lv_icmp_ne hx hb hd ht (fun z => kt z H locs ls hP hAa hS hl) (fun z => kf z H locs ls hP hAa hS hl)
theorem gh_if_lt {x : Int32} {off : Int} {tgt : Nat} (hK : gh_K G X cc nL own) (hd : decode cc pc = .ok (.ifCond .lt off, 3)) (ht : (pc : Int) + off = (tgt : Int)) (kt : x < 0 → gh_W l G R X g k n lv tgt st) (kf : ¬ x < 0 → gh_W l G R X g k n lv (pc + 3) st) : gh_W l G R X g k n lv pc (.int x :: st) := by
  obtain ⟨p, e, s, m, args, below, meth, c, A, Q⟩ := X
  obtain ⟨hx, hb, hml, hown, hts, hC, hA⟩ := hK
  intro H locs ls hP hAa hS hl
  exact lv_if_lt hx hb hd ht (fun z => kt z H locs ls hP hAa hS hl) (fun z => kf z H locs ls hP hAa hS hl)
theorem gh_icmp_lt {x y : Int32} {off : Int} {tgt : Nat} (hK : gh_K G X cc nL own) (hd : decode cc pc = .ok (.if_icmp .lt off, 3)) (ht : (pc : Int) + off = (tgt : Int)) (kt : x < y → gh_W l G R X g k n lv tgt st) (kf : ¬ x < y → gh_W l G R X g k n lv (pc + 3) st) : gh_W l G R X g k n lv pc (.int y :: .int x :: st) := by
  obtain ⟨p, e, s, m, args, below, meth, c, A, Q⟩ := X
  obtain ⟨hx, hb, hml, hown, hts, hC, hA⟩ := hK
  intro H locs ls hP hAa hS hl
  exact lv_icmp_lt hx hb hd ht (fun z => kt z H locs ls hP hAa hS hl) (fun z => kf z H locs ls hP hAa hS hl)
theorem gh_if_ge {x : Int32} {off : Int} {tgt : Nat} (hK : gh_K G X cc nL own) (hd : decode cc pc = .ok (.ifCond .ge off, 3)) (ht : (pc : Int) + off = (tgt : Int)) (kt : 0 ≤ x → gh_W l G R X g k n lv tgt st) (kf : ¬ 0 ≤ x → gh_W l G R X g k n lv (pc + 3) st) : gh_W l G R X g k n lv pc (.int x :: st) := by
  obtain ⟨p, e, s, m, args, below, meth, c, A, Q⟩ := X
  obtain ⟨hx, hb, hml, hown, hts, hC, hA⟩ := hK
  intro H locs ls hP hAa hS hl
  exact lv_if_ge hx hb hd ht (fun z => kt z H locs ls hP hAa hS hl) (fun z => kf z H locs ls hP hAa hS hl)
theorem gh_icmp_ge {x y : Int32} {off : Int} {tgt : Nat} (hK : gh_K G X cc nL own) (hd : decode cc pc = .ok (.if_icmp .ge off, 3)) (ht : (pc : Int) + off = (tgt : Int)) (kt : y ≤ x → gh_W l G R X g k n lv tgt st) (kf : ¬ y ≤ x → gh_W l G R X g k n lv (pc + 3) st) : gh_W l G R X g k n lv pc (.int y :: .int x :: st) := by
  obtain ⟨p, e, s, m, args, below, meth, c, A, Q⟩ := X
  obtain ⟨hx, hb, hml, hown, hts, hC, hA⟩ := hK
  intro H locs ls hP hAa hS hl
  exact lv_icmp_ge hx hb hd ht (fun z => kt z H locs ls hP hAa hS hl) (fun z => kf z H locs ls hP hAa hS hl)
theorem gh_if_gt {x : Int32} {off : Int} {tgt : Nat} (hK : gh_K G X cc nL own) (hd : decode cc pc = .ok (.ifCond .gt off, 3)) (ht : (pc : Int) + off = (tgt : Int)) (kt : 0 < x → gh_W l G R X g k n lv tgt st) (kf : ¬ 0 < x → gh_W l G R X g k n lv (pc + 3) st) : gh_W l G R X g k n lv pc (.int x :: st) := by
  obtain ⟨p, e, s, m, args, below, meth, c, A, Q⟩ := X
  obtain ⟨hx, hb, hml, hown, hts, hC, hA⟩ := hK
  intro H locs ls hP hAa hS hl
  exact lv_if_gt hx hb hd ht (fun z => kt z H locs ls hP hAa hS hl) (fun z => kf z H locs ls hP hAa hS hl)
theorem gh_icmp_gt {x y : Int32} {off : Int} {tgt : Nat} (hK : gh_K G X cc nL own) (hd : decode cc pc = .ok (.if_icmp .gt off, 3)) (ht : (pc : Int) + off = (tgt : Int)) (kt : y < x → gh_W l G R X g k n lv tgt st) (kf : ¬ y < x → gh_W l G R X g k n lv (pc + 3) st) : gh_W l G R X g k n lv pc (.int y :: .int x :: st) := by
  obtain ⟨p, e, s, m, args, below, meth, c, A, Q⟩ := X
  obtain ⟨hx, hb, hml, hown, hts, hC, hA⟩ := hK
  intro H locs ls hP hAa hS hl
  exact lv_icmp_gt hx hb hd ht (fun z => kt z H locs ls hP hAa hS hl) (fun z => kf z H locs ls hP hAa hS hl)
theorem gh_if_le {x : Int32} {off : Int} {tgt : Nat} (hK : gh_K G X cc nL own) (hd : decode cc pc = .ok (.ifCond .le off, 3)) (ht : (pc : Int) + off = (tgt : Int)) (kt : x ≤ 0 → gh_W l G R X g k n lv tgt st) (kf : ¬ x ≤ 0 → gh_W l G R X g k n lv (pc + 3) st) : gh_W l G R X g k n lv pc (.int x :: st) := by
  obtain ⟨p, e, s, m, args, below, meth, c, A, Q⟩ := X
  obtain ⟨hx, hb, hml, hown, hts, hC, hA⟩ := hK
  intro H locs ls hP hAa hS hl
  exact lv_if_le hx hb hd ht (fun z => kt z H locs ls hP hAa hS hl) (fun z => kf z H locs ls hP hAa hS hl)
theorem gh_icmp_le {x y : Int32} {off : Int} {tgt : Nat} (hK : gh_K G X cc nL own) (hd : decode cc pc = .ok (.if_icmp .le off, 3)) (ht : (pc : Int) + off = (tgt : Int)) (kt : x ≤ y → gh_W l G R X g k n lv tgt st) (kf : ¬ x ≤ y → gh_W l G R X g k n lv (pc + 3) st) : gh_W l G R X g k n lv pc (.int y :: .int x :: st) := by
  obtain ⟨p, e, s, m, args, below, meth, c, A, Q⟩ := X
  obtain ⟨hx, hb, hml, hown, hts, hC, hA⟩ := hK
  intro H locs ls hP hAa hS hl
  exact lv_icmp_le hx hb hd ht (fun z => kt z H locs ls hP hAa hS hl) (fun z => kf z H locs ls hP hAa hS hl)
theorem gh_istore_n {i : Fin 4} {x : Int32} {lv' : List (Option Value)} (hK : gh_K G X cc nL own) (hd : decode cc pc = .ok (.istore_n i, 1)) (hn : i.val < lv.length) (hv : lv.set i.val (some (Value.int x)) = lv') (kk : gh_W l G R X g k n lv' (pc + 1) st) : gh_W l G R X g k n lv pc (Value.int x :: st) := by
  obtain ⟨p, e, s, m, args, below, meth, c, A, Q⟩ := X
  obtain ⟨hx, hb, hml, hown, hts, hC, hA⟩ := hK
  intro H locs ls hP hAa hS hl
  exact lv_istore_n hx hb hd rfl hl.has hn rfl (fun ls' hl' => kk H locs ls' hP hAa hS (hl.put rfl hv hl'))
theorem gh_istore {i : Nat} {x : Int32} {lv' : List (Option Value)} (hK : gh_K G X cc nL own) (hd : decode cc pc = .ok (.istore i, 2)) (hn : i < lv.length) (hv : lv.set i (some (Value.int x)) = lv') (kk : gh_W l G R X g k n lv' (pc + 2) st) : gh_W l G R X g k n lv pc (Value.int x :: st) := by
  obtain ⟨p, e, s, m, args, below, meth, c, A, Q⟩ := X
  obtain ⟨hx, hb, hml, hown, hts, hC, hA⟩ := hK
  intro H locs ls hP hAa hS hl
  exact lv_istore hx hb hd hl.has hn rfl (fun ls' hl' => kk H locs ls' hP hAa hS (hl.put rfl hv hl'))
theorem gh_astore_n {i : Fin 4} {x : Nat} {lv' : List (Option Value)} (hK : gh_K G X cc nL own) (hd : decode cc pc = .ok (.astore_n i, 1)) (hn : i.val < lv.length) (hv : lv.set i.val (some (Value.ref x)) = lv') (kk : gh_W l G R X g k n lv' (pc + 1) st) : gh_W l G R X g k n lv pc (Value.ref x :: st) := by
  obtain ⟨p, e, s, m, args, below, meth, c, A, Q⟩ := X
  obtain ⟨hx, hb, hml, hown, hts, hC, hA⟩ := hK
  intro H locs ls hP hAa hS hl
  exact lv_astore_n hx hb hd rfl hl.has hn rfl (fun ls' hl' => kk H locs ls' hP hAa hS (hl.put rfl hv hl'))
theorem gh_astore {i x : Nat} {lv' : List (Option Value)} (hK : gh_K G X cc nL own) (hd : decode cc pc = .ok (.astore i, 2)) (hn : i < lv.length) (hv : lv.set i (some (Value.ref x)) = lv') (kk : gh_W l G R X g k n lv' (pc + 2) st) : gh_W l G R X g k n lv pc (Value.ref x :: st) := by
  obtain ⟨p, e, s, m, args, below, meth, c, A, Q⟩ := X
  obtain ⟨hx, hb, hml, hown, hts, hC, hA⟩ := hK
  intro H locs ls hP hAa hS hl
  exact lv_astore hx hb hd hl.has hn rfl (fun ls' hl' => kk H locs ls' hP hAa hS (hl.put rfl hv hl'))
theorem gh_astore_nN {i : Fin 4} {lv' : List (Option Value)} (hK : gh_K G X cc nL own) (hd : decode cc pc = .ok (.astore_n i, 1)) (hn : i.val < lv.length) (hv : lv.set i.val (some (Value.null)) = lv') (kk : gh_W l G R X g k n lv' (pc + 1) st) : gh_W l G R X g k n lv pc (Value.null :: st) := by
  obtain ⟨p, e, s, m, args, below, meth, c, A, Q⟩ := X
  obtain ⟨hx, hb, hml, hown, hts, hC, hA⟩ := hK
  intro H locs ls hP hAa hS hl
  exact lv_astore_nN hx hb hd rfl hl.has hn rfl (fun ls' hl' => kk H locs ls' hP hAa hS (hl.put rfl hv hl'))
theorem gh_astoreN {i : Nat} {lv' : List (Option Value)} (hK : gh_K G X cc nL own) (hd : decode cc pc = .ok (.astore i, 2)) (hn : i < lv.length) (hv : lv.set i (some (Value.null)) = lv') (kk : gh_W l G R X g k n lv' (pc + 2) st) : gh_W l G R X g k n lv pc (Value.null :: st) := by
  obtain ⟨p, e, s, m, args, below, meth, c, A, Q⟩ := X
  obtain ⟨hx, hb, hml, hown, hts, hC, hA⟩ := hK
  intro H locs ls hP hAa hS hl
  exact lv_astoreN hx hb hd hl.has hn rfl (fun ls' hl' => kk H locs ls' hP hAa hS (hl.put rfl hv hl'))
theorem gh_iinc {i : Nat} {j : Int} {x v : Int32} {lv' : List (Option Value)} (hK : gh_K G X cc nL own) (hd : decode cc pc = .ok (.iinc i j, 3)) (hx1 : lv[i]? = some (some (.int x))) (hj : x + Int32.ofInt j = v) (hv : lv.set i (some (.int v)) = lv') (kk : gh_W l G R X g k n lv' (pc + 3) st) : gh_W l G R X g k n lv pc st := by
  obtain ⟨p, e, s, m, args, below, meth, c, A, Q⟩ := X
  obtain ⟨hx, hb, hml, hown, hts, hC, hA⟩ := hK
  intro H locs ls hP hAa hS hl
  obtain ⟨q, hq⟩ := List.getElem?_of_mem (gh_pr_mem.mpr hx1)
  exact lv_iinc hx hb hd hl.has hq hj (List.getElem?_eq_some_iff.mp hx1).1 rfl (fun ls' hl' => kk H locs ls' hP hAa hS (hl.put rfl hv hl'))
theorem gh_widen {k' n' : Nat} (h1 : k ≤ k') (h2 : n ≤ n') (kk : gh_W l G R X g k' n' lv pc st) : gh_W l G R X g k n lv pc st := by
  obtain ⟨p, e, s, m, args, below, meth, c, A, Q⟩ := X
  intro H locs ls hP hAa hS hl
  exact W.widen h1 h2 (kk H locs ls hP hAa hS hl)
theorem gh_topi {x : Int32} (kk : ∀ y : Int32, y = x → gh_W l G R X g k n lv pc (.int y :: st)) : gh_W l G R X g k n lv pc (.int x :: st) := kk x rfl
theorem gh_to {x y : Int32} (h : x = y) (kk : gh_W l G R X g k n lv pc (.int y :: st)) : gh_W l G R X g k n lv pc (.int x :: st) := h ▸ kk
/-- fewer locals are known -/
theorem gh_less {lv' : List (Option Value)} (h1 : lv'.length = lv.length) (h2 : ∀ (i : Nat) (v : Value), lv'[i]? = some (some v) → lv[i]? = some (some v)) (kk : gh_W l G R X g k n lv' pc st) : gh_W l G R X g k n lv pc st := by
  obtain ⟨p, e, s, m, args, below, meth, c, A, Q⟩ := X
  intro H locs ls hP hAa hS hl
  exact kk H locs ls hP hAa hS ⟨by rw [h1]; exact hl.1, hl.2.1, fun i v h => hl.2.2 i v (h2 i v h)⟩
-- fields: the class's table by its number ci
theorem gh_get {ref C : String} {T : u_T} {N ci index a t : Nat} {fs : List Value} {v : Value} (hK : gh_K G X cc nL own) (hd : decode cc pc = .ok (.getfield index, 3)) (hin : ∀ w ∈ u_ws C T N, w ∈ gTbl) (hc : vwCl[ci]? = some (C, T, N)) (he : g a = some (t, .inr (ci, fs))) (j : Nat) (hj : j < N) (hlink : Cond.fieldLink own index ref (T j).2.1 (T j).2.2.1 ∈ gTbl) (hsame : (T j).1 = ref) (hv : fs[j]? = some v) (kk : gh_W l G R X g k n lv (pc + 3) (v :: st)) : gh_W l G R X g k n lv pc (.ref a :: st) := by
  obtain ⟨p, e, s, m, args, below, meth, c, A, Q⟩ := X
  obtain ⟨hx, hb, hml, hown, hts, hC, hA⟩ := hK
  intro H locs ls hP hAa hS hl
  exact va_get (ws := [(a, .inr (ci, fs))]) hx hb hts hin hown hC.1 (fun i q hi => by
    have hz : i < 1 := (List.getElem?_eq_some_iff.mp hi).1
    rw [show i = 0 by omega] at hi
    cases hi
    exact hP a t _ he) 0 rfl hc j hj (hts _ hlink) (fun x h => by rw [← hsame]; exact h) hv hd (kk H locs ls hP hAa hS hl)
theorem gh_put {ref C : String} {T : u_T} {N ci index a t : Nat} {fs fs' : List Value} {v : Value} (hK : gh_K G X cc nL own) (hd : decode cc pc = .ok (.putfield index, 3)) (hin : ∀ w ∈ u_ws C T N, w ∈ gTbl) (ty0 : Nat → FieldType) (hty : ∀ i, i < N → parseFieldDescriptor (T i).2.2.1 = some (ty0 i)) (hnm : ∀ a, a < N → ∀ b, b < N → a ≠ b → (T a).2.1 ≠ (T b).2.1) (hc : vwCl[ci]? = some (C, T, N)) (he : g a = some (t, .inr (ci, fs))) (j : Nat) (hj : j < N) (hlink : Cond.fieldLink own index ref (T j).2.1 (T j).2.2.1 ∈ gTbl) (hsame : (T j).1 = ref) (hfin : (T j).2.2.2 = false) (hn : narrow (ty0 j) v = v) (hfit : fits (ty0 j) v = true) (hl0 : j < fs.length) (hfs : fs.set j v = fs') (kk : gh_W l G R X (gh_up g a t (.inr (ci, fs'))) k n lv (pc + 3) st) : gh_W l G R X g k n lv pc (v :: .ref a :: st) := by
  obtain ⟨p, e, s, m, args, below, meth, c, A, Q⟩ := X
  obtain ⟨hx, hb, hml, hown, hts, hC, hA⟩ := hK
  intro H locs ls hP hAa hS hl
  subst hfs
  obtain ⟨ws, w1, w2, w3, w4⟩ := gh_list hP hAa
  obtain ⟨q0, hq⟩ := w3 a t _ he
  refine va_put hx hb hts hin ty0 hty hnm hown hC.1 w1 w2 hS q0 hq hc j hj (hts _ hlink) (fun x h => by rw [← hsame]; exact h) hfin (hty j hj) hn hfit hl0 hd (fun H1 locs1 h1 h2 h3 => kk H1 locs1 ls (gh_set t w2 w3 hq h1) (fun b hb => ?_) h3 hl)
  by_cases hba : b = a
  · rw [hba]; exact hAa a (by rw [he]; exact fun z => by cases z)
  · rw [gh_un hba] at hb; exact hAa b hb
theorem gh_putF {C : String} {T : u_T} {N ci index a t : Nat} {fs fs' : List Value} {v : Value} (hK : gh_K G X cc nL own) (hI : gh_I X) (hd : decode cc pc = .ok (.putfield index, 3)) (hin : ∀ w ∈ u_ws C T N, w ∈ gTbl) (ty0 : Nat → FieldType) (hty : ∀ i, i < N → parseFieldDescriptor (T i).2.2.1 = some (ty0 i)) (hnm : ∀ a, a < N → ∀ b, b < N → a ≠ b → (T a).2.1 ≠ (T b).2.1) (hc : vwCl[ci]? = some (C, T, N)) (he : g a = some (t, .inr (ci, fs))) (j : Nat) (hj : j < N) (hlink : Cond.fieldLink own index own (T j).2.1 (T j).2.2.1 ∈ gTbl) (hsame : (T j).1 = own) (hfin : (T j).2.2.2 = true) (hn : narrow (ty0 j) v = v) (hfit : fits (ty0 j) v = true) (hl0 : j < fs.length) (hfs : fs.set j v = fs') (kk : gh_W l G R X (gh_up g a t (.inr (ci, fs'))) k n lv (pc + 3) st) : gh_W l G R X g k n lv pc (v :: .ref a :: st) := by
  obtain ⟨p, e, s, m, args, below, meth, c, A, Q⟩ := X
  obtain ⟨hx, hb, hml, hown, hts, hC, hA⟩ := hK
  intro H locs ls hP hAa hS hl
  subst hfs
  obtain ⟨ws, w1, w2, w3, w4⟩ := gh_list hP hAa
  obtain ⟨q0, hq⟩ := w3 a t _ he
  refine va_putF hx hb hts hin ty0 hty hnm hown hC.1 w1 w2 hS q0 hq hc j hj (hts _ hlink) (fun x h => by rw [← hsame]; exact h) hfin hI hsame (hty j hj) hn hfit hl0 hd (fun H1 locs1 h1 h2 h3 => kk H1 locs1 ls (gh_set t w2 w3 hq h1) (fun b hb => ?_) h3 hl)
  by_cases hba : b = a
  · rw [hba]; exact hAa a (by rw [he]; exact fun z => by cases z)
  · rw [gh_un hba] at hb; exact hAa b hb
end GHR
section GHR2
variable {l : Launch} {G : GG} {R : Room} {X : GX} {cc : ByteArray} {nL : Nat} {own : String} {g : GH} {k n pc : Nat} {lv : List (Option Value)} {st : List Value}
theorem gh_iald {a t N t0 : Nat} {cA : ClassId} {f : Nat → Int32} {i : Int32} (hK : gh_K G X cc nL own) (hd : decode cc pc = .ok (.iaload, 1)) (he : g a = some (t, .inl (cA, N, .inl f))) (ht : (gh_tys G)[t0]? = some (cA, .int)) (hin : vp_in i N) (kk : gh_W l G R X g k n lv (pc + 1) (.int (f i.toNatClampNeg) :: st)) : gh_W l G R X g k n lv pc (.int i :: .ref a :: st) := by
  obtain ⟨p, e, s, m, args, below, meth, c, A, Q⟩ := X
  obtain ⟨hx, hb, hml, hown, hts, hC, hA⟩ := hK
  intro H locs ls hP hAa hS hl
  exact va_iald (ws := [(a, .inl (cA, N, .inl f))]) hx hb hC.1 (fun i q hi => by
    have hz : i < 1 := (List.getElem?_eq_some_iff.mp hi).1
    rw [show i = 0 by omega] at hi
    cases hi
    exact hP a t _ he) 0 t0 rfl ht hin hd (kk H locs ls hP hAa hS hl)
theorem gh_ialdN {a t N t0 j : Nat} {cA : ClassId} {f : Nat → Int32} (hK : gh_K G X cc nL own) (hd : decode cc pc = .ok (.iaload, 1)) (he : g a = some (t, .inl (cA, N, .inl f))) (ht : (gh_tys G)[t0]? = some (cA, .int)) (hj : j < N) (hN : N < 2 ^ 31) (kk : gh_W l G R X g k n lv (pc + 1) (.int (f j) :: st)) : gh_W l G R X g k n lv pc (.int (nI j) :: .ref a :: st) := by
  refine gh_iald hK hd he ht (vp_in_nI hj hN) ?_
  rw [nI_clamp (by omega)]
  exact kk
theorem gh_cald {a t N t0 : Nat} {cA : ClassId} {f : Nat → Int32} {i : Int32} (hK : gh_K G X cc nL own) (hd : decode cc pc = .ok (.caload, 1)) (he : g a = some (t, .inl (cA, N, .inl f))) (ht : (gh_tys G)[t0]? = some (cA, .char)) (hin : vp_in i N) (kk : gh_W l G R X g k n lv (pc + 1) (.int (f i.toNatClampNeg) :: st)) : gh_W l G R X g k n lv pc (.int i :: .ref a :: st) := by
  obtain ⟨p, e, s, m, args, below, meth, c, A, Q⟩ := X
  obtain ⟨hx, hb, hml, hown, hts, hC, hA⟩ := hK
  intro H locs ls hP hAa hS hl
  exact va_cald (ws := [(a, .inl (cA, N, .inl f))]) hx hb hC.1 (fun i q hi => by
    have hz : i < 1 := (List.getElem?_eq_some_iff.mp hi).1
    rw [show i = 0 by omega] at hi
    cases hi
    exact hP a t _ he) 0 t0 rfl ht hin hd (kk H locs ls hP hAa hS hl)
theorem gh_caldN {a t N t0 j : Nat} {cA : ClassId} {f : Nat → Int32} (hK : gh_K G X cc nL own) (hd : decode cc pc = .ok (.caload, 1)) (he : g a = some (t, .inl (cA, N, .inl f))) (ht : (gh_tys G)[t0]? = some (cA, .char)) (hj : j < N) (hN : N < 2 ^ 31) (kk : gh_W l G R X g k n lv (pc + 1) (.int (f j) :: st)) : gh_W l G R X g k n lv pc (.int (nI j) :: .ref a :: st) := by
  refine gh_cald hK hd he ht (vp_in_nI hj hN) ?_
  rw [nI_clamp (by omega)]
  exact kk
theorem gh_bald {a t N t0 : Nat} {cA : ClassId} {f : Nat → Int32} {i : Int32} (hK : gh_K G X cc nL own) (hd : decode cc pc = .ok (.baload, 1)) (he : g a = some (t, .inl (cA, N, .inl f))) (ht : (gh_tys G)[t0]? = some (cA, .byte)) (hin : vp_in i N) (kk : gh_W l G R X g k n lv (pc + 1) (.int (f i.toNatClampNeg) :: st)) : gh_W l G R X g k n lv pc (.int i :: .ref a :: st) := by
  obtain ⟨p, e, s, m, args, below, meth, c, A, Q⟩ := X
  obtain ⟨hx, hb, hml, hown, hts, hC, hA⟩ := hK
  intro H locs ls hP hAa hS hl
  exact va_bald (ws := [(a, .inl (cA, N, .inl f))]) hx hb hC.1 (fun i q hi => by
    have hz : i < 1 := (List.getElem?_eq_some_iff.mp hi).1
    rw [show i = 0 by omega] at hi
    cases hi
    exact hP a t _ he) 0 t0 rfl ht hin hd (kk H locs ls hP hAa hS hl)
theorem gh_baldN {a t N t0 j : Nat} {cA : ClassId} {f : Nat → Int32} (hK : gh_K G X cc nL own) (hd : decode cc pc = .ok (.baload, 1)) (he : g a = some (t, .inl (cA, N, .inl f))) (ht : (gh_tys G)[t0]? = some (cA, .byte)) (hj : j < N) (hN : N < 2 ^ 31) (kk : gh_W l G R X g k n lv (pc + 1) (.int (f j) :: st)) : gh_W l G R X g k n lv pc (.int (nI j) :: .ref a :: st) := by
  refine gh_bald hK hd he ht (vp_in_nI hj hN) ?_
  rw [nI_clamp (by omega)]
  exact kk
theorem gh_aald {a t N t0 : Nat} {cA : ClassId} {C : String} {f : Nat → Option Nat} {i : Int32} (hK : gh_K G X cc nL own) (hd : decode cc pc = .ok (.aaload, 1)) (he : g a = some (t, .inl (cA, N, .inr (.inr (.inr (.inr f)))))) (ht : (gh_tys G)[t0]? = some (cA, .object C)) (hin : vp_in i N) (kk : gh_W l G R X g k n lv (pc + 1) (va_rf (f i.toNatClampNeg) :: st)) : gh_W l G R X g k n lv pc (.int i :: .ref a :: st) := by
  obtain ⟨p, e, s, m, args, below, meth, c, A, Q⟩ := X
  obtain ⟨hx, hb, hml, hown, hts, hC, hA⟩ := hK
  intro H locs ls hP hAa hS hl
  exact va_aldq (ws := [(a, .inl (cA, N, .inr (.inr (.inr (.inr f)))))]) hx hb hC.1 (fun i q hi => by
    have hz : i < 1 := (List.getElem?_eq_some_iff.mp hi).1
    rw [show i = 0 by omega] at hi
    cases hi
    exact hP a t _ he) 0 t0 rfl ht hin hd (kk H locs ls hP hAa hS hl)
theorem gh_alen {a t t0 : Nat} {cA : ClassId} {x : vp_A} {ty : FieldType} {v : Int32} (hK : gh_K G X cc nL own) (hd : decode cc pc = .ok (.arraylength, 1)) (he : g a = some (t, .inl (cA, x))) (ht : (gh_tys G)[t0]? = some (cA, ty)) (hv : nI x.1 = v) (kk : gh_W l G R X g k n lv (pc + 1) (.int v :: st)) : gh_W l G R X g k n lv pc (.ref a :: st) := by
  obtain ⟨p, e, s, m, args, below, meth, c, A, Q⟩ := X
  obtain ⟨hx, hb, hml, hown, hts, hC, hA⟩ := hK
  intro H locs ls hP hAa hS hl
  exact va_alen (ws := [(a, .inl (cA, x))]) hx hb hC.1 (fun i q hi => by
    have hz : i < 1 := (List.getElem?_eq_some_iff.mp hi).1
    rw [show i = 0 by omega] at hi
    cases hi
    exact hP a t _ he) 0 t0 rfl ht hv hd (kk H locs ls hP hAa hS hl)
theorem gh_iast {a t N t0 : Nat} {cA : ClassId} {f : Nat → Int32} {i x : Int32} (hK : gh_K G X cc nL own) (hd : decode cc pc = .ok (.iastore, 1)) (he : g a = some (t, .inl (cA, N, .inl f))) (ht : (gh_tys G)[t0]? = some (cA, .int)) (hin : vp_in i N) (kk : gh_W l G R X (gh_up g a t (.inl (cA, N, .inl (upd f i.toNatClampNeg x)))) k n lv (pc + 1) st) : gh_W l G R X g k n lv pc (.int x :: .int i :: .ref a :: st) := by
  obtain ⟨p, e, s, m, args, below, meth, c, A, Q⟩ := X
  obtain ⟨hx, hb, hml, hown, hts, hC, hA⟩ := hK
  intro H locs ls hP hAa hS hl
  obtain ⟨ws, w1, w2, w3, w4⟩ := gh_list hP hAa
  obtain ⟨q0, hq⟩ := w3 a t _ he
  refine va_iast hx hb hC.1 w1 w2 hS q0 t0 hq ht hin hd (fun H1 locs1 h1 h2 h3 => kk H1 locs1 ls (gh_set t w2 w3 hq h1) (fun b hb => ?_) h3 hl)
  by_cases hba : b = a
  · rw [hba]; exact hAa a (by rw [he]; exact fun z => by cases z)
  · rw [gh_un hba] at hb; exact hAa b hb
theorem gh_cast {a t N t0 : Nat} {cA : ClassId} {f : Nat → Int32} {i x : Int32} (hK : gh_K G X cc nL own) (hd : decode cc pc = .ok (.castore, 1)) (he : g a = some (t, .inl (cA, N, .inl f))) (ht : (gh_tys G)[t0]? = some (cA, .char)) (hin : vp_in i N) (kk : gh_W l G R X (gh_up g a t (.inl (cA, N, .inl (upd f i.toNatClampNeg (vp_nar .char x))))) k n lv (pc + 1) st) : gh_W l G R X g k n lv pc (.int x :: .int i :: .ref a :: st) := by
  obtain ⟨p, e, s, m, args, below, meth, c, A, Q⟩ := X
  obtain ⟨hx, hb, hml, hown, hts, hC, hA⟩ := hK
  intro H locs ls hP hAa hS hl
  obtain ⟨ws, w1, w2, w3, w4⟩ := gh_list hP hAa
  obtain ⟨q0, hq⟩ := w3 a t _ he
  refine va_cast hx hb hC.1 w1 w2 hS q0 t0 hq ht hin hd (fun H1 locs1 h1 h2 h3 => kk H1 locs1 ls (gh_set t w2 w3 hq h1) (fun b hb => ?_) h3 hl)
  by_cases hba : b = a
  · rw [hba]; exact hAa a (by rw [he]; exact fun z => by cases z)
  · rw [gh_un hba] at hb; exact hAa b hb
theorem gh_castN {a t N t0 j x : Nat} {cA : ClassId} {f : Nat → Int32} (hK : gh_K G X cc nL own) (hd : decode cc pc = .ok (.castore, 1)) (he : g a = some (t, .inl (cA, N, .inl f))) (ht : (gh_tys G)[t0]? = some (cA, .char)) (hj : j < N) (hN : N < 2 ^ 31) (hx16 : x < 65536) (kk : gh_W l G R X (gh_up g a t (.inl (cA, N, .inl (upd f j (nI x))))) k n lv (pc + 1) st) : gh_W l G R X g k n lv pc (.int (nI x) :: .int (nI j) :: .ref a :: st) := by
  refine gh_cast hK hd he ht (vp_in_nI hj hN) ?_
  have e : vp_nar .char (nI x) = nI x := by
    unfold vp_nar
    rw [(pk_charN hx16).1]
  rw [nI_clamp (by omega), e]
  exact kk
theorem gh_iastN {a t N t0 j : Nat} {x : Int32} {cA : ClassId} {f : Nat → Int32} (hK : gh_K G X cc nL own) (hd : decode cc pc = .ok (.iastore, 1)) (he : g a = some (t, .inl (cA, N, .inl f))) (ht : (gh_tys G)[t0]? = some (cA, .int)) (hj : j < N) (hN : N < 2 ^ 31) (kk : gh_W l G R X (gh_up g a t (.inl (cA, N, .inl (upd f j x)))) k n lv (pc + 1) st) : gh_W l G R X g k n lv pc (.int x :: .int (nI j) :: .ref a :: st) := by
  refine gh_iast hK hd he ht (vp_in_nI hj hN) ?_
  rw [nI_clamp (by omega)]
  exact kk
theorem gh_new {C : String} {T : u_T} {N ci index : Nat} {fs : List Value} (t : Nat) (hK : gh_K G X cc nL own) (hd : decode cc pc = .ok (.new index, 3)) (hin : ∀ w ∈ u_ws C T N, w ∈ gTbl) (ty : Nat → FieldType) (hty : ∀ i, i < N → parseFieldDescriptor (T i).2.2.1 = some (ty i)) (hc : vwCl[ci]? = some (C, T, N)) (hcl : Cond.classLink own index C ∈ gTbl) (hinst : Cond.instantiable C N ∈ gTbl) (hini : Cond.initialized C ∈ gTbl) (hfs : ∀ j, j < N → defaultValue (ty j) = vp_V fs j) (hcells : k + 1 ≤ R.cells) (hslots : n + N ≤ R.slots) (kk : ∀ a : Nat, g a = none → gh_W l G R X (gh_up g a t (.inr (ci, fs))) (k + 1) (n + N) lv (pc + 3) (.ref a :: st)) : gh_W l G R X g k n lv pc st := by
  obtain ⟨p, e, s, m, args, below, meth, c, A, Q⟩ := X
  obtain ⟨hx, hb, hml, hown, hts, hC, hA⟩ := hK
  intro H locs ls hP hAa hS hl
  obtain ⟨ws, w1, w2, w3, w4⟩ := gh_list hP hAa
  refine va_new hx hb hts hin ty hty hown (hts _ hcl) (hts _ hinst) (hts _ hini) hC.1 w1 w2 hS hA hc hfs hcells hslots hd (fun q H1 h1 h2 h3 => ?_)
  obtain ⟨z1, z2⟩ := gh_push t w3 h1 h2
  refine kk q z1 H1 locs ls z2 (fun b hb => ?_) h3 hl
  by_cases hba : b = q
  · rw [hba]
    exact h2.2 ws.length (q, .inr (ci, fs)) (by rw [List.getElem?_append_right (Nat.le_refl _), Nat.sub_self]; rfl)
  · rw [gh_un hba] at hb; exact hAa b hb
end GHR2
