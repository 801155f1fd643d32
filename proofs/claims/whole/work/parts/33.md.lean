/-! THE REFERENCE: one object, thirteen int arrays -/
abbrev MdS : Type := Nat × Nat × Nat × Nat × Nat × Nat × Nat × Nat × Nat × Nat × Nat
abbrev mS (cd ty ne fr tt ap fi en wr mk wd : Nat) : MdS := (cd, ty, ne, fr, tt, ap, fi, en, wr, mk, wd)
abbrev MdF (B : Nat → Nat) (s : MdS) (o : List Nat × Nat) : List Value := [.int (nI s.1), .int (nI s.2.1), .ref (B 1), .int (nI o.1.length), .ref (B 2), .int (nI o.2), .int (nI s.2.2.1), .ref (B 3), .ref (B 4), .ref (B 5), .ref (B 6), .ref (B 7), .ref (B 8), .ref (B 9), .int (nI s.2.2.2.1), .int (nI s.2.2.2.2.1), .int (nI s.2.2.2.2.2.1), .int (nI s.2.2.2.2.2.2.1), .int (nI s.2.2.2.2.2.2.2.1), .int (nI s.2.2.2.2.2.2.2.2.1), .int (nI s.2.2.2.2.2.2.2.2.2.1), .ref (B 10), .int (nI s.2.2.2.2.2.2.2.2.2.2), .ref (B 11), .ref (B 12), .ref (B 13)]
def MDT : List Nat := [100, 101, 102, 103, 104, 105, 106, 107, 108, 109, 110, 111, 112, 113]
def mAr : List Nat := [1, 3, 4, 5, 6, 7, 8, 9, 10, 11, 12, 13]
def mcp (j : Nat) : Nat := [0, 2048, 6000, 300, 300, 4800, 2, 16, 48, 288, 64, 1024, 1024, 4096].getD j 0
def upF (F : Nat → Nat → Int32) (j : Nat) (f : Nat → Int32) : Nat → Nat → Int32 := fun i => if i = j then f else F i
theorem upF_s {F : Nat → Nat → Int32} {j : Nat} {f : Nat → Int32} : upF F j f j = f := if_pos rfl
theorem upF_n {F : Nat → Nat → Int32} {j i : Nat} {f : Nat → Int32} (h : i ≠ j) : upF F j f i = F i := if_neg h
def Md (G : GG) (g : GH) (B : Nat → Nat) (s : MdS) (F : Nat → Nat → Int32) (o : List Nat × Nat) : Prop := g (B 0) = some (100, .inr (10, MdF B s o)) ∧ (∀ j, j ∈ mAr → g (B j) = some (100 + j, .inl (G.2.1 1, mcp j, .inl (F j)))) ∧ (∃ f, g (B 2) = some (102, .inl (G.2.1 1, 6000, .inl f)) ∧ chs f o.1) ∧ o.1.length ≤ 6000
theorem Md.M {G : GG} {g g' : GH} {B : Nat → Nat} {s : MdS} {F : Nat → Nat → Int32} {o : List Nat × Nat} {S : List Nat} (h : Md G g B s F o) (hM : gh_M S g g') (hS : ∀ t, t ∈ MDT → t ∉ S) : Md G g' B s F o := by
  obtain ⟨h1, h2, ⟨f, h3, h4⟩, h5⟩ := h
  refine ⟨hM _ 100 _ h1 (hS _ (by decide)), fun j hj => hM _ (100 + j) _ (h2 j hj) (hS _ ?_), ⟨f, hM _ 102 _ h3 (hS _ (by decide)), h4⟩, h5⟩
  simp [mAr] at hj
  simp [MDT]
  omega
theorem Md.nj {G : GG} {g : GH} {B : Nat → Nat} {s : MdS} {F : Nat → Nat → Int32} {o : List Nat × Nat} (h : Md G g B s F o) {j : Nat} (hj : j ∈ mAr) : B j ≠ B 0 ∧ B j ≠ B 2 ∧ ∀ i, i ∈ mAr → i ≠ j → B i ≠ B j := by
  obtain ⟨h1, h2, ⟨f, h3, h4⟩, h5⟩ := h
  have z := h2 j hj
  have hj2 : j ≠ 0 ∧ j ≠ 2 := by simp [mAr] at hj; omega
  refine ⟨fun e => ?_, fun e => ?_, fun i hi hn e => ?_⟩
  · rw [e, h1] at z
    have := congrArg (fun q => q.1) (Option.some.inj z)
    dsimp at this
    omega
  · rw [e, h3] at z
    have := congrArg (fun q => q.1) (Option.some.inj z)
    dsimp at this
    omega
  · rw [← e, h2 i hi] at z
    have := congrArg (fun q => q.1) (Option.some.inj z)
    dsimp at this
    omega
theorem Md.n2 {G : GG} {g : GH} {B : Nat → Nat} {s : MdS} {F : Nat → Nat → Int32} {o : List Nat × Nat} (h : Md G g B s F o) : B 2 ≠ B 0 := fun e => by
  obtain ⟨h1, h2, ⟨f, h3, h4⟩, h5⟩ := h
  rw [e, h1] at h3
  cases h3
theorem Md.stf {G : GG} {g : GH} {B : Nat → Nat} {s : MdS} {F : Nat → Nat → Int32} {o : List Nat × Nat} (h : Md G g B s F o) (s' : MdS) : Md G (gh_up g (B 0) 100 (.inr (10, MdF B s' o))) B s' F o ∧ gh_M MDT g (gh_up g (B 0) 100 (.inr (10, MdF B s' o))) := by
  have n2 := h.n2
  refine ⟨⟨gh_us, fun j hj => by rw [gh_un (h.nj hj).1]; exact h.2.1 j hj, ?_, h.2.2.2⟩, gh_M.up h.1 (by decide)⟩
  obtain ⟨f, h3, h4⟩ := h.2.2.1
  exact ⟨f, by rw [gh_un n2]; exact h3, h4⟩
theorem Md.sta {G : GG} {g : GH} {B : Nat → Nat} {s : MdS} {F : Nat → Nat → Int32} {o : List Nat × Nat} (h : Md G g B s F o) {j : Nat} (hj : j ∈ mAr) (f' : Nat → Int32) : Md G (gh_up g (B j) (100 + j) (.inl (G.2.1 1, mcp j, .inl f'))) B s (upF F j f') o ∧ gh_M MDT g (gh_up g (B j) (100 + j) (.inl (G.2.1 1, mcp j, .inl f'))) := by
  obtain ⟨n0, n2, nn⟩ := h.nj hj
  refine ⟨⟨by rw [gh_un (fun z => n0 z.symm)]; exact h.1, fun i hi => ?_, ?_, h.2.2.2⟩, gh_M.up (h.2.1 j hj) ?_⟩
  · by_cases e : i = j
    · subst e; rw [gh_us, upF_s]
    · rw [gh_un (nn i hi e), upF_n e]; exact h.2.1 i hi
  · obtain ⟨f, h3, h4⟩ := h.2.2.1
    exact ⟨f, by rw [gh_un (fun z => n2 z.symm)]; exact h3, h4⟩
  · simp [mAr] at hj
    simp [MDT]
    omega
section GHM
variable {l : Launch} {G : GG} {R : Room} {X : GX} {cc : ByteArray} {nL : Nat} {own : String} {g : GH} {k n pc mc ms : Nat} {lv : List (Option Value)} {st : List Value} {B : Nat → Nat} {s : MdS} {F : Nat → Nat → Int32} {o : List Nat × Nat}
theorem gh_mput {index : Nat} {v : Int32} (hK : gh_K G X cc nL own) (hd : decode cc pc = .ok (.putfield index, 3)) (h : Md G g B s F o) (j : Nat) (s' : MdS) (hs : (MdF B s o).set j (.int v) = MdF B s' o) (hj : j < 26) (hlink : Cond.fieldLink own index "SpellDeskModel" (F_Md j).2.1 (F_Md j).2.2.1 ∈ gTbl) (hsame : (F_Md j).1 = "SpellDeskModel") (hfin : (F_Md j).2.2.2 = false) (hn : narrow (t_Md j) (.int v) = .int v) (hfit : fits (t_Md j) (.int v) = true) (hl0 : j < 26) (kk : ∀ g' : GH, Md G g' B s' F o → gh_M MDT g g' → gh_W l G R X g' k n lv (pc + 3) st) : gh_W l G R X g k n lv pc (.int v :: .ref (B 0) :: st) := by
  refine gh_put (fs' := MdF B s' o) hK hd in_Md t_Md ty_Md nm_Md rfl h.1 j hj hlink hsame hfin hn hfit (Nat.lt_of_lt_of_le hl0 (Nat.le_refl 26)) hs ?_
  obtain ⟨h1, h2⟩ := h.stf s'
  exact kk _ h1 h2
theorem gh_mald {i : Nat} {x : Int32} (hK : gh_K G X cc nL own) (hd : decode cc pc = .ok (.iaload, 1)) (h : Md G g B s F o) (j : Nat) (hj : j ∈ mAr) (hi : i < mcp j) (hx : F j i = x) (kk : gh_W l G R X g k n lv (pc + 1) (.int x :: st)) : gh_W l G R X g k n lv pc (.int (nI i) :: .ref (B j) :: st) := by
  have hc : mcp j < 2 ^ 31 := by
    simp [mAr] at hj
    rcases hj with rfl | rfl | rfl | rfl | rfl | rfl | rfl | rfl | rfl | rfl | rfl | rfl <;> decide
  refine gh_ialdN (t0 := 1) hK hd (h.2.1 j hj) rfl hi hc ?_
  rw [hx]
  exact kk
theorem gh_mast {i : Nat} {x : Int32} (hK : gh_K G X cc nL own) (hd : decode cc pc = .ok (.iastore, 1)) (h : Md G g B s F o) (j : Nat) (hj : j ∈ mAr) (hi : i < mcp j) (kk : ∀ g' : GH, Md G g' B s (upF F j (upd (F j) i x)) o → gh_M MDT g g' → gh_W l G R X g' k n lv (pc + 1) st) : gh_W l G R X g k n lv pc (.int x :: .int (nI i) :: .ref (B j) :: st) := by
  have hc : mcp j < 2 ^ 31 := by
    simp [mAr] at hj
    rcases hj with rfl | rfl | rfl | rfl | rfl | rfl | rfl | rfl | rfl | rfl | rfl | rfl <;> decide
  refine gh_iastN (t0 := 1) hK hd (h.2.1 j hj) rfl hi hc ?_
  obtain ⟨h1, h2⟩ := h.sta hj (upd (F j) i x)
  exact kk _ h1 h2
end GHM
