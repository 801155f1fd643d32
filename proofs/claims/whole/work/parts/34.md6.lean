/-! SELECTION: the least word behind a word -/
def latB (la : Option (List Nat)) (w : List Nat) : Bool := match la with
  | none => true
  | some x => decide (0 < cmpL w x)
def selN (ws : List (List Nat)) (la : Option (List Nat)) : Nat → Option Nat
  | 0 => none
  | e + 1 => match selN ws la e with
    | none => if latB la (ws.getD e []) = true then some e else none
    | some b => if latB la (ws.getD e []) = true ∧ cmpL (ws.getD e []) (ws.getD b []) < 0 then some e else some b
theorem selN_spec (ws : List (List Nat)) (la : Option (List Nat)) : ∀ n, (selN ws la n = none → ∀ i, i < n → latB la (ws.getD i []) = false) ∧ ∀ b, selN ws la n = some b → b < n ∧ latB la (ws.getD b []) = true ∧ ∀ i, i < n → latB la (ws.getD i []) = true → cmpL (ws.getD b []) (ws.getD i []) ≤ 0
  | 0 => ⟨fun _ i hi => absurd hi (Nat.not_lt_zero _), fun b h => by cases h⟩
  | e + 1 => by
    obtain ⟨ih1, ih2⟩ := selN_spec ws la e
    rw [selN]
    cases hs : selN ws la e with
    | none =>
      have k := ih1 hs
      dsimp only
      by_cases z : latB la (ws.getD e []) = true
      · rw [if_pos z]
        refine ⟨fun h => (by cases h), fun b h => ?_⟩
        cases h
        refine ⟨by omega, z, fun i hi hl => ?_⟩
        by_cases q : i = e
        · rw [q, cmpL_self]; exact Int.le_refl _
        · rw [k i (by omega)] at hl; cases hl
      · rw [if_neg z]
        refine ⟨fun _ i hi => ?_, fun b h => by cases h⟩
        by_cases q : i = e
        · rw [q]; exact Bool.eq_false_iff.mpr z
        · exact k i (by omega)
    | some c =>
      obtain ⟨k1, k2, k3⟩ := ih2 c hs
      dsimp only
      by_cases z : latB la (ws.getD e []) = true ∧ cmpL (ws.getD e []) (ws.getD c []) < 0
      · rw [if_pos z]
        refine ⟨fun h => (by cases h), fun b h => ?_⟩
        cases h
        refine ⟨by omega, z.1, fun i hi hl => ?_⟩
        by_cases q : i = e
        · rw [q, cmpL_self]; exact Int.le_refl _
        · have k4 := k3 i (by omega) hl
          by_cases q2 : cmpL (ws.getD c []) (ws.getD i []) = 0
          · rw [← (cmpL_zero _ _).mp q2]; omega
          · have := cmpL_trans _ _ _ z.2 (show cmpL (ws.getD c []) (ws.getD i []) < 0 by omega)
            omega
      · rw [if_neg z]
        refine ⟨fun h => (by cases h), fun b h => ?_⟩
        cases h
        refine ⟨by omega, k2, fun i hi hl => ?_⟩
        by_cases q : i = e
        · subst q
          have : ¬ cmpL (ws.getD i []) (ws.getD c []) < 0 := fun q => z ⟨hl, q⟩
          rw [cmpL_anti]
          omega
        · exact k3 i (by omega) hl
theorem srt_mid : ∀ {l m : List (List Nat)}, srtL (l ++ m) → ∀ a, a ∈ l → ∀ b, b ∈ m → cmpL a b < 0
  | [], _, _, a, ha, _, _ => by cases ha
  | c :: l, m, h, a, ha, b, hb => by
    rw [List.cons_append] at h
    rcases List.mem_cons.mp ha with e | ha
    · rw [e]; exact h.1 b (List.mem_append.mpr (Or.inr hb))
    · exact srt_mid h.2 a ha b hb
theorem srt_right : ∀ {l m : List (List Nat)}, srtL (l ++ m) → srtL m
  | [], _, h => h
  | _ :: l, _, h => srt_right (l := l) h.2
theorem srt_left : ∀ {l m : List (List Nat)}, srtL (l ++ m) → srtL l
  | [], _, _ => trivial
  | _ :: l, _, h => ⟨fun b hb => h.1 b (List.mem_append.mpr (Or.inl hb)), srt_left h.2⟩
theorem mem_getD {ws : List (List Nat)} {w : List Nat} (h : w ∈ ws) : ∃ i, i < ws.length ∧ ws.getD i [] = w := by
  obtain ⟨i, hi, e⟩ := List.getElem_of_mem h
  exact ⟨i, hi, by rw [List.getD_eq_getElem?_getD, List.getElem?_eq_getElem hi, e]; rfl⟩
theorem getD_mem {ws : List (List Nat)} {i : Nat} (h : i < ws.length) : ws.getD i [] ∈ ws := by
  rw [List.getD_eq_getElem?_getD, List.getElem?_eq_getElem h]
  exact List.getElem_mem h
/-- what is behind the words done -/
theorem lat_iff {done rest : List (List Nat)} (hs : srtL (done ++ rest)) {w : List Nat} (hw : w ∈ done ++ rest) : latB done.getLast? w = true ↔ w ∈ rest := by
  cases hd : done.getLast? with
  | none =>
    have : done = [] := List.getLast?_eq_none_iff.mp hd
    subst this
    exact ⟨fun _ => hw, fun _ => rfl⟩
  | some x =>
    obtain ⟨d, rfl⟩ := List.getLast?_eq_some_iff.mp hd
    show decide _ = true ↔ _
    rw [decide_eq_true_iff]
    constructor
    · intro h
      rcases List.mem_append.mp hw with q | q
      · exfalso
        rcases List.mem_append.mp q with q | q
        · have := srt_mid (srt_left hs) w q x (List.mem_singleton.mpr rfl)
          omega
        · rw [List.mem_singleton.mp q, cmpL_self] at h; omega
      · exact q
    · intro h
      have := srt_mid hs x (List.mem_append.mpr (Or.inr (List.mem_singleton.mpr rfl))) w h
      rw [cmpL_anti]
      omega
theorem sel_nil {ws done : List (List Nat)} (hs : srtL done) (hm : ∀ w, w ∈ done ↔ w ∈ ws) : selN ws done.getLast? ws.length = none := by
  obtain ⟨h1, h2⟩ := selN_spec ws done.getLast? ws.length
  cases e : selN ws done.getLast? ws.length with
  | none => rfl
  | some b =>
    obtain ⟨k1, k2, k3⟩ := h2 b e
    have := (lat_iff (done := done) (rest := []) (by rw [List.append_nil]; exact hs) (by rw [List.append_nil]; exact (hm _).mpr (getD_mem k1))).mp k2
    cases this
theorem sel_cons {ws done rest : List (List Nat)} {r : List Nat} (hs : srtL (done ++ r :: rest)) (hm : ∀ w, w ∈ done ++ r :: rest ↔ w ∈ ws) : ∃ b, selN ws done.getLast? ws.length = some b ∧ b < ws.length ∧ ws.getD b [] = r := by
  obtain ⟨h1, h2⟩ := selN_spec ws done.getLast? ws.length
  have hr : r ∈ done ++ r :: rest := List.mem_append.mpr (Or.inr List.mem_cons_self)
  obtain ⟨i, hi, hri⟩ := mem_getD ((hm r).mp hr)
  have hl := (lat_iff hs hr).mpr List.mem_cons_self
  cases e : selN ws done.getLast? ws.length with
  | none =>
    have := h1 e i hi
    rw [hri, hl] at this
    cases this
  | some b =>
    obtain ⟨k1, k2, k3⟩ := h2 b e
    refine ⟨b, rfl, k1, ?_⟩
    have q := (lat_iff hs ((hm _).mpr (getD_mem k1))).mp k2
    have k4 := k3 i hi (by rw [hri]; exact hl)
    rw [hri] at k4
    rcases List.mem_cons.mp q with q | q
    · exact q
    · have := (srt_right hs).1 _ q
      rw [cmpL_anti] at this
      omega
/-- an option as an index, -1 for none -/
def oI (b : Option Nat) : Int32 := match b with
  | none => -1
  | some e => nI e
section GHO
variable {l : Launch} {G : GG} {R : Room} {X : GX} {cc : ByteArray} {nL : Nat} {own : String} {g : GH} {k n pc mc ms : Nat} {lv : List (Option Value)} {st : List Value}
theorem oI_ne {e : Nat} (h : e < 2 ^ 31) : ¬ nI e = (-1 : Int32) := fun z => by
  have := congrArg Int32.toInt z
  rw [show (nI e).toInt = (e : Int) from nI_toInt h] at this
  have e1 : ((-1 : Int32)).toInt = -1 := by decide
  omega
theorem gh_icmp_eqO {b : Option Nat} {off : Int} {tgt : Nat} (hK : gh_K G X cc nL own) (hd : decode cc pc = .ok (.if_icmp .eq off, 3)) (ht : (pc : Int) + off = (tgt : Int)) (hb : ∀ e, b = some e → e < 2 ^ 31) (kt : b = none → gh_W l G R X g k n lv tgt st) (kf : ∀ e, b = some e → gh_W l G R X g k n lv (pc + 3) st) : gh_W l G R X g k n lv pc (.int (-1) :: .int (oI b) :: st) := by
  refine gh_icmp_eq hK hd ht (fun z => ?_) (fun z => ?_)
  · cases b with
    | none => exact kt rfl
    | some e => exact absurd z (oI_ne (hb e rfl))
  · cases b with
    | none => exact absurd rfl z
    | some e => exact kf e rfl
theorem gh_icmp_neO {b : Option Nat} {off : Int} {tgt : Nat} (hK : gh_K G X cc nL own) (hd : decode cc pc = .ok (.if_icmp .ne off, 3)) (ht : (pc : Int) + off = (tgt : Int)) (hb : ∀ e, b = some e → e < 2 ^ 31) (kt : ∀ e, b = some e → gh_W l G R X g k n lv tgt st) (kf : b = none → gh_W l G R X g k n lv (pc + 3) st) : gh_W l G R X g k n lv pc (.int (-1) :: .int (oI b) :: st) := by
  refine gh_icmp_ne hK hd ht (fun z => ?_) (fun z => ?_)
  · cases b with
    | none => exact absurd rfl z
    | some e => exact kt e rfl
  · cases b with
    | none => exact kf rfl
    | some e => exact absurd z (oI_ne (hb e rfl))
theorem gh_if_leC {x : Int32} {c : Int} {off : Int} {tgt : Nat} (hx : x.toInt = c) (hK : gh_K G X cc nL own) (hd : decode cc pc = .ok (.ifCond .le off, 3)) (ht : (pc : Int) + off = (tgt : Int)) (kt : c ≤ 0 → gh_W l G R X g k n lv tgt st) (kf : 0 < c → gh_W l G R X g k n lv (pc + 3) st) : gh_W l G R X g k n lv pc (.int x :: st) :=
  gh_if_le hK hd ht (fun z => kt (by rw [← hx]; exact Int32.le_iff_toInt_le.mp z)) (fun z => kf (by rw [← hx]; exact Int.not_le.mp fun q => z (Int32.le_iff_toInt_le.mpr q)))
theorem gh_if_geC {x : Int32} {c : Int} {off : Int} {tgt : Nat} (hx : x.toInt = c) (hK : gh_K G X cc nL own) (hd : decode cc pc = .ok (.ifCond .ge off, 3)) (ht : (pc : Int) + off = (tgt : Int)) (kt : 0 ≤ c → gh_W l G R X g k n lv tgt st) (kf : c < 0 → gh_W l G R X g k n lv (pc + 3) st) : gh_W l G R X g k n lv pc (.int x :: st) :=
  gh_if_ge hK hd ht (fun z => kt (by rw [← hx]; exact Int32.le_iff_toInt_le.mp z)) (fun z => kf (by rw [← hx]; exact Int.not_le.mp fun q => z (Int32.le_iff_toInt_le.mpr q)))
theorem gh_if_neC {x : Int32} {c : Int} {off : Int} {tgt : Nat} (hx : x.toInt = c) (hK : gh_K G X cc nL own) (hd : decode cc pc = .ok (.ifCond .ne off, 3)) (ht : (pc : Int) + off = (tgt : Int)) (kt : c ≠ 0 → gh_W l G R X g k n lv tgt st) (kf : c = 0 → gh_W l G R X g k n lv (pc + 3) st) : gh_W l G R X g k n lv pc (.int x :: st) :=
  gh_if_ne hK hd ht (fun z => kt (by rw [← hx]; exact fun q => z (Int32.toInt_inj.mp q))) (fun z => kf (by rw [← hx, z]; rfl))
end GHO
/-- the entries lie in the arrays 3, 4, 5 -/
def DcA (F : Nat → Nat → Int32) (ds : List (List Nat × Nat)) : Prop := ds.length ≤ 300 ∧ ∀ e x, ds[e]? = some x → x.1.length ≤ 16 ∧ F 3 e = nI x.1.length ∧ F 4 e = nI x.2 ∧ sA (F 5) (16 * e) x.1 ∧ x.2 < 2 ^ 26
theorem DcA.eq {F F' : Nat → Nat → Int32} {ds : List (List Nat × Nat)} (h : DcA F ds) (e3 : F' 3 = F 3) (e4 : F' 4 = F 4) (e5 : F' 5 = F 5) : DcA F' ds := ⟨h.1, fun e x hx => by rw [e3, e4, e5]; exact h.2 e x hx⟩
def wsD (ds : List (List Nat × Nat)) : List (List Nat) := ds.map fun x => x.1
theorem wsD_get {ds : List (List Nat × Nat)} {e : Nat} {x : List Nat × Nat} (h : ds[e]? = some x) : (wsD ds).getD e [] = x.1 := by
  rw [List.getD_eq_getElem?_getD, wsD, List.getElem?_map, h]
  rfl
theorem DcA.wd {F : Nat → Nat → Int32} {ds : List (List Nat × Nat)} (h : DcA F ds) {e : Nat} (he : e < ds.length) : ((wsD ds).getD e []).length ≤ 16 ∧ F 3 e = nI ((wsD ds).getD e []).length ∧ sA (F 5) (16 * e) ((wsD ds).getD e []) := by
  have k := h.2 e _ (List.getElem?_eq_getElem he)
  rw [wsD_get (List.getElem?_eq_getElem he)]
  exact ⟨k.1, k.2.1, k.2.2.2.1⟩
