section GHI
variable {l : Launch} {G : GG} {R : Room} {X : GX} {cc : ByteArray} {nL : Nat} {own : String} {g : GH} {k n pc : Nat} {lv : List (Option Value)} {st : List Value}
theorem i0_eq {x : Int32} {c : Int} (hx : x.toInt = c) : x = 0 ↔ c = 0 := by
  rw [← hx]
  constructor
  · intro h; rw [h]; rfl
  · intro h; exact Int32.toInt_inj.mp (h.trans rfl)
theorem i0_lt {x : Int32} {c : Int} (hx : x.toInt = c) : x < 0 ↔ c < 0 := by
  rw [← hx, Int32.lt_iff_toInt_lt]
  exact Iff.rfl
theorem gh_if_neI {x : Int32} {c : Int} {off : Int} {tgt : Nat} (hK : gh_K G X cc nL own) (hd : decode cc pc = .ok (.ifCond .ne off, 3)) (ht : (pc : Int) + off = (tgt : Int)) (hx : x.toInt = c) (kt : c ≠ 0 → gh_W l G R X g k n lv tgt st) (kf : c = 0 → gh_W l G R X g k n lv (pc + 3) st) : gh_W l G R X g k n lv pc (.int x :: st) :=
  gh_if_ne hK hd ht (fun z => kt fun q => z ((i0_eq hx).mpr q)) (fun z => kf ((i0_eq hx).mp z))
theorem gh_if_eqI {x : Int32} {c : Int} {off : Int} {tgt : Nat} (hK : gh_K G X cc nL own) (hd : decode cc pc = .ok (.ifCond .eq off, 3)) (ht : (pc : Int) + off = (tgt : Int)) (hx : x.toInt = c) (kt : c = 0 → gh_W l G R X g k n lv tgt st) (kf : c ≠ 0 → gh_W l G R X g k n lv (pc + 3) st) : gh_W l G R X g k n lv pc (.int x :: st) :=
  gh_if_eq hK hd ht (fun z => kt ((i0_eq hx).mp z)) (fun z => kf fun q => z ((i0_eq hx).mpr q))
theorem gh_if_geI {x : Int32} {c : Int} {off : Int} {tgt : Nat} (hK : gh_K G X cc nL own) (hd : decode cc pc = .ok (.ifCond .ge off, 3)) (ht : (pc : Int) + off = (tgt : Int)) (hx : x.toInt = c) (kt : 0 ≤ c → gh_W l G R X g k n lv tgt st) (kf : c < 0 → gh_W l G R X g k n lv (pc + 3) st) : gh_W l G R X g k n lv pc (.int x :: st) :=
  gh_if_ge hK hd ht (fun z => kt (by
    have h1 : ¬ x < 0 := Int32.not_lt.mpr z
    have h2 : ¬ c < 0 := fun q => h1 ((i0_lt hx).mpr q)
    omega)) (fun z => kf ((i0_lt hx).mp (Int32.not_le.mp z)))
end GHI
/-! ENTRIES AND RULES -/
def En (G : GG) (g : GH) (ea : Nat) (w : List Nat) (fl : Nat) : Prop := ∃ wa wb, g ea = some (50, .inr (2, [.ref wa, .int (nI fl)])) ∧ Lt G g wa 51 wb 52 w.length w
theorem En.M {G : GG} {g g' : GH} {ea fl : Nat} {w : List Nat} {S : List Nat} (h : En G g ea w fl) (hM : gh_M S g g') (h1 : 50 ∉ S) (h2 : 51 ∉ S) (h3 : 52 ∉ S) : En G g' ea w fl := by
  obtain ⟨wa, wb, k1, k2⟩ := h
  exact ⟨wa, wb, hM ea 50 _ k1 h1, k2.M hM h2 h3⟩
/-- a rule at ra (tag rt), its letters under the tags lt, ut -/
def Ru (G : GG) (g : GH) (ra rt lt ut : Nat) (fr : Bool) (fl : Nat) (S A C : List Nat) : Prop := ∃ sa sb aa ab ca cb, g ra = some (rt, .inr (6, [.int (nI (bn fr)), .int (nI fl), .ref sa, .ref aa, .ref ca])) ∧ Lt G g sa lt sb ut S.length S ∧ Lt G g aa lt ab ut A.length A ∧ Lt G g ca lt cb ut C.length C
theorem Ru.M {G : GG} {g g' : GH} {ra rt lt ut fl : Nat} {fr : Bool} {S A C : List Nat} {Z : List Nat} (h : Ru G g ra rt lt ut fr fl S A C) (hM : gh_M Z g g') (h1 : rt ∉ Z) (h2 : lt ∉ Z) (h3 : ut ∉ Z) : Ru G g' ra rt lt ut fr fl S A C := by
  obtain ⟨sa, sb, aa, ab, ca, cb, k1, k2, k3, k4⟩ := h
  exact ⟨sa, sb, aa, ab, ca, cb, hM ra rt _ k1 h1, k2.M hM h2 h3, k3.M hM h2 h3, k4.M hM h2 h3⟩
/-- a pattern stands at the front, or at the end, of a word -/
def stP (fr : Bool) (pat w : List Nat) : Prop := pat.length ≤ w.length ∧ ∀ i, i < pat.length → pat.getD i 0 = 46 ∨ pat.getD i 0 = w.getD ((if fr = true then 0 else w.length - pat.length) + i) 0
def stO (fr : Bool) (pat w : List Nat) : Bool := decide (pat.length ≤ w.length) && (List.range pat.length).all fun i => decide (pat.getD i 0 = 46) || decide (pat.getD i 0 = w.getD ((if fr = true then 0 else w.length - pat.length) + i) 0)
theorem stO_iff {fr : Bool} {pat w : List Nat} : stO fr pat w = true ↔ stP fr pat w := by
  unfold stO stP
  rw [Bool.and_eq_true, List.all_eq_true, decide_eq_true_iff]
  constructor
  · rintro ⟨h1, h2⟩
    refine ⟨h1, fun i hi => ?_⟩
    have := h2 i (List.mem_range.mpr hi)
    simpa using this
  · rintro ⟨h1, h2⟩
    refine ⟨h1, fun i hi => ?_⟩
    have := h2 i (List.mem_range.mp hi)
    simpa using this
theorem stO_f {fr : Bool} {pat w : List Nat} (h : ¬ stP fr pat w) : stO fr pat w = false := Bool.eq_false_iff.mpr fun q => h (stO_iff.mp q)
/-- a rule goes with an entry -/
def goO (fr : Bool) (rf : Nat) (S C : List Nat) (w : List Nat) (ef : Nat) : Bool := decide (ef &&& rf = rf) && (stO fr S w && stO fr C w)
/-- an entry begins with a word -/
def bgO (w p : List Nat) : Bool := decide (p.length ≤ w.length ∧ w.take p.length = p)
set_option maxRecDepth 20000 in
set_option maxHeartbeats 4000000 in
theorem c_En_beginsWith (l : Launch) (G : GG) {g : GH} {ea fl ra rt rb ru rcap fr len : Nat} {w ys : List Nat} (h : En G g ea w fl) (hr : Lt G g ra rt rb ru rcap ys) (hf : fr + len ≤ ys.length) : gMet l G y_En_beginsWith b_En_beginsWith 4 (some .boolean) (rmk 1 0 0 28) [.ref ea, .ref ra, .int (nI fr), .int (nI len)] g (fun v g' => v = some (.int (nI (bn (bgO w ((ys.drop fr).take len))))) ∧ g' = g) := by
  refine gMet.of [some (.ref ea), some (.ref ra), some (.int (nI fr)), some (.int (nI len))] (by decide +kernel) rfl (Nat.le_of_ble_eq_true rfl) rfl (fun X hK hI hE => ?_)
  obtain ⟨wa, wb, k1, k2⟩ := h
  obtain ⟨b1, b2⟩ := k2.len
  obtain ⟨b3, b4⟩ := hr.len
  have hsl := slice_len hf
  refine gh_iload_n hK d_En_beginsWith_0 rfl ?_
  refine gh_aload_n hK d_En_beginsWith_1 rfl ?_
  refine gh_get hK d_En_beginsWith_2 in_En rfl k1 0 (by decide) kf_En_7 rfl rfl ?_
  refine gh_callV (rest := [.int (nI len)]) [] hK (c_Lt_count l G k2) Y_Lt_count V_Lt_count km_En_17 k2.ob rfl rfl d_En_beginsWith_5 rfl rfl (Nat.le_of_ble_eq_true rfl) ⟨(Nat.le_of_ble_eq_true rfl), (Nat.le_of_ble_eq_true rfl)⟩ ⟨(Nat.le_of_ble_eq_true rfl), (Nat.le_of_ble_eq_true rfl)⟩ (fun v g' hp => ?_)
  rw [hp.1, hp.2]
  show gh_W l G _ X g _ _ [some (.ref ea), some (.ref ra), some (.int (nI fr)), some (.int (nI len))] 8 [.int (nI w.length), .int (nI len)]
  refine gh_icmp_gtN hK d_En_beginsWith_8 (tgt := 30) (by decide) (by omega) (by omega) (fun z => ?_) (fun z => ?_)
  · refine gh_iconst (v := nI 0) hK d_En_beginsWith_30 (by decide) ?_
    exact gh_zret rfl hK hE d_En_beginsWith_31 (Nat.le_of_ble_eq_true rfl) (Nat.le_of_ble_eq_true rfl) ⟨by rw [show bgO w ((ys.drop fr).take len) = false from decide_eq_false (by rw [hsl]; omega)]; rfl, rfl⟩
  · refine gh_aload_n hK d_En_beginsWith_11 rfl ?_
    refine gh_get hK d_En_beginsWith_12 in_En rfl k1 0 (by decide) kf_En_7 rfl rfl ?_
    refine gh_iconst (v := nI 0) hK d_En_beginsWith_15 (by decide) ?_
    refine gh_iload_n hK d_En_beginsWith_16 rfl ?_
    refine gh_aload_n hK d_En_beginsWith_17 rfl ?_
    refine gh_iload_n hK d_En_beginsWith_18 rfl ?_
    refine gh_iload_n hK d_En_beginsWith_19 rfl ?_
    refine gh_callV (rest := []) [.int (nI 0), .int (nI len), .ref ra, .int (nI fr), .int (nI len)] hK (c_Lt_compare l G k2 hr (fr := 0) (len := len) (of := fr) (ol := len) (by omega) hf) Y_Lt_compare V_Lt_compare km_En_23 k2.ob rfl rfl d_En_beginsWith_20 rfl rfl (Nat.le_of_ble_eq_true rfl) ⟨(Nat.le_of_ble_eq_true rfl), (Nat.le_of_ble_eq_true rfl)⟩ ⟨(Nat.le_of_ble_eq_true rfl), (Nat.le_of_ble_eq_true rfl)⟩ (fun v g' hp => ?_)
    obtain ⟨r, rfl, hr1, hg⟩ := hp
    rw [hg]
    show gh_W l G _ X g _ _ [some (.ref ea), some (.ref ra), some (.int (nI fr)), some (.int (nI len))] 23 [.int r]
    rw [List.drop_zero] at hr1
    refine gh_if_neI hK d_En_beginsWith_23 (tgt := 30) (by decide) hr1 (fun z2 => ?_) (fun z2 => ?_)
    · refine gh_iconst (v := nI 0) hK d_En_beginsWith_30 (by decide) ?_
      exact gh_zret rfl hK hE d_En_beginsWith_31 (Nat.le_of_ble_eq_true rfl) (Nat.le_of_ble_eq_true rfl) ⟨by rw [show bgO w ((ys.drop fr).take len) = false from decide_eq_false (by rw [hsl]; exact fun q => z2 ((cmpL_zero _ _).mpr q.2))]; rfl, rfl⟩
    · refine gh_iconst (v := nI 1) hK d_En_beginsWith_26 (by decide) ?_
      refine gh_goto (tgt := 31) hK d_En_beginsWith_27 (by decide) ?_
      exact gh_zret rfl hK hE d_En_beginsWith_31 (Nat.le_of_ble_eq_true rfl) (Nat.le_of_ble_eq_true rfl) ⟨by rw [show bgO w ((ys.drop fr).take len) = true from decide_eq_true (by rw [hsl]; exact ⟨z, (cmpL_zero _ _).mp z2⟩)]; rfl, rfl⟩
set_option maxRecDepth 20000 in
set_option maxHeartbeats 4000000 in
theorem c_Ru_stands (l : Launch) (G : GG) {g : GH} {ra rt : Nat} {fr : Bool} {V2 V3 V4 V5 : Value} {pa pt pb pu pcap oa ot ob ou ocap fo len : Nat} {pat ys : List Nat} (h : g ra = some (rt, .inr (6, [.int (nI (bn fr)), V2, V3, V4, V5]))) (hp0 : Lt G g pa pt pb pu pcap pat) (ho : Lt G g oa ot ob ou ocap ys) (hf : fo + len ≤ ys.length) : gMet l G y_Ru_stands b_Ru_stands 9 (some .boolean) (rmk 1 0 0 21) [.ref ra, .ref pa, .ref oa, .int (nI fo), .int (nI len)] g (fun v g' => v = some (.int (nI (bn (stO fr pat ((ys.drop fo).take len))))) ∧ g' = g) := by
  refine gMet.of [some (.ref ra), some (.ref pa), some (.ref oa), some (.int (nI fo)), some (.int (nI len)), none, none, none, none] (by decide +kernel) rfl (Nat.le_of_ble_eq_true rfl) rfl (fun X hK hI hE => ?_)
  obtain ⟨b1, b2⟩ := hp0.len
  obtain ⟨b3, b4⟩ := ho.len
  have hsl := slice_len hf
  have loop : ∀ (m i st0 : Nat) (o8 : Option Value), i + m = pat.length → pat.length ≤ len → st0 = fo + (if fr = true then 0 else len - pat.length) → (∀ j, j < i → pat.getD j 0 = 46 ∨ pat.getD j 0 = ys.getD (st0 + j) 0) → gh_W l G (rmk 1 0 0 21) X g 0 0 [some (.ref ra), some (.ref pa), some (.ref oa), some (.int (nI fo)), some (.int (nI len)), some (.int (nI pat.length)), some (.int (nI st0)), some (.int (nI i)), o8] 38 [] := by
    have key : ∀ st0, pat.length ≤ len → st0 = fo + (if fr = true then 0 else len - pat.length) → ∀ j, j < pat.length → (((ys.drop fo).take len).getD ((if fr = true then 0 else ((ys.drop fo).take len).length - pat.length) + j) 0 = ys.getD (st0 + j) 0 ∧ st0 + j < ys.length) := by
      intro st0 hl he j hj
      rw [hsl]
      cases fr with
      | true =>
        have he : st0 = fo := he
        have e0 : (if true = true then 0 else len - pat.length) + j = j := Nat.zero_add j
        rw [e0, slice_getD hf (by omega), he]
        exact ⟨rfl, by omega⟩
      | false =>
        have he : st0 = fo + (len - pat.length) := he
        have e0 : (if false = true then 0 else len - pat.length) + j = (len - pat.length) + j := rfl
        rw [e0, slice_getD hf (by omega), he, Nat.add_assoc]
        exact ⟨rfl, by omega⟩
    intro m
    induction m with
    | zero =>
      intro i st0 o8 hi hl he hall
      refine gh_iload hK d_Ru_stands_38 rfl ?_
      refine gh_iload hK d_Ru_stands_40 rfl ?_
      refine gh_icmp_geN hK d_Ru_stands_42 (tgt := 82) (by decide) (by omega) (by omega) (fun z => ?_) (fun z => absurd z (by omega))
      refine gh_iconst (v := nI 1) hK d_Ru_stands_82 (by decide) ?_
      refine gh_zret rfl hK hE d_Ru_stands_83 (Nat.le_of_ble_eq_true rfl) (Nat.le_of_ble_eq_true rfl) ⟨?_, rfl⟩
      rw [stO_iff.mpr ⟨by rw [hsl]; exact hl, fun j hj => by rw [(key st0 hl he j hj).1]; exact hall j (by omega)⟩]
      rfl
    | succ m ih =>
      intro i st0 o8 hi hl he hall
      have hk := key st0 hl he i (by omega)
      have hc1 := hp0.getD i
      have hc2 := ho.getD (st0 + i)
      refine gh_iload hK d_Ru_stands_38 rfl ?_
      refine gh_iload hK d_Ru_stands_40 rfl ?_
      refine gh_icmp_geN hK d_Ru_stands_42 (tgt := 82) (by decide) (by omega) (by omega) (fun z => absurd z (by omega)) (fun z => ?_)
      refine gh_aload_n hK d_Ru_stands_45 rfl ?_
      refine gh_iload hK d_Ru_stands_46 rfl ?_
      refine gh_callV (rest := []) [.int (nI i)] hK (c_Lt_at l G hp0 (j := i) (by omega)) Y_Lt_at V_Lt_at km_Ru_47 hp0.ob rfl rfl d_Ru_stands_48 rfl rfl (Nat.le_of_ble_eq_true rfl) ⟨(Nat.le_of_ble_eq_true rfl), (Nat.le_of_ble_eq_true rfl)⟩ ⟨(Nat.le_of_ble_eq_true rfl), (Nat.le_of_ble_eq_true rfl)⟩ (fun v g' hp => ?_)
      rw [hp.1, hp.2]
      show gh_W l G _ X g _ _ [some (.ref ra), some (.ref pa), some (.ref oa), some (.int (nI fo)), some (.int (nI len)), some (.int (nI pat.length)), some (.int (nI st0)), some (.int (nI i)), o8] 51 [.int (nI (pat.getD i 0))]
      refine gh_istore (lv' := [some (.ref ra), some (.ref pa), some (.ref oa), some (.int (nI fo)), some (.int (nI len)), some (.int (nI pat.length)), some (.int (nI st0)), some (.int (nI i)), some (.int (nI (pat.getD i 0)))]) hK d_Ru_stands_51 (Nat.le_of_ble_eq_true rfl) rfl ?_
      refine gh_iload hK d_Ru_stands_53 rfl ?_
      refine gh_bipush (v := nI 46) hK d_Ru_stands_55 (by decide) ?_
      refine gh_icmp_eqN hK d_Ru_stands_57 (tgt := 76) (by decide) (by omega) (by decide) (fun z2 => ?_) (fun z2 => ?_)
      · refine gh_incN (lv' := [some (.ref ra), some (.ref pa), some (.ref oa), some (.int (nI fo)), some (.int (nI len)), some (.int (nI pat.length)), some (.int (nI st0)), some (.int (nI (i + 1))), some (.int (nI (pat.getD i 0)))]) hK d_Ru_stands_76 rfl rfl ?_
        refine gh_goto (tgt := 38) hK d_Ru_stands_79 (by decide) ?_
        exact ih (i + 1) st0 _ (by omega) hl he (fun j hj => by
          by_cases e : j = i
          · rw [e]; exact Or.inl z2
          · exact hall j (by omega))
      · refine gh_iload hK d_Ru_stands_60 rfl ?_
        refine gh_aload_n hK d_Ru_stands_62 rfl ?_
        refine gh_iload hK d_Ru_stands_63 rfl ?_
        refine gh_iload hK d_Ru_stands_65 rfl ?_
        refine gh_addN hK d_Ru_stands_67 ?_
        refine gh_callV (rest := [.int (nI (pat.getD i 0))]) [.int (nI (st0 + i))] hK (c_Lt_at l G ho (j := st0 + i) (by omega)) Y_Lt_at V_Lt_at km_Ru_47 ho.ob rfl rfl d_Ru_stands_68 rfl rfl (Nat.le_of_ble_eq_true rfl) ⟨(Nat.le_of_ble_eq_true rfl), (Nat.le_of_ble_eq_true rfl)⟩ ⟨(Nat.le_of_ble_eq_true rfl), (Nat.le_of_ble_eq_true rfl)⟩ (fun v g' hp => ?_)
        rw [hp.1, hp.2]
        show gh_W l G _ X g _ _ [some (.ref ra), some (.ref pa), some (.ref oa), some (.int (nI fo)), some (.int (nI len)), some (.int (nI pat.length)), some (.int (nI st0)), some (.int (nI i)), some (.int (nI (pat.getD i 0)))] 71 [.int (nI (ys.getD (st0 + i) 0)), .int (nI (pat.getD i 0))]
        refine gh_icmp_eqN hK d_Ru_stands_71 (tgt := 76) (by decide) (by omega) (by omega) (fun z3 => ?_) (fun z3 => ?_)
        · refine gh_incN (lv' := [some (.ref ra), some (.ref pa), some (.ref oa), some (.int (nI fo)), some (.int (nI len)), some (.int (nI pat.length)), some (.int (nI st0)), some (.int (nI (i + 1))), some (.int (nI (pat.getD i 0)))]) hK d_Ru_stands_76 rfl rfl ?_
          refine gh_goto (tgt := 38) hK d_Ru_stands_79 (by decide) ?_
          exact ih (i + 1) st0 _ (by omega) hl he (fun j hj => by
            by_cases e : j = i
            · rw [e]; exact Or.inr z3
            · exact hall j (by omega))
        · refine gh_iconst (v := nI 0) hK d_Ru_stands_74 (by decide) ?_
          refine gh_zret rfl hK hE d_Ru_stands_75 (Nat.le_of_ble_eq_true rfl) (Nat.le_of_ble_eq_true rfl) ⟨?_, rfl⟩
          rw [stO_f fun q => by
            rcases q.2 i (by omega) with q | q
            · exact z2 q
            · rw [hk.1] at q; exact z3 q]
          rfl
  refine gh_aload_n hK d_Ru_stands_0 rfl ?_
  refine gh_callV (rest := []) [] hK (c_Lt_count l G hp0) Y_Lt_count V_Lt_count km_Ru_34 hp0.ob rfl rfl d_Ru_stands_1 rfl rfl (Nat.le_of_ble_eq_true rfl) ⟨(Nat.le_of_ble_eq_true rfl), (Nat.le_of_ble_eq_true rfl)⟩ ⟨(Nat.le_of_ble_eq_true rfl), (Nat.le_of_ble_eq_true rfl)⟩ (fun v g' hp => ?_)
  rw [hp.1, hp.2]
  show gh_W l G _ X g _ _ [some (.ref ra), some (.ref pa), some (.ref oa), some (.int (nI fo)), some (.int (nI len)), none, none, none, none] 4 [.int (nI pat.length)]
  refine gh_istore (lv' := [some (.ref ra), some (.ref pa), some (.ref oa), some (.int (nI fo)), some (.int (nI len)), some (.int (nI pat.length)), none, none, none]) hK d_Ru_stands_4 (Nat.le_of_ble_eq_true rfl) rfl ?_
  refine gh_iload hK d_Ru_stands_6 rfl ?_
  refine gh_iload hK d_Ru_stands_8 rfl ?_
  refine gh_icmp_leN hK d_Ru_stands_10 (tgt := 15) (by decide) (by omega) (by omega) (fun z => ?_) (fun z => ?_)
  · refine gh_aload_n hK d_Ru_stands_15 rfl ?_
    refine gh_get hK d_Ru_stands_16 in_Ru rfl h 0 (by decide) kf_Ru_9 rfl rfl ?_
    refine gh_if_eqB hK d_Ru_stands_19 (tgt := 26) (by decide) (fun z2 => ?_) (fun z2 => ?_)
    · refine gh_iload_n hK d_Ru_stands_26 rfl ?_
      refine gh_iload hK d_Ru_stands_27 rfl ?_
      refine gh_addN hK d_Ru_stands_29 ?_
      refine gh_iload hK d_Ru_stands_30 rfl ?_
      refine gh_subN hK d_Ru_stands_32 (by omega) ?_
      refine gh_istore (lv' := [some (.ref ra), some (.ref pa), some (.ref oa), some (.int (nI fo)), some (.int (nI len)), some (.int (nI pat.length)), some (.int (nI ((fo + len) - pat.length))), none, none]) hK d_Ru_stands_33 (Nat.le_of_ble_eq_true rfl) rfl ?_
      refine gh_iconst (v := nI 0) hK d_Ru_stands_35 (by decide) ?_
      refine gh_istore (lv' := [some (.ref ra), some (.ref pa), some (.ref oa), some (.int (nI fo)), some (.int (nI len)), some (.int (nI pat.length)), some (.int (nI ((fo + len) - pat.length))), some (.int (nI 0)), none]) hK d_Ru_stands_36 (Nat.le_of_ble_eq_true rfl) rfl ?_
      exact loop pat.length 0 _ none (by omega) z (by rw [z2]; show fo + len - pat.length = fo + (len - pat.length); omega) (fun j hj => absurd hj (Nat.not_lt_zero j))
    · refine gh_iload_n hK d_Ru_stands_22 rfl ?_
      refine gh_goto (tgt := 33) hK d_Ru_stands_23 (by decide) ?_
      refine gh_istore (lv' := [some (.ref ra), some (.ref pa), some (.ref oa), some (.int (nI fo)), some (.int (nI len)), some (.int (nI pat.length)), some (.int (nI fo)), none, none]) hK d_Ru_stands_33 (Nat.le_of_ble_eq_true rfl) rfl ?_
      refine gh_iconst (v := nI 0) hK d_Ru_stands_35 (by decide) ?_
      refine gh_istore (lv' := [some (.ref ra), some (.ref pa), some (.ref oa), some (.int (nI fo)), some (.int (nI len)), some (.int (nI pat.length)), some (.int (nI fo)), some (.int (nI 0)), none]) hK d_Ru_stands_36 (Nat.le_of_ble_eq_true rfl) rfl ?_
      exact loop pat.length 0 _ none (by omega) z (by rw [z2]; rfl) (fun j hj => absurd hj (Nat.not_lt_zero j))
  · refine gh_iconst (v := nI 0) hK d_Ru_stands_13 (by decide) ?_
    exact gh_zret rfl hK hE d_Ru_stands_14 (Nat.le_of_ble_eq_true rfl) (Nat.le_of_ble_eq_true rfl) ⟨by rw [stO_f (fun q => absurd q.1 (by rw [hsl]; omega))]; rfl, rfl⟩
set_option maxRecDepth 20000 in
set_option maxHeartbeats 4000000 in
theorem c_Ru_addStands (l : Launch) (G : GG) {g : GH} {ra rt lt ut fl : Nat} {fr : Bool} {S A C : List Nat} {oa ot ob ou ocap fo len : Nat} {ys : List Nat} (h : Ru G g ra rt lt ut fr fl S A C) (ho : Lt G g oa ot ob ou ocap ys) (hf : fo + len ≤ ys.length) : gMet l G y_Ru_addStands b_Ru_addStands 4 (some .boolean) (rmk 2 0 0 49) [.ref ra, .ref oa, .int (nI fo), .int (nI len)] g (fun v g' => v = some (.int (nI (bn (stO fr A ((ys.drop fo).take len))))) ∧ g' = g) := by
  refine gMet.of [some (.ref ra), some (.ref oa), some (.int (nI fo)), some (.int (nI len))] (by decide +kernel) rfl (Nat.le_of_ble_eq_true rfl) rfl (fun X hK hI hE => ?_)
  obtain ⟨sa, sb, aa, ab, ca, cb, k1, k2, k3, k4⟩ := h
  refine gh_aload_n hK d_Ru_addStands_0 rfl ?_
  refine gh_aload_n hK d_Ru_addStands_1 rfl ?_
  refine gh_get hK d_Ru_addStands_2 in_Ru rfl k1 3 (by decide) kf_Ru_23 rfl rfl ?_
  refine gh_aload_n hK d_Ru_addStands_5 rfl ?_
  refine gh_iload_n hK d_Ru_addStands_6 rfl ?_
  refine gh_iload_n hK d_Ru_addStands_7 rfl ?_
  refine gh_callV (rest := []) [.ref aa, .ref oa, .int (nI fo), .int (nI len)] hK (c_Ru_stands l G k1 k3 ho hf) Y_Ru_stands V_Ru_stands km_Ru_43 k1 rfl rfl d_Ru_addStands_8 rfl rfl (Nat.le_of_ble_eq_true rfl) ⟨(Nat.le_of_ble_eq_true rfl), (Nat.le_of_ble_eq_true rfl)⟩ ⟨(Nat.le_of_ble_eq_true rfl), (Nat.le_of_ble_eq_true rfl)⟩ (fun v g' hp => ?_)
  rw [hp.1, hp.2]
  show gh_W l G _ X g _ _ [some (.ref ra), some (.ref oa), some (.int (nI fo)), some (.int (nI len))] 11 [.int (nI (bn (stO fr A ((ys.drop fo).take len))))]
  exact gh_zret (bn_nar _) hK hE d_Ru_addStands_11 (Nat.le_of_ble_eq_true rfl) (Nat.le_of_ble_eq_true rfl) ⟨rfl, rfl⟩
set_option maxRecDepth 20000 in
set_option maxHeartbeats 4000000 in
theorem c_Ru_goesWith (l : Launch) (G : GG) {g : GH} {ra rt lt ut fl : Nat} {fr : Bool} {S A C : List Nat} {ea ef : Nat} {w : List Nat} (h : Ru G g ra rt lt ut fr fl S A C) (he : En G g ea w ef) (hfl : fl < 2 ^ 26) (hef : ef < 2 ^ 26) : gMet l G y_Ru_goesWith b_Ru_goesWith 3 (some .boolean) (rmk 2 0 0 49) [.ref ra, .ref ea] g (fun v g' => v = some (.int (nI (bn (goO fr fl S C w ef)))) ∧ g' = g) := by
  refine gMet.of [some (.ref ra), some (.ref ea), none] (by decide +kernel) rfl (Nat.le_of_ble_eq_true rfl) rfl (fun X hK hI hE => ?_)
  obtain ⟨sa, sb, aa, ab, ca, cb, k1, k2, k3, k4⟩ := h
  obtain ⟨wa, wb, e1, e2⟩ := he
  obtain ⟨b1, b2⟩ := e2.len
  have hand : ef &&& fl < 2 ^ 26 := Nat.lt_of_le_of_lt Nat.and_le_left hef
  have ew : (w.drop 0).take w.length = w := by rw [List.drop_zero, List.take_length]
  refine gh_aload_n hK d_Ru_goesWith_0 rfl ?_
  refine gh_get hK d_Ru_goesWith_1 in_En rfl e1 0 (by decide) kf_Ru_29 rfl rfl ?_
  refine gh_callV (rest := []) [] hK (c_Lt_count l G e2) Y_Lt_count V_Lt_count km_Ru_34 e2.ob rfl rfl d_Ru_goesWith_4 rfl rfl (Nat.le_of_ble_eq_true rfl) ⟨(Nat.le_of_ble_eq_true rfl), (Nat.le_of_ble_eq_true rfl)⟩ ⟨(Nat.le_of_ble_eq_true rfl), (Nat.le_of_ble_eq_true rfl)⟩ (fun v g' hp => ?_)
  rw [hp.1, hp.2]
  show gh_W l G _ X g _ _ [some (.ref ra), some (.ref ea), none] 7 [.int (nI w.length)]
  refine gh_istore_n (lv' := [some (.ref ra), some (.ref ea), some (.int (nI w.length))]) hK d_Ru_goesWith_7 (Nat.le_of_ble_eq_true rfl) rfl ?_
  refine gh_aload_n hK d_Ru_goesWith_8 rfl ?_
  refine gh_get hK d_Ru_goesWith_9 in_En rfl e1 1 (by decide) kf_Ru_40 rfl rfl ?_
  refine gh_aload_n hK d_Ru_goesWith_12 rfl ?_
  refine gh_get hK d_Ru_goesWith_13 in_Ru rfl k1 1 (by decide) kf_Ru_15 rfl rfl ?_
  refine gh_iand hK d_Ru_goesWith_16 ?_
  rw [nI_and]
  refine gh_aload_n hK d_Ru_goesWith_17 rfl ?_
  refine gh_get hK d_Ru_goesWith_18 in_Ru rfl k1 1 (by decide) kf_Ru_15 rfl rfl ?_
  refine gh_icmp_neN hK d_Ru_goesWith_21 (tgt := 62) (by decide) (by omega) (by omega) (fun z => ?_) (fun z => ?_)
  · refine gh_iconst (v := nI 0) hK d_Ru_goesWith_62 (by decide) ?_
    exact gh_zret rfl hK hE d_Ru_goesWith_63 (Nat.le_of_ble_eq_true rfl) (Nat.le_of_ble_eq_true rfl) ⟨by rw [goO, decide_eq_false z]; rfl, rfl⟩
  · refine gh_aload_n hK d_Ru_goesWith_24 rfl ?_
    refine gh_aload_n hK d_Ru_goesWith_25 rfl ?_
    refine gh_get hK d_Ru_goesWith_26 in_Ru rfl k1 2 (by decide) kf_Ru_19 rfl rfl ?_
    refine gh_aload_n hK d_Ru_goesWith_29 rfl ?_
    refine gh_get hK d_Ru_goesWith_30 in_En rfl e1 0 (by decide) kf_Ru_29 rfl rfl ?_
    refine gh_iconst (v := nI 0) hK d_Ru_goesWith_33 (by decide) ?_
    refine gh_iload_n hK d_Ru_goesWith_34 rfl ?_
    refine gh_callV (rest := []) [.ref sa, .ref wa, .int (nI 0), .int (nI w.length)] hK (c_Ru_stands l G k1 k2 e2 (fo := 0) (len := w.length) (by omega)) Y_Ru_stands V_Ru_stands km_Ru_43 k1 rfl rfl d_Ru_goesWith_35 rfl rfl (Nat.le_of_ble_eq_true rfl) ⟨(Nat.le_of_ble_eq_true rfl), (Nat.le_of_ble_eq_true rfl)⟩ ⟨(Nat.le_of_ble_eq_true rfl), (Nat.le_of_ble_eq_true rfl)⟩ (fun v g' hp => ?_)
    rw [hp.1, hp.2]
    show gh_W l G _ X g _ _ [some (.ref ra), some (.ref ea), some (.int (nI w.length))] 38 [.int (nI (bn (stO fr S ((w.drop 0).take w.length))))]
    rw [ew]
    refine gh_if_eqB hK d_Ru_goesWith_38 (tgt := 62) (by decide) (fun z2 => ?_) (fun z2 => ?_)
    · refine gh_iconst (v := nI 0) hK d_Ru_goesWith_62 (by decide) ?_
      exact gh_zret rfl hK hE d_Ru_goesWith_63 (Nat.le_of_ble_eq_true rfl) (Nat.le_of_ble_eq_true rfl) ⟨by rw [goO, decide_eq_true z, z2]; rfl, rfl⟩
    · refine gh_aload_n hK d_Ru_goesWith_41 rfl ?_
      refine gh_aload_n hK d_Ru_goesWith_42 rfl ?_
      refine gh_get hK d_Ru_goesWith_43 in_Ru rfl k1 4 (by decide) kf_Ru_26 rfl rfl ?_
      refine gh_aload_n hK d_Ru_goesWith_46 rfl ?_
      refine gh_get hK d_Ru_goesWith_47 in_En rfl e1 0 (by decide) kf_Ru_29 rfl rfl ?_
      refine gh_iconst (v := nI 0) hK d_Ru_goesWith_50 (by decide) ?_
      refine gh_iload_n hK d_Ru_goesWith_51 rfl ?_
      refine gh_callV (rest := []) [.ref ca, .ref wa, .int (nI 0), .int (nI w.length)] hK (c_Ru_stands l G k1 k4 e2 (fo := 0) (len := w.length) (by omega)) Y_Ru_stands V_Ru_stands km_Ru_43 k1 rfl rfl d_Ru_goesWith_52 rfl rfl (Nat.le_of_ble_eq_true rfl) ⟨(Nat.le_of_ble_eq_true rfl), (Nat.le_of_ble_eq_true rfl)⟩ ⟨(Nat.le_of_ble_eq_true rfl), (Nat.le_of_ble_eq_true rfl)⟩ (fun v g' hp => ?_)
      rw [hp.1, hp.2]
      show gh_W l G _ X g _ _ [some (.ref ra), some (.ref ea), some (.int (nI w.length))] 55 [.int (nI (bn (stO fr C ((w.drop 0).take w.length))))]
      rw [ew]
      refine gh_if_eqB hK d_Ru_goesWith_55 (tgt := 62) (by decide) (fun z3 => ?_) (fun z3 => ?_)
      · refine gh_iconst (v := nI 0) hK d_Ru_goesWith_62 (by decide) ?_
        exact gh_zret rfl hK hE d_Ru_goesWith_63 (Nat.le_of_ble_eq_true rfl) (Nat.le_of_ble_eq_true rfl) ⟨by rw [goO, decide_eq_true z, z2, z3]; rfl, rfl⟩
      · refine gh_iconst (v := nI 1) hK d_Ru_goesWith_58 (by decide) ?_
        refine gh_goto (tgt := 63) hK d_Ru_goesWith_59 (by decide) ?_
        exact gh_zret rfl hK hE d_Ru_goesWith_63 (Nat.le_of_ble_eq_true rfl) (Nat.le_of_ble_eq_true rfl) ⟨by rw [goO, decide_eq_true z, z2, z3]; rfl, rfl⟩
