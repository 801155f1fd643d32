/-- a rule, or none, at a place -/
def RoA (F : Nat → Nat → Int32) (fr : Bool) (op : Option Nat) (u : RuR) : Prop := (op = none → u = (0, [], [], [])) ∧ ∀ r, op = some r → RuA F r u ∧ r < 16 ∧ decide (r < 8) = fr
theorem RlA.ro0 {F : Nat → Nat → Int32} {us : List RuR} (h : RlA F 0 us) {p : Nat} (hp : p ≤ us.length) : RoA F true (pO 0 p) (rl2 us p) := ⟨fun q => by rw [pO_none q]; exact rl2_zero us, fun r q => by
  obtain ⟨h1, h2, h3⟩ := h.at hp q
  have := h.1
  exact ⟨h1, by omega, decide_eq_true (by omega)⟩⟩
theorem RlA.ro1 {F : Nat → Nat → Int32} {us : List RuR} (h : RlA F 1 us) {p : Nat} (hp : p ≤ us.length) : RoA F false (pO 1 p) (rl2 us p) := ⟨fun q => by rw [pO_none q]; exact rl2_zero us, fun r q => by
  obtain ⟨h1, h2, h3⟩ := h.at hp q
  have := h.1
  exact ⟨h1, by omega, decide_eq_false (by omega)⟩⟩
theorem RoA.bd {F : Nat → Nat → Int32} {fr : Bool} {op : Option Nat} {u : RuR} (h : RoA F fr op u) : RuB u := by
  cases ho : op with
  | none => rw [h.1 ho]; exact ⟨by decide, by decide, by decide⟩
  | some r => exact (h.2 r ho).1.1
theorem RoA.lt {F : Nat → Nat → Int32} {fr : Bool} {op : Option Nat} {u : RuR} (h : RoA F fr op u) : ∀ e, op = some e → e < 2 ^ 31 := fun e he => by have := (h.2 e he).2.1; omega
theorem RoA.eq {F F' : Nat → Nat → Int32} {fr : Bool} {op : Option Nat} {u : RuR} (h : RoA F fr op u) (e7 : F' 7 = F 7) (e8 : F' 8 = F 8) (e9 : F' 9 = F 9) : RoA F' fr op u := ⟨h.1, fun r hr => ⟨(h.2 r hr).1.eq e7 e8 e9, (h.2 r hr).2⟩⟩
theorem goO_zero (fr : Bool) (w : List Nat) (ef : Nat) : goO fr 0 [] [] w ef = true := by
  unfold goO stO
  simp
def mkO (u1 u2 : RuR) (x : List Nat × Nat) : Option (List Nat) := if (goO true u1.1 u1.2.1 u1.2.2.2 x.1 x.2 && goO false u2.1 u2.2.1 u2.2.2.2 x.1 x.2) = true then fmF u1 u2 x.1 else none
def FmA (F F1 : Nat → Nat → Int32) (pre : List Nat) : Prop := (∀ j, j ≠ 10 → F1 j = F j) ∧ sA (F1 10) 0 pre
theorem sA_app {f : Nat → Int32} {b c i : Nat} {pre : List Nat} (h : sA f b pre) (hi : b + pre.length = i) (hc : c < 65536) : sA (upd f i (nI c)) b (pre ++ [c]) := fun k hk => by
  rw [List.length_append, List.length_singleton] at hk
  by_cases z : k = pre.length
  · subst z
    rw [hi, pk_us, List.getD_eq_getElem?_getD, List.getElem?_append_right (Nat.le_refl _), Nat.sub_self]
    exact ⟨rfl, hc⟩
  · have := h k (by omega)
    rw [pk_un (by omega), List.getD_eq_getElem?_getD, List.getElem?_append_left (by omega), ← List.getD_eq_getElem?_getD]
    exact this
theorem FmA.step {F F1 : Nat → Nat → Int32} {pre : List Nat} {c i : Nat} (h : FmA F F1 pre) (hi : pre.length = i) (hc : c < 65536) : FmA F (upF F1 10 (upd (F1 10) i (nI c))) (pre ++ [c]) := ⟨fun j hj => by rw [upF_n hj]; exact h.1 j hj, by rw [upF_s]; exact sA_app h.2 (by omega) hc⟩
theorem sA_nil {f : Nat → Int32} {b : Nat} : sA f b [] := fun i hi => absurd hi (Nat.not_lt_zero _)
set_option maxRecDepth 20000 in
set_option maxHeartbeats 4000000 in
theorem c_Md_goesO (l : Launch) (G : GG) {ds : List (List Nat × Nat)} {e : Nat} {op : Option Nat} {fr1 : Bool} {u : RuR} {x : List Nat × Nat} {g : GH} {B : Nat → Nat} {cd ty fr tt ap fi en wr mk wd : Nat} {F : Nat → Nat → Int32} {o : List Nat × Nat} (h : Md G g B (mS cd ty ds.length fr tt ap fi en wr mk wd) F o) (hD : DcA F ds) (he : ds[e]? = some x) (hU : RoA F fr1 op u) : gMet l G y_Md_goes b_Md_goes 10 (some .boolean) (rmk 0 0 0 0) [.ref (B 0), .int (oI op), .int (nI e)] g (fun v g' => v = some (.int (nI (bn (goO fr1 u.1 u.2.1 u.2.2.2 x.1 x.2)))) ∧ g' = g) := by
  cases op with
  | none => rw [hU.1 rfl, goO_zero]; exact c_Md_goesN l G h
  | some r => exact c_Md_goesR l G h hD he (hU.2 r rfl).2.1 (hU.2 r rfl).2.2 (hU.2 r rfl).1
set_option maxRecDepth 20000 in
set_option maxHeartbeats 4000000 in
theorem c_Md_make (l : Launch) (G : GG) {ds : List (List Nat × Nat)} {e : Nat} {op1 op2 : Option Nat} {u1 u2 : RuR} {x : List Nat × Nat} {g : GH} {B : Nat → Nat} {cd ty fr tt ap fi en wr mk wd : Nat} {F : Nat → Nat → Int32} {o : List Nat × Nat} (h : Md G g B (mS cd ty ds.length fr tt ap fi en wr mk wd) F o) (hD : DcA F ds) (he : ds[e]? = some x) (hU1 : RoA F true op1 u1) (hU2 : RoA F false op2 u2) : gMet l G y_Md_make b_Md_make 7 (some .boolean) (rmk 1 0 0 29) [.ref (B 0), .int (nI e), .int (oI op1), .int (oI op2)] g (fun v g' => ∃ mk' F', v = some (.int (nI (bn (mkO u1 u2 x).isSome))) ∧ Md G g' B (mS cd ty ds.length fr tt ap fi en wr mk' wd) F' o ∧ (∀ j, j ≠ 10 → F' j = F j) ∧ (∀ wd, mkO u1 u2 x = some wd → mk' = wd.length ∧ sA (F' 10) 0 wd ∧ wd.length ≤ 28) ∧ gh_M MDT g g') := by
  refine gMet.of [some (.ref (B 0)), some (.int (nI e)), some (.int (oI op1)), some (.int (oI op2)), none, none, none] (by decide +kernel) rfl (Nat.le_of_ble_eq_true rfl) rfl (fun X hK hI hE => ?_)
  have mm : gh_M MDT g g := gh_M.rf
  have hdl := hD.1
  have hel : e < ds.length := (List.getElem?_eq_some_iff.mp he).1
  obtain ⟨d1, d2, d3, d4, d5⟩ := hD.2 e x he
  obtain ⟨b1, b2, b3⟩ := hU1.bd
  obtain ⟨c1, c2, c3⟩ := hU2.bd
  have k258 : ∀ (g1 : GH) (F1 : Nat → Nat → Int32) (v6 : Option Value) (mk : Nat) (h : Md G g1 B (mS cd ty ds.length fr tt ap fi en wr mk wd) F1 o) (mm : gh_M MDT g g1), mk = (u1.2.2.1 ++ ((x.1.drop u1.2.1.length).take (x.1.length - u1.2.1.length - u2.2.1.length)) ++ u2.2.2.1).length → (u1.2.2.1 ++ ((x.1.drop u1.2.1.length).take (x.1.length - u1.2.1.length - u2.2.1.length)) ++ u2.2.2.1).length ≤ 28 → FmA F F1 (u1.2.2.1 ++ ((x.1.drop u1.2.1.length).take (x.1.length - u1.2.1.length - u2.2.1.length)) ++ u2.2.2.1) → mkO u1 u2 x = some (u1.2.2.1 ++ ((x.1.drop u1.2.1.length).take (x.1.length - u1.2.1.length - u2.2.1.length)) ++ u2.2.2.1) → gh_W l G (rmk 1 0 0 29) X g1 0 0 [some (.ref (B 0)), some (.int (nI e)), some (.int (oI op1)), some (.int (oI op2)), some (.int (nI u1.2.1.length)), some (.int (nI u2.2.1.length)), v6] 258 [] := by
    intro g1 F1 v6 mk h mm hk hk2 hF hw
    refine gh_iconst (v := nI 1) hK d_Md_make_258 (by decide) ?_
    exact gh_zret (by decide) hK hE d_Md_make_259 (Nat.le_of_ble_eq_true rfl) (Nat.le_of_ble_eq_true rfl) ⟨mk, F1, by rw [hw]; rfl, h, hF.1, fun wd hwd => (by rw [hw] at hwd; cases hwd; exact ⟨hk, hF.2, hk2⟩), mm⟩
  by_cases hlen : u1.2.1.length + u2.2.1.length < x.1.length
  rotate_left
  · have j0 : gh_W l G (rmk 1 0 0 29) X g 0 0 [some (.ref (B 0)), some (.int (nI e)), some (.int (oI op1)), some (.int (oI op2)), none, none, none] 17 [.int (nI u1.2.1.length)] → gh_W l G (rmk 1 0 0 29) X g 0 0 [some (.ref (B 0)), some (.int (nI e)), some (.int (oI op1)), some (.int (oI op2)), none, none, none] 0 [] := by
      intro kk
      refine gh_iload_n hK d_Md_make_0 rfl ?_
      refine gh_iconst (v := (-1)) hK d_Md_make_1 (by decide) ?_
      refine gh_icmp_neO hK d_Md_make_2 (tgt := 9) (by decide) hU1.lt (fun r z => ?_) (fun z => ?_)
      · obtain ⟨hr, hr2, -⟩ := hU1.2 r z
        rw [show oI op1 = nI r from by rw [z]; rfl] at kk ⊢
        show gh_W l G _ X g 0 0 [some (.ref (B 0)), some (.int (nI e)), some (.int (nI r)), some (.int (oI op2)), none, none, none] 9 []
        refine gh_aload_n hK d_Md_make_9 rfl ?_
        refine gh_get (v := .ref (B 8)) hK d_Md_make_10 in_Md rfl h.1 12 (by decide) kf_Md_31 rfl rfl ?_
        refine gh_iconst (v := nI 3) hK d_Md_make_13 (by decide) ?_
        refine gh_iload_n hK d_Md_make_14 rfl ?_
        refine gh_mulN hK d_Md_make_15 ?_
        refine gh_mald hK d_Md_make_16 h 8 (by decide) (i := 3 * r) (x := (nI u1.2.1.length)) (by show 3 * r < 48; omega) hr.2.2.1.1 ?_
        exact kk
      · rw [hU1.1 z] at kk
        refine gh_iconst (v := nI 0) hK d_Md_make_5 (by decide) ?_
        refine gh_goto (tgt := 17) hK d_Md_make_6 (by decide) ?_
        exact kk
    have j19 : gh_W l G (rmk 1 0 0 29) X g 0 0 [some (.ref (B 0)), some (.int (nI e)), some (.int (oI op1)), some (.int (oI op2)), some (.int (nI u1.2.1.length)), none, none] 36 [.int (nI u2.2.1.length)] → gh_W l G (rmk 1 0 0 29) X g 0 0 [some (.ref (B 0)), some (.int (nI e)), some (.int (oI op1)), some (.int (oI op2)), some (.int (nI u1.2.1.length)), none, none] 19 [] := by
      intro kk
      refine gh_iload_n hK d_Md_make_19 rfl ?_
      refine gh_iconst (v := (-1)) hK d_Md_make_20 (by decide) ?_
      refine gh_icmp_neO hK d_Md_make_21 (tgt := 28) (by decide) hU2.lt (fun r z => ?_) (fun z => ?_)
      · obtain ⟨hr, hr2, -⟩ := hU2.2 r z
        rw [show oI op2 = nI r from by rw [z]; rfl] at kk ⊢
        show gh_W l G _ X g 0 0 [some (.ref (B 0)), some (.int (nI e)), some (.int (oI op1)), some (.int (nI r)), some (.int (nI u1.2.1.length)), none, none] 28 []
        refine gh_aload_n hK d_Md_make_28 rfl ?_
        refine gh_get (v := .ref (B 8)) hK d_Md_make_29 in_Md rfl h.1 12 (by decide) kf_Md_31 rfl rfl ?_
        refine gh_iconst (v := nI 3) hK d_Md_make_32 (by decide) ?_
        refine gh_iload_n hK d_Md_make_33 rfl ?_
        refine gh_mulN hK d_Md_make_34 ?_
        refine gh_mald hK d_Md_make_35 h 8 (by decide) (i := 3 * r) (x := (nI u2.2.1.length)) (by show 3 * r < 48; omega) hr.2.2.1.1 ?_
        exact kk
      · rw [hU2.1 z] at kk
        refine gh_iconst (v := nI 0) hK d_Md_make_24 (by decide) ?_
        refine gh_goto (tgt := 36) hK d_Md_make_25 (by decide) ?_
        exact kk
    refine j0 ?_
    refine gh_istore (lv' := [some (.ref (B 0)), some (.int (nI e)), some (.int (oI op1)), some (.int (oI op2)), some (.int (nI u1.2.1.length)), none, none]) hK d_Md_make_17 (Nat.le_of_ble_eq_true rfl) rfl ?_
    refine j19 ?_
    refine gh_istore (lv' := [some (.ref (B 0)), some (.int (nI e)), some (.int (oI op1)), some (.int (oI op2)), some (.int (nI u1.2.1.length)), some (.int (nI u2.2.1.length)), none]) hK d_Md_make_36 (Nat.le_of_ble_eq_true rfl) rfl ?_
    refine gh_aload_n hK d_Md_make_38 rfl ?_
    refine gh_iload_n hK d_Md_make_39 rfl ?_
    refine gh_iload_n hK d_Md_make_40 rfl ?_
    refine gh_callV (rest := []) [.int (oI op1), .int (nI e)] hK (c_Md_goesO l G h hD he hU1) Y_Md_goes V_Md_goes km_Md_113 h.1 rfl rfl d_Md_make_41 rfl rfl (Nat.le_of_ble_eq_true rfl) ⟨(Nat.le_of_ble_eq_true rfl), (Nat.le_of_ble_eq_true rfl)⟩ ⟨(Nat.le_of_ble_eq_true rfl), (Nat.le_of_ble_eq_true rfl)⟩ (fun v gp_1 hp => ?_)
    obtain ⟨rfl, hgp⟩ := hp
    rw [hgp]
    show gh_W l G _ X g 0 0 [some (.ref (B 0)), some (.int (nI e)), some (.int (oI op1)), some (.int (oI op2)), some (.int (nI u1.2.1.length)), some (.int (nI u2.2.1.length)), none] 44 [.int (nI (bn (goO true u1.1 u1.2.1 u1.2.2.2 x.1 x.2)))]
    refine gh_if_eqB hK d_Md_make_44 (tgt := 70) (by decide) (fun z1 => ?_) (fun z1 => ?_)
    · have hn : mkO u1 u2 x = none := by rw [mkO, z1]; rfl
      refine gh_iconst (v := nI 0) hK d_Md_make_70 (by decide) ?_
      exact gh_zret (by decide) hK hE d_Md_make_71 (Nat.le_of_ble_eq_true rfl) (Nat.le_of_ble_eq_true rfl) ⟨mk, F, by rw [hn]; rfl, h, fun _ _ => rfl, fun wd hwd => (by rw [hn] at hwd; cases hwd), mm⟩
    refine gh_aload_n hK d_Md_make_47 rfl ?_
    refine gh_iload_n hK d_Md_make_48 rfl ?_
    refine gh_iload_n hK d_Md_make_49 rfl ?_
    refine gh_callV (rest := []) [.int (oI op2), .int (nI e)] hK (c_Md_goesO l G h hD he hU2) Y_Md_goes V_Md_goes km_Md_113 h.1 rfl rfl d_Md_make_50 rfl rfl (Nat.le_of_ble_eq_true rfl) ⟨(Nat.le_of_ble_eq_true rfl), (Nat.le_of_ble_eq_true rfl)⟩ ⟨(Nat.le_of_ble_eq_true rfl), (Nat.le_of_ble_eq_true rfl)⟩ (fun v gp_2 hp => ?_)
    obtain ⟨rfl, hgp⟩ := hp
    rw [hgp]
    show gh_W l G _ X g 0 0 [some (.ref (B 0)), some (.int (nI e)), some (.int (oI op1)), some (.int (oI op2)), some (.int (nI u1.2.1.length)), some (.int (nI u2.2.1.length)), none] 53 [.int (nI (bn (goO false u2.1 u2.2.1 u2.2.2.2 x.1 x.2)))]
    refine gh_if_eqB hK d_Md_make_53 (tgt := 70) (by decide) (fun z2 => ?_) (fun z2 => ?_)
    · have hn : mkO u1 u2 x = none := by rw [mkO, z2, Bool.and_false]; rfl
      refine gh_iconst (v := nI 0) hK d_Md_make_70 (by decide) ?_
      exact gh_zret (by decide) hK hE d_Md_make_71 (Nat.le_of_ble_eq_true rfl) (Nat.le_of_ble_eq_true rfl) ⟨mk, F, by rw [hn]; rfl, h, fun _ _ => rfl, fun wd hwd => (by rw [hn] at hwd; cases hwd), mm⟩
    refine gh_aload_n hK d_Md_make_56 rfl ?_
    refine gh_get (v := .ref (B 3)) hK d_Md_make_57 in_Md rfl h.1 7 (by decide) kf_Md_16 rfl rfl ?_
    refine gh_iload_n hK d_Md_make_60 rfl ?_
    refine gh_mald hK d_Md_make_61 h 3 (by decide) (i := e) (x := (nI x.1.length)) (by show e < 300; omega) d2 ?_
    refine gh_iload hK d_Md_make_62 rfl ?_
    refine gh_iload hK d_Md_make_64 rfl ?_
    refine gh_addN hK d_Md_make_66 ?_
    refine gh_icmp_gtN hK d_Md_make_67 (tgt := 72) (by decide) (by omega) (by omega) (fun q => by omega) (fun _ => ?_)
    have hn : mkO u1 u2 x = none := by rw [mkO, z1, z2, if_pos (by decide), fmF, if_neg hlen]
    refine gh_iconst (v := nI 0) hK d_Md_make_70 (by decide) ?_
    exact gh_zret (by decide) hK hE d_Md_make_71 (Nat.le_of_ble_eq_true rfl) (Nat.le_of_ble_eq_true rfl) ⟨mk, F, by rw [hn]; rfl, h, fun _ _ => rfl, fun wd hwd => (by rw [hn] at hwd; cases hwd), mm⟩
  have mlen : ∀ i, i ≤ (x.1.length - u1.2.1.length - u2.2.1.length) → ((x.1.drop u1.2.1.length).take i).length = i := fun i hi => by rw [List.length_take, List.length_drop]; omega
  have wlen : (u1.2.2.1 ++ ((x.1.drop u1.2.1.length).take (x.1.length - u1.2.1.length - u2.2.1.length)) ++ u2.2.2.1).length = u1.2.2.1.length + (x.1.length - u1.2.1.length - u2.2.1.length) + u2.2.2.1.length := by rw [List.length_append, List.length_append, mlen _ (Nat.le_refl _)]
  have plen : (u1.2.2.1 ++ ((x.1.drop u1.2.1.length).take (x.1.length - u1.2.1.length - u2.2.1.length))).length = u1.2.2.1.length + (x.1.length - u1.2.1.length - u2.2.1.length) := by rw [List.length_append, mlen _ (Nat.le_refl _)]
  have lp3 : mkO u1 u2 x = some (u1.2.2.1 ++ ((x.1.drop u1.2.1.length).take (x.1.length - u1.2.1.length - u2.2.1.length)) ++ u2.2.2.1) → ∀ (m k : Nat) (g1 : GH) (F1 : Nat → Nat → Int32) (h : Md G g1 B (mS cd ty ds.length fr tt ap fi en wr ((u1.2.2.1.length + (x.1.length - u1.2.1.length - u2.2.1.length)) + k) wd) F1 o) (mm : gh_M MDT g g1), k + m = u2.2.2.1.length → FmA F F1 ((u1.2.2.1 ++ ((x.1.drop u1.2.1.length).take (x.1.length - u1.2.1.length - u2.2.1.length))) ++ u2.2.2.1.take k) → gh_W l G (rmk 1 0 0 29) X g1 0 0 [some (.ref (B 0)), some (.int (nI e)), some (.int (oI op1)), some (.int (oI op2)), some (.int (nI u1.2.1.length)), some (.int (nI u2.2.1.length)), some (.int (nI k))] 198 [] := by
    intro hn m
    induction m with
    | zero =>
      intro k g1 F1 h mm hk hF
      have hk : k = u2.2.2.1.length := by omega
      subst hk
      rw [List.take_length] at hF
      refine gh_iload_n hK d_Md_make_198 rfl ?_
      refine gh_iconst (v := (-1)) hK d_Md_make_199 (by decide) ?_
      refine gh_icmp_eqO hK d_Md_make_200 (tgt := 258) (by decide) hU2.lt (fun _ => ?_) (fun r z => ?_)
      · exact k258 g1 F1 _ _ h mm wlen.symm (by omega) hF hn
      obtain ⟨hr, hr2, -⟩ := hU2.2 r z
      rw [show oI op2 = nI r from by rw [z]; rfl]
      show gh_W l G _ X g1 0 0 [some (.ref (B 0)), some (.int (nI e)), some (.int (oI op1)), some (.int (nI r)), some (.int (nI u1.2.1.length)), some (.int (nI u2.2.1.length)), some (.int (nI u2.2.2.1.length))] 203 []
      refine gh_iload hK d_Md_make_203 rfl ?_
      refine gh_aload_n hK d_Md_make_205 rfl ?_
      refine gh_get (v := .ref (B 8)) hK d_Md_make_206 in_Md rfl h.1 12 (by decide) kf_Md_31 rfl rfl ?_
      refine gh_iconst (v := nI 3) hK d_Md_make_209 (by decide) ?_
      refine gh_iload_n hK d_Md_make_210 rfl ?_
      refine gh_mulN hK d_Md_make_211 ?_
      refine gh_iconst (v := nI 1) hK d_Md_make_212 (by decide) ?_
      refine gh_addN hK d_Md_make_213 ?_
      refine gh_mald hK d_Md_make_214 h 8 (by decide) (i := (3 * r) + 1) (x := (nI u2.2.2.1.length)) (by show (3 * r) + 1 < 48; omega) (by rw [hF.1 8 (by decide)]; exact hr.2.2.1.2.1) ?_
      refine gh_icmp_geN hK d_Md_make_215 (tgt := 258) (by decide) (by omega) (by omega) (fun _ => ?_) (fun q => by omega)
      rw [show nI r = oI op2 from by rw [z]; rfl]
      exact k258 g1 F1 _ _ h mm wlen.symm (by omega) hF hn
    | succ m ih =>
      intro k g1 F1 h mm hk hF
      refine gh_iload_n hK d_Md_make_198 rfl ?_
      refine gh_iconst (v := (-1)) hK d_Md_make_199 (by decide) ?_
      refine gh_icmp_eqO hK d_Md_make_200 (tgt := 258) (by decide) hU2.lt (fun z => ?_) (fun r z => ?_)
      · rw [hU2.1 z] at hk
        exact absurd hk (by show ¬ _ = 0; omega)
      obtain ⟨hr, hr2, -⟩ := hU2.2 r z
      have hc := hr.2.2.2.1.2.1 k (by omega)
      rw [show oI op2 = nI r from by rw [z]; rfl]
      show gh_W l G _ X g1 0 0 [some (.ref (B 0)), some (.int (nI e)), some (.int (oI op1)), some (.int (nI r)), some (.int (nI u1.2.1.length)), some (.int (nI u2.2.1.length)), some (.int (nI k))] 203 []
      refine gh_iload hK d_Md_make_203 rfl ?_
      refine gh_aload_n hK d_Md_make_205 rfl ?_
      refine gh_get (v := .ref (B 8)) hK d_Md_make_206 in_Md rfl h.1 12 (by decide) kf_Md_31 rfl rfl ?_
      refine gh_iconst (v := nI 3) hK d_Md_make_209 (by decide) ?_
      refine gh_iload_n hK d_Md_make_210 rfl ?_
      refine gh_mulN hK d_Md_make_211 ?_
      refine gh_iconst (v := nI 1) hK d_Md_make_212 (by decide) ?_
      refine gh_addN hK d_Md_make_213 ?_
      refine gh_mald hK d_Md_make_214 h 8 (by decide) (i := (3 * r) + 1) (x := (nI u2.2.2.1.length)) (by show (3 * r) + 1 < 48; omega) (by rw [hF.1 8 (by decide)]; exact hr.2.2.1.2.1) ?_
      refine gh_icmp_geN hK d_Md_make_215 (tgt := 258) (by decide) (by omega) (by omega) (fun q => by omega) (fun _ => ?_)
      refine gh_aload_n hK d_Md_make_218 rfl ?_
      refine gh_get (v := .ref (B 10)) hK d_Md_make_219 in_Md rfl h.1 21 (by decide) kf_Md_37 rfl rfl ?_
      refine gh_aload_n hK d_Md_make_222 rfl ?_
      refine gh_get (v := .int (nI ((u1.2.2.1.length + (x.1.length - u1.2.1.length - u2.2.1.length)) + k))) hK d_Md_make_223 in_Md rfl h.1 20 (by decide) kf_Md_117 rfl rfl ?_
      refine gh_aload_n hK d_Md_make_226 rfl ?_
      refine gh_get (v := .ref (B 9)) hK d_Md_make_227 in_Md rfl h.1 13 (by decide) kf_Md_34 rfl rfl ?_
      refine gh_bipush (v := nI 18) hK d_Md_make_230 (by decide) ?_
      refine gh_iload_n hK d_Md_make_232 rfl ?_
      refine gh_mulN hK d_Md_make_233 ?_
      refine gh_bipush (v := nI 6) hK d_Md_make_234 (by decide) ?_
      refine gh_addN hK d_Md_make_236 ?_
      refine gh_iload hK d_Md_make_237 rfl ?_
      refine gh_addN hK d_Md_make_239 ?_
      refine gh_mald hK d_Md_make_240 h 9 (by decide) (i := ((18 * r) + 6) + k) (x := (nI (u2.2.2.1.getD k 0))) (by show ((18 * r) + 6) + k < 288; omega) (by rw [hF.1 9 (by decide)]; exact hc.1) ?_
      refine gh_mast hK d_Md_make_241 h 10 (by decide) (i := (u1.2.2.1.length + (x.1.length - u1.2.1.length - u2.2.1.length)) + k) (by show (u1.2.2.1.length + (x.1.length - u1.2.1.length - u2.2.1.length)) + k < 64; omega) (fun g_1 h_1 mx => ?_)
      have mm := mm.tr mx
      show gh_W l G _ X g_1 0 0 [some (.ref (B 0)), some (.int (nI e)), some (.int (oI op1)), some (.int (nI r)), some (.int (nI u1.2.1.length)), some (.int (nI u2.2.1.length)), some (.int (nI k))] 242 []
      refine gh_aload_n hK d_Md_make_242 rfl ?_
      refine gh_dup hK d_Md_make_243 rfl ?_
      refine gh_get (v := .int (nI ((u1.2.2.1.length + (x.1.length - u1.2.1.length - u2.2.1.length)) + k))) hK d_Md_make_244 in_Md rfl h_1.1 20 (by decide) kf_Md_117 rfl rfl ?_
      refine gh_iconst (v := nI 1) hK d_Md_make_247 (by decide) ?_
      refine gh_addN hK d_Md_make_248 ?_
      refine gh_mput hK d_Md_make_249 h_1 20 (mS cd ty ds.length fr tt ap fi en wr (((u1.2.2.1.length + (x.1.length - u1.2.1.length - u2.2.1.length)) + k) + 1) wd) rfl (by decide) kf_Md_117 rfl rfl rfl rfl (by decide) (fun g_2 h_2 mx => ?_)
      have mm := mm.tr mx
      show gh_W l G _ X g_2 0 0 [some (.ref (B 0)), some (.int (nI e)), some (.int (oI op1)), some (.int (nI r)), some (.int (nI u1.2.1.length)), some (.int (nI u2.2.1.length)), some (.int (nI k))] 252 []
      refine gh_incN (lv' := [some (.ref (B 0)), some (.int (nI e)), some (.int (oI op1)), some (.int (nI r)), some (.int (nI u1.2.1.length)), some (.int (nI u2.2.1.length)), some (.int (nI (k + 1)))]) hK d_Md_make_252 rfl rfl ?_
      refine gh_goto (tgt := 198) hK d_Md_make_255 (by decide) ?_
      rw [show nI r = oI op2 from by rw [z]; rfl]
      refine ih (k + 1) g_2 _ h_2 mm (by omega) ?_
      have hs := hF.step (c := u2.2.2.1.getD k 0) (i := (u1.2.2.1.length + (x.1.length - u1.2.1.length - u2.2.1.length)) + k) (by rw [List.length_append, List.length_take, plen]; omega) hc.2
      rw [take_succD (by omega)]
      rw [← List.append_assoc]
      exact hs
  have lp2 : mkO u1 u2 x = some (u1.2.2.1 ++ ((x.1.drop u1.2.1.length).take (x.1.length - u1.2.1.length - u2.2.1.length)) ++ u2.2.2.1) → ∀ (m i : Nat) (g1 : GH) (F1 : Nat → Nat → Int32) (h : Md G g1 B (mS cd ty ds.length fr tt ap fi en wr (u1.2.2.1.length + i) wd) F1 o) (mm : gh_M MDT g g1), i + m = (x.1.length - u1.2.1.length - u2.2.1.length) → FmA F F1 (u1.2.2.1 ++ ((x.1.drop u1.2.1.length).take i)) → gh_W l G (rmk 1 0 0 29) X g1 0 0 [some (.ref (B 0)), some (.int (nI e)), some (.int (oI op1)), some (.int (oI op2)), some (.int (nI u1.2.1.length)), some (.int (nI u2.2.1.length)), some (.int (nI (u1.2.1.length + i)))] 144 [] := by
    intro hn m
    induction m with
    | zero =>
      intro i g1 F1 h mm hk hF
      have hk : i = (x.1.length - u1.2.1.length - u2.2.1.length) := by omega
      subst hk
      refine gh_iload hK d_Md_make_144 rfl ?_
      refine gh_aload_n hK d_Md_make_146 rfl ?_
      refine gh_get (v := .ref (B 3)) hK d_Md_make_147 in_Md rfl h.1 7 (by decide) kf_Md_16 rfl rfl ?_
      refine gh_iload_n hK d_Md_make_150 rfl ?_
      refine gh_mald hK d_Md_make_151 h 3 (by decide) (i := e) (x := (nI x.1.length)) (by show e < 300; omega) (by rw [hF.1 3 (by decide)]; exact d2) ?_
      refine gh_iload hK d_Md_make_152 rfl ?_
      refine gh_subN hK d_Md_make_154 (by omega) ?_
      refine gh_icmp_geN hK d_Md_make_155 (tgt := 195) (by decide) (by omega) (by omega) (fun _ => ?_) (fun q => by omega)
      refine gh_iconst (v := nI 0) hK d_Md_make_195 (by decide) ?_
      refine gh_istore (lv' := [some (.ref (B 0)), some (.int (nI e)), some (.int (oI op1)), some (.int (oI op2)), some (.int (nI u1.2.1.length)), some (.int (nI u2.2.1.length)), some (.int (nI 0))]) hK d_Md_make_196 (Nat.le_of_ble_eq_true rfl) rfl ?_
      exact lp3 hn u2.2.2.1.length 0 g1 F1 h mm (by omega) (by rw [List.take_zero, List.append_nil]; exact hF)
    | succ m ih =>
      intro i g1 F1 h mm hk hF
      have hc := d4 (u1.2.1.length + i) (by omega)
      refine gh_iload hK d_Md_make_144 rfl ?_
      refine gh_aload_n hK d_Md_make_146 rfl ?_
      refine gh_get (v := .ref (B 3)) hK d_Md_make_147 in_Md rfl h.1 7 (by decide) kf_Md_16 rfl rfl ?_
      refine gh_iload_n hK d_Md_make_150 rfl ?_
      refine gh_mald hK d_Md_make_151 h 3 (by decide) (i := e) (x := (nI x.1.length)) (by show e < 300; omega) (by rw [hF.1 3 (by decide)]; exact d2) ?_
      refine gh_iload hK d_Md_make_152 rfl ?_
      refine gh_subN hK d_Md_make_154 (by omega) ?_
      refine gh_icmp_geN hK d_Md_make_155 (tgt := 195) (by decide) (by omega) (by omega) (fun q => by omega) (fun _ => ?_)
      refine gh_aload_n hK d_Md_make_158 rfl ?_
      refine gh_get (v := .ref (B 10)) hK d_Md_make_159 in_Md rfl h.1 21 (by decide) kf_Md_37 rfl rfl ?_
      refine gh_aload_n hK d_Md_make_162 rfl ?_
      refine gh_get (v := .int (nI (u1.2.2.1.length + i))) hK d_Md_make_163 in_Md rfl h.1 20 (by decide) kf_Md_117 rfl rfl ?_
      refine gh_aload_n hK d_Md_make_166 rfl ?_
      refine gh_get (v := .ref (B 5)) hK d_Md_make_167 in_Md rfl h.1 9 (by decide) kf_Md_22 rfl rfl ?_
      refine gh_bipush (v := nI 16) hK d_Md_make_170 (by decide) ?_
      refine gh_iload_n hK d_Md_make_172 rfl ?_
      refine gh_mulN hK d_Md_make_173 ?_
      refine gh_iload hK d_Md_make_174 rfl ?_
      refine gh_addN hK d_Md_make_176 ?_
      refine gh_mald hK d_Md_make_177 h 5 (by decide) (i := (16 * e) + (u1.2.1.length + i)) (x := (nI (x.1.getD (u1.2.1.length + i) 0))) (by show (16 * e) + (u1.2.1.length + i) < 4800; omega) (by rw [hF.1 5 (by decide)]; exact hc.1) ?_
      refine gh_mast hK d_Md_make_178 h 10 (by decide) (i := u1.2.2.1.length + i) (by show u1.2.2.1.length + i < 64; omega) (fun g_1 h_1 mx => ?_)
      have mm := mm.tr mx
      show gh_W l G _ X g_1 0 0 [some (.ref (B 0)), some (.int (nI e)), some (.int (oI op1)), some (.int (oI op2)), some (.int (nI u1.2.1.length)), some (.int (nI u2.2.1.length)), some (.int (nI (u1.2.1.length + i)))] 179 []
      refine gh_aload_n hK d_Md_make_179 rfl ?_
      refine gh_dup hK d_Md_make_180 rfl ?_
      refine gh_get (v := .int (nI (u1.2.2.1.length + i))) hK d_Md_make_181 in_Md rfl h_1.1 20 (by decide) kf_Md_117 rfl rfl ?_
      refine gh_iconst (v := nI 1) hK d_Md_make_184 (by decide) ?_
      refine gh_addN hK d_Md_make_185 ?_
      refine gh_mput hK d_Md_make_186 h_1 20 (mS cd ty ds.length fr tt ap fi en wr ((u1.2.2.1.length + i) + 1) wd) rfl (by decide) kf_Md_117 rfl rfl rfl rfl (by decide) (fun g_2 h_2 mx => ?_)
      have mm := mm.tr mx
      show gh_W l G _ X g_2 0 0 [some (.ref (B 0)), some (.int (nI e)), some (.int (oI op1)), some (.int (oI op2)), some (.int (nI u1.2.1.length)), some (.int (nI u2.2.1.length)), some (.int (nI (u1.2.1.length + i)))] 189 []
      refine gh_incN (lv' := [some (.ref (B 0)), some (.int (nI e)), some (.int (oI op1)), some (.int (oI op2)), some (.int (nI u1.2.1.length)), some (.int (nI u2.2.1.length)), some (.int (nI (u1.2.1.length + i + 1)))]) hK d_Md_make_189 rfl rfl ?_
      refine gh_goto (tgt := 144) hK d_Md_make_192 (by decide) ?_
      refine ih (i + 1) g_2 _ h_2 mm (by omega) ?_
      have hs := hF.step (c := x.1.getD (u1.2.1.length + i) 0) (i := u1.2.2.1.length + i) (by rw [List.length_append, mlen i (by omega)]) hc.2
      rw [slice_succ (by omega), ← List.append_assoc]
      exact hs
  have out1 : mkO u1 u2 x = some (u1.2.2.1 ++ ((x.1.drop u1.2.1.length).take (x.1.length - u1.2.1.length - u2.2.1.length)) ++ u2.2.2.1) → ∀ (g1 : GH) (F1 : Nat → Nat → Int32) (v6 : Option Value) (h : Md G g1 B (mS cd ty ds.length fr tt ap fi en wr u1.2.2.1.length wd) F1 o) (mm : gh_M MDT g g1), FmA F F1 u1.2.2.1 → gh_W l G (rmk 1 0 0 29) X g1 0 0 [some (.ref (B 0)), some (.int (nI e)), some (.int (oI op1)), some (.int (oI op2)), some (.int (nI u1.2.1.length)), some (.int (nI u2.2.1.length)), v6] 140 [] := by
    intro hn g1 F1 v6 h mm hF
    refine gh_iload hK d_Md_make_140 rfl ?_
    refine gh_istore (lv' := [some (.ref (B 0)), some (.int (nI e)), some (.int (oI op1)), some (.int (oI op2)), some (.int (nI u1.2.1.length)), some (.int (nI u2.2.1.length)), some (.int (nI u1.2.1.length))]) hK d_Md_make_142 (Nat.le_of_ble_eq_true rfl) rfl ?_
    exact lp2 hn (x.1.length - u1.2.1.length - u2.2.1.length) 0 g1 F1 h mm (by omega) (by rw [List.take_zero, List.append_nil]; exact hF)
  have lp1 : mkO u1 u2 x = some (u1.2.2.1 ++ ((x.1.drop u1.2.1.length).take (x.1.length - u1.2.1.length - u2.2.1.length)) ++ u2.2.2.1) → ∀ (m k : Nat) (g1 : GH) (F1 : Nat → Nat → Int32) (h : Md G g1 B (mS cd ty ds.length fr tt ap fi en wr k wd) F1 o) (mm : gh_M MDT g g1), k + m = u1.2.2.1.length → FmA F F1 (u1.2.2.1.take k) → gh_W l G (rmk 1 0 0 29) X g1 0 0 [some (.ref (B 0)), some (.int (nI e)), some (.int (oI op1)), some (.int (oI op2)), some (.int (nI u1.2.1.length)), some (.int (nI u2.2.1.length)), some (.int (nI k))] 80 [] := by
    intro hn m
    have out1 := out1 hn
    induction m with
    | zero =>
      intro k g1 F1 h mm hk hF
      have hk : k = u1.2.2.1.length := by omega
      subst hk
      rw [List.take_length] at hF
      refine gh_iload_n hK d_Md_make_80 rfl ?_
      refine gh_iconst (v := (-1)) hK d_Md_make_81 (by decide) ?_
      refine gh_icmp_eqO hK d_Md_make_82 (tgt := 140) (by decide) hU1.lt (fun _ => ?_) (fun r z => ?_)
      · exact out1 g1 F1 _ h mm hF
      obtain ⟨hr, hr2, -⟩ := hU1.2 r z
      rw [show oI op1 = nI r from by rw [z]; rfl]
      show gh_W l G _ X g1 0 0 [some (.ref (B 0)), some (.int (nI e)), some (.int (nI r)), some (.int (oI op2)), some (.int (nI u1.2.1.length)), some (.int (nI u2.2.1.length)), some (.int (nI u1.2.2.1.length))] 85 []
      refine gh_iload hK d_Md_make_85 rfl ?_
      refine gh_aload_n hK d_Md_make_87 rfl ?_
      refine gh_get (v := .ref (B 8)) hK d_Md_make_88 in_Md rfl h.1 12 (by decide) kf_Md_31 rfl rfl ?_
      refine gh_iconst (v := nI 3) hK d_Md_make_91 (by decide) ?_
      refine gh_iload_n hK d_Md_make_92 rfl ?_
      refine gh_mulN hK d_Md_make_93 ?_
      refine gh_iconst (v := nI 1) hK d_Md_make_94 (by decide) ?_
      refine gh_addN hK d_Md_make_95 ?_
      refine gh_mald hK d_Md_make_96 h 8 (by decide) (i := (3 * r) + 1) (x := (nI u1.2.2.1.length)) (by show (3 * r) + 1 < 48; omega) (by rw [hF.1 8 (by decide)]; exact hr.2.2.1.2.1) ?_
      refine gh_icmp_geN hK d_Md_make_97 (tgt := 140) (by decide) (by omega) (by omega) (fun _ => ?_) (fun q => by omega)
      rw [show nI r = oI op1 from by rw [z]; rfl]
      exact out1 g1 F1 _ h mm hF
    | succ m ih =>
      intro k g1 F1 h mm hk hF
      refine gh_iload_n hK d_Md_make_80 rfl ?_
      refine gh_iconst (v := (-1)) hK d_Md_make_81 (by decide) ?_
      refine gh_icmp_eqO hK d_Md_make_82 (tgt := 140) (by decide) hU1.lt (fun z => ?_) (fun r z => ?_)
      · rw [hU1.1 z] at hk
        exact absurd hk (by show ¬ _ = 0; omega)
      obtain ⟨hr, hr2, -⟩ := hU1.2 r z
      have hc := hr.2.2.2.1.2.1 k (by omega)
      rw [show oI op1 = nI r from by rw [z]; rfl]
      show gh_W l G _ X g1 0 0 [some (.ref (B 0)), some (.int (nI e)), some (.int (nI r)), some (.int (oI op2)), some (.int (nI u1.2.1.length)), some (.int (nI u2.2.1.length)), some (.int (nI k))] 85 []
      refine gh_iload hK d_Md_make_85 rfl ?_
      refine gh_aload_n hK d_Md_make_87 rfl ?_
      refine gh_get (v := .ref (B 8)) hK d_Md_make_88 in_Md rfl h.1 12 (by decide) kf_Md_31 rfl rfl ?_
      refine gh_iconst (v := nI 3) hK d_Md_make_91 (by decide) ?_
      refine gh_iload_n hK d_Md_make_92 rfl ?_
      refine gh_mulN hK d_Md_make_93 ?_
      refine gh_iconst (v := nI 1) hK d_Md_make_94 (by decide) ?_
      refine gh_addN hK d_Md_make_95 ?_
      refine gh_mald hK d_Md_make_96 h 8 (by decide) (i := (3 * r) + 1) (x := (nI u1.2.2.1.length)) (by show (3 * r) + 1 < 48; omega) (by rw [hF.1 8 (by decide)]; exact hr.2.2.1.2.1) ?_
      refine gh_icmp_geN hK d_Md_make_97 (tgt := 140) (by decide) (by omega) (by omega) (fun q => by omega) (fun _ => ?_)
      refine gh_aload_n hK d_Md_make_100 rfl ?_
      refine gh_get (v := .ref (B 10)) hK d_Md_make_101 in_Md rfl h.1 21 (by decide) kf_Md_37 rfl rfl ?_
      refine gh_aload_n hK d_Md_make_104 rfl ?_
      refine gh_get (v := .int (nI k)) hK d_Md_make_105 in_Md rfl h.1 20 (by decide) kf_Md_117 rfl rfl ?_
      refine gh_aload_n hK d_Md_make_108 rfl ?_
      refine gh_get (v := .ref (B 9)) hK d_Md_make_109 in_Md rfl h.1 13 (by decide) kf_Md_34 rfl rfl ?_
      refine gh_bipush (v := nI 18) hK d_Md_make_112 (by decide) ?_
      refine gh_iload_n hK d_Md_make_114 rfl ?_
      refine gh_mulN hK d_Md_make_115 ?_
      refine gh_bipush (v := nI 6) hK d_Md_make_116 (by decide) ?_
      refine gh_addN hK d_Md_make_118 ?_
      refine gh_iload hK d_Md_make_119 rfl ?_
      refine gh_addN hK d_Md_make_121 ?_
      refine gh_mald hK d_Md_make_122 h 9 (by decide) (i := ((18 * r) + 6) + k) (x := (nI (u1.2.2.1.getD k 0))) (by show ((18 * r) + 6) + k < 288; omega) (by rw [hF.1 9 (by decide)]; exact hc.1) ?_
      refine gh_mast hK d_Md_make_123 h 10 (by decide) (i := k) (by show k < 64; omega) (fun g_1 h_1 mx => ?_)
      have mm := mm.tr mx
      show gh_W l G _ X g_1 0 0 [some (.ref (B 0)), some (.int (nI e)), some (.int (nI r)), some (.int (oI op2)), some (.int (nI u1.2.1.length)), some (.int (nI u2.2.1.length)), some (.int (nI k))] 124 []
      refine gh_aload_n hK d_Md_make_124 rfl ?_
      refine gh_dup hK d_Md_make_125 rfl ?_
      refine gh_get (v := .int (nI k)) hK d_Md_make_126 in_Md rfl h_1.1 20 (by decide) kf_Md_117 rfl rfl ?_
      refine gh_iconst (v := nI 1) hK d_Md_make_129 (by decide) ?_
      refine gh_addN hK d_Md_make_130 ?_
      refine gh_mput hK d_Md_make_131 h_1 20 (mS cd ty ds.length fr tt ap fi en wr (k + 1) wd) rfl (by decide) kf_Md_117 rfl rfl rfl rfl (by decide) (fun g_2 h_2 mx => ?_)
      have mm := mm.tr mx
      show gh_W l G _ X g_2 0 0 [some (.ref (B 0)), some (.int (nI e)), some (.int (nI r)), some (.int (oI op2)), some (.int (nI u1.2.1.length)), some (.int (nI u2.2.1.length)), some (.int (nI k))] 134 []
      refine gh_incN (lv' := [some (.ref (B 0)), some (.int (nI e)), some (.int (nI r)), some (.int (oI op2)), some (.int (nI u1.2.1.length)), some (.int (nI u2.2.1.length)), some (.int (nI (k + 1)))]) hK d_Md_make_134 rfl rfl ?_
      refine gh_goto (tgt := 80) hK d_Md_make_137 (by decide) ?_
      rw [show nI r = oI op1 from by rw [z]; rfl]
      refine ih (k + 1) g_2 _ h_2 mm (by omega) ?_
      have hs := hF.step (c := u1.2.2.1.getD k 0) (i := k) (by rw [List.length_take]; omega) hc.2
      rw [take_succD (by omega)]
      exact hs
  have j0 : gh_W l G (rmk 1 0 0 29) X g 0 0 [some (.ref (B 0)), some (.int (nI e)), some (.int (oI op1)), some (.int (oI op2)), none, none, none] 17 [.int (nI u1.2.1.length)] → gh_W l G (rmk 1 0 0 29) X g 0 0 [some (.ref (B 0)), some (.int (nI e)), some (.int (oI op1)), some (.int (oI op2)), none, none, none] 0 [] := by
    intro kk
    refine gh_iload_n hK d_Md_make_0 rfl ?_
    refine gh_iconst (v := (-1)) hK d_Md_make_1 (by decide) ?_
    refine gh_icmp_neO hK d_Md_make_2 (tgt := 9) (by decide) hU1.lt (fun r z => ?_) (fun z => ?_)
    · obtain ⟨hr, hr2, -⟩ := hU1.2 r z
      rw [show oI op1 = nI r from by rw [z]; rfl] at kk ⊢
      show gh_W l G _ X g 0 0 [some (.ref (B 0)), some (.int (nI e)), some (.int (nI r)), some (.int (oI op2)), none, none, none] 9 []
      refine gh_aload_n hK d_Md_make_9 rfl ?_
      refine gh_get (v := .ref (B 8)) hK d_Md_make_10 in_Md rfl h.1 12 (by decide) kf_Md_31 rfl rfl ?_
      refine gh_iconst (v := nI 3) hK d_Md_make_13 (by decide) ?_
      refine gh_iload_n hK d_Md_make_14 rfl ?_
      refine gh_mulN hK d_Md_make_15 ?_
      refine gh_mald hK d_Md_make_16 h 8 (by decide) (i := 3 * r) (x := (nI u1.2.1.length)) (by show 3 * r < 48; omega) hr.2.2.1.1 ?_
      exact kk
    · rw [hU1.1 z] at kk
      refine gh_iconst (v := nI 0) hK d_Md_make_5 (by decide) ?_
      refine gh_goto (tgt := 17) hK d_Md_make_6 (by decide) ?_
      exact kk
  have j19 : gh_W l G (rmk 1 0 0 29) X g 0 0 [some (.ref (B 0)), some (.int (nI e)), some (.int (oI op1)), some (.int (oI op2)), some (.int (nI u1.2.1.length)), none, none] 36 [.int (nI u2.2.1.length)] → gh_W l G (rmk 1 0 0 29) X g 0 0 [some (.ref (B 0)), some (.int (nI e)), some (.int (oI op1)), some (.int (oI op2)), some (.int (nI u1.2.1.length)), none, none] 19 [] := by
    intro kk
    refine gh_iload_n hK d_Md_make_19 rfl ?_
    refine gh_iconst (v := (-1)) hK d_Md_make_20 (by decide) ?_
    refine gh_icmp_neO hK d_Md_make_21 (tgt := 28) (by decide) hU2.lt (fun r z => ?_) (fun z => ?_)
    · obtain ⟨hr, hr2, -⟩ := hU2.2 r z
      rw [show oI op2 = nI r from by rw [z]; rfl] at kk ⊢
      show gh_W l G _ X g 0 0 [some (.ref (B 0)), some (.int (nI e)), some (.int (oI op1)), some (.int (nI r)), some (.int (nI u1.2.1.length)), none, none] 28 []
      refine gh_aload_n hK d_Md_make_28 rfl ?_
      refine gh_get (v := .ref (B 8)) hK d_Md_make_29 in_Md rfl h.1 12 (by decide) kf_Md_31 rfl rfl ?_
      refine gh_iconst (v := nI 3) hK d_Md_make_32 (by decide) ?_
      refine gh_iload_n hK d_Md_make_33 rfl ?_
      refine gh_mulN hK d_Md_make_34 ?_
      refine gh_mald hK d_Md_make_35 h 8 (by decide) (i := 3 * r) (x := (nI u2.2.1.length)) (by show 3 * r < 48; omega) hr.2.2.1.1 ?_
      exact kk
    · rw [hU2.1 z] at kk
      refine gh_iconst (v := nI 0) hK d_Md_make_24 (by decide) ?_
      refine gh_goto (tgt := 36) hK d_Md_make_25 (by decide) ?_
      exact kk
  refine j0 ?_
  refine gh_istore (lv' := [some (.ref (B 0)), some (.int (nI e)), some (.int (oI op1)), some (.int (oI op2)), some (.int (nI u1.2.1.length)), none, none]) hK d_Md_make_17 (Nat.le_of_ble_eq_true rfl) rfl ?_
  refine j19 ?_
  refine gh_istore (lv' := [some (.ref (B 0)), some (.int (nI e)), some (.int (oI op1)), some (.int (oI op2)), some (.int (nI u1.2.1.length)), some (.int (nI u2.2.1.length)), none]) hK d_Md_make_36 (Nat.le_of_ble_eq_true rfl) rfl ?_
  refine gh_aload_n hK d_Md_make_38 rfl ?_
  refine gh_iload_n hK d_Md_make_39 rfl ?_
  refine gh_iload_n hK d_Md_make_40 rfl ?_
  refine gh_callV (rest := []) [.int (oI op1), .int (nI e)] hK (c_Md_goesO l G h hD he hU1) Y_Md_goes V_Md_goes km_Md_113 h.1 rfl rfl d_Md_make_41 rfl rfl (Nat.le_of_ble_eq_true rfl) ⟨(Nat.le_of_ble_eq_true rfl), (Nat.le_of_ble_eq_true rfl)⟩ ⟨(Nat.le_of_ble_eq_true rfl), (Nat.le_of_ble_eq_true rfl)⟩ (fun v gp_1 hp => ?_)
  obtain ⟨rfl, hgp⟩ := hp
  rw [hgp]
  show gh_W l G _ X g 0 0 [some (.ref (B 0)), some (.int (nI e)), some (.int (oI op1)), some (.int (oI op2)), some (.int (nI u1.2.1.length)), some (.int (nI u2.2.1.length)), none] 44 [.int (nI (bn (goO true u1.1 u1.2.1 u1.2.2.2 x.1 x.2)))]
  refine gh_if_eqB hK d_Md_make_44 (tgt := 70) (by decide) (fun z1 => ?_) (fun z1 => ?_)
  · have hn : mkO u1 u2 x = none := by rw [mkO, z1]; rfl
    refine gh_iconst (v := nI 0) hK d_Md_make_70 (by decide) ?_
    exact gh_zret (by decide) hK hE d_Md_make_71 (Nat.le_of_ble_eq_true rfl) (Nat.le_of_ble_eq_true rfl) ⟨mk, F, by rw [hn]; rfl, h, fun _ _ => rfl, fun wd hwd => (by rw [hn] at hwd; cases hwd), mm⟩
  refine gh_aload_n hK d_Md_make_47 rfl ?_
  refine gh_iload_n hK d_Md_make_48 rfl ?_
  refine gh_iload_n hK d_Md_make_49 rfl ?_
  refine gh_callV (rest := []) [.int (oI op2), .int (nI e)] hK (c_Md_goesO l G h hD he hU2) Y_Md_goes V_Md_goes km_Md_113 h.1 rfl rfl d_Md_make_50 rfl rfl (Nat.le_of_ble_eq_true rfl) ⟨(Nat.le_of_ble_eq_true rfl), (Nat.le_of_ble_eq_true rfl)⟩ ⟨(Nat.le_of_ble_eq_true rfl), (Nat.le_of_ble_eq_true rfl)⟩ (fun v gp_2 hp => ?_)
  obtain ⟨rfl, hgp⟩ := hp
  rw [hgp]
  show gh_W l G _ X g 0 0 [some (.ref (B 0)), some (.int (nI e)), some (.int (oI op1)), some (.int (oI op2)), some (.int (nI u1.2.1.length)), some (.int (nI u2.2.1.length)), none] 53 [.int (nI (bn (goO false u2.1 u2.2.1 u2.2.2.2 x.1 x.2)))]
  refine gh_if_eqB hK d_Md_make_53 (tgt := 70) (by decide) (fun z2 => ?_) (fun z2 => ?_)
  · have hn : mkO u1 u2 x = none := by rw [mkO, z2, Bool.and_false]; rfl
    refine gh_iconst (v := nI 0) hK d_Md_make_70 (by decide) ?_
    exact gh_zret (by decide) hK hE d_Md_make_71 (Nat.le_of_ble_eq_true rfl) (Nat.le_of_ble_eq_true rfl) ⟨mk, F, by rw [hn]; rfl, h, fun _ _ => rfl, fun wd hwd => (by rw [hn] at hwd; cases hwd), mm⟩
  refine gh_aload_n hK d_Md_make_56 rfl ?_
  refine gh_get (v := .ref (B 3)) hK d_Md_make_57 in_Md rfl h.1 7 (by decide) kf_Md_16 rfl rfl ?_
  refine gh_iload_n hK d_Md_make_60 rfl ?_
  refine gh_mald hK d_Md_make_61 h 3 (by decide) (i := e) (x := (nI x.1.length)) (by show e < 300; omega) d2 ?_
  refine gh_iload hK d_Md_make_62 rfl ?_
  refine gh_iload hK d_Md_make_64 rfl ?_
  refine gh_addN hK d_Md_make_66 ?_
  refine gh_icmp_gtN hK d_Md_make_67 (tgt := 72) (by decide) (by omega) (by omega) (fun _ => ?_) (fun q => by omega)
  have hn : mkO u1 u2 x = some (u1.2.2.1 ++ ((x.1.drop u1.2.1.length).take (x.1.length - u1.2.1.length - u2.2.1.length)) ++ u2.2.2.1) := by rw [mkO, z1, z2, if_pos (by decide), fmF, if_pos hlen]
  refine gh_aload_n hK d_Md_make_72 rfl ?_
  refine gh_iconst (v := nI 0) hK d_Md_make_73 (by decide) ?_
  refine gh_mput hK d_Md_make_74 h 20 (mS cd ty ds.length fr tt ap fi en wr 0 wd) rfl (by decide) kf_Md_117 rfl rfl rfl rfl (by decide) (fun g_3 h_3 mx => ?_)
  have mm := mm.tr mx
  show gh_W l G _ X g_3 0 0 [some (.ref (B 0)), some (.int (nI e)), some (.int (oI op1)), some (.int (oI op2)), some (.int (nI u1.2.1.length)), some (.int (nI u2.2.1.length)), none] 77 []
  refine gh_iconst (v := nI 0) hK d_Md_make_77 (by decide) ?_
  refine gh_istore (lv' := [some (.ref (B 0)), some (.int (nI e)), some (.int (oI op1)), some (.int (oI op2)), some (.int (nI u1.2.1.length)), some (.int (nI u2.2.1.length)), some (.int (nI 0))]) hK d_Md_make_78 (Nat.le_of_ble_eq_true rfl) rfl ?_
  exact lp1 hn u1.2.2.1.length 0 g_3 F h_3 mm (by omega) ⟨fun _ _ => rfl, by rw [List.take_zero]; exact sA_nil⟩
