theorem sp_ldcW {p : Program} {l : Launch} {e : Env} {R : Room} {s : State} {m : MethodId} {args : Array Value} {below : List Frame} {meth : Method} {c : Code} {T : State} {locs : List Loc} {cells slots : Nat} (X : Stand p l e R s m args below meth c T locs cells slots) (hexec : p.tables.exec = Jvm.exec) {own text : String} {index : Nat} {a : Addr} (hown : s.vm.findClass own = some m.cls) (hconst : (Cond.stringRef own index text).before args s = true) (hev : (Term.string own index).eval args s none [] s = some (.ref a)) {g : JFrame} (hg : g.method = m) (hdg : decode c.code g.pc = .ok (.ldc_w index, 3)) (target : State) (hrest : Steps p.tables e below (T.setTop { g with pc := g.pc + 3, stack := .ref a :: g.stack }) target) : Steps p.tables e below (T.setTop g) target := by
  obtain ⟨k, cf, i, a2, hk, hcf, hcp, -, hr, hev2⟩ := Cond.stringRef_spec hown hconst
  cases hev.symm.trans hev2
  obtain ⟨k2, hk2, he⟩ := X.warmed.alike.2.2 _ _ hk
  have hr2 : k2.resolved[index]? = some (some (.string a)) := by
    rcases X.warmed.entry hk hk2 index with h | ⟨h, -⟩
    · rw [h]; exact hr
    · rw [hr] at h; cases h
  subst hg
  jvm_step X.here [hexec, hdg, Jvm.Op.ldc_w.sem, Jvm.Op.ldc.wp_string (e := e) (s := T) (f := g) X.here.top hk2 (by rw [he]; exact hcf) hcp hr2]
  exact hrest
section GHR8
variable {l : Launch} {G : GG} {R : Room} {X : GX} {cc : ByteArray} {nL : Nat} {own : String} {g : GH} {k n pc : Nat} {lv : List (Option Value)} {st : List Value} {Post : Option Value → GH → Prop}
theorem gh_ldcwS {i index : Nat} {tx : String} (hK : gh_K G X cc nL own) (hd : decode cc pc = .ok (.ldc_w index, 3)) (hi : i < st_N) (hq : st_own[i]? = some (own, index, tx)) (kk : gh_W l G R X g k n lv (pc + 3) (.ref (G.2.2.1 i) :: st)) : gh_W l G R X g k n lv pc st := by
  obtain ⟨p, e, s, m, args, below, meth, c, A, Q⟩ := X
  obtain ⟨hx, hb, hml, hown, hts, hC, hA⟩ := hK
  intro H locs ls hP hAa hS hl
  have hZ := hC.2.2 i hi _ hq
  intro T hT X
  obtain ⟨t, a1, b1⟩ := kk H locs ls hP hAa hS hl T hT X
  exact ⟨t, sp_ldcW X hx hown (text := tx) (a := G.2.2.1 i) hZ.1 hZ.2 (g := F0 m pc ls st) rfl (by rw [hb]; exact hd) t a1, b1⟩
end GHR8
/-- what is printed of a way: its prefix p, its entry w, its suffix s -/
def wyT (w : List Nat) (p s : Nat) : List Nat := (if 0 < p then 112 :: (decL p ++ [43]) else []) ++ (w ++ (if 0 < s then 43 :: 115 :: decL s else []))
set_option maxRecDepth 20000 in
set_option maxHeartbeats 4000000 in
theorem c_SD_printWay (l : Launch) (G : GG) {g : GH} {A : Nat → Nat} {o : List Nat × Nat} {it : Nat} {ea fl p s : Nat} {w : List Nat} (h : SDo g A) (hP : Pr G g (A 4) (A 5) (A 6) o it) (hit : it < 1000000) (he : En G g ea w fl) (hp9 : p < 9) (hs9 : s < 9) : gMet l G y_SD_printWay b_SD_printWay 4 none (rmk 5 0 0 107) [.ref (A 0), .ref ea, .int (nI p), .int (nI s)] g (fun v g' => v = none ∧ Pr G g' (A 4) (A 5) (A 6) (prs (if 0 < it then prt o 32 else o) (wyT w p s)) (it + 1) ∧ gh_M [4, 5, 6] g g') := by
  refine gMet.of [some (.ref (A 0)), some (.ref ea), some (.int (nI p)), some (.int (nI s))] (by decide +kernel) rfl (Nat.le_of_ble_eq_true rfl) rfl (fun X hK hI hE => ?_)
  obtain ⟨wa, wb, e1, e2⟩ := id he
  refine gh_aload_n hK d_SD_printWay_0 rfl ?_
  refine gh_ifnonnull hK d_SD_printWay_1 (tgt := 5) (by decide) ?_
  refine gh_aload_n hK d_SD_printWay_5 rfl ?_
  refine gh_get hK d_SD_printWay_6 in_SD rfl h 2 (by decide) kf_SD_30 rfl rfl ?_
  refine gh_callV (rest := []) [] hK (c_Pr_startItem l G hP hit) Y_Pr_startItem V_Pr_startItem km_SD_320 hP.1 rfl rfl d_SD_printWay_9 rfl rfl (Nat.le_of_ble_eq_true rfl) ⟨(Nat.le_of_ble_eq_true rfl), (Nat.le_of_ble_eq_true rfl)⟩ ⟨(Nat.le_of_ble_eq_true rfl), (Nat.le_of_ble_eq_true rfl)⟩ (fun v g1 hp => ?_)
  obtain ⟨rfl, hP1, hb1⟩ := hp
  show gh_W l G _ X g1 _ _ [some (.ref (A 0)), some (.ref ea), some (.int (nI p)), some (.int (nI s))] 12 []
  have m1 := hP.toM hb1
  generalize hO : (if 0 < it then prt o 32 else o) = O at hP1 hE
  have tail2 : ∀ (g2 : GH) (o2 : List Nat × Nat), Pr G g2 (A 4) (A 5) (A 6) o2 (it + 1) → gh_M [4, 5, 6] g g2 → prs o2 (if 0 < s then 43 :: 115 :: decL s else []) = prs O (wyT w p s) → gh_W l G (rmk 5 0 0 107) X g2 0 0 [some (.ref (A 0)), some (.ref ea), some (.int (nI p)), some (.int (nI s))] 63 [] := by
    intro g2 o2 hP2 m2 hF
    have k2 : g2 (A 0) = _ := m2 _ 0 _ h (by decide)
    refine gh_iload_n hK d_SD_printWay_63 rfl ?_
    refine gh_if_leN hK d_SD_printWay_64 (tgt := 85) (by decide) (by omega) (fun z => ?_) (fun z => ?_)
    · rw [if_neg (by omega), prs_nil] at hF
      exact gh_vret hK hE d_SD_printWay_85 (Nat.le_of_ble_eq_true rfl) (Nat.le_of_ble_eq_true rfl) ⟨rfl, by rw [← hF]; exact hP2, m2⟩
    · rw [if_pos (by omega)] at hF
      refine gh_aload_n hK d_SD_printWay_67 rfl ?_
      refine gh_get hK d_SD_printWay_68 in_SD rfl k2 2 (by decide) kf_SD_30 rfl rfl ?_
      refine gh_ldcwS (i := 14) hK d_SD_printWay_71 (by decide) rfl ?_
      refine gh_callV (rest := []) [.ref (G.2.2.1 14)] hK (c_Pr_printText l G hP2 (i := 14) (by decide)) Y_Pr_printText V_Pr_printText km_SD_176 hP2.1 rfl rfl d_SD_printWay_74 rfl rfl (Nat.le_of_ble_eq_true rfl) ⟨(Nat.le_of_ble_eq_true rfl), (Nat.le_of_ble_eq_true rfl)⟩ ⟨(Nat.le_of_ble_eq_true rfl), (Nat.le_of_ble_eq_true rfl)⟩ (fun v g3 hp => ?_)
      obtain ⟨rfl, hq1, hq2⟩ := hp
      show gh_W l G _ X g3 _ _ [some (.ref (A 0)), some (.ref ea), some (.int (nI p)), some (.int (nI s))] 77 []
      have m3 := m2.tr (hP2.toM hq2)
      have k3 : g3 (A 0) = _ := m3 _ 0 _ h (by decide)
      refine gh_aload_n hK d_SD_printWay_77 rfl ?_
      refine gh_get hK d_SD_printWay_78 in_SD rfl k3 2 (by decide) kf_SD_30 rfl rfl ?_
      refine gh_iload_n hK d_SD_printWay_81 rfl ?_
      refine gh_callV (rest := []) [.int (nI s)] hK (c_Pr_printNumber l G hq1 (x := s) (by omega)) Y_Pr_printNumber V_Pr_printNumber km_SD_182 hq1.1 rfl rfl d_SD_printWay_82 rfl rfl (Nat.le_of_ble_eq_true rfl) ⟨(Nat.le_of_ble_eq_true rfl), (Nat.le_of_ble_eq_true rfl)⟩ ⟨(Nat.le_of_ble_eq_true rfl), (Nat.le_of_ble_eq_true rfl)⟩ (fun v g4 hp => ?_)
      obtain ⟨rfl, hr1, hr2⟩ := hp
      show gh_W l G _ X g4 _ _ [some (.ref (A 0)), some (.ref ea), some (.int (nI p)), some (.int (nI s))] 85 []
      exact gh_vret hK hE d_SD_printWay_85 (Nat.le_of_ble_eq_true rfl) (Nat.le_of_ble_eq_true rfl) ⟨rfl, by rw [← hF]; exact hr1, m3.tr (hq1.toM hr2)⟩
  have tail1 : ∀ (g2 : GH), Pr G g2 (A 4) (A 5) (A 6) (prs O (if 0 < p then 112 :: (decL p ++ [43]) else [])) (it + 1) → gh_M [4, 5, 6] g g2 → gh_W l G (rmk 5 0 0 107) X g2 0 0 [some (.ref (A 0)), some (.ref ea), some (.int (nI p)), some (.int (nI s))] 44 [] := by
    intro g2 hP2 m2
    have k2 : g2 (A 0) = _ := m2 _ 0 _ h (by decide)
    have q1 : g2 ea = _ := m2 _ 50 _ e1 (by decide)
    have q2 := e2.M m2 (by decide) (by decide)
    obtain ⟨a1, a2⟩ := hP2.ap q2 (by decide) (by decide)
    refine gh_aload_n hK d_SD_printWay_44 rfl ?_
    refine gh_get hK d_SD_printWay_45 in_SD rfl k2 2 (by decide) kf_SD_30 rfl rfl ?_
    refine gh_aload_n hK d_SD_printWay_48 rfl ?_
    refine gh_get hK d_SD_printWay_49 in_En rfl q1 0 (by decide) kf_SD_304 rfl rfl ?_
    refine gh_iconst (v := nI 0) hK d_SD_printWay_52 (by decide) ?_
    refine gh_aload_n hK d_SD_printWay_53 rfl ?_
    refine gh_get hK d_SD_printWay_54 in_En rfl q1 0 (by decide) kf_SD_304 rfl rfl ?_
    refine gh_callV (rest := [.int (nI 0), .ref wa, .ref (A 4)]) [] hK (c_Lt_count l G q2) Y_Lt_count V_Lt_count km_SD_75 q2.ob rfl rfl d_SD_printWay_57 rfl rfl (Nat.le_of_ble_eq_true rfl) ⟨(Nat.le_of_ble_eq_true rfl), (Nat.le_of_ble_eq_true rfl)⟩ ⟨(Nat.le_of_ble_eq_true rfl), (Nat.le_of_ble_eq_true rfl)⟩ (fun v g' hp => ?_)
    rw [hp.1, hp.2]
    show gh_W l G _ X g2 _ _ [some (.ref (A 0)), some (.ref ea), some (.int (nI p)), some (.int (nI s))] 60 [.int (nI w.length), .int (nI 0), .ref wa, .ref (A 4)]
    refine gh_callV (rest := []) [.ref wa, .int (nI 0), .int (nI w.length)] hK (c_Pr_printLetters l G hP2 q2 a1 a2 (fr := 0) (len := w.length) (by omega)) Y_Pr_printLetters V_Pr_printLetters km_SD_327 hP2.1 rfl rfl d_SD_printWay_60 rfl rfl (Nat.le_of_ble_eq_true rfl) ⟨(Nat.le_of_ble_eq_true rfl), (Nat.le_of_ble_eq_true rfl)⟩ ⟨(Nat.le_of_ble_eq_true rfl), (Nat.le_of_ble_eq_true rfl)⟩ (fun v g3 hp => ?_)
    obtain ⟨rfl, hr1, hr2⟩ := hp
    show gh_W l G _ X g3 _ _ [some (.ref (A 0)), some (.ref ea), some (.int (nI p)), some (.int (nI s))] 63 []
    rw [List.drop_zero, List.take_length] at hr1
    exact tail2 g3 _ hr1 (m2.tr (hP2.toM hr2)) (by rw [wyT, prs_app, prs_app])
  refine gh_iload_n hK d_SD_printWay_12 rfl ?_
  refine gh_if_leN hK d_SD_printWay_13 (tgt := 44) (by decide) (by omega) (fun z => ?_) (fun z => ?_)
  · exact tail1 g1 (by rw [if_neg (by omega)]; exact hP1) m1
  · refine gh_aload_n hK d_SD_printWay_16 rfl ?_
    refine gh_get hK d_SD_printWay_17 in_SD rfl (m1 _ 0 _ h (by decide)) 2 (by decide) kf_SD_30 rfl rfl ?_
    refine gh_ldcwS (i := 12) hK d_SD_printWay_20 (by decide) rfl ?_
    refine gh_callV (rest := []) [.ref (G.2.2.1 12)] hK (c_Pr_printText l G hP1 (i := 12) (by decide)) Y_Pr_printText V_Pr_printText km_SD_176 hP1.1 rfl rfl d_SD_printWay_23 rfl rfl (Nat.le_of_ble_eq_true rfl) ⟨(Nat.le_of_ble_eq_true rfl), (Nat.le_of_ble_eq_true rfl)⟩ ⟨(Nat.le_of_ble_eq_true rfl), (Nat.le_of_ble_eq_true rfl)⟩ (fun v g3 hp => ?_)
    obtain ⟨rfl, hq1, hq2⟩ := hp
    show gh_W l G _ X g3 _ _ [some (.ref (A 0)), some (.ref ea), some (.int (nI p)), some (.int (nI s))] 26 []
    have m3 := m1.tr (hP1.toM hq2)
    have k3 : g3 (A 0) = _ := m3 _ 0 _ h (by decide)
    refine gh_aload_n hK d_SD_printWay_26 rfl ?_
    refine gh_get hK d_SD_printWay_27 in_SD rfl k3 2 (by decide) kf_SD_30 rfl rfl ?_
    refine gh_iload_n hK d_SD_printWay_30 rfl ?_
    refine gh_callV (rest := []) [.int (nI p)] hK (c_Pr_printNumber l G hq1 (x := p) (by omega)) Y_Pr_printNumber V_Pr_printNumber km_SD_182 hq1.1 rfl rfl d_SD_printWay_31 rfl rfl (Nat.le_of_ble_eq_true rfl) ⟨(Nat.le_of_ble_eq_true rfl), (Nat.le_of_ble_eq_true rfl)⟩ ⟨(Nat.le_of_ble_eq_true rfl), (Nat.le_of_ble_eq_true rfl)⟩ (fun v g4 hp => ?_)
    obtain ⟨rfl, hr1, hr2⟩ := hp
    show gh_W l G _ X g4 _ _ [some (.ref (A 0)), some (.ref ea), some (.int (nI p)), some (.int (nI s))] 34 []
    have m4 := m3.tr (hq1.toM hr2)
    have k4 : g4 (A 0) = _ := m4 _ 0 _ h (by decide)
    refine gh_aload_n hK d_SD_printWay_34 rfl ?_
    refine gh_get hK d_SD_printWay_35 in_SD rfl k4 2 (by decide) kf_SD_30 rfl rfl ?_
    refine gh_ldcwS (i := 13) hK d_SD_printWay_38 (by decide) rfl ?_
    refine gh_callV (rest := []) [.ref (G.2.2.1 13)] hK (c_Pr_printText l G hr1 (i := 13) (by decide)) Y_Pr_printText V_Pr_printText km_SD_176 hr1.1 rfl rfl d_SD_printWay_41 rfl rfl (Nat.le_of_ble_eq_true rfl) ⟨(Nat.le_of_ble_eq_true rfl), (Nat.le_of_ble_eq_true rfl)⟩ ⟨(Nat.le_of_ble_eq_true rfl), (Nat.le_of_ble_eq_true rfl)⟩ (fun v g5 hp => ?_)
    obtain ⟨rfl, hs1, hs2⟩ := hp
    show gh_W l G _ X g5 _ _ [some (.ref (A 0)), some (.ref ea), some (.int (nI p)), some (.int (nI s))] 44 []
    exact tail1 g5 (by rw [if_pos (by omega), prs_cons, prs_app]; exact hs1) (m4.tr (hr1.toM hs2))
