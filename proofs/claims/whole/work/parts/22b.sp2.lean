theorem Lt.ap {G : GG} {g : GH} {a t b u cap c t2 d u2 cap2 : Nat} {xs ys : List Nat} (h : Lt G g a t b u cap xs) (h2 : Lt G g c t2 d u2 cap2 ys) (ht : t ∉ [t2, u2]) (hu : u ∉ [t2, u2]) : a ∉ [c, d] ∧ b ∉ [c, d] := by
  obtain ⟨f, ⟨k1, k2, -⟩, -⟩ := h
  obtain ⟨f2, ⟨j1, j2, -⟩, -⟩ := h2
  have e1 : t ≠ t2 := fun q => ht (by simp [q])
  have e2 : t ≠ u2 := fun q => ht (by simp [q])
  have e3 : u ≠ t2 := fun q => hu (by simp [q])
  have e4 : u ≠ u2 := fun q => hu (by simp [q])
  have n1 := gh_ne k1 j1 e1
  have n2 := gh_ne k1 j2 e2
  have n3 := gh_ne k2 j1 e3
  have n4 := gh_ne k2 j2 e4
  exact ⟨by simp [n1, n2], by simp [n3, n4]⟩
theorem slice_sub {ys : List Nat} {fr len a b : Nat} (h : a + b ≤ len) : (((ys.drop fr).take len).drop a).take b = (ys.drop (fr + a)).take b := by
  rw [List.drop_take, List.drop_drop, List.take_take, Nat.min_eq_left (by omega)]
/-- the base of which two rules make the word w -/
def undB (u1 u2 : RuR) (w : List Nat) : Option (List Nat) := if u1.2.2.1.length + u2.2.2.1.length < w.length ∧ u1.2.1.length + (w.length - u1.2.2.1.length - u2.2.2.1.length) + u2.2.1.length ≤ 16 then some (u1.2.1 ++ ((w.drop u1.2.2.1.length).take (w.length - u1.2.2.1.length - u2.2.2.1.length)) ++ u2.2.1) else none
set_option maxRecDepth 20000 in
set_option maxHeartbeats 4000000 in
theorem c_Sp_undo (l : Launch) (G : GG) {g : GH} {A : Nat → Nat} {n q1 q2 ta tb fo len : Nat} {u1 u2 : RuR} {bs ys : List Nat} (h : SpO g A n) (hb : Lt G g (A 31) 31 (A 32) 32 16 bs) (hu1 : RuX G g q1 true u1) (hu2 : RuX G g q2 false u2) (ho : Lt G g ta 1 tb 2 2048 ys) (hf : fo + len ≤ ys.length) : gMet l G y_Sp_undo b_Sp_undo 7 (some .boolean) (rmk 2 0 0 45) [.ref (A 30), .ref q1, .ref q2, .ref ta, .int (nI fo), .int (nI len)] g (fun v g' => (∀ b, undB u1 u2 ((ys.drop fo).take len) = some b → v = some (.int (nI 1)) ∧ Lt G g' (A 31) 31 (A 32) 32 16 b) ∧ (undB u1 u2 ((ys.drop fo).take len) = none → v = some (.int (nI 0)) ∧ g' = g) ∧ gh_N [A 31, A 32] g g') := by
  refine gMet.of [some (.ref (A 30)), some (.ref q1), some (.ref q2), some (.ref ta), some (.int (nI fo)), some (.int (nI len)), none] (by decide +kernel) rfl (Nat.le_of_ble_eq_true rfl) rfl (fun X hK hI hE => ?_)
  have hsl := slice_len hf
  obtain ⟨t1, t2, t3, m1, m2, m3, sa, sb, aa, ab, ca, cb, k1, k2, k3, k4⟩ := hu1
  obtain ⟨r1, r2, r3, l1, l2, l3, sa2, sb2, aa2, ab2, ca2, cb2, j1, j2, j3, j4⟩ := hu2
  obtain ⟨b1, b2⟩ := k2.len
  obtain ⟨b3, b4⟩ := k3.len
  obtain ⟨b5, b6⟩ := j2.len
  obtain ⟨b7, b8⟩ := j3.len
  obtain ⟨b9, b10⟩ := ho.len
  obtain ⟨p1, p2⟩ := k2.ap hb (by simp at m2 ⊢; omega) (by simp at m3 ⊢; omega)
  obtain ⟨p3, p4⟩ := j2.ap hb (by simp at l2 ⊢; omega) (by simp at l3 ⊢; omega)
  obtain ⟨p5, p6⟩ := ho.ap hb (by decide) (by decide)
  obtain ⟨fl, S, A1, Cc⟩ := u1
  obtain ⟨fl2, S2, A2, C2⟩ := u2
  dsimp only at k1 k2 k3 j1 j2 j3 b1 b2 b3 b4 b5 b6 b7 b8
  have h0 : g (A 30) = some (30, .inr (8, [.ref (A 7), .ref (A 10), .ref (A 20), .ref (A 31), .ref (A 33), .ref (A 34), .ref (A 36), .int (nI n)])) := h
  refine gh_iload hK d_Sp_undo_0 rfl ?_
  refine gh_aload_n hK d_Sp_undo_2 rfl ?_
  refine gh_get hK d_Sp_undo_3 in_Ru rfl k1 3 (by decide) kf_Sp_111 rfl rfl ?_
  refine gh_callV (rest := [.int (nI len)]) [] hK (c_Lt_count l G k3) Y_Lt_count V_Lt_count km_Sp_71 k3.ob rfl rfl d_Sp_undo_6 rfl rfl (Nat.le_of_ble_eq_true rfl) ⟨(Nat.le_of_ble_eq_true rfl), (Nat.le_of_ble_eq_true rfl)⟩ ⟨(Nat.le_of_ble_eq_true rfl), (Nat.le_of_ble_eq_true rfl)⟩ (fun v g' hp => ?_)
  rw [hp.1, hp.2]
  show gh_W l G _ X g _ _ [some (.ref (A 30)), some (.ref q1), some (.ref q2), some (.ref ta), some (.int (nI fo)), some (.int (nI len)), none] 9 [.int (nI A1.length), .int (nI len)]
  refine gh_isub hK d_Sp_undo_9 ?_
  refine gh_aload_n hK d_Sp_undo_10 rfl ?_
  refine gh_get hK d_Sp_undo_11 in_Ru rfl j1 3 (by decide) kf_Sp_111 rfl rfl ?_
  refine gh_callV (rest := [.int (nI len - nI A1.length)]) [] hK (c_Lt_count l G j3) Y_Lt_count V_Lt_count km_Sp_71 j3.ob rfl rfl d_Sp_undo_14 rfl rfl (Nat.le_of_ble_eq_true rfl) ⟨(Nat.le_of_ble_eq_true rfl), (Nat.le_of_ble_eq_true rfl)⟩ ⟨(Nat.le_of_ble_eq_true rfl), (Nat.le_of_ble_eq_true rfl)⟩ (fun v g' hp => ?_)
  rw [hp.1, hp.2]
  show gh_W l G _ X g _ _ [some (.ref (A 30)), some (.ref q1), some (.ref q2), some (.ref ta), some (.int (nI fo)), some (.int (nI len)), none] 17 [.int (nI A2.length), .int (nI len - nI A1.length)]
  refine gh_isub hK d_Sp_undo_17 ?_
  by_cases hl : A1.length + A2.length < len
  · rw [sub3_pos hl]
    refine gh_istore (lv' := [some (.ref (A 30)), some (.ref q1), some (.ref q2), some (.ref ta), some (.int (nI fo)), some (.int (nI len)), some (.int (nI (len - A1.length - A2.length)))]) hK d_Sp_undo_18 (Nat.le_of_ble_eq_true rfl) rfl ?_
    refine gh_iload hK d_Sp_undo_20 rfl ?_
    refine gh_iconst (v := nI 1) hK d_Sp_undo_22 (by decide) ?_
    refine gh_icmp_ltN hK d_Sp_undo_23 (tgt := 49) (by decide) (by omega) (by decide) (fun z => absurd z (by omega)) (fun z => ?_)
    refine gh_aload_n hK d_Sp_undo_26 rfl ?_
    refine gh_get hK d_Sp_undo_27 in_Ru rfl k1 2 (by decide) kf_Sp_108 rfl rfl ?_
    refine gh_callV (rest := []) [] hK (c_Lt_count l G k2) Y_Lt_count V_Lt_count km_Sp_71 k2.ob rfl rfl d_Sp_undo_30 rfl rfl (Nat.le_of_ble_eq_true rfl) ⟨(Nat.le_of_ble_eq_true rfl), (Nat.le_of_ble_eq_true rfl)⟩ ⟨(Nat.le_of_ble_eq_true rfl), (Nat.le_of_ble_eq_true rfl)⟩ (fun v g' hp => ?_)
    rw [hp.1, hp.2]
    show gh_W l G _ X g _ _ [some (.ref (A 30)), some (.ref q1), some (.ref q2), some (.ref ta), some (.int (nI fo)), some (.int (nI len)), some (.int (nI (len - A1.length - A2.length)))] 33 [.int (nI S.length)]
    refine gh_iload hK d_Sp_undo_33 rfl ?_
    refine gh_addN hK d_Sp_undo_35 ?_
    refine gh_aload_n hK d_Sp_undo_36 rfl ?_
    refine gh_get hK d_Sp_undo_37 in_Ru rfl j1 2 (by decide) kf_Sp_108 rfl rfl ?_
    refine gh_callV (rest := [.int (nI (S.length + (len - A1.length - A2.length)))]) [] hK (c_Lt_count l G j2) Y_Lt_count V_Lt_count km_Sp_71 j2.ob rfl rfl d_Sp_undo_40 rfl rfl (Nat.le_of_ble_eq_true rfl) ⟨(Nat.le_of_ble_eq_true rfl), (Nat.le_of_ble_eq_true rfl)⟩ ⟨(Nat.le_of_ble_eq_true rfl), (Nat.le_of_ble_eq_true rfl)⟩ (fun v g' hp => ?_)
    rw [hp.1, hp.2]
    show gh_W l G _ X g _ _ [some (.ref (A 30)), some (.ref q1), some (.ref q2), some (.ref ta), some (.int (nI fo)), some (.int (nI len)), some (.int (nI (len - A1.length - A2.length)))] 43 [.int (nI S2.length), .int (nI (S.length + (len - A1.length - A2.length)))]
    refine gh_addN hK d_Sp_undo_43 ?_
    refine gh_bipush (v := nI 16) hK d_Sp_undo_44 (by decide) ?_
    refine gh_icmp_leN hK d_Sp_undo_46 (tgt := 51) (by decide) (by omega) (by decide) (fun z2 => ?_) (fun z2 => ?_)
    · refine gh_aload_n hK d_Sp_undo_51 rfl ?_
      refine gh_get hK d_Sp_undo_52 in_Sp rfl h0 3 (by decide) kf_Sp_27 rfl rfl ?_
      refine gh_callV (rest := []) [] hK (c_Lt_clear l G hb) Y_Lt_clear V_Lt_clear km_Sp_95 hb.ob rfl rfl d_Sp_undo_55 rfl rfl (Nat.le_of_ble_eq_true rfl) ⟨(Nat.le_of_ble_eq_true rfl), (Nat.le_of_ble_eq_true rfl)⟩ ⟨(Nat.le_of_ble_eq_true rfl), (Nat.le_of_ble_eq_true rfl)⟩ (fun v g1 hp => ?_)
      obtain ⟨rfl, hb1, hN1⟩ := hp
      show gh_W l G _ X g1 _ _ [some (.ref (A 30)), some (.ref q1), some (.ref q2), some (.ref ta), some (.int (nI fo)), some (.int (nI len)), some (.int (nI (len - A1.length - A2.length)))] 58 []
      have hN1 : gh_N [A 31, A 32] g g1 := hN1.wd (by simp)
      have hg1 : g1 (A 30) = some (30, .inr (8, [.ref (A 7), .ref (A 10), .ref (A 20), .ref (A 31), .ref (A 33), .ref (A 34), .ref (A 36), .int (nI n)])) := by
        obtain ⟨fb, ⟨x1, x2, -⟩, -⟩ := id hb
        rw [hN1 (A 30) (by simp [gh_ne h0 x1 (by show (30 : Nat) ≠ 31; decide), gh_ne h0 x2 (by show (30 : Nat) ≠ 32; decide)]) (by rw [h0]; exact fun z => by cases z)]
        exact h0
      have kg1 : g1 q1 = g q1 := by
        obtain ⟨fb, ⟨x1, x2, -⟩, -⟩ := id hb
        exact hN1 q1 (by simp [gh_ne k1 x1 (by show t1 ≠ 31; simp at m1; omega), gh_ne k1 x2 (by show t1 ≠ 32; simp at m1; omega)]) (by rw [k1]; exact fun z => by cases z)
      have jg1 : g1 q2 = g q2 := by
        obtain ⟨fb, ⟨x1, x2, -⟩, -⟩ := id hb
        exact hN1 q2 (by simp [gh_ne j1 x1 (by show r1 ≠ 31; simp at l1; omega), gh_ne j1 x2 (by show r1 ≠ 32; simp at l1; omega)]) (by rw [j1]; exact fun z => by cases z)
      rw [k1] at kg1
      rw [j1] at jg1
      have sg1 := k2.N hN1 p1 p2
      have zg1 := j2.N hN1 p3 p4
      have og1 := ho.N hN1 p5 p6
      have ag1 := k3.M (hN1.M fun a ha => by
        obtain ⟨fb, ⟨x1, x2, -⟩, -⟩ := hb
        rcases List.mem_cons.mp ha with rfl | ha
        · exact ⟨_, _, x1, (by decide : 31 ∈ [31, 32])⟩
        · rw [List.mem_singleton.mp ha]; exact ⟨_, _, x2, (by decide : 32 ∈ [31, 32])⟩) (by simp at m2 ⊢; omega) (by simp at m3 ⊢; omega)
      refine gh_aload_n hK d_Sp_undo_58 rfl ?_
      refine gh_get hK d_Sp_undo_59 in_Sp rfl hg1 3 (by decide) kf_Sp_27 rfl rfl ?_
      refine gh_aload_n hK d_Sp_undo_62 rfl ?_
      refine gh_get hK d_Sp_undo_63 in_Ru rfl kg1 2 (by decide) kf_Sp_108 rfl rfl ?_
      refine gh_iconst (v := nI 0) hK d_Sp_undo_66 (by decide) ?_
      refine gh_aload_n hK d_Sp_undo_67 rfl ?_
      refine gh_get hK d_Sp_undo_68 in_Ru rfl kg1 2 (by decide) kf_Sp_108 rfl rfl ?_
      refine gh_callV (rest := [.int (nI 0), .ref sa, .ref (A 31)]) [] hK (c_Lt_count l G sg1) Y_Lt_count V_Lt_count km_Sp_71 sg1.ob rfl rfl d_Sp_undo_71 rfl rfl (Nat.le_of_ble_eq_true rfl) ⟨(Nat.le_of_ble_eq_true rfl), (Nat.le_of_ble_eq_true rfl)⟩ ⟨(Nat.le_of_ble_eq_true rfl), (Nat.le_of_ble_eq_true rfl)⟩ (fun v g' hp => ?_)
      rw [hp.1, hp.2]
      show gh_W l G _ X g1 _ _ [some (.ref (A 30)), some (.ref q1), some (.ref q2), some (.ref ta), some (.int (nI fo)), some (.int (nI len)), some (.int (nI (len - A1.length - A2.length)))] 74 [.int (nI S.length), .int (nI 0), .ref sa, .ref (A 31)]
      refine gh_callV (rest := []) [.ref sa, .int (nI 0), .int (nI S.length)] hK (c_Lt_appendAll l G hb1 sg1 p1 p2 (fr := 0) (len := S.length) (by omega) (by rw [List.length_nil]; omega)) Y_Lt_appendAll V_Lt_appendAll km_Sp_114 hb1.ob rfl rfl d_Sp_undo_74 rfl rfl (Nat.le_of_ble_eq_true rfl) ⟨(Nat.le_of_ble_eq_true rfl), (Nat.le_of_ble_eq_true rfl)⟩ ⟨(Nat.le_of_ble_eq_true rfl), (Nat.le_of_ble_eq_true rfl)⟩ (fun v g2 hp => ?_)
      obtain ⟨rfl, hb2, hN2⟩ := hp
      show gh_W l G _ X g2 _ _ [some (.ref (A 30)), some (.ref q1), some (.ref q2), some (.ref ta), some (.int (nI fo)), some (.int (nI len)), some (.int (nI (len - A1.length - A2.length)))] 77 []
      rw [List.drop_zero, List.take_length, List.nil_append] at hb2
      have hN2 := hN1.tr hN2
      have hg2 : g2 (A 30) = some (30, .inr (8, [.ref (A 7), .ref (A 10), .ref (A 20), .ref (A 31), .ref (A 33), .ref (A 34), .ref (A 36), .int (nI n)])) := by
        obtain ⟨fb, ⟨x1, x2, -⟩, -⟩ := id hb
        rw [hN2 (A 30) (by simp [gh_ne h0 x1 (by show (30 : Nat) ≠ 31; decide), gh_ne h0 x2 (by show (30 : Nat) ≠ 32; decide)]) (by rw [h0]; exact fun z => by cases z)]
        exact h0
      have kg2 : g2 q1 = g q1 := by
        obtain ⟨fb, ⟨x1, x2, -⟩, -⟩ := id hb
        exact hN2 q1 (by simp [gh_ne k1 x1 (by show t1 ≠ 31; simp at m1; omega), gh_ne k1 x2 (by show t1 ≠ 32; simp at m1; omega)]) (by rw [k1]; exact fun z => by cases z)
      have jg2 : g2 q2 = g q2 := by
        obtain ⟨fb, ⟨x1, x2, -⟩, -⟩ := id hb
        exact hN2 q2 (by simp [gh_ne j1 x1 (by show r1 ≠ 31; simp at l1; omega), gh_ne j1 x2 (by show r1 ≠ 32; simp at l1; omega)]) (by rw [j1]; exact fun z => by cases z)
      rw [k1] at kg2
      rw [j1] at jg2
      have sg2 := k2.N hN2 p1 p2
      have zg2 := j2.N hN2 p3 p4
      have og2 := ho.N hN2 p5 p6
      have ag2 := k3.M (hN2.M fun a ha => by
        obtain ⟨fb, ⟨x1, x2, -⟩, -⟩ := hb
        rcases List.mem_cons.mp ha with rfl | ha
        · exact ⟨_, _, x1, (by decide : 31 ∈ [31, 32])⟩
        · rw [List.mem_singleton.mp ha]; exact ⟨_, _, x2, (by decide : 32 ∈ [31, 32])⟩) (by simp at m2 ⊢; omega) (by simp at m3 ⊢; omega)
      refine gh_aload_n hK d_Sp_undo_77 rfl ?_
      refine gh_get hK d_Sp_undo_78 in_Sp rfl hg2 3 (by decide) kf_Sp_27 rfl rfl ?_
      refine gh_aload_n hK d_Sp_undo_81 rfl ?_
      refine gh_iload hK d_Sp_undo_82 rfl ?_
      refine gh_aload_n hK d_Sp_undo_84 rfl ?_
      refine gh_get hK d_Sp_undo_85 in_Ru rfl kg2 3 (by decide) kf_Sp_111 rfl rfl ?_
      refine gh_callV (rest := [.int (nI fo), .ref ta, .ref (A 31)]) [] hK (c_Lt_count l G ag2) Y_Lt_count V_Lt_count km_Sp_71 ag2.ob rfl rfl d_Sp_undo_88 rfl rfl (Nat.le_of_ble_eq_true rfl) ⟨(Nat.le_of_ble_eq_true rfl), (Nat.le_of_ble_eq_true rfl)⟩ ⟨(Nat.le_of_ble_eq_true rfl), (Nat.le_of_ble_eq_true rfl)⟩ (fun v g' hp => ?_)
      rw [hp.1, hp.2]
      show gh_W l G _ X g2 _ _ [some (.ref (A 30)), some (.ref q1), some (.ref q2), some (.ref ta), some (.int (nI fo)), some (.int (nI len)), some (.int (nI (len - A1.length - A2.length)))] 91 [.int (nI A1.length), .int (nI fo), .ref ta, .ref (A 31)]
      refine gh_addN hK d_Sp_undo_91 ?_
      refine gh_iload hK d_Sp_undo_92 rfl ?_
      refine gh_callV (rest := []) [.ref ta, .int (nI (fo + A1.length)), .int (nI (len - A1.length - A2.length))] hK (c_Lt_appendAll l G hb2 og2 p5 p6 (fr := fo + A1.length) (len := len - A1.length - A2.length) (by omega) (by omega)) Y_Lt_appendAll V_Lt_appendAll km_Sp_114 hb2.ob rfl rfl d_Sp_undo_94 rfl rfl (Nat.le_of_ble_eq_true rfl) ⟨(Nat.le_of_ble_eq_true rfl), (Nat.le_of_ble_eq_true rfl)⟩ ⟨(Nat.le_of_ble_eq_true rfl), (Nat.le_of_ble_eq_true rfl)⟩ (fun v g3 hp => ?_)
      obtain ⟨rfl, hb3, hN3⟩ := hp
      show gh_W l G _ X g3 _ _ [some (.ref (A 30)), some (.ref q1), some (.ref q2), some (.ref ta), some (.int (nI fo)), some (.int (nI len)), some (.int (nI (len - A1.length - A2.length)))] 97 []
      have hN3 := hN2.tr hN3
      have hg3 : g3 (A 30) = some (30, .inr (8, [.ref (A 7), .ref (A 10), .ref (A 20), .ref (A 31), .ref (A 33), .ref (A 34), .ref (A 36), .int (nI n)])) := by
        obtain ⟨fb, ⟨x1, x2, -⟩, -⟩ := id hb
        rw [hN3 (A 30) (by simp [gh_ne h0 x1 (by show (30 : Nat) ≠ 31; decide), gh_ne h0 x2 (by show (30 : Nat) ≠ 32; decide)]) (by rw [h0]; exact fun z => by cases z)]
        exact h0
      have kg3 : g3 q1 = g q1 := by
        obtain ⟨fb, ⟨x1, x2, -⟩, -⟩ := id hb
        exact hN3 q1 (by simp [gh_ne k1 x1 (by show t1 ≠ 31; simp at m1; omega), gh_ne k1 x2 (by show t1 ≠ 32; simp at m1; omega)]) (by rw [k1]; exact fun z => by cases z)
      have jg3 : g3 q2 = g q2 := by
        obtain ⟨fb, ⟨x1, x2, -⟩, -⟩ := id hb
        exact hN3 q2 (by simp [gh_ne j1 x1 (by show r1 ≠ 31; simp at l1; omega), gh_ne j1 x2 (by show r1 ≠ 32; simp at l1; omega)]) (by rw [j1]; exact fun z => by cases z)
      rw [k1] at kg3
      rw [j1] at jg3
      have sg3 := k2.N hN3 p1 p2
      have zg3 := j2.N hN3 p3 p4
      have og3 := ho.N hN3 p5 p6
      have ag3 := k3.M (hN3.M fun a ha => by
        obtain ⟨fb, ⟨x1, x2, -⟩, -⟩ := hb
        rcases List.mem_cons.mp ha with rfl | ha
        · exact ⟨_, _, x1, (by decide : 31 ∈ [31, 32])⟩
        · rw [List.mem_singleton.mp ha]; exact ⟨_, _, x2, (by decide : 32 ∈ [31, 32])⟩) (by simp at m2 ⊢; omega) (by simp at m3 ⊢; omega)
      refine gh_aload_n hK d_Sp_undo_97 rfl ?_
      refine gh_get hK d_Sp_undo_98 in_Sp rfl hg3 3 (by decide) kf_Sp_27 rfl rfl ?_
      refine gh_aload_n hK d_Sp_undo_101 rfl ?_
      refine gh_get hK d_Sp_undo_102 in_Ru rfl jg3 2 (by decide) kf_Sp_108 rfl rfl ?_
      refine gh_iconst (v := nI 0) hK d_Sp_undo_105 (by decide) ?_
      refine gh_aload_n hK d_Sp_undo_106 rfl ?_
      refine gh_get hK d_Sp_undo_107 in_Ru rfl jg3 2 (by decide) kf_Sp_108 rfl rfl ?_
      refine gh_callV (rest := [.int (nI 0), .ref sa2, .ref (A 31)]) [] hK (c_Lt_count l G zg3) Y_Lt_count V_Lt_count km_Sp_71 zg3.ob rfl rfl d_Sp_undo_110 rfl rfl (Nat.le_of_ble_eq_true rfl) ⟨(Nat.le_of_ble_eq_true rfl), (Nat.le_of_ble_eq_true rfl)⟩ ⟨(Nat.le_of_ble_eq_true rfl), (Nat.le_of_ble_eq_true rfl)⟩ (fun v g' hp => ?_)
      rw [hp.1, hp.2]
      show gh_W l G _ X g3 _ _ [some (.ref (A 30)), some (.ref q1), some (.ref q2), some (.ref ta), some (.int (nI fo)), some (.int (nI len)), some (.int (nI (len - A1.length - A2.length)))] 113 [.int (nI S2.length), .int (nI 0), .ref sa2, .ref (A 31)]
      refine gh_callV (rest := []) [.ref sa2, .int (nI 0), .int (nI S2.length)] hK (c_Lt_appendAll l G hb3 zg3 p3 p4 (fr := 0) (len := S2.length) (by omega) (by rw [List.length_append, slice_len (by omega)]; omega)) Y_Lt_appendAll V_Lt_appendAll km_Sp_114 hb3.ob rfl rfl d_Sp_undo_113 rfl rfl (Nat.le_of_ble_eq_true rfl) ⟨(Nat.le_of_ble_eq_true rfl), (Nat.le_of_ble_eq_true rfl)⟩ ⟨(Nat.le_of_ble_eq_true rfl), (Nat.le_of_ble_eq_true rfl)⟩ (fun v g4 hp => ?_)
      obtain ⟨rfl, hb4, hN4⟩ := hp
      show gh_W l G _ X g4 _ _ [some (.ref (A 30)), some (.ref q1), some (.ref q2), some (.ref ta), some (.int (nI fo)), some (.int (nI len)), some (.int (nI (len - A1.length - A2.length)))] 116 []
      rw [List.drop_zero, List.take_length] at hb4
      refine gh_iconst (v := nI 1) hK d_Sp_undo_116 (by decide) ?_
      have hn : undB (fl, S, A1, Cc) (fl2, S2, A2, C2) ((ys.drop fo).take len) = some (S ++ (ys.drop (fo + A1.length)).take (len - A1.length - A2.length) ++ S2) := by
        unfold undB
        dsimp only
        rw [if_pos (by rw [hsl]; exact ⟨hl, z2⟩), hsl, slice_sub (by omega)]
      exact gh_zret rfl hK hE d_Sp_undo_117 (Nat.le_of_ble_eq_true rfl) (Nat.le_of_ble_eq_true rfl) ⟨fun b hb => (by rw [hn] at hb; cases hb; exact ⟨rfl, hb4⟩), fun q => (by rw [hn] at q; cases q), hN3.tr hN4⟩
    · refine gh_iconst (v := nI 0) hK d_Sp_undo_49 (by decide) ?_
      have hn : undB (fl, S, A1, Cc) (fl2, S2, A2, C2) ((ys.drop fo).take len) = none := if_neg (by rw [hsl]; exact fun q => absurd q.2 (by dsimp only; omega))
      exact gh_zret rfl hK hE d_Sp_undo_50 (Nat.le_of_ble_eq_true rfl) (Nat.le_of_ble_eq_true rfl) ⟨fun b hb => (by rw [hn] at hb; cases hb), fun _ => ⟨rfl, rfl⟩, gh_N.rf⟩
  · refine gh_istore (lv' := [some (.ref (A 30)), some (.ref q1), some (.ref q2), some (.ref ta), some (.int (nI fo)), some (.int (nI len)), some (.int (nI len - nI A1.length - nI A2.length))]) hK d_Sp_undo_18 (Nat.le_of_ble_eq_true rfl) rfl ?_
    refine gh_iload hK d_Sp_undo_20 rfl ?_
    refine gh_iconst (v := nI 1) hK d_Sp_undo_22 (by decide) ?_
    refine gh_icmp_lt hK d_Sp_undo_23 (tgt := 49) (by decide) (fun z => ?_) (fun z => absurd (sub3_neg (by omega) (by omega) (by omega) (by omega)) z)
    refine gh_iconst (v := nI 0) hK d_Sp_undo_49 (by decide) ?_
    have hn : undB (fl, S, A1, Cc) (fl2, S2, A2, C2) ((ys.drop fo).take len) = none := if_neg (by rw [hsl]; exact fun q => hl q.1)
    exact gh_zret rfl hK hE d_Sp_undo_50 (Nat.le_of_ble_eq_true rfl) (Nat.le_of_ble_eq_true rfl) ⟨fun b hb => (by rw [hn] at hb; cases hb), fun _ => ⟨rfl, rfl⟩, gh_N.rf⟩
