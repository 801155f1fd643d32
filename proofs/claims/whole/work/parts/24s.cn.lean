set_option maxRecDepth 20000 in
set_option maxHeartbeats 4000000 in
theorem c_Ln_init (l : Launch) (G : GG) {g : GH} {a : Nat} {ta : Nat} (q_a : g a = some (3, .inr (4, [.null, .int 0, .int 0, .int 0, .int 0, .int 0, .int 0])))  : gMet l G y_Ln_init b_Ln_init 2 none (rmk 1 0 0 20) [.ref a, .ref ta] g (fun v g' => v = none ∧ Ln g' a ta 0 0 0 0 0 0 ∧ gh_M [3] g g') := by
  refine gMet.of [some (.ref a), some (.ref ta)] (by decide +kernel) rfl (Nat.le_of_ble_eq_true rfl) rfl (fun X hK hI hE => ?_)
  refine gh_aload_n hK d_Ln_init_0 rfl ?_
  refine gh_objInit hK d_Ln_init_1 km_Ln_3 w_oi w_oc rfl (Nat.le_of_ble_eq_true rfl) (Nat.le_of_ble_eq_true rfl) ?_
  refine gh_aload_n hK d_Ln_init_4 rfl ?_
  refine gh_aload_n hK d_Ln_init_5 rfl ?_
  refine gh_putF hK (hI rfl) (fs' := [.ref ta, .int 0, .int 0, .int 0, .int 0, .int 0, .int 0]) d_Ln_init_6 in_Ln t_Ln ty_Ln nm_Ln rfl q_a 0 (by decide) kf_Ln_9 rfl rfl (by first | rfl | (cases fr <;> rfl)) (by first | rfl | (cases fr <;> rfl)) (Nat.le_of_ble_eq_true rfl) rfl ?_
  obtain ⟨g1, hgg1⟩ : ∃ x, x = gh_up g a 3 (.inr (4, [.ref ta, .int 0, .int 0, .int 0, .int 0, .int 0, .int 0])) := ⟨_, rfl⟩
  rw [← hgg1]
  have mg1 : gh_M [3] g g1 := by rw [hgg1]; exact gh_M.up q_a (by decide)
  have q_a : g1 a = some (3, (.inr (4, [.ref ta, .int 0, .int 0, .int 0, .int 0, .int 0, .int 0]))) := by rw [hgg1]; exact gh_us
  clear hgg1
  show gh_W l G _ X g1 0 0 [some (.ref a), some (.ref ta)] 9 []
  exact gh_vret hK hE d_Ln_init_9 (Nat.le_of_ble_eq_true rfl) (Nat.le_of_ble_eq_true rfl) ⟨rfl, q_a, (mg1.wd (by decide))⟩
set_option maxRecDepth 20000 in
set_option maxHeartbeats 4000000 in
theorem c_Pr_init (l : Launch) (G : GG) {g : GH} {a : Nat}  (q_a : g a = some (4, .inr (5, [.null, .int 0, .int 0])))  : gMet l G y_Pr_init b_Pr_init 1 none (rmk 2 2 6002 42) [.ref a] g (fun v g' => v = none ∧ ∃ pl pb, Pr G g' a pl pb ([], 0) 0 ∧ gh_M [4, 5] g g') := by
  refine gMet.of [some (.ref a)] (by decide +kernel) rfl (Nat.le_of_ble_eq_true rfl) rfl (fun X hK hI hE => ?_)
  refine gh_aload_n hK d_Pr_init_0 rfl ?_
  refine gh_objInit hK d_Pr_init_1 km_Pr_3 w_oi w_oc rfl (Nat.le_of_ble_eq_true rfl) (Nat.le_of_ble_eq_true rfl) ?_
  refine gh_aload_n hK d_Pr_init_4 rfl ?_
  refine gh_new (ci := 3) (fs := [.null, .int 0]) 5 hK d_Pr_init_5 in_Lt t_Lt ty_Lt rfl kc_Pr_9 wi_Lt wn_Lt df_Lt (Nat.le_of_ble_eq_true rfl) (Nat.le_of_ble_eq_true rfl) (fun pl hpl => ?_)
  obtain ⟨g1, hgg1⟩ : ∃ x, x = gh_up g pl 5 (.inr (3, [.null, .int 0])) := ⟨_, rfl⟩
  rw [← hgg1]
  have mg1 : gh_M [] g g1 := by rw [hgg1]; exact gh_M.nw hpl
  replace q_a := mg1 _ 4 _ q_a (by decide)
  have q_pl : g1 pl = some (5, (.inr (3, [.null, .int 0]))) := by rw [hgg1]; exact gh_us
  clear hgg1
  show gh_W l G _ X g1 1 2 [some (.ref a)] 8 [.ref pl, .ref a]
  refine gh_dup hK d_Pr_init_8 rfl ?_
  refine gh_sipush (v := nI 6000) hK d_Pr_init_9 (by decide) ?_
  refine gh_callI (rest := [.ref pl, .ref a]) [.int (nI 6000)] hK (c_Lt_init l G (cap := 6000) 6 q_pl (by decide)) Y_Lt_init rfl V_Lt_init km_Pr_11 rfl d_Pr_init_12 rfl rfl (Nat.le_of_ble_eq_true rfl) ⟨(Nat.le_of_ble_eq_true rfl), (Nat.le_of_ble_eq_true rfl)⟩ ⟨(Nat.le_of_ble_eq_true rfl), (Nat.le_of_ble_eq_true rfl)⟩ (fun v g2 hp => ?_)
  obtain ⟨rfl, pb, hpb, hl, ng2⟩ := hp
  have mg2 : gh_M [5] _ _ := gh_N.M ng2 (fun q hq => by rw [List.mem_singleton] at hq; subst hq; exact ⟨5, _, q_pl, by decide⟩)
  show gh_W l G _ X g2 2 6002 [some (.ref a)] 15 [.ref pl, .ref a]
  replace q_a := mg2 _ 4 _ q_a (by decide)
  refine gh_putF hK (hI rfl) (fs' := [.ref pl, .int 0, .int 0]) d_Pr_init_15 in_Pr t_Pr ty_Pr nm_Pr rfl q_a 0 (by decide) kf_Pr_14 rfl rfl (by first | rfl | (cases fr <;> rfl)) (by first | rfl | (cases fr <;> rfl)) (Nat.le_of_ble_eq_true rfl) rfl ?_
  obtain ⟨g3, hgg3⟩ : ∃ x, x = gh_up g2 a 4 (.inr (5, [.ref pl, .int 0, .int 0])) := ⟨_, rfl⟩
  rw [← hgg3]
  have mg3 : gh_M [4] g2 g3 := by rw [hgg3]; exact gh_M.up q_a (by decide)
  replace hl := hl.M mg3 (by decide) (by decide)
  have q_a : g3 a = some (4, (.inr (5, [.ref pl, .int 0, .int 0]))) := by rw [hgg3]; exact gh_us
  clear hgg3
  show gh_W l G _ X g3 2 6002 [some (.ref a)] 18 []
  exact gh_vret hK hE d_Pr_init_18 (Nat.le_of_ble_eq_true rfl) (Nat.le_of_ble_eq_true rfl) ⟨rfl, pl, pb, ⟨q_a, hl⟩, (gh_M.tr (gh_M.tr (mg1.wd (by decide)) (mg2.wd (by decide))) (mg3.wd (by decide)))⟩
set_option maxRecDepth 20000 in
set_option maxHeartbeats 4000000 in
theorem c_Dc_init (l : Launch) (G : GG) {g : GH} {a : Nat}  (q_a : g a = some (7, .inr (1, [.null])))  : gMet l G y_Dc_init b_Dc_init 1 none (rmk 4 1 3 72) [.ref a] g (fun v g' => v = none ∧ ∃ aa, Dc G g' a aa [] ∧ gh_M [7, 8] g g') := by
  refine gMet.of [some (.ref a)] (by decide +kernel) rfl (Nat.le_of_ble_eq_true rfl) rfl (fun X hK hI hE => ?_)
  refine gh_aload_n hK d_Dc_init_0 rfl ?_
  refine gh_objInit hK d_Dc_init_1 km_Dc_3 w_oi w_oc rfl (Nat.le_of_ble_eq_true rfl) (Nat.le_of_ble_eq_true rfl) ?_
  refine gh_aload_n hK d_Dc_init_4 rfl ?_
  refine gh_new (ci := 11) (fs := [.int 0, .null, .int 0]) 8 hK d_Dc_init_5 in_AL t_AL ty_AL rfl kc_Dc_9 wi_AL wn_AL df_AL (Nat.le_of_ble_eq_true rfl) (Nat.le_of_ble_eq_true rfl) (fun aa haa => ?_)
  obtain ⟨g1, hgg1⟩ : ∃ x, x = gh_up g aa 8 (.inr (11, [.int 0, .null, .int 0])) := ⟨_, rfl⟩
  rw [← hgg1]
  have mg1 : gh_M [] g g1 := by rw [hgg1]; exact gh_M.nw haa
  replace q_a := mg1 _ 7 _ q_a (by decide)
  have q_aa : g1 aa = some (8, (.inr (11, [.int 0, .null, .int 0]))) := by rw [hgg1]; exact gh_us
  clear hgg1
  show gh_W l G _ X g1 1 3 [some (.ref a)] 8 [.ref aa, .ref a]
  refine gh_dup hK d_Dc_init_8 rfl ?_
  refine gh_callI (rest := [.ref aa, .ref a]) [] hK (c_AL_init l G 9 q_aa) Y_AL_init rfl V_AL_init km_Dc_11 rfl d_Dc_init_9 rfl rfl (Nat.le_of_ble_eq_true rfl) ⟨(Nat.le_of_ble_eq_true rfl), (Nat.le_of_ble_eq_true rfl)⟩ ⟨(Nat.le_of_ble_eq_true rfl), (Nat.le_of_ble_eq_true rfl)⟩ (fun v g2 hp => ?_)
  obtain ⟨rfl, hl, ng2⟩ := hp
  have mg2 : gh_M [8] _ _ := gh_N.M ng2 (fun q hq => by rw [List.mem_singleton] at hq; subst hq; exact ⟨8, _, q_aa, by decide⟩)
  show gh_W l G _ X g2 1 3 [some (.ref a)] 12 [.ref aa, .ref a]
  replace q_a := mg2 _ 7 _ q_a (by decide)
  refine gh_putF hK (hI rfl) (fs' := [.ref aa]) d_Dc_init_12 in_Dc t_Dc ty_Dc nm_Dc rfl q_a 0 (by decide) kf_Dc_12 rfl rfl (by first | rfl | (cases fr <;> rfl)) (by first | rfl | (cases fr <;> rfl)) (Nat.le_of_ble_eq_true rfl) rfl ?_
  obtain ⟨g3, hgg3⟩ : ∃ x, x = gh_up g2 a 7 (.inr (1, [.ref aa])) := ⟨_, rfl⟩
  rw [← hgg3]
  have mg3 : gh_M [7] g2 g3 := by rw [hgg3]; exact gh_M.up q_a (by decide)
  replace hl := hl.M mg3 (by decide) (by decide)
  have q_a : g3 a = some (7, (.inr (1, [.ref aa]))) := by rw [hgg3]; exact gh_us
  clear hgg3
  show gh_W l G _ X g3 1 3 [some (.ref a)] 15 []
  exact gh_vret hK hE d_Dc_init_15 (Nat.le_of_ble_eq_true rfl) (Nat.le_of_ble_eq_true rfl) ⟨rfl, aa, ⟨q_a, hl, fun x hx => by cases hx⟩, (gh_M.tr (gh_M.tr (mg1.wd (by decide)) (mg2.wd (by decide))) (mg3.wd (by decide)))⟩
set_option maxRecDepth 20000 in
set_option maxHeartbeats 4000000 in
theorem c_Rs_init10 (l : Launch) (G : GG) {g : GH} {a : Nat}  (q_a : g a = some (10, .inr (7, [.int 0, .null, .null])))  : gMet l G y_Rs_init b_Rs_init 3 none (rmk 4 4 10 72) [.ref a, .int (nI (bn true))] g (fun v g' => v = none ∧ ∃ aa na, Rs G g' a aa na 10 true [] ∧ gh_M [10, 11, 13, 14] g g') := by
  refine gMet.of [some (.ref a), some (.int (nI (bn true))), none] (by decide +kernel) rfl (Nat.le_of_ble_eq_true rfl) rfl (fun X hK hI hE => ?_)
  refine gh_aload_n hK d_Rs_init_0 rfl ?_
  refine gh_objInit hK d_Rs_init_1 km_Rs_1 w_oi w_oc rfl (Nat.le_of_ble_eq_true rfl) (Nat.le_of_ble_eq_true rfl) ?_
  refine gh_aload_n hK d_Rs_init_4 rfl ?_
  refine gh_iload_n hK d_Rs_init_5 rfl ?_
  refine gh_putF hK (hI rfl) (fs' := [.int (nI (bn true)), .null, .null]) d_Rs_init_6 in_Rs t_Rs ty_Rs nm_Rs rfl q_a 0 (by decide) kf_Rs_7 rfl rfl (by first | rfl | (cases fr <;> rfl)) (by first | rfl | (cases fr <;> rfl)) (Nat.le_of_ble_eq_true rfl) rfl ?_
  obtain ⟨g1, hgg1⟩ : ∃ x, x = gh_up g a 10 (.inr (7, [.int (nI (bn true)), .null, .null])) := ⟨_, rfl⟩
  rw [← hgg1]
  have mg1 : gh_M [10] g g1 := by rw [hgg1]; exact gh_M.up q_a (by decide)
  have q_a : g1 a = some (10, (.inr (7, [.int (nI (bn true)), .null, .null]))) := by rw [hgg1]; exact gh_us
  clear hgg1
  show gh_W l G _ X g1 0 0 [some (.ref a), some (.int (nI (bn true))), none] 9 []
  refine gh_aload_n hK d_Rs_init_9 rfl ?_
  refine gh_new (ci := 11) (fs := [.int 0, .null, .int 0]) 11 hK d_Rs_init_10 in_AL t_AL ty_AL rfl kc_Rs_13 wi_AL wn_AL df_AL (Nat.le_of_ble_eq_true rfl) (Nat.le_of_ble_eq_true rfl) (fun aa haa => ?_)
  obtain ⟨g2, hgg2⟩ : ∃ x, x = gh_up g1 aa 11 (.inr (11, [.int 0, .null, .int 0])) := ⟨_, rfl⟩
  rw [← hgg2]
  have mg2 : gh_M [] g1 g2 := by rw [hgg2]; exact gh_M.nw haa
  replace q_a := mg2 _ 10 _ q_a (by decide)
  have q_aa : g2 aa = some (11, (.inr (11, [.int 0, .null, .int 0]))) := by rw [hgg2]; exact gh_us
  clear hgg2
  show gh_W l G _ X g2 1 3 [some (.ref a), some (.int (nI (bn true))), none] 13 [.ref aa, .ref a]
  refine gh_dup hK d_Rs_init_13 rfl ?_
  refine gh_callI (rest := [.ref aa, .ref a]) [] hK (c_AL_init l G 12 q_aa) Y_AL_init rfl V_AL_init km_Rs_15 rfl d_Rs_init_14 rfl rfl (Nat.le_of_ble_eq_true rfl) ⟨(Nat.le_of_ble_eq_true rfl), (Nat.le_of_ble_eq_true rfl)⟩ ⟨(Nat.le_of_ble_eq_true rfl), (Nat.le_of_ble_eq_true rfl)⟩ (fun v g3 hp => ?_)
  obtain ⟨rfl, hl, ng3⟩ := hp
  have mg3 : gh_M [11] _ _ := gh_N.M ng3 (fun q hq => by rw [List.mem_singleton] at hq; subst hq; exact ⟨11, _, q_aa, by decide⟩)
  show gh_W l G _ X g3 1 3 [some (.ref a), some (.int (nI (bn true))), none] 17 [.ref aa, .ref a]
  replace q_a := mg3 _ 10 _ q_a (by decide)
  refine gh_putF hK (hI rfl) (fs' := [.int (nI (bn true)), .ref aa, .null]) d_Rs_init_17 in_Rs t_Rs ty_Rs nm_Rs rfl q_a 1 (by decide) kf_Rs_16 rfl rfl (by first | rfl | (cases fr <;> rfl)) (by first | rfl | (cases fr <;> rfl)) (Nat.le_of_ble_eq_true rfl) rfl ?_
  obtain ⟨g4, hgg4⟩ : ∃ x, x = gh_up g3 a 10 (.inr (7, [.int (nI (bn true)), .ref aa, .null])) := ⟨_, rfl⟩
  rw [← hgg4]
  have mg4 : gh_M [10] g3 g4 := by rw [hgg4]; exact gh_M.up q_a (by decide)
  replace hl := hl.M mg4 (by decide) (by decide)
  have q_a : g4 a = some (10, (.inr (7, [.int (nI (bn true)), .ref aa, .null]))) := by rw [hgg4]; exact gh_us
  clear hgg4
  show gh_W l G _ X g4 1 3 [some (.ref a), some (.int (nI (bn true))), none] 20 []
  refine gh_new (ci := 3) (fs := [.null, .int 0]) 14 hK d_Rs_init_20 in_Lt t_Lt ty_Lt rfl kc_Rs_20 wi_Lt wn_Lt df_Lt (Nat.le_of_ble_eq_true rfl) (Nat.le_of_ble_eq_true rfl) (fun la hla => ?_)
  obtain ⟨g5, hgg5⟩ : ∃ x, x = gh_up g4 la 14 (.inr (3, [.null, .int 0])) := ⟨_, rfl⟩
  rw [← hgg5]
  have mg5 : gh_M [] g4 g5 := by rw [hgg5]; exact gh_M.nw hla
  replace hl := hl.M mg5 (by decide) (by decide)
  replace q_a := mg5 _ 10 _ q_a (by decide)
  have q_la : g5 la = some (14, (.inr (3, [.null, .int 0]))) := by rw [hgg5]; exact gh_us
  clear hgg5
  show gh_W l G _ X g5 2 5 [some (.ref a), some (.int (nI (bn true))), none] 23 [.ref la]
  refine gh_dup hK d_Rs_init_23 rfl ?_
  refine gh_iconst (v := nI 0) hK d_Rs_init_24 (by decide) ?_
  refine gh_callI (rest := [.ref la]) [.int (nI 0)] hK (c_Lt_init l G (cap := 0) 15 q_la (by decide)) Y_Lt_init rfl V_Lt_init km_Rs_22 rfl d_Rs_init_25 rfl rfl (Nat.le_of_ble_eq_true rfl) ⟨(Nat.le_of_ble_eq_true rfl), (Nat.le_of_ble_eq_true rfl)⟩ ⟨(Nat.le_of_ble_eq_true rfl), (Nat.le_of_ble_eq_true rfl)⟩ (fun v g6 hp => ?_)
  obtain ⟨rfl, lb, hlb, ht, ng6⟩ := hp
  have mg6 : gh_M [14] _ _ := gh_N.M ng6 (fun q hq => by rw [List.mem_singleton] at hq; subst hq; exact ⟨14, _, q_la, by decide⟩)
  show gh_W l G _ X g6 3 5 [some (.ref a), some (.int (nI (bn true))), none] 28 [.ref la]
  replace hl := hl.M mg6 (by decide) (by decide)
  replace q_a := mg6 _ 10 _ q_a (by decide)
  refine gh_astore_n (lv' := [some (.ref a), some (.int (nI (bn true))), some (.ref la)]) hK d_Rs_init_28 (Nat.le_of_ble_eq_true rfl) rfl ?_
  refine gh_aload_n hK d_Rs_init_29 rfl ?_
  refine gh_new (ci := 6) (fs := [.int 0, .int 0, .null, .null, .null]) 13 hK d_Rs_init_30 in_Ru t_Ru ty_Ru rfl kc_Rs_25 wi_Ru wn_Ru df_Ru (Nat.le_of_ble_eq_true rfl) (Nat.le_of_ble_eq_true rfl) (fun na hna => ?_)
  obtain ⟨g7, hgg7⟩ : ∃ x, x = gh_up g6 na 13 (.inr (6, [.int 0, .int 0, .null, .null, .null])) := ⟨_, rfl⟩
  rw [← hgg7]
  have mg7 : gh_M [] g6 g7 := by rw [hgg7]; exact gh_M.nw hna
  replace hl := hl.M mg7 (by decide) (by decide)
  replace q_a := mg7 _ 10 _ q_a (by decide)
  replace ht := ht.M mg7 (by decide) (by decide)
  have q_na : g7 na = some (13, (.inr (6, [.int 0, .int 0, .null, .null, .null]))) := by rw [hgg7]; exact gh_us
  clear hgg7
  show gh_W l G _ X g7 4 10 [some (.ref a), some (.int (nI (bn true))), some (.ref la)] 33 [.ref na, .ref a]
  refine gh_dup hK d_Rs_init_33 rfl ?_
  refine gh_iload_n hK d_Rs_init_34 rfl ?_
  refine gh_iconst (v := nI 0) hK d_Rs_init_35 (by decide) ?_
  refine gh_aload_n hK d_Rs_init_36 rfl ?_
  refine gh_aload_n hK d_Rs_init_37 rfl ?_
  refine gh_aload_n hK d_Rs_init_38 rfl ?_
  refine gh_callI (rest := [.ref na, .ref a]) [.int (nI (bn true)), .int (nI 0), .ref la, .ref la, .ref la] hK (c_Ru_init l G (fr := true) (fl := 0) (sa := la) (aa := la) (ca := la) q_na) Y_Ru_init rfl V_Ru_init km_Rs_27 rfl d_Rs_init_39 rfl rfl (Nat.le_of_ble_eq_true rfl) ⟨(Nat.le_of_ble_eq_true rfl), (Nat.le_of_ble_eq_true rfl)⟩ ⟨(Nat.le_of_ble_eq_true rfl), (Nat.le_of_ble_eq_true rfl)⟩ (fun v g8 hp => ?_)
  obtain ⟨rfl, q_na2, ng8⟩ := hp
  have mg8 : gh_M [13] _ _ := gh_N.M ng8 (fun q hq => by rw [List.mem_singleton] at hq; subst hq; exact ⟨13, _, q_na, by decide⟩)
  show gh_W l G _ X g8 4 10 [some (.ref a), some (.int (nI (bn true))), some (.ref la)] 42 [.ref na, .ref a]
  replace hl := hl.M mg8 (by decide) (by decide)
  replace q_a := mg8 _ 10 _ q_a (by decide)
  replace ht := ht.M mg8 (by decide) (by decide)
  refine gh_putF hK (hI rfl) (fs' := [.int (nI (bn true)), .ref aa, .ref na]) d_Rs_init_42 in_Rs t_Rs ty_Rs nm_Rs rfl q_a 2 (by decide) kf_Rs_30 rfl rfl (by first | rfl | (cases fr <;> rfl)) (by first | rfl | (cases fr <;> rfl)) (Nat.le_of_ble_eq_true rfl) rfl ?_
  obtain ⟨g9, hgg9⟩ : ∃ x, x = gh_up g8 a 10 (.inr (7, [.int (nI (bn true)), .ref aa, .ref na])) := ⟨_, rfl⟩
  rw [← hgg9]
  have mg9 : gh_M [10] g8 g9 := by rw [hgg9]; exact gh_M.up q_a (by decide)
  replace hl := hl.M mg9 (by decide) (by decide)
  replace ht := ht.M mg9 (by decide) (by decide)
  replace q_na2 := mg9 _ 13 _ q_na2 (by decide)
  have q_a : g9 a = some (10, (.inr (7, [.int (nI (bn true)), .ref aa, .ref na]))) := by rw [hgg9]; exact gh_us
  clear hgg9
  show gh_W l G _ X g9 4 10 [some (.ref a), some (.int (nI (bn true))), some (.ref la)] 45 []
  exact gh_vret hK hE d_Rs_init_45 (Nat.le_of_ble_eq_true rfl) (Nat.le_of_ble_eq_true rfl) ⟨rfl, aa, na, ⟨q_a, hl, ⟨la, lb, la, lb, la, lb, q_na2, ht, ht, ht⟩, fun x hx => by cases hx⟩, (gh_M.tr (gh_M.tr (gh_M.tr (gh_M.tr (gh_M.tr (gh_M.tr (gh_M.tr (gh_M.tr (mg1.wd (by decide)) (mg2.wd (by decide))) (mg3.wd (by decide))) (mg4.wd (by decide))) (mg5.wd (by decide))) (mg6.wd (by decide))) (mg7.wd (by decide))) (mg8.wd (by decide))) (mg9.wd (by decide)))⟩
set_option maxRecDepth 20000 in
set_option maxHeartbeats 4000000 in
theorem c_Rs_init20 (l : Launch) (G : GG) {g : GH} {a : Nat}  (q_a : g a = some (20, .inr (7, [.int 0, .null, .null])))  : gMet l G y_Rs_init b_Rs_init 3 none (rmk 4 4 10 72) [.ref a, .int (nI (bn false))] g (fun v g' => v = none ∧ ∃ aa na, Rs G g' a aa na 20 false [] ∧ gh_M [20, 21, 23, 24] g g') := by
  refine gMet.of [some (.ref a), some (.int (nI (bn false))), none] (by decide +kernel) rfl (Nat.le_of_ble_eq_true rfl) rfl (fun X hK hI hE => ?_)
  refine gh_aload_n hK d_Rs_init_0 rfl ?_
  refine gh_objInit hK d_Rs_init_1 km_Rs_1 w_oi w_oc rfl (Nat.le_of_ble_eq_true rfl) (Nat.le_of_ble_eq_true rfl) ?_
  refine gh_aload_n hK d_Rs_init_4 rfl ?_
  refine gh_iload_n hK d_Rs_init_5 rfl ?_
  refine gh_putF hK (hI rfl) (fs' := [.int (nI (bn false)), .null, .null]) d_Rs_init_6 in_Rs t_Rs ty_Rs nm_Rs rfl q_a 0 (by decide) kf_Rs_7 rfl rfl (by first | rfl | (cases fr <;> rfl)) (by first | rfl | (cases fr <;> rfl)) (Nat.le_of_ble_eq_true rfl) rfl ?_
  obtain ⟨g1, hgg1⟩ : ∃ x, x = gh_up g a 20 (.inr (7, [.int (nI (bn false)), .null, .null])) := ⟨_, rfl⟩
  rw [← hgg1]
  have mg1 : gh_M [20] g g1 := by rw [hgg1]; exact gh_M.up q_a (by decide)
  have q_a : g1 a = some (20, (.inr (7, [.int (nI (bn false)), .null, .null]))) := by rw [hgg1]; exact gh_us
  clear hgg1
  show gh_W l G _ X g1 0 0 [some (.ref a), some (.int (nI (bn false))), none] 9 []
  refine gh_aload_n hK d_Rs_init_9 rfl ?_
  refine gh_new (ci := 11) (fs := [.int 0, .null, .int 0]) 21 hK d_Rs_init_10 in_AL t_AL ty_AL rfl kc_Rs_13 wi_AL wn_AL df_AL (Nat.le_of_ble_eq_true rfl) (Nat.le_of_ble_eq_true rfl) (fun aa haa => ?_)
  obtain ⟨g2, hgg2⟩ : ∃ x, x = gh_up g1 aa 21 (.inr (11, [.int 0, .null, .int 0])) := ⟨_, rfl⟩
  rw [← hgg2]
  have mg2 : gh_M [] g1 g2 := by rw [hgg2]; exact gh_M.nw haa
  replace q_a := mg2 _ 20 _ q_a (by decide)
  have q_aa : g2 aa = some (21, (.inr (11, [.int 0, .null, .int 0]))) := by rw [hgg2]; exact gh_us
  clear hgg2
  show gh_W l G _ X g2 1 3 [some (.ref a), some (.int (nI (bn false))), none] 13 [.ref aa, .ref a]
  refine gh_dup hK d_Rs_init_13 rfl ?_
  refine gh_callI (rest := [.ref aa, .ref a]) [] hK (c_AL_init l G 22 q_aa) Y_AL_init rfl V_AL_init km_Rs_15 rfl d_Rs_init_14 rfl rfl (Nat.le_of_ble_eq_true rfl) ⟨(Nat.le_of_ble_eq_true rfl), (Nat.le_of_ble_eq_true rfl)⟩ ⟨(Nat.le_of_ble_eq_true rfl), (Nat.le_of_ble_eq_true rfl)⟩ (fun v g3 hp => ?_)
  obtain ⟨rfl, hl, ng3⟩ := hp
  have mg3 : gh_M [21] _ _ := gh_N.M ng3 (fun q hq => by rw [List.mem_singleton] at hq; subst hq; exact ⟨21, _, q_aa, by decide⟩)
  show gh_W l G _ X g3 1 3 [some (.ref a), some (.int (nI (bn false))), none] 17 [.ref aa, .ref a]
  replace q_a := mg3 _ 20 _ q_a (by decide)
  refine gh_putF hK (hI rfl) (fs' := [.int (nI (bn false)), .ref aa, .null]) d_Rs_init_17 in_Rs t_Rs ty_Rs nm_Rs rfl q_a 1 (by decide) kf_Rs_16 rfl rfl (by first | rfl | (cases fr <;> rfl)) (by first | rfl | (cases fr <;> rfl)) (Nat.le_of_ble_eq_true rfl) rfl ?_
  obtain ⟨g4, hgg4⟩ : ∃ x, x = gh_up g3 a 20 (.inr (7, [.int (nI (bn false)), .ref aa, .null])) := ⟨_, rfl⟩
  rw [← hgg4]
  have mg4 : gh_M [20] g3 g4 := by rw [hgg4]; exact gh_M.up q_a (by decide)
  replace hl := hl.M mg4 (by decide) (by decide)
  have q_a : g4 a = some (20, (.inr (7, [.int (nI (bn false)), .ref aa, .null]))) := by rw [hgg4]; exact gh_us
  clear hgg4
  show gh_W l G _ X g4 1 3 [some (.ref a), some (.int (nI (bn false))), none] 20 []
  refine gh_new (ci := 3) (fs := [.null, .int 0]) 24 hK d_Rs_init_20 in_Lt t_Lt ty_Lt rfl kc_Rs_20 wi_Lt wn_Lt df_Lt (Nat.le_of_ble_eq_true rfl) (Nat.le_of_ble_eq_true rfl) (fun la hla => ?_)
  obtain ⟨g5, hgg5⟩ : ∃ x, x = gh_up g4 la 24 (.inr (3, [.null, .int 0])) := ⟨_, rfl⟩
  rw [← hgg5]
  have mg5 : gh_M [] g4 g5 := by rw [hgg5]; exact gh_M.nw hla
  replace hl := hl.M mg5 (by decide) (by decide)
  replace q_a := mg5 _ 20 _ q_a (by decide)
  have q_la : g5 la = some (24, (.inr (3, [.null, .int 0]))) := by rw [hgg5]; exact gh_us
  clear hgg5
  show gh_W l G _ X g5 2 5 [some (.ref a), some (.int (nI (bn false))), none] 23 [.ref la]
  refine gh_dup hK d_Rs_init_23 rfl ?_
  refine gh_iconst (v := nI 0) hK d_Rs_init_24 (by decide) ?_
  refine gh_callI (rest := [.ref la]) [.int (nI 0)] hK (c_Lt_init l G (cap := 0) 25 q_la (by decide)) Y_Lt_init rfl V_Lt_init km_Rs_22 rfl d_Rs_init_25 rfl rfl (Nat.le_of_ble_eq_true rfl) ⟨(Nat.le_of_ble_eq_true rfl), (Nat.le_of_ble_eq_true rfl)⟩ ⟨(Nat.le_of_ble_eq_true rfl), (Nat.le_of_ble_eq_true rfl)⟩ (fun v g6 hp => ?_)
  obtain ⟨rfl, lb, hlb, ht, ng6⟩ := hp
  have mg6 : gh_M [24] _ _ := gh_N.M ng6 (fun q hq => by rw [List.mem_singleton] at hq; subst hq; exact ⟨24, _, q_la, by decide⟩)
  show gh_W l G _ X g6 3 5 [some (.ref a), some (.int (nI (bn false))), none] 28 [.ref la]
  replace hl := hl.M mg6 (by decide) (by decide)
  replace q_a := mg6 _ 20 _ q_a (by decide)
  refine gh_astore_n (lv' := [some (.ref a), some (.int (nI (bn false))), some (.ref la)]) hK d_Rs_init_28 (Nat.le_of_ble_eq_true rfl) rfl ?_
  refine gh_aload_n hK d_Rs_init_29 rfl ?_
  refine gh_new (ci := 6) (fs := [.int 0, .int 0, .null, .null, .null]) 23 hK d_Rs_init_30 in_Ru t_Ru ty_Ru rfl kc_Rs_25 wi_Ru wn_Ru df_Ru (Nat.le_of_ble_eq_true rfl) (Nat.le_of_ble_eq_true rfl) (fun na hna => ?_)
  obtain ⟨g7, hgg7⟩ : ∃ x, x = gh_up g6 na 23 (.inr (6, [.int 0, .int 0, .null, .null, .null])) := ⟨_, rfl⟩
  rw [← hgg7]
  have mg7 : gh_M [] g6 g7 := by rw [hgg7]; exact gh_M.nw hna
  replace hl := hl.M mg7 (by decide) (by decide)
  replace q_a := mg7 _ 20 _ q_a (by decide)
  replace ht := ht.M mg7 (by decide) (by decide)
  have q_na : g7 na = some (23, (.inr (6, [.int 0, .int 0, .null, .null, .null]))) := by rw [hgg7]; exact gh_us
  clear hgg7
  show gh_W l G _ X g7 4 10 [some (.ref a), some (.int (nI (bn false))), some (.ref la)] 33 [.ref na, .ref a]
  refine gh_dup hK d_Rs_init_33 rfl ?_
  refine gh_iload_n hK d_Rs_init_34 rfl ?_
  refine gh_iconst (v := nI 0) hK d_Rs_init_35 (by decide) ?_
  refine gh_aload_n hK d_Rs_init_36 rfl ?_
  refine gh_aload_n hK d_Rs_init_37 rfl ?_
  refine gh_aload_n hK d_Rs_init_38 rfl ?_
  refine gh_callI (rest := [.ref na, .ref a]) [.int (nI (bn false)), .int (nI 0), .ref la, .ref la, .ref la] hK (c_Ru_init l G (fr := false) (fl := 0) (sa := la) (aa := la) (ca := la) q_na) Y_Ru_init rfl V_Ru_init km_Rs_27 rfl d_Rs_init_39 rfl rfl (Nat.le_of_ble_eq_true rfl) ⟨(Nat.le_of_ble_eq_true rfl), (Nat.le_of_ble_eq_true rfl)⟩ ⟨(Nat.le_of_ble_eq_true rfl), (Nat.le_of_ble_eq_true rfl)⟩ (fun v g8 hp => ?_)
  obtain ⟨rfl, q_na2, ng8⟩ := hp
  have mg8 : gh_M [23] _ _ := gh_N.M ng8 (fun q hq => by rw [List.mem_singleton] at hq; subst hq; exact ⟨23, _, q_na, by decide⟩)
  show gh_W l G _ X g8 4 10 [some (.ref a), some (.int (nI (bn false))), some (.ref la)] 42 [.ref na, .ref a]
  replace hl := hl.M mg8 (by decide) (by decide)
  replace q_a := mg8 _ 20 _ q_a (by decide)
  replace ht := ht.M mg8 (by decide) (by decide)
  refine gh_putF hK (hI rfl) (fs' := [.int (nI (bn false)), .ref aa, .ref na]) d_Rs_init_42 in_Rs t_Rs ty_Rs nm_Rs rfl q_a 2 (by decide) kf_Rs_30 rfl rfl (by first | rfl | (cases fr <;> rfl)) (by first | rfl | (cases fr <;> rfl)) (Nat.le_of_ble_eq_true rfl) rfl ?_
  obtain ⟨g9, hgg9⟩ : ∃ x, x = gh_up g8 a 20 (.inr (7, [.int (nI (bn false)), .ref aa, .ref na])) := ⟨_, rfl⟩
  rw [← hgg9]
  have mg9 : gh_M [20] g8 g9 := by rw [hgg9]; exact gh_M.up q_a (by decide)
  replace hl := hl.M mg9 (by decide) (by decide)
  replace ht := ht.M mg9 (by decide) (by decide)
  replace q_na2 := mg9 _ 23 _ q_na2 (by decide)
  have q_a : g9 a = some (20, (.inr (7, [.int (nI (bn false)), .ref aa, .ref na]))) := by rw [hgg9]; exact gh_us
  clear hgg9
  show gh_W l G _ X g9 4 10 [some (.ref a), some (.int (nI (bn false))), some (.ref la)] 45 []
  exact gh_vret hK hE d_Rs_init_45 (Nat.le_of_ble_eq_true rfl) (Nat.le_of_ble_eq_true rfl) ⟨rfl, aa, na, ⟨q_a, hl, ⟨la, lb, la, lb, la, lb, q_na2, ht, ht, ht⟩, fun x hx => by cases hx⟩, (gh_M.tr (gh_M.tr (gh_M.tr (gh_M.tr (gh_M.tr (gh_M.tr (gh_M.tr (gh_M.tr (mg1.wd (by decide)) (mg2.wd (by decide))) (mg3.wd (by decide))) (mg4.wd (by decide))) (mg5.wd (by decide))) (mg6.wd (by decide))) (mg7.wd (by decide))) (mg8.wd (by decide))) (mg9.wd (by decide)))⟩
set_option maxRecDepth 20000 in
set_option maxHeartbeats 4000000 in
theorem c_Wl_init36 (l : Launch) (G : GG) {g : GH} {a : Nat} {ra : Nat} (q_a : g a = some (36, .inr (9, [.null, .null, .null, .int 0])))  : gMet l G y_Wl_init b_Wl_init 3 none (rmk 1 2 162 21) [.ref a, .ref ra, .int (nI 81)] g (fun v g' => v = none ∧ ∃ sa la, Wl G g' a 36 sa 37 la 38 ra 81 [] ∧ gh_M [36] g g') := by
  refine gMet.of [some (.ref a), some (.ref ra), some (.int (nI 81))] (by decide +kernel) rfl (Nat.le_of_ble_eq_true rfl) rfl (fun X hK hI hE => ?_)
  refine gh_aload_n hK d_Wl_init_0 rfl ?_
  refine gh_objInit hK d_Wl_init_1 km_Wl_3 w_oi w_oc rfl (Nat.le_of_ble_eq_true rfl) (Nat.le_of_ble_eq_true rfl) ?_
  refine gh_aload_n hK d_Wl_init_4 rfl ?_
  refine gh_aload_n hK d_Wl_init_5 rfl ?_
  refine gh_putF hK (hI rfl) (fs' := [.ref ra, .null, .null, .int 0]) d_Wl_init_6 in_Wl t_Wl ty_Wl nm_Wl rfl q_a 0 (by decide) kf_Wl_9 rfl rfl (by first | rfl | (cases fr <;> rfl)) (by first | rfl | (cases fr <;> rfl)) (Nat.le_of_ble_eq_true rfl) rfl ?_
  obtain ⟨g1, hgg1⟩ : ∃ x, x = gh_up g a 36 (.inr (9, [.ref ra, .null, .null, .int 0])) := ⟨_, rfl⟩
  rw [← hgg1]
  have mg1 : gh_M [36] g g1 := by rw [hgg1]; exact gh_M.up q_a (by decide)
  have q_a : g1 a = some (36, (.inr (9, [.ref ra, .null, .null, .int 0]))) := by rw [hgg1]; exact gh_us
  clear hgg1
  show gh_W l G _ X g1 0 0 [some (.ref a), some (.ref ra), some (.int (nI 81))] 9 []
  refine gh_aload_n hK d_Wl_init_9 rfl ?_
  refine gh_iload_n hK d_Wl_init_10 rfl ?_
  refine gh_iconst (v := nI 0) hK d_Wl_init_11 (by decide) ?_
  refine gh_callS (rest := [.ref a]) [.int (nI 81), .int (nI 0)] hK (c_Mt_max l G (g := g1) (i := 81) (j := 0) (by decide) (by decide)) Y_Mt_max V_Mt_max km_Wl_15 rfl d_Wl_init_12 rfl rfl (Nat.le_of_ble_eq_true rfl) ⟨(Nat.le_of_ble_eq_true rfl), (Nat.le_of_ble_eq_true rfl)⟩ ⟨(Nat.le_of_ble_eq_true rfl), (Nat.le_of_ble_eq_true rfl)⟩ (fun v g' hp => ?_)
  rw [hp.1, hp.2]
  show gh_W l G _ X g1 0 0 [some (.ref a), some (.ref ra), some (.int (nI 81))] 15 [.int (nI 81), .ref a]
  refine gh_newi (N := 81) (t0 := 1) 37 hK d_Wl_init_15 rfl w_ai rfl (by decide) (Nat.le_of_ble_eq_true rfl) (Nat.le_of_ble_eq_true rfl) (fun sa hsa => ?_)
  obtain ⟨g2, hgg2⟩ : ∃ x, x = gh_up g1 sa 37 (.inl (G.2.1 1, 81, .inl (fun _ => 0))) := ⟨_, rfl⟩
  rw [← hgg2]
  have mg2 : gh_M [] g1 g2 := by rw [hgg2]; exact gh_M.nw hsa
  replace q_a := mg2 _ 36 _ q_a (by decide)
  have q_sa : g2 sa = some (37, (.inl (G.2.1 1, 81, .inl (fun _ => 0)))) := by rw [hgg2]; exact gh_us
  clear hgg2
  show gh_W l G _ X g2 1 81 [some (.ref a), some (.ref ra), some (.int (nI 81))] 17 [.ref sa, .ref a]
  refine gh_putF hK (hI rfl) (fs' := [.ref ra, .ref sa, .null, .int 0]) d_Wl_init_17 in_Wl t_Wl ty_Wl nm_Wl rfl q_a 1 (by decide) kf_Wl_21 rfl rfl (by first | rfl | (cases fr <;> rfl)) (by first | rfl | (cases fr <;> rfl)) (Nat.le_of_ble_eq_true rfl) rfl ?_
  obtain ⟨g3, hgg3⟩ : ∃ x, x = gh_up g2 a 36 (.inr (9, [.ref ra, .ref sa, .null, .int 0])) := ⟨_, rfl⟩
  rw [← hgg3]
  have mg3 : gh_M [36] g2 g3 := by rw [hgg3]; exact gh_M.up q_a (by decide)
  replace q_sa := mg3 _ 37 _ q_sa (by decide)
  have q_a : g3 a = some (36, (.inr (9, [.ref ra, .ref sa, .null, .int 0]))) := by rw [hgg3]; exact gh_us
  clear hgg3
  show gh_W l G _ X g3 1 81 [some (.ref a), some (.ref ra), some (.int (nI 81))] 20 []
  refine gh_aload_n hK d_Wl_init_20 rfl ?_
  refine gh_iload_n hK d_Wl_init_21 rfl ?_
  refine gh_iconst (v := nI 0) hK d_Wl_init_22 (by decide) ?_
  refine gh_callS (rest := [.ref a]) [.int (nI 81), .int (nI 0)] hK (c_Mt_max l G (g := g3) (i := 81) (j := 0) (by decide) (by decide)) Y_Mt_max V_Mt_max km_Wl_15 rfl d_Wl_init_23 rfl rfl (Nat.le_of_ble_eq_true rfl) ⟨(Nat.le_of_ble_eq_true rfl), (Nat.le_of_ble_eq_true rfl)⟩ ⟨(Nat.le_of_ble_eq_true rfl), (Nat.le_of_ble_eq_true rfl)⟩ (fun v g' hp => ?_)
  rw [hp.1, hp.2]
  show gh_W l G _ X g3 1 81 [some (.ref a), some (.ref ra), some (.int (nI 81))] 26 [.int (nI 81), .ref a]
  refine gh_newi (N := 81) (t0 := 1) 38 hK d_Wl_init_26 rfl w_ai rfl (by decide) (Nat.le_of_ble_eq_true rfl) (Nat.le_of_ble_eq_true rfl) (fun la hla => ?_)
  obtain ⟨g4, hgg4⟩ : ∃ x, x = gh_up g3 la 38 (.inl (G.2.1 1, 81, .inl (fun _ => 0))) := ⟨_, rfl⟩
  rw [← hgg4]
  have mg4 : gh_M [] g3 g4 := by rw [hgg4]; exact gh_M.nw hla
  replace q_sa := mg4 _ 37 _ q_sa (by decide)
  replace q_a := mg4 _ 36 _ q_a (by decide)
  have q_la : g4 la = some (38, (.inl (G.2.1 1, 81, .inl (fun _ => 0)))) := by rw [hgg4]; exact gh_us
  clear hgg4
  show gh_W l G _ X g4 2 162 [some (.ref a), some (.ref ra), some (.int (nI 81))] 28 [.ref la, .ref a]
  refine gh_putF hK (hI rfl) (fs' := [.ref ra, .ref sa, .ref la, .int 0]) d_Wl_init_28 in_Wl t_Wl ty_Wl nm_Wl rfl q_a 2 (by decide) kf_Wl_25 rfl rfl (by first | rfl | (cases fr <;> rfl)) (by first | rfl | (cases fr <;> rfl)) (Nat.le_of_ble_eq_true rfl) rfl ?_
  obtain ⟨g5, hgg5⟩ : ∃ x, x = gh_up g4 a 36 (.inr (9, [.ref ra, .ref sa, .ref la, .int 0])) := ⟨_, rfl⟩
  rw [← hgg5]
  have mg5 : gh_M [36] g4 g5 := by rw [hgg5]; exact gh_M.up q_a (by decide)
  replace q_sa := mg5 _ 37 _ q_sa (by decide)
  replace q_la := mg5 _ 38 _ q_la (by decide)
  have q_a : g5 a = some (36, (.inr (9, [.ref ra, .ref sa, .ref la, .int 0]))) := by rw [hgg5]; exact gh_us
  clear hgg5
  show gh_W l G _ X g5 2 162 [some (.ref a), some (.ref ra), some (.int (nI 81))] 31 []
  exact gh_vret hK hE d_Wl_init_31 (Nat.le_of_ble_eq_true rfl) (Nat.le_of_ble_eq_true rfl) ⟨rfl, sa, la, ⟨_, _, q_a, q_sa, q_la, Nat.zero_le _, by decide, fun i p hp => by cases hp⟩, (gh_M.tr (gh_M.tr (gh_M.tr (gh_M.tr (mg1.wd (by decide)) (mg2.wd (by decide))) (mg3.wd (by decide))) (mg4.wd (by decide))) (mg5.wd (by decide)))⟩
set_option maxRecDepth 20000 in
set_option maxHeartbeats 4000000 in
theorem c_Wl_init40 (l : Launch) (G : GG) {g : GH} {a : Nat} {ra : Nat} (q_a : g a = some (40, .inr (9, [.null, .null, .null, .int 0])))  : gMet l G y_Wl_init b_Wl_init 3 none (rmk 1 2 2048 21) [.ref a, .ref ra, .int (nI 1024)] g (fun v g' => v = none ∧ ∃ sa la, Wl G g' a 40 sa 41 la 42 ra 1024 [] ∧ gh_M [40] g g') := by
  refine gMet.of [some (.ref a), some (.ref ra), some (.int (nI 1024))] (by decide +kernel) rfl (Nat.le_of_ble_eq_true rfl) rfl (fun X hK hI hE => ?_)
  refine gh_aload_n hK d_Wl_init_0 rfl ?_
  refine gh_objInit hK d_Wl_init_1 km_Wl_3 w_oi w_oc rfl (Nat.le_of_ble_eq_true rfl) (Nat.le_of_ble_eq_true rfl) ?_
  refine gh_aload_n hK d_Wl_init_4 rfl ?_
  refine gh_aload_n hK d_Wl_init_5 rfl ?_
  refine gh_putF hK (hI rfl) (fs' := [.ref ra, .null, .null, .int 0]) d_Wl_init_6 in_Wl t_Wl ty_Wl nm_Wl rfl q_a 0 (by decide) kf_Wl_9 rfl rfl (by first | rfl | (cases fr <;> rfl)) (by first | rfl | (cases fr <;> rfl)) (Nat.le_of_ble_eq_true rfl) rfl ?_
  obtain ⟨g1, hgg1⟩ : ∃ x, x = gh_up g a 40 (.inr (9, [.ref ra, .null, .null, .int 0])) := ⟨_, rfl⟩
  rw [← hgg1]
  have mg1 : gh_M [40] g g1 := by rw [hgg1]; exact gh_M.up q_a (by decide)
  have q_a : g1 a = some (40, (.inr (9, [.ref ra, .null, .null, .int 0]))) := by rw [hgg1]; exact gh_us
  clear hgg1
  show gh_W l G _ X g1 0 0 [some (.ref a), some (.ref ra), some (.int (nI 1024))] 9 []
  refine gh_aload_n hK d_Wl_init_9 rfl ?_
  refine gh_iload_n hK d_Wl_init_10 rfl ?_
  refine gh_iconst (v := nI 0) hK d_Wl_init_11 (by decide) ?_
  refine gh_callS (rest := [.ref a]) [.int (nI 1024), .int (nI 0)] hK (c_Mt_max l G (g := g1) (i := 1024) (j := 0) (by decide) (by decide)) Y_Mt_max V_Mt_max km_Wl_15 rfl d_Wl_init_12 rfl rfl (Nat.le_of_ble_eq_true rfl) ⟨(Nat.le_of_ble_eq_true rfl), (Nat.le_of_ble_eq_true rfl)⟩ ⟨(Nat.le_of_ble_eq_true rfl), (Nat.le_of_ble_eq_true rfl)⟩ (fun v g' hp => ?_)
  rw [hp.1, hp.2]
  show gh_W l G _ X g1 0 0 [some (.ref a), some (.ref ra), some (.int (nI 1024))] 15 [.int (nI 1024), .ref a]
  refine gh_newi (N := 1024) (t0 := 1) 41 hK d_Wl_init_15 rfl w_ai rfl (by decide) (Nat.le_of_ble_eq_true rfl) (Nat.le_of_ble_eq_true rfl) (fun sa hsa => ?_)
  obtain ⟨g2, hgg2⟩ : ∃ x, x = gh_up g1 sa 41 (.inl (G.2.1 1, 1024, .inl (fun _ => 0))) := ⟨_, rfl⟩
  rw [← hgg2]
  have mg2 : gh_M [] g1 g2 := by rw [hgg2]; exact gh_M.nw hsa
  replace q_a := mg2 _ 40 _ q_a (by decide)
  have q_sa : g2 sa = some (41, (.inl (G.2.1 1, 1024, .inl (fun _ => 0)))) := by rw [hgg2]; exact gh_us
  clear hgg2
  show gh_W l G _ X g2 1 1024 [some (.ref a), some (.ref ra), some (.int (nI 1024))] 17 [.ref sa, .ref a]
  refine gh_putF hK (hI rfl) (fs' := [.ref ra, .ref sa, .null, .int 0]) d_Wl_init_17 in_Wl t_Wl ty_Wl nm_Wl rfl q_a 1 (by decide) kf_Wl_21 rfl rfl (by first | rfl | (cases fr <;> rfl)) (by first | rfl | (cases fr <;> rfl)) (Nat.le_of_ble_eq_true rfl) rfl ?_
  obtain ⟨g3, hgg3⟩ : ∃ x, x = gh_up g2 a 40 (.inr (9, [.ref ra, .ref sa, .null, .int 0])) := ⟨_, rfl⟩
  rw [← hgg3]
  have mg3 : gh_M [40] g2 g3 := by rw [hgg3]; exact gh_M.up q_a (by decide)
  replace q_sa := mg3 _ 41 _ q_sa (by decide)
  have q_a : g3 a = some (40, (.inr (9, [.ref ra, .ref sa, .null, .int 0]))) := by rw [hgg3]; exact gh_us
  clear hgg3
  show gh_W l G _ X g3 1 1024 [some (.ref a), some (.ref ra), some (.int (nI 1024))] 20 []
  refine gh_aload_n hK d_Wl_init_20 rfl ?_
  refine gh_iload_n hK d_Wl_init_21 rfl ?_
  refine gh_iconst (v := nI 0) hK d_Wl_init_22 (by decide) ?_
  refine gh_callS (rest := [.ref a]) [.int (nI 1024), .int (nI 0)] hK (c_Mt_max l G (g := g3) (i := 1024) (j := 0) (by decide) (by decide)) Y_Mt_max V_Mt_max km_Wl_15 rfl d_Wl_init_23 rfl rfl (Nat.le_of_ble_eq_true rfl) ⟨(Nat.le_of_ble_eq_true rfl), (Nat.le_of_ble_eq_true rfl)⟩ ⟨(Nat.le_of_ble_eq_true rfl), (Nat.le_of_ble_eq_true rfl)⟩ (fun v g' hp => ?_)
  rw [hp.1, hp.2]
  show gh_W l G _ X g3 1 1024 [some (.ref a), some (.ref ra), some (.int (nI 1024))] 26 [.int (nI 1024), .ref a]
  refine gh_newi (N := 1024) (t0 := 1) 42 hK d_Wl_init_26 rfl w_ai rfl (by decide) (Nat.le_of_ble_eq_true rfl) (Nat.le_of_ble_eq_true rfl) (fun la hla => ?_)
  obtain ⟨g4, hgg4⟩ : ∃ x, x = gh_up g3 la 42 (.inl (G.2.1 1, 1024, .inl (fun _ => 0))) := ⟨_, rfl⟩
  rw [← hgg4]
  have mg4 : gh_M [] g3 g4 := by rw [hgg4]; exact gh_M.nw hla
  replace q_sa := mg4 _ 41 _ q_sa (by decide)
  replace q_a := mg4 _ 40 _ q_a (by decide)
  have q_la : g4 la = some (42, (.inl (G.2.1 1, 1024, .inl (fun _ => 0)))) := by rw [hgg4]; exact gh_us
  clear hgg4
  show gh_W l G _ X g4 2 2048 [some (.ref a), some (.ref ra), some (.int (nI 1024))] 28 [.ref la, .ref a]
  refine gh_putF hK (hI rfl) (fs' := [.ref ra, .ref sa, .ref la, .int 0]) d_Wl_init_28 in_Wl t_Wl ty_Wl nm_Wl rfl q_a 2 (by decide) kf_Wl_25 rfl rfl (by first | rfl | (cases fr <;> rfl)) (by first | rfl | (cases fr <;> rfl)) (Nat.le_of_ble_eq_true rfl) rfl ?_
  obtain ⟨g5, hgg5⟩ : ∃ x, x = gh_up g4 a 40 (.inr (9, [.ref ra, .ref sa, .ref la, .int 0])) := ⟨_, rfl⟩
  rw [← hgg5]
  have mg5 : gh_M [40] g4 g5 := by rw [hgg5]; exact gh_M.up q_a (by decide)
  replace q_sa := mg5 _ 41 _ q_sa (by decide)
  replace q_la := mg5 _ 42 _ q_la (by decide)
  have q_a : g5 a = some (40, (.inr (9, [.ref ra, .ref sa, .ref la, .int 0]))) := by rw [hgg5]; exact gh_us
  clear hgg5
  show gh_W l G _ X g5 2 2048 [some (.ref a), some (.ref ra), some (.int (nI 1024))] 31 []
  exact gh_vret hK hE d_Wl_init_31 (Nat.le_of_ble_eq_true rfl) (Nat.le_of_ble_eq_true rfl) ⟨rfl, sa, la, ⟨_, _, q_a, q_sa, q_la, Nat.zero_le _, by decide, fun i p hp => by cases hp⟩, (gh_M.tr (gh_M.tr (gh_M.tr (gh_M.tr (mg1.wd (by decide)) (mg2.wd (by decide))) (mg3.wd (by decide))) (mg4.wd (by decide))) (mg5.wd (by decide)))⟩
set_option maxRecDepth 20000 in
set_option maxHeartbeats 4000000 in
theorem c_Sp_init (l : Launch) (G : GG) {g : GH} {a : Nat} {da p1 p2 : Nat} (q_a : g a = some (30, .inr (8, [.null, .null, .null, .null, .null, .null, .null, .int 0])))  : gMet l G y_Sp_init b_Sp_init 4 none (rmk 2 8 2535 43) [.ref a, .ref da, .ref p1, .ref p2] g (fun v g' => v = none ∧ ∃ b1 b2 wy f1 f2 w1 w2 w3, g' a = some (30, .inr (8, [.ref da, .ref p1, .ref p2, .ref b1, .ref wy, .ref f1, .ref w1, .int (nI 0)])) ∧ Lt G g' b1 31 b2 32 16 [] ∧ g' wy = some (33, .inl (G.2.1 1, 81, .inl (fun _ => 0))) ∧ Lt G g' f1 34 f2 35 2268 [] ∧ Wl G g' w1 36 w2 37 w3 38 f1 81 [] ∧ gh_M [30, 31, 34, 36] g g') := by
  refine gMet.of [some (.ref a), some (.ref da), some (.ref p1), some (.ref p2)] (by decide +kernel) rfl (Nat.le_of_ble_eq_true rfl) rfl (fun X hK hI hE => ?_)
  refine gh_aload_n hK d_Sp_init_0 rfl ?_
  refine gh_objInit hK d_Sp_init_1 km_Sp_3 w_oi w_oc rfl (Nat.le_of_ble_eq_true rfl) (Nat.le_of_ble_eq_true rfl) ?_
  refine gh_aload_n hK d_Sp_init_4 rfl ?_
  refine gh_aload_n hK d_Sp_init_5 rfl ?_
  refine gh_putF hK (hI rfl) (fs' := [.ref da, .null, .null, .null, .null, .null, .null, .int 0]) d_Sp_init_6 in_Sp t_Sp ty_Sp nm_Sp rfl q_a 0 (by decide) kf_Sp_9 rfl rfl (by first | rfl | (cases fr <;> rfl)) (by first | rfl | (cases fr <;> rfl)) (Nat.le_of_ble_eq_true rfl) rfl ?_
  obtain ⟨g1, hgg1⟩ : ∃ x, x = gh_up g a 30 (.inr (8, [.ref da, .null, .null, .null, .null, .null, .null, .int 0])) := ⟨_, rfl⟩
  rw [← hgg1]
  have mg1 : gh_M [30] g g1 := by rw [hgg1]; exact gh_M.up q_a (by decide)
  have q_a : g1 a = some (30, (.inr (8, [.ref da, .null, .null, .null, .null, .null, .null, .int 0]))) := by rw [hgg1]; exact gh_us
  clear hgg1
  show gh_W l G _ X g1 0 0 [some (.ref a), some (.ref da), some (.ref p1), some (.ref p2)] 9 []
  refine gh_aload_n hK d_Sp_init_9 rfl ?_
  refine gh_aload_n hK d_Sp_init_10 rfl ?_
  refine gh_putF hK (hI rfl) (fs' := [.ref da, .ref p1, .null, .null, .null, .null, .null, .int 0]) d_Sp_init_11 in_Sp t_Sp ty_Sp nm_Sp rfl q_a 1 (by decide) kf_Sp_15 rfl rfl (by first | rfl | (cases fr <;> rfl)) (by first | rfl | (cases fr <;> rfl)) (Nat.le_of_ble_eq_true rfl) rfl ?_
  obtain ⟨g2, hgg2⟩ : ∃ x, x = gh_up g1 a 30 (.inr (8, [.ref da, .ref p1, .null, .null, .null, .null, .null, .int 0])) := ⟨_, rfl⟩
  rw [← hgg2]
  have mg2 : gh_M [30] g1 g2 := by rw [hgg2]; exact gh_M.up q_a (by decide)
  have q_a : g2 a = some (30, (.inr (8, [.ref da, .ref p1, .null, .null, .null, .null, .null, .int 0]))) := by rw [hgg2]; exact gh_us
  clear hgg2
  show gh_W l G _ X g2 0 0 [some (.ref a), some (.ref da), some (.ref p1), some (.ref p2)] 14 []
  refine gh_aload_n hK d_Sp_init_14 rfl ?_
  refine gh_aload_n hK d_Sp_init_15 rfl ?_
  refine gh_putF hK (hI rfl) (fs' := [.ref da, .ref p1, .ref p2, .null, .null, .null, .null, .int 0]) d_Sp_init_16 in_Sp t_Sp ty_Sp nm_Sp rfl q_a 2 (by decide) kf_Sp_19 rfl rfl (by first | rfl | (cases fr <;> rfl)) (by first | rfl | (cases fr <;> rfl)) (Nat.le_of_ble_eq_true rfl) rfl ?_
  obtain ⟨g3, hgg3⟩ : ∃ x, x = gh_up g2 a 30 (.inr (8, [.ref da, .ref p1, .ref p2, .null, .null, .null, .null, .int 0])) := ⟨_, rfl⟩
  rw [← hgg3]
  have mg3 : gh_M [30] g2 g3 := by rw [hgg3]; exact gh_M.up q_a (by decide)
  have q_a : g3 a = some (30, (.inr (8, [.ref da, .ref p1, .ref p2, .null, .null, .null, .null, .int 0]))) := by rw [hgg3]; exact gh_us
  clear hgg3
  show gh_W l G _ X g3 0 0 [some (.ref a), some (.ref da), some (.ref p1), some (.ref p2)] 19 []
  refine gh_aload_n hK d_Sp_init_19 rfl ?_
  refine gh_new (ci := 3) (fs := [.null, .int 0]) 31 hK d_Sp_init_20 in_Lt t_Lt ty_Lt rfl kc_Sp_22 wi_Lt wn_Lt df_Lt (Nat.le_of_ble_eq_true rfl) (Nat.le_of_ble_eq_true rfl) (fun b1 hb1 => ?_)
  obtain ⟨g4, hgg4⟩ : ∃ x, x = gh_up g3 b1 31 (.inr (3, [.null, .int 0])) := ⟨_, rfl⟩
  rw [← hgg4]
  have mg4 : gh_M [] g3 g4 := by rw [hgg4]; exact gh_M.nw hb1
  replace q_a := mg4 _ 30 _ q_a (by decide)
  have q_b1 : g4 b1 = some (31, (.inr (3, [.null, .int 0]))) := by rw [hgg4]; exact gh_us
  clear hgg4
  show gh_W l G _ X g4 1 2 [some (.ref a), some (.ref da), some (.ref p1), some (.ref p2)] 23 [.ref b1, .ref a]
  refine gh_dup hK d_Sp_init_23 rfl ?_
  refine gh_bipush (v := nI 16) hK d_Sp_init_24 (by decide) ?_
  refine gh_callI (rest := [.ref b1, .ref a]) [.int (nI 16)] hK (c_Lt_init l G (cap := 16) 32 q_b1 (by decide)) Y_Lt_init rfl V_Lt_init km_Sp_24 rfl d_Sp_init_26 rfl rfl (Nat.le_of_ble_eq_true rfl) ⟨(Nat.le_of_ble_eq_true rfl), (Nat.le_of_ble_eq_true rfl)⟩ ⟨(Nat.le_of_ble_eq_true rfl), (Nat.le_of_ble_eq_true rfl)⟩ (fun v g5 hp => ?_)
  obtain ⟨rfl, b2, hb2, hb, ng5⟩ := hp
  have mg5 : gh_M [31] _ _ := gh_N.M ng5 (fun q hq => by rw [List.mem_singleton] at hq; subst hq; exact ⟨31, _, q_b1, by decide⟩)
  show gh_W l G _ X g5 2 18 [some (.ref a), some (.ref da), some (.ref p1), some (.ref p2)] 29 [.ref b1, .ref a]
  replace q_a := mg5 _ 30 _ q_a (by decide)
  refine gh_putF hK (hI rfl) (fs' := [.ref da, .ref p1, .ref p2, .ref b1, .null, .null, .null, .int 0]) d_Sp_init_29 in_Sp t_Sp ty_Sp nm_Sp rfl q_a 3 (by decide) kf_Sp_27 rfl rfl (by first | rfl | (cases fr <;> rfl)) (by first | rfl | (cases fr <;> rfl)) (Nat.le_of_ble_eq_true rfl) rfl ?_
  obtain ⟨g6, hgg6⟩ : ∃ x, x = gh_up g5 a 30 (.inr (8, [.ref da, .ref p1, .ref p2, .ref b1, .null, .null, .null, .int 0])) := ⟨_, rfl⟩
  rw [← hgg6]
  have mg6 : gh_M [30] g5 g6 := by rw [hgg6]; exact gh_M.up q_a (by decide)
  replace hb := hb.M mg6 (by decide) (by decide)
  have q_a : g6 a = some (30, (.inr (8, [.ref da, .ref p1, .ref p2, .ref b1, .null, .null, .null, .int 0]))) := by rw [hgg6]; exact gh_us
  clear hgg6
  show gh_W l G _ X g6 2 18 [some (.ref a), some (.ref da), some (.ref p1), some (.ref p2)] 32 []
  refine gh_aload_n hK d_Sp_init_32 rfl ?_
  refine gh_bipush (v := nI 81) hK d_Sp_init_33 (by decide) ?_
  refine gh_newi (N := 81) (t0 := 1) 33 hK d_Sp_init_35 rfl w_ai rfl (by decide) (Nat.le_of_ble_eq_true rfl) (Nat.le_of_ble_eq_true rfl) (fun wy hwy => ?_)
  obtain ⟨g7, hgg7⟩ : ∃ x, x = gh_up g6 wy 33 (.inl (G.2.1 1, 81, .inl (fun _ => 0))) := ⟨_, rfl⟩
  rw [← hgg7]
  have mg7 : gh_M [] g6 g7 := by rw [hgg7]; exact gh_M.nw hwy
  replace hb := hb.M mg7 (by decide) (by decide)
  replace q_a := mg7 _ 30 _ q_a (by decide)
  have q_wy : g7 wy = some (33, (.inl (G.2.1 1, 81, .inl (fun _ => 0)))) := by rw [hgg7]; exact gh_us
  clear hgg7
  show gh_W l G _ X g7 3 99 [some (.ref a), some (.ref da), some (.ref p1), some (.ref p2)] 37 [.ref wy, .ref a]
  refine gh_putF hK (hI rfl) (fs' := [.ref da, .ref p1, .ref p2, .ref b1, .ref wy, .null, .null, .int 0]) d_Sp_init_37 in_Sp t_Sp ty_Sp nm_Sp rfl q_a 4 (by decide) kf_Sp_31 rfl rfl (by first | rfl | (cases fr <;> rfl)) (by first | rfl | (cases fr <;> rfl)) (Nat.le_of_ble_eq_true rfl) rfl ?_
  obtain ⟨g8, hgg8⟩ : ∃ x, x = gh_up g7 a 30 (.inr (8, [.ref da, .ref p1, .ref p2, .ref b1, .ref wy, .null, .null, .int 0])) := ⟨_, rfl⟩
  rw [← hgg8]
  have mg8 : gh_M [30] g7 g8 := by rw [hgg8]; exact gh_M.up q_a (by decide)
  replace hb := hb.M mg8 (by decide) (by decide)
  replace q_wy := mg8 _ 33 _ q_wy (by decide)
  have q_a : g8 a = some (30, (.inr (8, [.ref da, .ref p1, .ref p2, .ref b1, .ref wy, .null, .null, .int 0]))) := by rw [hgg8]; exact gh_us
  clear hgg8
  show gh_W l G _ X g8 3 99 [some (.ref a), some (.ref da), some (.ref p1), some (.ref p2)] 40 []
  refine gh_aload_n hK d_Sp_init_40 rfl ?_
  refine gh_new (ci := 3) (fs := [.null, .int 0]) 34 hK d_Sp_init_41 in_Lt t_Lt ty_Lt rfl kc_Sp_22 wi_Lt wn_Lt df_Lt (Nat.le_of_ble_eq_true rfl) (Nat.le_of_ble_eq_true rfl) (fun f1 hf1 => ?_)
  obtain ⟨g9, hgg9⟩ : ∃ x, x = gh_up g8 f1 34 (.inr (3, [.null, .int 0])) := ⟨_, rfl⟩
  rw [← hgg9]
  have mg9 : gh_M [] g8 g9 := by rw [hgg9]; exact gh_M.nw hf1
  replace hb := hb.M mg9 (by decide) (by decide)
  replace q_wy := mg9 _ 33 _ q_wy (by decide)
  replace q_a := mg9 _ 30 _ q_a (by decide)
  have q_f1 : g9 f1 = some (34, (.inr (3, [.null, .int 0]))) := by rw [hgg9]; exact gh_us
  clear hgg9
  show gh_W l G _ X g9 4 101 [some (.ref a), some (.ref da), some (.ref p1), some (.ref p2)] 44 [.ref f1, .ref a]
  refine gh_dup hK d_Sp_init_44 rfl ?_
  refine gh_sipush (v := nI 2268) hK d_Sp_init_45 (by decide) ?_
  refine gh_callI (rest := [.ref f1, .ref a]) [.int (nI 2268)] hK (c_Lt_init l G (cap := 2268) 35 q_f1 (by decide)) Y_Lt_init rfl V_Lt_init km_Sp_24 rfl d_Sp_init_48 rfl rfl (Nat.le_of_ble_eq_true rfl) ⟨(Nat.le_of_ble_eq_true rfl), (Nat.le_of_ble_eq_true rfl)⟩ ⟨(Nat.le_of_ble_eq_true rfl), (Nat.le_of_ble_eq_true rfl)⟩ (fun v g10 hp => ?_)
  obtain ⟨rfl, f2, hf2, hf, ng10⟩ := hp
  have mg10 : gh_M [34] _ _ := gh_N.M ng10 (fun q hq => by rw [List.mem_singleton] at hq; subst hq; exact ⟨34, _, q_f1, by decide⟩)
  show gh_W l G _ X g10 5 2369 [some (.ref a), some (.ref da), some (.ref p1), some (.ref p2)] 51 [.ref f1, .ref a]
  replace hb := hb.M mg10 (by decide) (by decide)
  replace q_wy := mg10 _ 33 _ q_wy (by decide)
  replace q_a := mg10 _ 30 _ q_a (by decide)
  refine gh_putF hK (hI rfl) (fs' := [.ref da, .ref p1, .ref p2, .ref b1, .ref wy, .ref f1, .null, .int 0]) d_Sp_init_51 in_Sp t_Sp ty_Sp nm_Sp rfl q_a 5 (by decide) kf_Sp_35 rfl rfl (by first | rfl | (cases fr <;> rfl)) (by first | rfl | (cases fr <;> rfl)) (Nat.le_of_ble_eq_true rfl) rfl ?_
  obtain ⟨g11, hgg11⟩ : ∃ x, x = gh_up g10 a 30 (.inr (8, [.ref da, .ref p1, .ref p2, .ref b1, .ref wy, .ref f1, .null, .int 0])) := ⟨_, rfl⟩
  rw [← hgg11]
  have mg11 : gh_M [30] g10 g11 := by rw [hgg11]; exact gh_M.up q_a (by decide)
  replace hb := hb.M mg11 (by decide) (by decide)
  replace q_wy := mg11 _ 33 _ q_wy (by decide)
  replace hf := hf.M mg11 (by decide) (by decide)
  have q_a : g11 a = some (30, (.inr (8, [.ref da, .ref p1, .ref p2, .ref b1, .ref wy, .ref f1, .null, .int 0]))) := by rw [hgg11]; exact gh_us
  clear hgg11
  show gh_W l G _ X g11 5 2369 [some (.ref a), some (.ref da), some (.ref p1), some (.ref p2)] 54 []
  refine gh_aload_n hK d_Sp_init_54 rfl ?_
  refine gh_new (ci := 9) (fs := [.null, .null, .null, .int 0]) 36 hK d_Sp_init_55 in_Wl t_Wl ty_Wl rfl kc_Sp_38 wi_Wl wn_Wl df_Wl (Nat.le_of_ble_eq_true rfl) (Nat.le_of_ble_eq_true rfl) (fun w1 hw1 => ?_)
  obtain ⟨g12, hgg12⟩ : ∃ x, x = gh_up g11 w1 36 (.inr (9, [.null, .null, .null, .int 0])) := ⟨_, rfl⟩
  rw [← hgg12]
  have mg12 : gh_M [] g11 g12 := by rw [hgg12]; exact gh_M.nw hw1
  replace hb := hb.M mg12 (by decide) (by decide)
  replace q_wy := mg12 _ 33 _ q_wy (by decide)
  replace hf := hf.M mg12 (by decide) (by decide)
  replace q_a := mg12 _ 30 _ q_a (by decide)
  have q_w1 : g12 w1 = some (36, (.inr (9, [.null, .null, .null, .int 0]))) := by rw [hgg12]; exact gh_us
  clear hgg12
  show gh_W l G _ X g12 6 2373 [some (.ref a), some (.ref da), some (.ref p1), some (.ref p2)] 58 [.ref w1, .ref a]
  refine gh_dup hK d_Sp_init_58 rfl ?_
  refine gh_aload_n hK d_Sp_init_59 rfl ?_
  refine gh_get hK d_Sp_init_60 in_Sp rfl q_a 5 (by decide) kf_Sp_35 rfl rfl ?_
  refine gh_bipush (v := nI 81) hK d_Sp_init_63 (by decide) ?_
  refine gh_callI (rest := [.ref w1, .ref a]) [.ref f1, .int (nI 81)] hK (c_Wl_init36 l G (ra := f1) q_w1) Y_Wl_init rfl V_Wl_init km_Sp_40 rfl d_Sp_init_65 rfl rfl (Nat.le_of_ble_eq_true rfl) ⟨(Nat.le_of_ble_eq_true rfl), (Nat.le_of_ble_eq_true rfl)⟩ ⟨(Nat.le_of_ble_eq_true rfl), (Nat.le_of_ble_eq_true rfl)⟩ (fun v g13 hp => ?_)
  obtain ⟨rfl, w2, w3, hw, mg13⟩ := hp
  show gh_W l G _ X g13 8 2535 [some (.ref a), some (.ref da), some (.ref p1), some (.ref p2)] 68 [.ref w1, .ref a]
  replace hb := hb.M mg13 (by decide) (by decide)
  replace q_wy := mg13 _ 33 _ q_wy (by decide)
  replace hf := hf.M mg13 (by decide) (by decide)
  replace q_a := mg13 _ 30 _ q_a (by decide)
  refine gh_putF hK (hI rfl) (fs' := [.ref da, .ref p1, .ref p2, .ref b1, .ref wy, .ref f1, .ref w1, .int 0]) d_Sp_init_68 in_Sp t_Sp ty_Sp nm_Sp rfl q_a 6 (by decide) kf_Sp_43 rfl rfl (by first | rfl | (cases fr <;> rfl)) (by first | rfl | (cases fr <;> rfl)) (Nat.le_of_ble_eq_true rfl) rfl ?_
  obtain ⟨g14, hgg14⟩ : ∃ x, x = gh_up g13 a 30 (.inr (8, [.ref da, .ref p1, .ref p2, .ref b1, .ref wy, .ref f1, .ref w1, .int 0])) := ⟨_, rfl⟩
  rw [← hgg14]
  have mg14 : gh_M [30] g13 g14 := by rw [hgg14]; exact gh_M.up q_a (by decide)
  replace hb := hb.M mg14 (by decide) (by decide)
  replace q_wy := mg14 _ 33 _ q_wy (by decide)
  replace hf := hf.M mg14 (by decide) (by decide)
  replace hw := hw.M mg14 (by decide) (by decide) (by decide)
  have q_a : g14 a = some (30, (.inr (8, [.ref da, .ref p1, .ref p2, .ref b1, .ref wy, .ref f1, .ref w1, .int 0]))) := by rw [hgg14]; exact gh_us
  clear hgg14
  show gh_W l G _ X g14 8 2535 [some (.ref a), some (.ref da), some (.ref p1), some (.ref p2)] 71 []
  exact gh_vret hK hE d_Sp_init_71 (Nat.le_of_ble_eq_true rfl) (Nat.le_of_ble_eq_true rfl) ⟨rfl, b1, b2, wy, f1, f2, w1, w2, w3, q_a, hb, q_wy, hf, hw, (gh_M.tr (gh_M.tr (gh_M.tr (gh_M.tr (gh_M.tr (gh_M.tr (gh_M.tr (gh_M.tr (gh_M.tr (gh_M.tr (gh_M.tr (gh_M.tr (gh_M.tr (mg1.wd (by decide)) (mg2.wd (by decide))) (mg3.wd (by decide))) (mg4.wd (by decide))) (mg5.wd (by decide))) (mg6.wd (by decide))) (mg7.wd (by decide))) (mg8.wd (by decide))) (mg9.wd (by decide))) (mg10.wd (by decide))) (mg11.wd (by decide))) (mg12.wd (by decide))) (mg13.wd (by decide))) (mg14.wd (by decide)))⟩
def mkA (a tx1 tx2 ln pr pl pb dc da r1 r1a r1n r2 r2a r2n sp b1 b2 wy f1 f2 w1 w2 w3 as as1 as2 : Nat) : Nat → Nat
  | 0 => a
  | 1 => tx1
  | 2 => tx2
  | 3 => ln
  | 4 => pr
  | 5 => pl
  | 6 => pb
  | 7 => dc
  | 8 => da
  | 10 => r1
  | 11 => r1a
  | 13 => r1n
  | 20 => r2
  | 21 => r2a
  | 23 => r2n
  | 30 => sp
  | 31 => b1
  | 32 => b2
  | 33 => wy
  | 34 => f1
  | 35 => f2
  | 36 => w1
  | 37 => w2
  | 38 => w3
  | 40 => as
  | 41 => as1
  | 42 => as2
  | _ => 0
set_option maxRecDepth 20000 in
set_option maxHeartbeats 4000000 in
theorem c_SD_init (l : Launch) (G : GG) {g : GH} {a : Nat}  (q_a : g a = some (0, .inr (0, [.null, .null, .null, .null, .null, .null, .null, .null])))  : gMet l G y_SD_init b_SD_init 1 none (rmk 5 30 12687 94) [.ref a] g (fun v g' => v = none ∧ ∃ A : Nat → Nat, A 0 = a ∧ SDr G g' A [] [] [] [] ∧ Pr G g' (A 4) (A 5) (A 6) ([], 0) 0 ∧ Ln g' (A 3) (A 1) 0 0 0 0 0 0 ∧ gh_M SDT g g') := by
  refine gMet.of [some (.ref a)] (by decide +kernel) rfl (Nat.le_of_ble_eq_true rfl) rfl (fun X hK hI hE => ?_)
  refine gh_aload_n hK d_SD_init_0 rfl ?_
  refine gh_objInit hK d_SD_init_1 km_SD_3 w_oi w_oc rfl (Nat.le_of_ble_eq_true rfl) (Nat.le_of_ble_eq_true rfl) ?_
  refine gh_aload_n hK d_SD_init_4 rfl ?_
  refine gh_new (ci := 3) (fs := [.null, .int 0]) 1 hK d_SD_init_5 in_Lt t_Lt ty_Lt rfl kc_SD_9 wi_Lt wn_Lt df_Lt (Nat.le_of_ble_eq_true rfl) (Nat.le_of_ble_eq_true rfl) (fun tx1 htx1 => ?_)
  obtain ⟨g1, hgg1⟩ : ∃ x, x = gh_up g tx1 1 (.inr (3, [.null, .int 0])) := ⟨_, rfl⟩
  rw [← hgg1]
  have mg1 : gh_M [] g g1 := by rw [hgg1]; exact gh_M.nw htx1
  replace q_a := mg1 _ 0 _ q_a (by decide)
  have q_tx1 : g1 tx1 = some (1, (.inr (3, [.null, .int 0]))) := by rw [hgg1]; exact gh_us
  clear hgg1
  show gh_W l G _ X g1 1 2 [some (.ref a)] 8 [.ref tx1, .ref a]
  refine gh_dup hK d_SD_init_8 rfl ?_
  refine gh_sipush (v := nI 2048) hK d_SD_init_9 (by decide) ?_
  refine gh_callI (rest := [.ref tx1, .ref a]) [.int (nI 2048)] hK (c_Lt_init l G (cap := 2048) 2 q_tx1 (by decide)) Y_Lt_init rfl V_Lt_init km_SD_11 rfl d_SD_init_12 rfl rfl (Nat.le_of_ble_eq_true rfl) ⟨(Nat.le_of_ble_eq_true rfl), (Nat.le_of_ble_eq_true rfl)⟩ ⟨(Nat.le_of_ble_eq_true rfl), (Nat.le_of_ble_eq_true rfl)⟩ (fun v g2 hp => ?_)
  obtain ⟨rfl, tx2, htx2, ht, ng2⟩ := hp
  have mg2 : gh_M [1] _ _ := gh_N.M ng2 (fun q hq => by rw [List.mem_singleton] at hq; subst hq; exact ⟨1, _, q_tx1, by decide⟩)
  show gh_W l G _ X g2 2 2050 [some (.ref a)] 15 [.ref tx1, .ref a]
  replace q_a := mg2 _ 0 _ q_a (by decide)
  refine gh_putF hK (hI rfl) (fs' := [.ref tx1, .null, .null, .null, .null, .null, .null, .null]) d_SD_init_15 in_SD t_SD ty_SD nm_SD rfl q_a 0 (by decide) kf_SD_14 rfl rfl (by first | rfl | (cases fr <;> rfl)) (by first | rfl | (cases fr <;> rfl)) (Nat.le_of_ble_eq_true rfl) rfl ?_
  obtain ⟨g3, hgg3⟩ : ∃ x, x = gh_up g2 a 0 (.inr (0, [.ref tx1, .null, .null, .null, .null, .null, .null, .null])) := ⟨_, rfl⟩
  rw [← hgg3]
  have mg3 : gh_M [0] g2 g3 := by rw [hgg3]; exact gh_M.up q_a (by decide)
  replace ht := ht.M mg3 (by decide) (by decide)
  have q_a : g3 a = some (0, (.inr (0, [.ref tx1, .null, .null, .null, .null, .null, .null, .null]))) := by rw [hgg3]; exact gh_us
  clear hgg3
  show gh_W l G _ X g3 2 2050 [some (.ref a)] 18 []
  refine gh_aload_n hK d_SD_init_18 rfl ?_
  refine gh_new (ci := 4) (fs := [.null, .int 0, .int 0, .int 0, .int 0, .int 0, .int 0]) 3 hK d_SD_init_19 in_Ln t_Ln ty_Ln rfl kc_SD_18 wi_Ln wn_Ln df_Ln (Nat.le_of_ble_eq_true rfl) (Nat.le_of_ble_eq_true rfl) (fun ln hln => ?_)
  obtain ⟨g4, hgg4⟩ : ∃ x, x = gh_up g3 ln 3 (.inr (4, [.null, .int 0, .int 0, .int 0, .int 0, .int 0, .int 0])) := ⟨_, rfl⟩
  rw [← hgg4]
  have mg4 : gh_M [] g3 g4 := by rw [hgg4]; exact gh_M.nw hln
  replace ht := ht.M mg4 (by decide) (by decide)
  replace q_a := mg4 _ 0 _ q_a (by decide)
  have q_ln : g4 ln = some (3, (.inr (4, [.null, .int 0, .int 0, .int 0, .int 0, .int 0, .int 0]))) := by rw [hgg4]; exact gh_us
  clear hgg4
  show gh_W l G _ X g4 3 2057 [some (.ref a)] 22 [.ref ln, .ref a]
  refine gh_dup hK d_SD_init_22 rfl ?_
  refine gh_aload_n hK d_SD_init_23 rfl ?_
  refine gh_get hK d_SD_init_24 in_SD rfl q_a 0 (by decide) kf_SD_14 rfl rfl ?_
  refine gh_callI (rest := [.ref ln, .ref a]) [.ref tx1] hK (c_Ln_init l G (ta := tx1) q_ln) Y_Ln_init rfl V_Ln_init km_SD_20 rfl d_SD_init_27 rfl rfl (Nat.le_of_ble_eq_true rfl) ⟨(Nat.le_of_ble_eq_true rfl), (Nat.le_of_ble_eq_true rfl)⟩ ⟨(Nat.le_of_ble_eq_true rfl), (Nat.le_of_ble_eq_true rfl)⟩ (fun v g5 hp => ?_)
  obtain ⟨rfl, hln, mg5⟩ := hp
  show gh_W l G _ X g5 3 2057 [some (.ref a)] 30 [.ref ln, .ref a]
  replace ht := ht.M mg5 (by decide) (by decide)
  replace q_a := mg5 _ 0 _ q_a (by decide)
  refine gh_putF hK (hI rfl) (fs' := [.ref tx1, .ref ln, .null, .null, .null, .null, .null, .null]) d_SD_init_30 in_SD t_SD ty_SD nm_SD rfl q_a 1 (by decide) kf_SD_23 rfl rfl (by first | rfl | (cases fr <;> rfl)) (by first | rfl | (cases fr <;> rfl)) (Nat.le_of_ble_eq_true rfl) rfl ?_
  obtain ⟨g6, hgg6⟩ : ∃ x, x = gh_up g5 a 0 (.inr (0, [.ref tx1, .ref ln, .null, .null, .null, .null, .null, .null])) := ⟨_, rfl⟩
  rw [← hgg6]
  have mg6 : gh_M [0] g5 g6 := by rw [hgg6]; exact gh_M.up q_a (by decide)
  replace ht := ht.M mg6 (by decide) (by decide)
  replace hln := hln.M mg6 (by decide)
  have q_a : g6 a = some (0, (.inr (0, [.ref tx1, .ref ln, .null, .null, .null, .null, .null, .null]))) := by rw [hgg6]; exact gh_us
  clear hgg6
  show gh_W l G _ X g6 3 2057 [some (.ref a)] 33 []
  refine gh_aload_n hK d_SD_init_33 rfl ?_
  refine gh_new (ci := 5) (fs := [.null, .int 0, .int 0]) 4 hK d_SD_init_34 in_Pr t_Pr ty_Pr rfl kc_SD_27 wi_Pr wn_Pr df_Pr (Nat.le_of_ble_eq_true rfl) (Nat.le_of_ble_eq_true rfl) (fun pr hpr => ?_)
  obtain ⟨g7, hgg7⟩ : ∃ x, x = gh_up g6 pr 4 (.inr (5, [.null, .int 0, .int 0])) := ⟨_, rfl⟩
  rw [← hgg7]
  have mg7 : gh_M [] g6 g7 := by rw [hgg7]; exact gh_M.nw hpr
  replace ht := ht.M mg7 (by decide) (by decide)
  replace hln := hln.M mg7 (by decide)
  replace q_a := mg7 _ 0 _ q_a (by decide)
  have q_pr : g7 pr = some (4, (.inr (5, [.null, .int 0, .int 0]))) := by rw [hgg7]; exact gh_us
  clear hgg7
  show gh_W l G _ X g7 4 2060 [some (.ref a)] 37 [.ref pr, .ref a]
  refine gh_dup hK d_SD_init_37 rfl ?_
  refine gh_callI (rest := [.ref pr, .ref a]) [] hK (c_Pr_init l G q_pr) Y_Pr_init rfl V_Pr_init km_SD_29 rfl d_SD_init_38 rfl rfl (Nat.le_of_ble_eq_true rfl) ⟨(Nat.le_of_ble_eq_true rfl), (Nat.le_of_ble_eq_true rfl)⟩ ⟨(Nat.le_of_ble_eq_true rfl), (Nat.le_of_ble_eq_true rfl)⟩ (fun v g8 hp => ?_)
  obtain ⟨rfl, pl, pb, hpr, mg8⟩ := hp
  show gh_W l G _ X g8 6 8062 [some (.ref a)] 41 [.ref pr, .ref a]
  replace ht := ht.M mg8 (by decide) (by decide)
  replace hln := hln.M mg8 (by decide)
  replace q_a := mg8 _ 0 _ q_a (by decide)
  refine gh_putF hK (hI rfl) (fs' := [.ref tx1, .ref ln, .ref pr, .null, .null, .null, .null, .null]) d_SD_init_41 in_SD t_SD ty_SD nm_SD rfl q_a 2 (by decide) kf_SD_30 rfl rfl (by first | rfl | (cases fr <;> rfl)) (by first | rfl | (cases fr <;> rfl)) (Nat.le_of_ble_eq_true rfl) rfl ?_
  obtain ⟨g9, hgg9⟩ : ∃ x, x = gh_up g8 a 0 (.inr (0, [.ref tx1, .ref ln, .ref pr, .null, .null, .null, .null, .null])) := ⟨_, rfl⟩
  rw [← hgg9]
  have mg9 : gh_M [0] g8 g9 := by rw [hgg9]; exact gh_M.up q_a (by decide)
  replace ht := ht.M mg9 (by decide) (by decide)
  replace hln := hln.M mg9 (by decide)
  replace hpr := hpr.M mg9 (by decide) (by decide) (by decide)
  have q_a : g9 a = some (0, (.inr (0, [.ref tx1, .ref ln, .ref pr, .null, .null, .null, .null, .null]))) := by rw [hgg9]; exact gh_us
  clear hgg9
  show gh_W l G _ X g9 6 8062 [some (.ref a)] 44 []
  refine gh_aload_n hK d_SD_init_44 rfl ?_
  refine gh_new (ci := 1) (fs := [.null]) 7 hK d_SD_init_45 in_Dc t_Dc ty_Dc rfl kc_SD_34 wi_Dc wn_Dc df_Dc (Nat.le_of_ble_eq_true rfl) (Nat.le_of_ble_eq_true rfl) (fun dc hdc => ?_)
  obtain ⟨g10, hgg10⟩ : ∃ x, x = gh_up g9 dc 7 (.inr (1, [.null])) := ⟨_, rfl⟩
  rw [← hgg10]
  have mg10 : gh_M [] g9 g10 := by rw [hgg10]; exact gh_M.nw hdc
  replace ht := ht.M mg10 (by decide) (by decide)
  replace hln := hln.M mg10 (by decide)
  replace hpr := hpr.M mg10 (by decide) (by decide) (by decide)
  replace q_a := mg10 _ 0 _ q_a (by decide)
  have q_dc : g10 dc = some (7, (.inr (1, [.null]))) := by rw [hgg10]; exact gh_us
  clear hgg10
  show gh_W l G _ X g10 7 8063 [some (.ref a)] 48 [.ref dc, .ref a]
  refine gh_dup hK d_SD_init_48 rfl ?_
  refine gh_callI (rest := [.ref dc, .ref a]) [] hK (c_Dc_init l G q_dc) Y_Dc_init rfl V_Dc_init km_SD_36 rfl d_SD_init_49 rfl rfl (Nat.le_of_ble_eq_true rfl) ⟨(Nat.le_of_ble_eq_true rfl), (Nat.le_of_ble_eq_true rfl)⟩ ⟨(Nat.le_of_ble_eq_true rfl), (Nat.le_of_ble_eq_true rfl)⟩ (fun v g11 hp => ?_)
  obtain ⟨rfl, da, hdc, mg11⟩ := hp
  show gh_W l G _ X g11 8 8066 [some (.ref a)] 52 [.ref dc, .ref a]
  replace ht := ht.M mg11 (by decide) (by decide)
  replace hln := hln.M mg11 (by decide)
  replace hpr := hpr.M mg11 (by decide) (by decide) (by decide)
  replace q_a := mg11 _ 0 _ q_a (by decide)
  refine gh_putF hK (hI rfl) (fs' := [.ref tx1, .ref ln, .ref pr, .ref dc, .null, .null, .null, .null]) d_SD_init_52 in_SD t_SD ty_SD nm_SD rfl q_a 3 (by decide) kf_SD_37 rfl rfl (by first | rfl | (cases fr <;> rfl)) (by first | rfl | (cases fr <;> rfl)) (Nat.le_of_ble_eq_true rfl) rfl ?_
  obtain ⟨g12, hgg12⟩ : ∃ x, x = gh_up g11 a 0 (.inr (0, [.ref tx1, .ref ln, .ref pr, .ref dc, .null, .null, .null, .null])) := ⟨_, rfl⟩
  rw [← hgg12]
  have mg12 : gh_M [0] g11 g12 := by rw [hgg12]; exact gh_M.up q_a (by decide)
  replace ht := ht.M mg12 (by decide) (by decide)
  replace hln := hln.M mg12 (by decide)
  replace hpr := hpr.M mg12 (by decide) (by decide) (by decide)
  replace hdc := hdc.M mg12 (by decide)
  have q_a : g12 a = some (0, (.inr (0, [.ref tx1, .ref ln, .ref pr, .ref dc, .null, .null, .null, .null]))) := by rw [hgg12]; exact gh_us
  clear hgg12
  show gh_W l G _ X g12 8 8066 [some (.ref a)] 55 []
  refine gh_aload_n hK d_SD_init_55 rfl ?_
  refine gh_new (ci := 7) (fs := [.int 0, .null, .null]) 10 hK d_SD_init_56 in_Rs t_Rs ty_Rs rfl kc_SD_41 wi_Rs wn_Rs df_Rs (Nat.le_of_ble_eq_true rfl) (Nat.le_of_ble_eq_true rfl) (fun r1 hr1 => ?_)
  obtain ⟨g13, hgg13⟩ : ∃ x, x = gh_up g12 r1 10 (.inr (7, [.int 0, .null, .null])) := ⟨_, rfl⟩
  rw [← hgg13]
  have mg13 : gh_M [] g12 g13 := by rw [hgg13]; exact gh_M.nw hr1
  replace ht := ht.M mg13 (by decide) (by decide)
  replace hln := hln.M mg13 (by decide)
  replace hpr := hpr.M mg13 (by decide) (by decide) (by decide)
  replace hdc := hdc.M mg13 (by decide)
  replace q_a := mg13 _ 0 _ q_a (by decide)
  have q_r1 : g13 r1 = some (10, (.inr (7, [.int 0, .null, .null]))) := by rw [hgg13]; exact gh_us
  clear hgg13
  show gh_W l G _ X g13 9 8069 [some (.ref a)] 59 [.ref r1, .ref a]
  refine gh_dup hK d_SD_init_59 rfl ?_
  refine gh_iconst (v := nI 1) hK d_SD_init_60 (by decide) ?_
  show gh_W l G _ X g13 9 8069 [some (.ref a)] 61 [.int (nI (bn true)), .ref r1, .ref r1, .ref a]
  refine gh_callI (rest := [.ref r1, .ref a]) [.int (nI (bn true))] hK (c_Rs_init10 l G q_r1) Y_Rs_init rfl V_Rs_init km_SD_43 rfl d_SD_init_61 rfl rfl (Nat.le_of_ble_eq_true rfl) ⟨(Nat.le_of_ble_eq_true rfl), (Nat.le_of_ble_eq_true rfl)⟩ ⟨(Nat.le_of_ble_eq_true rfl), (Nat.le_of_ble_eq_true rfl)⟩ (fun v g14 hp => ?_)
  obtain ⟨rfl, r1a, r1n, hr1s, mg14⟩ := hp
  show gh_W l G _ X g14 13 8079 [some (.ref a)] 64 [.ref r1, .ref a]
  replace ht := ht.M mg14 (by decide) (by decide)
  replace hln := hln.M mg14 (by decide)
  replace hpr := hpr.M mg14 (by decide) (by decide) (by decide)
  replace hdc := hdc.M mg14 (by decide)
  replace q_a := mg14 _ 0 _ q_a (by decide)
  refine gh_putF hK (hI rfl) (fs' := [.ref tx1, .ref ln, .ref pr, .ref dc, .ref r1, .null, .null, .null]) d_SD_init_64 in_SD t_SD ty_SD nm_SD rfl q_a 4 (by decide) kf_SD_46 rfl rfl (by first | rfl | (cases fr <;> rfl)) (by first | rfl | (cases fr <;> rfl)) (Nat.le_of_ble_eq_true rfl) rfl ?_
  obtain ⟨g15, hgg15⟩ : ∃ x, x = gh_up g14 a 0 (.inr (0, [.ref tx1, .ref ln, .ref pr, .ref dc, .ref r1, .null, .null, .null])) := ⟨_, rfl⟩
  rw [← hgg15]
  have mg15 : gh_M [0] g14 g15 := by rw [hgg15]; exact gh_M.up q_a (by decide)
  replace ht := ht.M mg15 (by decide) (by decide)
  replace hln := hln.M mg15 (by decide)
  replace hpr := hpr.M mg15 (by decide) (by decide) (by decide)
  replace hdc := hdc.M mg15 (by decide)
  replace hr1s := hr1s.M mg15 (by decide)
  have q_a : g15 a = some (0, (.inr (0, [.ref tx1, .ref ln, .ref pr, .ref dc, .ref r1, .null, .null, .null]))) := by rw [hgg15]; exact gh_us
  clear hgg15
  show gh_W l G _ X g15 13 8079 [some (.ref a)] 67 []
  refine gh_aload_n hK d_SD_init_67 rfl ?_
  refine gh_new (ci := 7) (fs := [.int 0, .null, .null]) 20 hK d_SD_init_68 in_Rs t_Rs ty_Rs rfl kc_SD_41 wi_Rs wn_Rs df_Rs (Nat.le_of_ble_eq_true rfl) (Nat.le_of_ble_eq_true rfl) (fun r2 hr2 => ?_)
  obtain ⟨g16, hgg16⟩ : ∃ x, x = gh_up g15 r2 20 (.inr (7, [.int 0, .null, .null])) := ⟨_, rfl⟩
  rw [← hgg16]
  have mg16 : gh_M [] g15 g16 := by rw [hgg16]; exact gh_M.nw hr2
  replace ht := ht.M mg16 (by decide) (by decide)
  replace hln := hln.M mg16 (by decide)
  replace hpr := hpr.M mg16 (by decide) (by decide) (by decide)
  replace hdc := hdc.M mg16 (by decide)
  replace hr1s := hr1s.M mg16 (by decide)
  replace q_a := mg16 _ 0 _ q_a (by decide)
  have q_r2 : g16 r2 = some (20, (.inr (7, [.int 0, .null, .null]))) := by rw [hgg16]; exact gh_us
  clear hgg16
  show gh_W l G _ X g16 14 8082 [some (.ref a)] 71 [.ref r2, .ref a]
  refine gh_dup hK d_SD_init_71 rfl ?_
  refine gh_iconst (v := nI 0) hK d_SD_init_72 (by decide) ?_
  show gh_W l G _ X g16 14 8082 [some (.ref a)] 73 [.int (nI (bn false)), .ref r2, .ref r2, .ref a]
  refine gh_callI (rest := [.ref r2, .ref a]) [.int (nI (bn false))] hK (c_Rs_init20 l G q_r2) Y_Rs_init rfl V_Rs_init km_SD_43 rfl d_SD_init_73 rfl rfl (Nat.le_of_ble_eq_true rfl) ⟨(Nat.le_of_ble_eq_true rfl), (Nat.le_of_ble_eq_true rfl)⟩ ⟨(Nat.le_of_ble_eq_true rfl), (Nat.le_of_ble_eq_true rfl)⟩ (fun v g17 hp => ?_)
  obtain ⟨rfl, r2a, r2n, hr2s, mg17⟩ := hp
  show gh_W l G _ X g17 18 8092 [some (.ref a)] 76 [.ref r2, .ref a]
  replace ht := ht.M mg17 (by decide) (by decide)
  replace hln := hln.M mg17 (by decide)
  replace hpr := hpr.M mg17 (by decide) (by decide) (by decide)
  replace hdc := hdc.M mg17 (by decide)
  replace hr1s := hr1s.M mg17 (by decide)
  replace q_a := mg17 _ 0 _ q_a (by decide)
  refine gh_putF hK (hI rfl) (fs' := [.ref tx1, .ref ln, .ref pr, .ref dc, .ref r1, .ref r2, .null, .null]) d_SD_init_76 in_SD t_SD ty_SD nm_SD rfl q_a 5 (by decide) kf_SD_50 rfl rfl (by first | rfl | (cases fr <;> rfl)) (by first | rfl | (cases fr <;> rfl)) (Nat.le_of_ble_eq_true rfl) rfl ?_
  obtain ⟨g18, hgg18⟩ : ∃ x, x = gh_up g17 a 0 (.inr (0, [.ref tx1, .ref ln, .ref pr, .ref dc, .ref r1, .ref r2, .null, .null])) := ⟨_, rfl⟩
  rw [← hgg18]
  have mg18 : gh_M [0] g17 g18 := by rw [hgg18]; exact gh_M.up q_a (by decide)
  replace ht := ht.M mg18 (by decide) (by decide)
  replace hln := hln.M mg18 (by decide)
  replace hpr := hpr.M mg18 (by decide) (by decide) (by decide)
  replace hdc := hdc.M mg18 (by decide)
  replace hr1s := hr1s.M mg18 (by decide)
  replace hr2s := hr2s.M mg18 (by decide)
  have q_a : g18 a = some (0, (.inr (0, [.ref tx1, .ref ln, .ref pr, .ref dc, .ref r1, .ref r2, .null, .null]))) := by rw [hgg18]; exact gh_us
  clear hgg18
  show gh_W l G _ X g18 18 8092 [some (.ref a)] 79 []
  refine gh_aload_n hK d_SD_init_79 rfl ?_
  refine gh_new (ci := 8) (fs := [.null, .null, .null, .null, .null, .null, .null, .int 0]) 30 hK d_SD_init_80 in_Sp t_Sp ty_Sp rfl kc_SD_53 wi_Sp wn_Sp df_Sp (Nat.le_of_ble_eq_true rfl) (Nat.le_of_ble_eq_true rfl) (fun sp hsp => ?_)
  obtain ⟨g19, hgg19⟩ : ∃ x, x = gh_up g18 sp 30 (.inr (8, [.null, .null, .null, .null, .null, .null, .null, .int 0])) := ⟨_, rfl⟩
  rw [← hgg19]
  have mg19 : gh_M [] g18 g19 := by rw [hgg19]; exact gh_M.nw hsp
  replace ht := ht.M mg19 (by decide) (by decide)
  replace hln := hln.M mg19 (by decide)
  replace hpr := hpr.M mg19 (by decide) (by decide) (by decide)
  replace hdc := hdc.M mg19 (by decide)
  replace hr1s := hr1s.M mg19 (by decide)
  replace hr2s := hr2s.M mg19 (by decide)
  replace q_a := mg19 _ 0 _ q_a (by decide)
  have q_sp : g19 sp = some (30, (.inr (8, [.null, .null, .null, .null, .null, .null, .null, .int 0]))) := by rw [hgg19]; exact gh_us
  clear hgg19
  show gh_W l G _ X g19 19 8100 [some (.ref a)] 83 [.ref sp, .ref a]
  refine gh_dup hK d_SD_init_83 rfl ?_
  refine gh_aload_n hK d_SD_init_84 rfl ?_
  refine gh_get hK d_SD_init_85 in_SD rfl q_a 3 (by decide) kf_SD_37 rfl rfl ?_
  refine gh_aload_n hK d_SD_init_88 rfl ?_
  refine gh_get hK d_SD_init_89 in_SD rfl q_a 4 (by decide) kf_SD_46 rfl rfl ?_
  refine gh_aload_n hK d_SD_init_92 rfl ?_
  refine gh_get hK d_SD_init_93 in_SD rfl q_a 5 (by decide) kf_SD_50 rfl rfl ?_
  refine gh_callI (rest := [.ref sp, .ref a]) [.ref dc, .ref r1, .ref r2] hK (c_Sp_init l G (da := dc) (p1 := r1) (p2 := r2) q_sp) Y_Sp_init rfl V_Sp_init km_SD_55 rfl d_SD_init_96 rfl rfl (Nat.le_of_ble_eq_true rfl) ⟨(Nat.le_of_ble_eq_true rfl), (Nat.le_of_ble_eq_true rfl)⟩ ⟨(Nat.le_of_ble_eq_true rfl), (Nat.le_of_ble_eq_true rfl)⟩ (fun v g20 hp => ?_)
  obtain ⟨rfl, b1, b2, wy, f1, f2, w1, w2, w3, q_sp2, hb, q_wy, hf, hw, mg20⟩ := hp
  show gh_W l G _ X g20 27 10635 [some (.ref a)] 99 [.ref sp, .ref a]
  replace ht := ht.M mg20 (by decide) (by decide)
  replace hln := hln.M mg20 (by decide)
  replace hpr := hpr.M mg20 (by decide) (by decide) (by decide)
  replace hdc := hdc.M mg20 (by decide)
  replace hr1s := hr1s.M mg20 (by decide)
  replace hr2s := hr2s.M mg20 (by decide)
  replace q_a := mg20 _ 0 _ q_a (by decide)
  refine gh_putF hK (hI rfl) (fs' := [.ref tx1, .ref ln, .ref pr, .ref dc, .ref r1, .ref r2, .ref sp, .null]) d_SD_init_99 in_SD t_SD ty_SD nm_SD rfl q_a 6 (by decide) kf_SD_58 rfl rfl (by first | rfl | (cases fr <;> rfl)) (by first | rfl | (cases fr <;> rfl)) (Nat.le_of_ble_eq_true rfl) rfl ?_
  obtain ⟨g21, hgg21⟩ : ∃ x, x = gh_up g20 a 0 (.inr (0, [.ref tx1, .ref ln, .ref pr, .ref dc, .ref r1, .ref r2, .ref sp, .null])) := ⟨_, rfl⟩
  rw [← hgg21]
  have mg21 : gh_M [0] g20 g21 := by rw [hgg21]; exact gh_M.up q_a (by decide)
  replace ht := ht.M mg21 (by decide) (by decide)
  replace hln := hln.M mg21 (by decide)
  replace hpr := hpr.M mg21 (by decide) (by decide) (by decide)
  replace hdc := hdc.M mg21 (by decide)
  replace hr1s := hr1s.M mg21 (by decide)
  replace hr2s := hr2s.M mg21 (by decide)
  replace q_sp2 := mg21 _ 30 _ q_sp2 (by decide)
  replace hb := hb.M mg21 (by decide) (by decide)
  replace q_wy := mg21 _ 33 _ q_wy (by decide)
  replace hf := hf.M mg21 (by decide) (by decide)
  replace hw := hw.M mg21 (by decide) (by decide) (by decide)
  have q_a : g21 a = some (0, (.inr (0, [.ref tx1, .ref ln, .ref pr, .ref dc, .ref r1, .ref r2, .ref sp, .null]))) := by rw [hgg21]; exact gh_us
  clear hgg21
  show gh_W l G _ X g21 27 10635 [some (.ref a)] 102 []
  refine gh_aload_n hK d_SD_init_102 rfl ?_
  refine gh_new (ci := 9) (fs := [.null, .null, .null, .int 0]) 40 hK d_SD_init_103 in_Wl t_Wl ty_Wl rfl kc_SD_62 wi_Wl wn_Wl df_Wl (Nat.le_of_ble_eq_true rfl) (Nat.le_of_ble_eq_true rfl) (fun as has => ?_)
  obtain ⟨g22, hgg22⟩ : ∃ x, x = gh_up g21 as 40 (.inr (9, [.null, .null, .null, .int 0])) := ⟨_, rfl⟩
  rw [← hgg22]
  have mg22 : gh_M [] g21 g22 := by rw [hgg22]; exact gh_M.nw has
  replace ht := ht.M mg22 (by decide) (by decide)
  replace hln := hln.M mg22 (by decide)
  replace hpr := hpr.M mg22 (by decide) (by decide) (by decide)
  replace hdc := hdc.M mg22 (by decide)
  replace hr1s := hr1s.M mg22 (by decide)
  replace hr2s := hr2s.M mg22 (by decide)
  replace q_sp2 := mg22 _ 30 _ q_sp2 (by decide)
  replace hb := hb.M mg22 (by decide) (by decide)
  replace q_wy := mg22 _ 33 _ q_wy (by decide)
  replace hf := hf.M mg22 (by decide) (by decide)
  replace hw := hw.M mg22 (by decide) (by decide) (by decide)
  replace q_a := mg22 _ 0 _ q_a (by decide)
  have q_as : g22 as = some (40, (.inr (9, [.null, .null, .null, .int 0]))) := by rw [hgg22]; exact gh_us
  clear hgg22
  show gh_W l G _ X g22 28 10639 [some (.ref a)] 106 [.ref as, .ref a]
  refine gh_dup hK d_SD_init_106 rfl ?_
  refine gh_aload_n hK d_SD_init_107 rfl ?_
  refine gh_get hK d_SD_init_108 in_SD rfl q_a 0 (by decide) kf_SD_14 rfl rfl ?_
  refine gh_sipush (v := nI 1024) hK d_SD_init_111 (by decide) ?_
  refine gh_callI (rest := [.ref as, .ref a]) [.ref tx1, .int (nI 1024)] hK (c_Wl_init40 l G (ra := tx1) q_as) Y_Wl_init rfl V_Wl_init km_SD_64 rfl d_SD_init_114 rfl rfl (Nat.le_of_ble_eq_true rfl) ⟨(Nat.le_of_ble_eq_true rfl), (Nat.le_of_ble_eq_true rfl)⟩ ⟨(Nat.le_of_ble_eq_true rfl), (Nat.le_of_ble_eq_true rfl)⟩ (fun v g23 hp => ?_)
  obtain ⟨rfl, as1, as2, has, mg23⟩ := hp
  show gh_W l G _ X g23 30 12687 [some (.ref a)] 117 [.ref as, .ref a]
  replace ht := ht.M mg23 (by decide) (by decide)
  replace hln := hln.M mg23 (by decide)
  replace hpr := hpr.M mg23 (by decide) (by decide) (by decide)
  replace hdc := hdc.M mg23 (by decide)
  replace hr1s := hr1s.M mg23 (by decide)
  replace hr2s := hr2s.M mg23 (by decide)
  replace q_sp2 := mg23 _ 30 _ q_sp2 (by decide)
  replace hb := hb.M mg23 (by decide) (by decide)
  replace q_wy := mg23 _ 33 _ q_wy (by decide)
  replace hf := hf.M mg23 (by decide) (by decide)
  replace hw := hw.M mg23 (by decide) (by decide) (by decide)
  replace q_a := mg23 _ 0 _ q_a (by decide)
  refine gh_putF hK (hI rfl) (fs' := [.ref tx1, .ref ln, .ref pr, .ref dc, .ref r1, .ref r2, .ref sp, .ref as]) d_SD_init_117 in_SD t_SD ty_SD nm_SD rfl q_a 7 (by decide) kf_SD_67 rfl rfl (by first | rfl | (cases fr <;> rfl)) (by first | rfl | (cases fr <;> rfl)) (Nat.le_of_ble_eq_true rfl) rfl ?_
  obtain ⟨g24, hgg24⟩ : ∃ x, x = gh_up g23 a 0 (.inr (0, [.ref tx1, .ref ln, .ref pr, .ref dc, .ref r1, .ref r2, .ref sp, .ref as])) := ⟨_, rfl⟩
  rw [← hgg24]
  have mg24 : gh_M [0] g23 g24 := by rw [hgg24]; exact gh_M.up q_a (by decide)
  replace ht := ht.M mg24 (by decide) (by decide)
  replace hln := hln.M mg24 (by decide)
  replace hpr := hpr.M mg24 (by decide) (by decide) (by decide)
  replace hdc := hdc.M mg24 (by decide)
  replace hr1s := hr1s.M mg24 (by decide)
  replace hr2s := hr2s.M mg24 (by decide)
  replace q_sp2 := mg24 _ 30 _ q_sp2 (by decide)
  replace hb := hb.M mg24 (by decide) (by decide)
  replace q_wy := mg24 _ 33 _ q_wy (by decide)
  replace hf := hf.M mg24 (by decide) (by decide)
  replace hw := hw.M mg24 (by decide) (by decide) (by decide)
  replace has := has.M mg24 (by decide) (by decide) (by decide)
  have q_a : g24 a = some (0, (.inr (0, [.ref tx1, .ref ln, .ref pr, .ref dc, .ref r1, .ref r2, .ref sp, .ref as]))) := by rw [hgg24]; exact gh_us
  clear hgg24
  show gh_W l G _ X g24 30 12687 [some (.ref a)] 120 []
  refine gh_vret hK hE d_SD_init_120 (Nat.le_of_ble_eq_true rfl) (Nat.le_of_ble_eq_true rfl) ⟨rfl, mkA a tx1 tx2 ln pr pl pb dc da r1 r1a r1n r2 r2a r2n sp b1 b2 wy f1 f2 w1 w2 w3 as as1 as2, rfl, ⟨⟨q_a, ⟨[], q_sp2, ⟨_, q_wy, fun i x hx => by cases hx⟩, trivial, Nat.zero_le _, (fun y hy => by cases hy), ⟨[], hb⟩, gh_M.rf⟩, ⟨[], [], hf, hw, (fun p hp => by cases hp), trivial⟩, ⟨[], has⟩⟩, ⟨hdc, hr1s, hr2s, ht⟩, ⟨⟨trivial, Nat.zero_le _, Nat.zero_le _, Nat.zero_le _, (fun x hx => by cases hx), (fun x hx => by cases hx), fun x hx => by cases hx⟩, (fun x hx => by cases hx), (fun x hx => by cases hx), fun x hx => by cases hx⟩⟩, hpr, hln, ?_⟩
  exact (gh_M.tr (gh_M.tr (gh_M.tr (gh_M.tr (gh_M.tr (gh_M.tr (gh_M.tr (gh_M.tr (gh_M.tr (gh_M.tr (gh_M.tr (gh_M.tr (gh_M.tr (gh_M.tr (gh_M.tr (gh_M.tr (gh_M.tr (gh_M.tr (gh_M.tr (gh_M.tr (gh_M.tr (gh_M.tr (gh_M.tr (mg1.wd (by decide)) (mg2.wd (by decide))) (mg3.wd (by decide))) (mg4.wd (by decide))) (mg5.wd (by decide))) (mg6.wd (by decide))) (mg7.wd (by decide))) (mg8.wd (by decide))) (mg9.wd (by decide))) (mg10.wd (by decide))) (mg11.wd (by decide))) (mg12.wd (by decide))) (mg13.wd (by decide))) (mg14.wd (by decide))) (mg15.wd (by decide))) (mg16.wd (by decide))) (mg17.wd (by decide))) (mg18.wd (by decide))) (mg19.wd (by decide))) (mg20.wd (by decide))) (mg21.wd (by decide))) (mg22.wd (by decide))) (mg23.wd (by decide))) (mg24.wd (by decide)))
