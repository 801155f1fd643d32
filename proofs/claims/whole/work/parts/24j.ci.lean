set_option maxRecDepth 20000 in
set_option maxHeartbeats 4000000 in
theorem c_En_init (l : Launch) (G : GG) {g : GH} {a t : Nat} {wa fl : Nat} (h : g a = some (t, .inr (2, [.null, .int 0])))  : gMet l G y_En_init b_En_init 3 none (rmk 1 0 0 20) [.ref a, .ref wa, .int (nI fl)] g (fun v g' => v = none ∧ g' a = some (t, .inr (2, [.ref wa, .int (nI fl)])) ∧ gh_N [a] g g') := by
  refine gMet.of [some (.ref a), some (.ref wa), some (.int (nI fl))] (by decide +kernel) rfl (Nat.le_of_ble_eq_true rfl) rfl (fun X hK hI hE => ?_)
  refine gh_aload_n hK d_En_init_0 rfl ?_
  refine gh_objInit hK d_En_init_1 km_En_1 w_oi w_oc rfl (Nat.le_of_ble_eq_true rfl) (Nat.le_of_ble_eq_true rfl) ?_
  refine gh_aload_n hK d_En_init_4 rfl ?_
  refine gh_aload_n hK d_En_init_5 rfl ?_
  refine gh_putF hK (hI rfl) (fs' := [.ref wa, .int 0]) d_En_init_6 in_En t_En ty_En nm_En rfl h 0 (by decide) kf_En_7 rfl rfl rfl rfl (Nat.le_of_ble_eq_true rfl) rfl ?_
  refine gh_aload_n hK d_En_init_9 rfl ?_
  refine gh_iload_n hK d_En_init_10 rfl ?_
  refine gh_put hK (fs' := [.ref wa, .int (nI fl)]) d_En_init_11 in_En t_En ty_En nm_En rfl gh_us 1 (by decide) kf_En_13 rfl rfl rfl rfl (Nat.le_of_ble_eq_true rfl) rfl ?_
  exact gh_vret hK hE d_En_init_14 (Nat.le_of_ble_eq_true rfl) (Nat.le_of_ble_eq_true rfl) ⟨rfl, gh_us, gh_N.tr (gh_N.up (by simp)) (gh_N.up (by simp))⟩
set_option maxRecDepth 20000 in
set_option maxHeartbeats 4000000 in
theorem c_Ru_init (l : Launch) (G : GG) {g : GH} {a t : Nat} {fr : Bool} {fl sa aa ca : Nat} (h : g a = some (t, .inr (6, [.int 0, .int 0, .null, .null, .null])))  : gMet l G y_Ru_init b_Ru_init 6 none (rmk 1 0 0 20) [.ref a, .int (nI (bn fr)), .int (nI fl), .ref sa, .ref aa, .ref ca] g (fun v g' => v = none ∧ g' a = some (t, .inr (6, [.int (nI (bn fr)), .int (nI fl), .ref sa, .ref aa, .ref ca])) ∧ gh_N [a] g g') := by
  refine gMet.of [some (.ref a), some (.int (nI (bn fr))), some (.int (nI fl)), some (.ref sa), some (.ref aa), some (.ref ca)] (by decide +kernel) rfl (Nat.le_of_ble_eq_true rfl) rfl (fun X hK hI hE => ?_)
  refine gh_aload_n hK d_Ru_init_0 rfl ?_
  refine gh_objInit hK d_Ru_init_1 km_Ru_3 w_oi w_oc rfl (Nat.le_of_ble_eq_true rfl) (Nat.le_of_ble_eq_true rfl) ?_
  refine gh_aload_n hK d_Ru_init_4 rfl ?_
  refine gh_iload_n hK d_Ru_init_5 rfl ?_
  refine gh_putF hK (hI rfl) (fs' := [.int (nI (bn fr)), .int 0, .null, .null, .null]) d_Ru_init_6 in_Ru t_Ru ty_Ru nm_Ru rfl h 0 (by decide) kf_Ru_9 rfl rfl (by cases fr <;> rfl) (by cases fr <;> rfl) (Nat.le_of_ble_eq_true rfl) rfl ?_
  refine gh_aload_n hK d_Ru_init_9 rfl ?_
  refine gh_iload_n hK d_Ru_init_10 rfl ?_
  refine gh_putF hK (hI rfl) (fs' := [.int (nI (bn fr)), .int (nI fl), .null, .null, .null]) d_Ru_init_11 in_Ru t_Ru ty_Ru nm_Ru rfl gh_us 1 (by decide) kf_Ru_15 rfl rfl rfl rfl (Nat.le_of_ble_eq_true rfl) rfl ?_
  refine gh_aload_n hK d_Ru_init_14 rfl ?_
  refine gh_aload_n hK d_Ru_init_15 rfl ?_
  refine gh_putF hK (hI rfl) (fs' := [.int (nI (bn fr)), .int (nI fl), .ref sa, .null, .null]) d_Ru_init_16 in_Ru t_Ru ty_Ru nm_Ru rfl gh_us 2 (by decide) kf_Ru_19 rfl rfl rfl rfl (Nat.le_of_ble_eq_true rfl) rfl ?_
  refine gh_aload_n hK d_Ru_init_19 rfl ?_
  refine gh_aload hK d_Ru_init_20 rfl ?_
  refine gh_putF hK (hI rfl) (fs' := [.int (nI (bn fr)), .int (nI fl), .ref sa, .ref aa, .null]) d_Ru_init_22 in_Ru t_Ru ty_Ru nm_Ru rfl gh_us 3 (by decide) kf_Ru_23 rfl rfl rfl rfl (Nat.le_of_ble_eq_true rfl) rfl ?_
  refine gh_aload_n hK d_Ru_init_25 rfl ?_
  refine gh_aload hK d_Ru_init_26 rfl ?_
  refine gh_putF hK (hI rfl) (fs' := [.int (nI (bn fr)), .int (nI fl), .ref sa, .ref aa, .ref ca]) d_Ru_init_28 in_Ru t_Ru ty_Ru nm_Ru rfl gh_us 4 (by decide) kf_Ru_26 rfl rfl rfl rfl (Nat.le_of_ble_eq_true rfl) rfl ?_
  exact gh_vret hK hE d_Ru_init_31 (Nat.le_of_ble_eq_true rfl) (Nat.le_of_ble_eq_true rfl) ⟨rfl, gh_us, gh_N.tr (gh_N.tr (gh_N.tr (gh_N.tr (gh_N.up (by simp)) (gh_N.up (by simp))) (gh_N.up (by simp))) (gh_N.up (by simp))) (gh_N.up (by simp))⟩
