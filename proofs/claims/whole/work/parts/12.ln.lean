/-! truth values as ints; scanning -/
def bn (b : Bool) : Nat := if b = true then 1 else 0
theorem bn_t : bn true = 1 := rfl
theorem bn_f : bn false = 0 := rfl
theorem bn_nar (b : Bool) : narrow .boolean (.int (nI (bn b))) = .int (nI (bn b)) := by cases b <;> rfl
section GHB
variable {l : Launch} {G : GG} {R : Room} {X : GX} {cc : ByteArray} {nL : Nat} {own : String} {g : GH} {k n pc : Nat} {lv : List (Option Value)} {st : List Value}
theorem gh_if_eqB {b : Bool} {off : Int} {tgt : Nat} (hK : gh_K G X cc nL own) (hd : decode cc pc = .ok (.ifCond .eq off, 3)) (ht : (pc : Int) + off = (tgt : Int)) (kt : b = false → gh_W l G R X g k n lv tgt st) (kf : b = true → gh_W l G R X g k n lv (pc + 3) st) : gh_W l G R X g k n lv pc (.int (nI (bn b)) :: st) := by
  cases b with
  | false => exact gh_if_eqN hK hd ht (by decide) (fun _ => kt rfl) (fun z => absurd z (by decide))
  | true => exact gh_if_eqN hK hd ht (by decide) (fun z => absurd z (by decide)) (fun _ => kf rfl)
theorem gh_if_neB {b : Bool} {off : Int} {tgt : Nat} (hK : gh_K G X cc nL own) (hd : decode cc pc = .ok (.ifCond .ne off, 3)) (ht : (pc : Int) + off = (tgt : Int)) (kt : b = true → gh_W l G R X g k n lv tgt st) (kf : b = false → gh_W l G R X g k n lv (pc + 3) st) : gh_W l G R X g k n lv pc (.int (nI (bn b)) :: st) := by
  cases b with
  | false => exact gh_if_neN hK hd ht (by decide) (fun z => absurd z (by decide)) (fun _ => kf rfl)
  | true => exact gh_if_neN hK hd ht (by decide) (fun _ => kt rfl) (fun z => absurd z (by decide))
end GHB
def scF (p : Nat → Bool) : Nat → Nat → Nat
  | 0, i => i
  | f + 1, i => if p i = true then scF p f (i + 1) else i
def sc (p : Nat → Bool) (e i : Nat) : Nat := scF p (e - i) i
theorem sc_out {p : Nat → Bool} {e i : Nat} (h : e ≤ i) : sc p e i = i := by unfold sc; rw [show e - i = 0 by omega]; rfl
theorem sc_yes {p : Nat → Bool} {e i : Nat} (h : i < e) (hp : p i = true) : sc p e i = sc p e (i + 1) := by
  unfold sc
  rw [show e - i = (e - (i + 1)) + 1 by omega]
  show (if p i = true then _ else _) = _
  rw [if_pos hp]
theorem sc_no {p : Nat → Bool} {e i : Nat} (hp : ¬ p i = true) : sc p e i = i := by
  unfold sc
  cases e - i with
  | zero => rfl
  | succ n => exact if_neg hp
theorem scF_ge (p : Nat → Bool) : ∀ (f i : Nat), i ≤ scF p f i ∧ scF p f i ≤ i + f
  | 0, i => ⟨Nat.le_refl _, Nat.le_refl _⟩
  | f + 1, i => by
    rw [scF]
    split
    · have := scF_ge p f (i + 1); omega
    · omega
theorem sc_ge (p : Nat → Bool) (e i : Nat) : i ≤ sc p e i := (scF_ge p (e - i) i).1
theorem sc_le {p : Nat → Bool} {e i : Nat} (h : i ≤ e) : sc p e i ≤ e := by
  have := (scF_ge p (e - i) i).2
  unfold sc
  omega
theorem scF_all (p : Nat → Bool) : ∀ (f i j : Nat), i ≤ j → j < scF p f i → p j = true
  | 0, i, j, h1, h2 => by rw [scF] at h2; omega
  | f + 1, i, j, h1, h2 => by
    rw [scF] at h2
    split at h2
    · next hp =>
      by_cases hij : j = i
      · rw [hij]; exact hp
      · exact scF_all p f (i + 1) j (by omega) h2
    · omega
theorem sc_all {p : Nat → Bool} {e i j : Nat} (h1 : i ≤ j) (h2 : j < sc p e i) : p j = true := scF_all p (e - i) i j h1 h2
theorem scF_stop (p : Nat → Bool) : ∀ (f i : Nat), scF p f i < i + f → p (scF p f i) = false
  | 0, i, h => by rw [scF] at h; omega
  | f + 1, i, h => by
    rw [scF] at h ⊢
    split
    · next hp => rw [if_pos hp] at h; exact scF_stop p f (i + 1) (by omega)
    · next hp => exact Bool.eq_false_iff.mpr hp
theorem sc_stop {p : Nat → Bool} {e i : Nat} (h : sc p e i < e) (hi : i ≤ e) : p (sc p e i) = false := scF_stop p (e - i) i (by show sc p e i < _; omega)
/-- letters, spaces, the next piece -/
def isLet (c : Nat) : Bool := decide (97 ≤ c ∧ c ≤ 122)
def isCap (c : Nat) : Bool := decide (65 ≤ c ∧ c ≤ 90)
def isSpc (tx : List Nat) (i : Nat) : Bool := decide (tx.getD i 0 = 32)
def nxS (tx : List Nat) (le e : Nat) : Nat := sc (isSpc tx) le e
def nxE (tx : List Nat) (le e : Nat) : Nat := sc (fun i => !isSpc tx i) le (nxS tx le e)
theorem nxS_le {tx : List Nat} {le e : Nat} (h : e ≤ le) : e ≤ nxS tx le e ∧ nxS tx le e ≤ le := ⟨sc_ge _ _ _, sc_le h⟩
theorem nxE_le {tx : List Nat} {le e : Nat} (h : e ≤ le) : nxS tx le e ≤ nxE tx le e ∧ nxE tx le e ≤ le := ⟨sc_ge _ _ _, sc_le (nxS_le h).2⟩
/-! THE LINE -/
abbrev LnE (ta ls le s e wf wl : Nat) : va_E := .inr (4, [.ref ta, .int (nI ls), .int (nI le), .int (nI s), .int (nI e), .int (nI wf), .int (nI wl)])
def Ln (g : GH) (la ta ls le s e wf wl : Nat) : Prop := g la = some (3, LnE ta ls le s e wf wl)
theorem Ln.N {g g' : GH} {la ta ls le s e wf wl : Nat} {S : List Nat} (h : Ln g la ta ls le s e wf wl) (hN : gh_N S g g') (h1 : la ∉ S) : Ln g' la ta ls le s e wf wl := by
  unfold Ln at h ⊢
  rw [hN la h1 (by rw [h]; exact fun z => by cases z)]
  exact h
theorem Ln.M {g g' : GH} {la ta ls le s e wf wl : Nat} {S : List Nat} (h : Ln g la ta ls le s e wf wl) (hM : gh_M S g g') (h1 : 3 ∉ S) : Ln g' la ta ls le s e wf wl := hM la 3 _ h h1
theorem Ln.toM {g g' : GH} {la ta ls le s e wf wl : Nat} (h : Ln g la ta ls le s e wf wl) (hN : gh_N [la] g g') : gh_M [3] g g' := hN.M fun a ha => by
  rw [List.mem_singleton.mp ha]
  exact ⟨_, _, h, by decide⟩
theorem Ln.T {G : GG} {g g' : GH} {la ta ls le s e wf wl tb : Nat} {tx : List Nat} (h : Ln g la ta ls le s e wf wl) (hT : Lt G g ta 1 tb 2 2048 tx) (hN : gh_N [la] g g') : Lt G g' ta 1 tb 2 2048 tx := hT.M (h.toM hN) (by decide) (by decide)
set_option maxRecDepth 20000 in
set_option maxHeartbeats 4000000 in
theorem c_Ln_start (l : Launch) (G : GG) {g : GH} {la ta ls le s e wf wl : Nat} (h : Ln g la ta ls le s e wf wl) : gMet l G y_Ln_start b_Ln_start 1 (some .int) (rmk 0 0 0 0) [.ref la] g (fun v g' => v = some (.int (nI s)) ∧ g' = g) := by
  refine gMet.of [some (.ref la)] (by decide +kernel) rfl (Nat.le_of_ble_eq_true rfl) rfl (fun X hK hI hE => ?_)
  refine gh_aload_n hK d_Ln_start_0 rfl ?_
  refine gh_get hK d_Ln_start_1 in_Ln rfl h 3 (by decide) kf_Ln_22 rfl rfl ?_
  exact gh_iret hK hE d_Ln_start_4 (Nat.le_of_ble_eq_true rfl) (Nat.le_of_ble_eq_true rfl) ⟨rfl, rfl⟩
set_option maxRecDepth 20000 in
set_option maxHeartbeats 4000000 in
theorem c_Ln_wordFrom (l : Launch) (G : GG) {g : GH} {la ta ls le s e wf wl : Nat} (h : Ln g la ta ls le s e wf wl) : gMet l G y_Ln_wordFrom b_Ln_wordFrom 1 (some .int) (rmk 0 0 0 0) [.ref la] g (fun v g' => v = some (.int (nI wf)) ∧ g' = g) := by
  refine gMet.of [some (.ref la)] (by decide +kernel) rfl (Nat.le_of_ble_eq_true rfl) rfl (fun X hK hI hE => ?_)
  refine gh_aload_n hK d_Ln_wordFrom_0 rfl ?_
  refine gh_get hK d_Ln_wordFrom_1 in_Ln rfl h 5 (by decide) kf_Ln_38 rfl rfl ?_
  exact gh_iret hK hE d_Ln_wordFrom_4 (Nat.le_of_ble_eq_true rfl) (Nat.le_of_ble_eq_true rfl) ⟨rfl, rfl⟩
set_option maxRecDepth 20000 in
set_option maxHeartbeats 4000000 in
theorem c_Ln_wordLength (l : Launch) (G : GG) {g : GH} {la ta ls le s e wf wl : Nat} (h : Ln g la ta ls le s e wf wl) : gMet l G y_Ln_wordLength b_Ln_wordLength 1 (some .int) (rmk 0 0 0 0) [.ref la] g (fun v g' => v = some (.int (nI wl)) ∧ g' = g) := by
  refine gMet.of [some (.ref la)] (by decide +kernel) rfl (Nat.le_of_ble_eq_true rfl) rfl (fun X hK hI hE => ?_)
  refine gh_aload_n hK d_Ln_wordLength_0 rfl ?_
  refine gh_get hK d_Ln_wordLength_1 in_Ln rfl h 6 (by decide) kf_Ln_41 rfl rfl ?_
  exact gh_iret hK hE d_Ln_wordLength_4 (Nat.le_of_ble_eq_true rfl) (Nat.le_of_ble_eq_true rfl) ⟨rfl, rfl⟩
set_option maxRecDepth 20000 in
set_option maxHeartbeats 4000000 in
theorem c_Ln_place (l : Launch) (G : GG) {g : GH} {la ta ls le s e wf wl : Nat} (h : Ln g la ta ls le s e wf wl) (hs : ls ≤ s) : gMet l G y_Ln_place b_Ln_place 1 (some .int) (rmk 0 0 0 0) [.ref la] g (fun v g' => v = some (.int (nI (s - ls + 1))) ∧ g' = g) := by
  refine gMet.of [some (.ref la)] (by decide +kernel) rfl (Nat.le_of_ble_eq_true rfl) rfl (fun X hK hI hE => ?_)
  refine gh_aload_n hK d_Ln_place_0 rfl ?_
  refine gh_get hK d_Ln_place_1 in_Ln rfl h 3 (by decide) kf_Ln_22 rfl rfl ?_
  refine gh_aload_n hK d_Ln_place_4 rfl ?_
  refine gh_get hK d_Ln_place_5 in_Ln rfl h 1 (by decide) kf_Ln_15 rfl rfl ?_
  refine gh_subN hK d_Ln_place_8 (by omega) ?_
  refine gh_iconst (v := nI 1) hK d_Ln_place_9 (by decide) ?_
  refine gh_addN hK d_Ln_place_10 ?_
  exact gh_iret hK hE d_Ln_place_11 (Nat.le_of_ble_eq_true rfl) (Nat.le_of_ble_eq_true rfl) ⟨rfl, rfl⟩
set_option maxRecDepth 20000 in
set_option maxHeartbeats 4000000 in
theorem c_Ln_open (l : Launch) (G : GG) {g : GH} {la ta ls le s e wf wl : Nat} {fr to : Nat} (h : Ln g la ta ls le s e wf wl) : gMet l G y_Ln_open b_Ln_open 3 none (rmk 0 0 0 0) [.ref la, .int (nI fr), .int (nI to)] g (fun v g' => v = none ∧ Ln g' la ta fr to fr fr wf wl ∧ gh_N [la] g g') := by
  refine gMet.of [some (.ref la), some (.int (nI fr)), some (.int (nI to))] (by decide +kernel) rfl (Nat.le_of_ble_eq_true rfl) rfl (fun X hK hI hE => ?_)
  refine gh_aload_n hK d_Ln_open_0 rfl ?_
  refine gh_iload_n hK d_Ln_open_1 rfl ?_
  refine gh_put hK d_Ln_open_2 in_Ln t_Ln ty_Ln nm_Ln rfl h 1 (by decide) kf_Ln_15 rfl rfl rfl rfl (Nat.le_of_ble_eq_true rfl) rfl ?_
  refine gh_aload_n hK d_Ln_open_5 rfl ?_
  refine gh_iload_n hK d_Ln_open_6 rfl ?_
  refine gh_put hK d_Ln_open_7 in_Ln t_Ln ty_Ln nm_Ln rfl gh_us 2 (by decide) kf_Ln_19 rfl rfl rfl rfl (Nat.le_of_ble_eq_true rfl) rfl ?_
  refine gh_aload_n hK d_Ln_open_10 rfl ?_
  refine gh_iload_n hK d_Ln_open_11 rfl ?_
  refine gh_put hK d_Ln_open_12 in_Ln t_Ln ty_Ln nm_Ln rfl gh_us 3 (by decide) kf_Ln_22 rfl rfl rfl rfl (Nat.le_of_ble_eq_true rfl) rfl ?_
  refine gh_aload_n hK d_Ln_open_15 rfl ?_
  refine gh_iload_n hK d_Ln_open_16 rfl ?_
  refine gh_put hK d_Ln_open_17 in_Ln t_Ln ty_Ln nm_Ln rfl gh_us 4 (by decide) kf_Ln_25 rfl rfl rfl rfl (Nat.le_of_ble_eq_true rfl) rfl ?_
  exact gh_vret hK hE d_Ln_open_20 (Nat.le_of_ble_eq_true rfl) (Nat.le_of_ble_eq_true rfl) ⟨rfl, gh_us, ((gh_N.up (by simp)).tr (gh_N.up (by simp))).tr ((gh_N.up (by simp)).tr (gh_N.up (by simp)))⟩
set_option maxRecDepth 20000 in
set_option maxHeartbeats 4000000 in
theorem c_Ln_next (l : Launch) (G : GG) {g : GH} {la ta ls le s e wf wl : Nat} {tb : Nat} {tx : List Nat} (h : Ln g la ta ls le s e wf wl) (hT : Lt G g ta 1 tb 2 2048 tx) (he : e ≤ le) (hle : le ≤ tx.length) : gMet l G y_Ln_next b_Ln_next 1 (some .boolean) (rmk 1 0 0 21) [.ref la] g (fun v g' => v = some (.int (nI (bn (decide (nxS tx le e < nxE tx le e))))) ∧ Ln g' la ta ls le (nxS tx le e) (nxE tx le e) wf wl ∧ gh_N [la] g g') := by
  refine gMet.of [some (.ref la)] (by decide +kernel) rfl (Nat.le_of_ble_eq_true rfl) rfl (fun X hK hI hE => ?_)
  obtain ⟨ht1, ht2⟩ := hT.len
  have loop2 : ∀ (m i : Nat) (g1 : GH), i + m = le → sc (fun i => !isSpc tx i) le i = nxE tx le e → Ln g1 la ta ls le (nxS tx le e) i wf wl → gh_N [la] g g1 → gh_W l G (rmk 1 0 0 21) X g1 0 0 [some (.ref la)] 56 [] := by
    have fin : ∀ (g1 : GH), Ln g1 la ta ls le (nxS tx le e) (nxE tx le e) wf wl → gh_N [la] g g1 → gh_W l G (rmk 1 0 0 21) X g1 0 0 [some (.ref la)] 96 [] := by
      intro g1 h1 hN
      obtain ⟨b1, b2⟩ := nxS_le (tx := tx) he
      obtain ⟨b3, b4⟩ := nxE_le (tx := tx) he
      refine gh_aload_n hK d_Ln_next_96 rfl ?_
      refine gh_get hK d_Ln_next_97 in_Ln rfl h1 3 (by decide) kf_Ln_22 rfl rfl ?_
      refine gh_aload_n hK d_Ln_next_100 rfl ?_
      refine gh_get hK d_Ln_next_101 in_Ln rfl h1 4 (by decide) kf_Ln_25 rfl rfl ?_
      refine gh_icmp_geN hK d_Ln_next_104 (tgt := 111) (by decide) (by omega) (by omega) (fun z => ?_) (fun z => ?_)
      · refine gh_iconst (v := nI 0) hK d_Ln_next_111 (by decide) ?_
        exact gh_zret rfl hK hE d_Ln_next_112 (Nat.le_of_ble_eq_true rfl) (Nat.le_of_ble_eq_true rfl) ⟨by rw [decide_eq_false (by omega)]; rfl, h1, hN⟩
      · refine gh_iconst (v := nI 1) hK d_Ln_next_107 (by decide) ?_
        refine gh_goto (tgt := 112) hK d_Ln_next_108 (by decide) ?_
        exact gh_zret rfl hK hE d_Ln_next_112 (Nat.le_of_ble_eq_true rfl) (Nat.le_of_ble_eq_true rfl) ⟨by rw [decide_eq_true z]; rfl, h1, hN⟩
    intro m
    induction m with
    | zero =>
      intro i g1 hi hs h1 hN
      obtain rfl : i = le := by omega
      rw [sc_out (Nat.le_refl _)] at hs
      refine gh_aload_n hK d_Ln_next_56 rfl ?_
      refine gh_get hK d_Ln_next_57 in_Ln rfl h1 4 (by decide) kf_Ln_25 rfl rfl ?_
      refine gh_aload_n hK d_Ln_next_60 rfl ?_
      refine gh_get hK d_Ln_next_61 in_Ln rfl h1 2 (by decide) kf_Ln_19 rfl rfl ?_
      refine gh_icmp_geN hK d_Ln_next_64 (tgt := 96) (by decide) (by omega) (by omega) (fun z => ?_) (fun z => absurd z (by omega))
      exact fin g1 (by rw [← hs]; exact h1) hN
    | succ m ih =>
      intro i g1 hi hs h1 hN
      have hT1 := h.T hT hN
      refine gh_aload_n hK d_Ln_next_56 rfl ?_
      refine gh_get hK d_Ln_next_57 in_Ln rfl h1 4 (by decide) kf_Ln_25 rfl rfl ?_
      refine gh_aload_n hK d_Ln_next_60 rfl ?_
      refine gh_get hK d_Ln_next_61 in_Ln rfl h1 2 (by decide) kf_Ln_19 rfl rfl ?_
      refine gh_icmp_geN hK d_Ln_next_64 (tgt := 96) (by decide) (by omega) (by omega) (fun z => absurd z (by omega)) (fun z => ?_)
      refine gh_aload_n hK d_Ln_next_67 rfl ?_
      refine gh_get hK d_Ln_next_68 in_Ln rfl h1 0 (by decide) kf_Ln_9 rfl rfl ?_
      refine gh_aload_n hK d_Ln_next_71 rfl ?_
      refine gh_get hK d_Ln_next_72 in_Ln rfl h1 4 (by decide) kf_Ln_25 rfl rfl ?_
      refine gh_callV (rest := []) [.int (nI i)] hK (c_Lt_at l G hT1 (j := i) (by omega)) Y_Lt_at V_Lt_at km_Ln_28 hT1.ob rfl rfl d_Ln_next_75 rfl rfl (Nat.le_of_ble_eq_true rfl) ⟨(Nat.le_of_ble_eq_true rfl), (Nat.le_of_ble_eq_true rfl)⟩ ⟨(Nat.le_of_ble_eq_true rfl), (Nat.le_of_ble_eq_true rfl)⟩ (fun v g' hp => ?_)
      rw [hp.1, hp.2]
      show gh_W l G _ X g1 _ _ [some (.ref la)] 78 [.int (nI (tx.getD i 0))]
      refine gh_bipush (v := nI 32) hK d_Ln_next_78 (by decide) ?_
      have hch := hT1.getD i
      refine gh_icmp_eqN hK d_Ln_next_80 (tgt := 96) (by decide) (by omega) (by omega) (fun z2 => ?_) (fun z2 => ?_)
      · refine fin g1 ?_ hN
        rw [← hs, sc_no (by simp only [isSpc, decide_eq_true z2]; decide)]
        exact h1
      · refine gh_aload_n hK d_Ln_next_83 rfl ?_
        refine gh_dup hK d_Ln_next_84 rfl ?_
        refine gh_get hK d_Ln_next_85 in_Ln rfl h1 4 (by decide) kf_Ln_25 rfl rfl ?_
        refine gh_iconst (v := nI 1) hK d_Ln_next_88 (by decide) ?_
        refine gh_addN hK d_Ln_next_89 ?_
        refine gh_put hK d_Ln_next_90 in_Ln t_Ln ty_Ln nm_Ln rfl h1 4 (by decide) kf_Ln_25 rfl rfl rfl rfl (Nat.le_of_ble_eq_true rfl) rfl ?_
        refine gh_goto (tgt := 56) hK d_Ln_next_93 (by decide) ?_
        refine ih (i + 1) _ (by omega) ?_ gh_us (hN.tr (gh_N.up (by simp)))
        rw [← hs, sc_yes (i := i) (by omega) (by simp only [isSpc, decide_eq_false z2]; decide)]
  have loop1 : ∀ (m i : Nat) (g1 : GH) (e1 : Nat), i + m = le → sc (isSpc tx) le i = nxS tx le e → Ln g1 la ta ls le i e1 wf wl → gh_N [la] g g1 → gh_W l G (rmk 1 0 0 21) X g1 0 0 [some (.ref la)] 8 [] := by
    have mid : ∀ (i : Nat) (g1 : GH) (e1 : Nat), i = nxS tx le e → Ln g1 la ta ls le i e1 wf wl → gh_N [la] g g1 → gh_W l G (rmk 1 0 0 21) X g1 0 0 [some (.ref la)] 48 [] := by
      intro i g1 e1 hi h1 hN
      have hb := (nxS_le (tx := tx) he).2
      refine gh_aload_n hK d_Ln_next_48 rfl ?_
      refine gh_aload_n hK d_Ln_next_49 rfl ?_
      refine gh_get hK d_Ln_next_50 in_Ln rfl h1 3 (by decide) kf_Ln_22 rfl rfl ?_
      refine gh_put hK d_Ln_next_53 in_Ln t_Ln ty_Ln nm_Ln rfl h1 4 (by decide) kf_Ln_25 rfl rfl rfl rfl (Nat.le_of_ble_eq_true rfl) rfl ?_
      exact loop2 (le - i) i _ (by omega) (by rw [hi]; rfl) (by rw [hi]; exact gh_us) (hN.tr (gh_N.up (by simp)))
    intro m
    induction m with
    | zero =>
      intro i g1 e1 hi hs h1 hN
      obtain rfl : i = le := by omega
      rw [sc_out (Nat.le_refl _)] at hs
      refine gh_aload_n hK d_Ln_next_8 rfl ?_
      refine gh_get hK d_Ln_next_9 in_Ln rfl h1 3 (by decide) kf_Ln_22 rfl rfl ?_
      refine gh_aload_n hK d_Ln_next_12 rfl ?_
      refine gh_get hK d_Ln_next_13 in_Ln rfl h1 2 (by decide) kf_Ln_19 rfl rfl ?_
      refine gh_icmp_geN hK d_Ln_next_16 (tgt := 48) (by decide) (by omega) (by omega) (fun z => ?_) (fun z => absurd z (by omega))
      exact mid i g1 e1 hs h1 hN
    | succ m ih =>
      intro i g1 e1 hi hs h1 hN
      have hT1 := h.T hT hN
      refine gh_aload_n hK d_Ln_next_8 rfl ?_
      refine gh_get hK d_Ln_next_9 in_Ln rfl h1 3 (by decide) kf_Ln_22 rfl rfl ?_
      refine gh_aload_n hK d_Ln_next_12 rfl ?_
      refine gh_get hK d_Ln_next_13 in_Ln rfl h1 2 (by decide) kf_Ln_19 rfl rfl ?_
      refine gh_icmp_geN hK d_Ln_next_16 (tgt := 48) (by decide) (by omega) (by omega) (fun z => absurd z (by omega)) (fun z => ?_)
      refine gh_aload_n hK d_Ln_next_19 rfl ?_
      refine gh_get hK d_Ln_next_20 in_Ln rfl h1 0 (by decide) kf_Ln_9 rfl rfl ?_
      refine gh_aload_n hK d_Ln_next_23 rfl ?_
      refine gh_get hK d_Ln_next_24 in_Ln rfl h1 3 (by decide) kf_Ln_22 rfl rfl ?_
      refine gh_callV (rest := []) [.int (nI i)] hK (c_Lt_at l G hT1 (j := i) (by omega)) Y_Lt_at V_Lt_at km_Ln_28 hT1.ob rfl rfl d_Ln_next_27 rfl rfl (Nat.le_of_ble_eq_true rfl) ⟨(Nat.le_of_ble_eq_true rfl), (Nat.le_of_ble_eq_true rfl)⟩ ⟨(Nat.le_of_ble_eq_true rfl), (Nat.le_of_ble_eq_true rfl)⟩ (fun v g' hp => ?_)
      rw [hp.1, hp.2]
      show gh_W l G _ X g1 _ _ [some (.ref la)] 30 [.int (nI (tx.getD i 0))]
      refine gh_bipush (v := nI 32) hK d_Ln_next_30 (by decide) ?_
      have hch := hT1.getD i
      refine gh_icmp_neN hK d_Ln_next_32 (tgt := 48) (by decide) (by omega) (by omega) (fun z2 => ?_) (fun z2 => ?_)
      · exact mid i g1 e1 (by rw [← hs, sc_no (by simp only [isSpc, decide_eq_false z2]; decide)]) h1 hN
      · refine gh_aload_n hK d_Ln_next_35 rfl ?_
        refine gh_dup hK d_Ln_next_36 rfl ?_
        refine gh_get hK d_Ln_next_37 in_Ln rfl h1 3 (by decide) kf_Ln_22 rfl rfl ?_
        refine gh_iconst (v := nI 1) hK d_Ln_next_40 (by decide) ?_
        refine gh_addN hK d_Ln_next_41 ?_
        refine gh_put hK d_Ln_next_42 in_Ln t_Ln ty_Ln nm_Ln rfl h1 3 (by decide) kf_Ln_22 rfl rfl rfl rfl (Nat.le_of_ble_eq_true rfl) rfl ?_
        refine gh_goto (tgt := 8) hK d_Ln_next_45 (by decide) ?_
        refine ih (i + 1) _ e1 (by omega) ?_ gh_us (hN.tr (gh_N.up (by simp)))
        rw [← hs, sc_yes (i := i) (by omega) (by simp only [isSpc, decide_eq_true z2])]
  refine gh_aload_n hK d_Ln_next_0 rfl ?_
  refine gh_aload_n hK d_Ln_next_1 rfl ?_
  refine gh_get hK d_Ln_next_2 in_Ln rfl h 4 (by decide) kf_Ln_25 rfl rfl ?_
  refine gh_put hK d_Ln_next_5 in_Ln t_Ln ty_Ln nm_Ln rfl h 3 (by decide) kf_Ln_22 rfl rfl rfl rfl (Nat.le_of_ble_eq_true rfl) rfl ?_
  exact loop1 (le - e) e _ e (by omega) rfl gh_us (gh_N.up (by simp))
set_option maxRecDepth 20000 in
set_option maxHeartbeats 4000000 in
theorem c_Ln_ends (l : Launch) (G : GG) {g : GH} {la ta ls le s e wf wl : Nat} {tb : Nat} {tx : List Nat} (h : Ln g la ta ls le s e wf wl) (hT : Lt G g ta 1 tb 2 2048 tx) (he : e ≤ le) (hle : le ≤ tx.length) : gMet l G y_Ln_ends b_Ln_ends 1 (some .boolean) (rmk 2 0 0 41) [.ref la] g (fun v g' => v = some (.int (nI (bn (decide (nxE tx le e ≤ nxS tx le e))))) ∧ Ln g' la ta ls le (nxS tx le e) (nxE tx le e) wf wl ∧ gh_N [la] g g') := by
  refine gMet.of [some (.ref la)] (by decide +kernel) rfl (Nat.le_of_ble_eq_true rfl) rfl (fun X hK hI hE => ?_)
  refine gh_aload_n hK d_Ln_ends_0 rfl ?_
  refine gh_callV (rest := []) [] hK (c_Ln_next l G h hT he hle) Y_Ln_next V_Ln_next km_Ln_34 h rfl rfl d_Ln_ends_1 rfl rfl (Nat.le_of_ble_eq_true rfl) ⟨(Nat.le_of_ble_eq_true rfl), (Nat.le_of_ble_eq_true rfl)⟩ ⟨(Nat.le_of_ble_eq_true rfl), (Nat.le_of_ble_eq_true rfl)⟩ (fun v g1 hp => ?_)
  obtain ⟨rfl, hp1, hpN⟩ := hp
  show gh_W l G _ X g1 _ _ [some (.ref la)] 4 [.int (nI (bn (decide (nxS tx le e < nxE tx le e))))]
  refine gh_if_neB hK d_Ln_ends_4 (tgt := 11) (by decide) (fun z => ?_) (fun z => ?_)
  · refine gh_iconst (v := nI 0) hK d_Ln_ends_11 (by decide) ?_
    exact gh_zret rfl hK hE d_Ln_ends_12 (Nat.le_of_ble_eq_true rfl) (Nat.le_of_ble_eq_true rfl) ⟨by rw [decide_eq_false (by have := of_decide_eq_true z; omega)]; rfl, hp1, hpN⟩
  · refine gh_iconst (v := nI 1) hK d_Ln_ends_7 (by decide) ?_
    refine gh_goto (tgt := 12) hK d_Ln_ends_8 (by decide) ?_
    exact gh_zret rfl hK hE d_Ln_ends_12 (Nat.le_of_ble_eq_true rfl) (Nat.le_of_ble_eq_true rfl) ⟨by rw [decide_eq_true (by have := of_decide_eq_false z; omega)]; rfl, hp1, hpN⟩
set_option maxRecDepth 20000 in
set_option maxHeartbeats 4000000 in
theorem c_Ln_isLetter (l : Launch) (G : GG) {g : GH} {c : Nat} (hc : c < 65536) : gMet l G y_Ln_isLetter b_Ln_isLetter 1 (some .boolean) (rmk 0 0 0 0) [.int (nI c)] g (fun v g' => v = some (.int (nI (bn (isLet c)))) ∧ g' = g) := by
  refine gMet.of [some (.int (nI c))] (by decide +kernel) rfl (Nat.le_of_ble_eq_true rfl) rfl (fun X hK hI hE => ?_)
  refine gh_iload_n hK d_Ln_isLetter_0 rfl ?_
  refine gh_bipush (v := nI 97) hK d_Ln_isLetter_1 (by decide) ?_
  refine gh_icmp_ltN hK d_Ln_isLetter_3 (tgt := 16) (by decide) (by omega) (by decide) (fun z => ?_) (fun z => ?_)
  · refine gh_iconst (v := nI 0) hK d_Ln_isLetter_16 (by decide) ?_
    exact gh_zret rfl hK hE d_Ln_isLetter_17 (Nat.le_of_ble_eq_true rfl) (Nat.le_of_ble_eq_true rfl) ⟨by rw [show isLet c = false from decide_eq_false (by omega)]; rfl, rfl⟩
  · refine gh_iload_n hK d_Ln_isLetter_6 rfl ?_
    refine gh_bipush (v := nI 122) hK d_Ln_isLetter_7 (by decide) ?_
    refine gh_icmp_gtN hK d_Ln_isLetter_9 (tgt := 16) (by decide) (by omega) (by decide) (fun z2 => ?_) (fun z2 => ?_)
    · refine gh_iconst (v := nI 0) hK d_Ln_isLetter_16 (by decide) ?_
      exact gh_zret rfl hK hE d_Ln_isLetter_17 (Nat.le_of_ble_eq_true rfl) (Nat.le_of_ble_eq_true rfl) ⟨by rw [show isLet c = false from decide_eq_false (by omega)]; rfl, rfl⟩
    · refine gh_iconst (v := nI 1) hK d_Ln_isLetter_12 (by decide) ?_
      refine gh_goto (tgt := 17) hK d_Ln_isLetter_13 (by decide) ?_
      exact gh_zret rfl hK hE d_Ln_isLetter_17 (Nat.le_of_ble_eq_true rfl) (Nat.le_of_ble_eq_true rfl) ⟨by rw [show isLet c = true from decide_eq_true (by omega)]; rfl, rfl⟩
/-- the letters at the front of a piece -/
def ldL (tx : List Nat) (e s : Nat) : Nat := sc (fun i => isLet (tx.getD i 0)) e s
set_option maxRecDepth 20000 in
set_option maxHeartbeats 4000000 in
theorem c_Ln_leadingLetters (l : Launch) (G : GG) {g : GH} {la ta ls le s e wf wl : Nat} {tb : Nat} {tx : List Nat} (h : Ln g la ta ls le s e wf wl) (hT : Lt G g ta 1 tb 2 2048 tx) (hse : s ≤ e) (he : e ≤ tx.length) : gMet l G y_Ln_leadingLetters b_Ln_leadingLetters 2 (some .int) (rmk 1 0 0 21) [.ref la] g (fun v g' => v = some (.int (nI (ldL tx e s - s))) ∧ g' = g) := by
  refine gMet.of [some (.ref la), none] (by decide +kernel) rfl (Nat.le_of_ble_eq_true rfl) rfl (fun X hK hI hE => ?_)
  obtain ⟨ht1, ht2⟩ := hT.len
  have hb1 : s ≤ ldL tx e s := sc_ge _ _ _
  have hb2 : ldL tx e s ≤ e := sc_le hse
  have fin : gh_W l G (rmk 1 0 0 21) X g 0 0 [some (.ref la), some (.int (nI (ldL tx e s)))] 33 [] := by
    refine gh_iload_n hK d_Ln_leadingLetters_33 rfl ?_
    refine gh_aload_n hK d_Ln_leadingLetters_34 rfl ?_
    refine gh_get hK d_Ln_leadingLetters_35 in_Ln rfl h 3 (by decide) kf_Ln_22 rfl rfl ?_
    refine gh_subN hK d_Ln_leadingLetters_38 (by omega) ?_
    exact gh_iret hK hE d_Ln_leadingLetters_39 (Nat.le_of_ble_eq_true rfl) (Nat.le_of_ble_eq_true rfl) ⟨rfl, rfl⟩
  have loop : ∀ (m i : Nat), i + m = e → sc (fun i => isLet (tx.getD i 0)) e i = ldL tx e s → gh_W l G (rmk 1 0 0 21) X g 0 0 [some (.ref la), some (.int (nI i))] 5 [] := by
    intro m
    induction m with
    | zero =>
      intro i hi hs
      obtain rfl : i = e := by omega
      rw [sc_out (Nat.le_refl _)] at hs
      refine gh_iload_n hK d_Ln_leadingLetters_5 rfl ?_
      refine gh_aload_n hK d_Ln_leadingLetters_6 rfl ?_
      refine gh_get hK d_Ln_leadingLetters_7 in_Ln rfl h 4 (by decide) kf_Ln_25 rfl rfl ?_
      refine gh_icmp_geN hK d_Ln_leadingLetters_10 (tgt := 33) (by decide) (by omega) (by omega) (fun z => ?_) (fun z => absurd z (by omega))
      rw [← hs] at fin
      exact fin
    | succ m ih =>
      intro i hi hs
      refine gh_iload_n hK d_Ln_leadingLetters_5 rfl ?_
      refine gh_aload_n hK d_Ln_leadingLetters_6 rfl ?_
      refine gh_get hK d_Ln_leadingLetters_7 in_Ln rfl h 4 (by decide) kf_Ln_25 rfl rfl ?_
      refine gh_icmp_geN hK d_Ln_leadingLetters_10 (tgt := 33) (by decide) (by omega) (by omega) (fun z => absurd z (by omega)) (fun z => ?_)
      refine gh_aload_n hK d_Ln_leadingLetters_13 rfl ?_
      refine gh_get hK d_Ln_leadingLetters_14 in_Ln rfl h 0 (by decide) kf_Ln_9 rfl rfl ?_
      refine gh_iload_n hK d_Ln_leadingLetters_17 rfl ?_
      refine gh_callV (rest := []) [.int (nI i)] hK (c_Lt_at l G hT (j := i) (by omega)) Y_Lt_at V_Lt_at km_Ln_28 hT.ob rfl rfl d_Ln_leadingLetters_18 rfl rfl (Nat.le_of_ble_eq_true rfl) ⟨(Nat.le_of_ble_eq_true rfl), (Nat.le_of_ble_eq_true rfl)⟩ ⟨(Nat.le_of_ble_eq_true rfl), (Nat.le_of_ble_eq_true rfl)⟩ (fun v g' hp => ?_)
      rw [hp.1, hp.2]
      show gh_W l G _ X g _ _ [some (.ref la), some (.int (nI i))] 21 [.int (nI (tx.getD i 0))]
      refine gh_callS (rest := []) [.int (nI (tx.getD i 0))] hK (c_Ln_isLetter l G (g := g) (hT.getD i)) Y_Ln_isLetter V_Ln_isLetter km_Ln_53 rfl d_Ln_leadingLetters_21 rfl rfl (Nat.le_of_ble_eq_true rfl) ⟨(Nat.le_of_ble_eq_true rfl), (Nat.le_of_ble_eq_true rfl)⟩ ⟨(Nat.le_of_ble_eq_true rfl), (Nat.le_of_ble_eq_true rfl)⟩ (fun v g' hp => ?_)
      rw [hp.1, hp.2]
      show gh_W l G _ X g _ _ [some (.ref la), some (.int (nI i))] 24 [.int (nI (bn (isLet (tx.getD i 0))))]
      refine gh_if_eqB hK d_Ln_leadingLetters_24 (tgt := 33) (by decide) (fun z2 => ?_) (fun z2 => ?_)
      · rw [sc_no (by show ¬ isLet (tx.getD i 0) = true; rw [z2]; decide)] at hs
        rw [← hs] at fin
        exact fin
      · refine gh_incN (lv' := [some (.ref la), some (.int (nI (i + 1)))]) hK d_Ln_leadingLetters_27 rfl rfl ?_
        refine gh_goto (tgt := 5) hK d_Ln_leadingLetters_30 (by decide) ?_
        exact ih (i + 1) (by omega) (by rw [← hs]; exact (sc_yes (i := i) (by omega) z2).symm)
  refine gh_aload_n hK d_Ln_leadingLetters_0 rfl ?_
  refine gh_get hK d_Ln_leadingLetters_1 in_Ln rfl h 3 (by decide) kf_Ln_22 rfl rfl ?_
  refine gh_istore_n (lv' := [some (.ref la), some (.int (nI s))]) hK d_Ln_leadingLetters_4 (Nat.le_of_ble_eq_true rfl) rfl ?_
  exact loop (e - s) s (by omega) rfl
