/-! RULES of the reference -/
def RuA (F : Nat → Nat → Int32) (r : Nat) (u : RuR) : Prop := RuB u ∧ (∃ fl, fl < 26 ∧ u.1 = 2 ^ fl ∧ F 7 r = nI fl) ∧ (F 8 (3 * r) = nI u.2.1.length ∧ F 8 (3 * r + 1) = nI u.2.2.1.length ∧ F 8 (3 * r + 2) = nI u.2.2.2.length) ∧ (sA (F 9) (18 * r) u.2.1 ∧ sA (F 9) (18 * r + 6) u.2.2.1 ∧ sA (F 9) (18 * r + 12) u.2.2.2) ∧ (∀ c, c ∈ u.2.1 → c ≠ 46) ∧ ∀ c, c ∈ u.2.2.1 → c ≠ 46
def RlA (F : Nat → Nat → Int32) (b : Nat) (us : List RuR) : Prop := us.length ≤ 8 ∧ F 6 b = nI us.length ∧ ∀ j u, us[j]? = some u → RuA F (8 * b + j) u
theorem RuA.eq {F F' : Nat → Nat → Int32} {r : Nat} {u : RuR} (h : RuA F r u) (e7 : F' 7 = F 7) (e8 : F' 8 = F 8) (e9 : F' 9 = F 9) : RuA F' r u := by
  unfold RuA at h ⊢
  rw [e7, e8, e9]
  exact h
theorem RlA.eq {F F' : Nat → Nat → Int32} {b : Nat} {us : List RuR} (h : RlA F b us) (e6 : F' 6 = F 6) (e7 : F' 7 = F 7) (e8 : F' 8 = F 8) (e9 : F' 9 = F 9) : RlA F' b us := ⟨h.1, by rw [e6]; exact h.2.1, fun j u hu => (h.2.2 j u hu).eq e7 e8 e9⟩
def rl2 (us : List RuR) (p : Nat) : RuR := if p = 0 then (0, [], [], []) else us.getD (p - 1) (0, [], [], [])
/-- the place of rule number p, none for no rule -/
def pO (b p : Nat) : Option Nat := if p = 0 then none else some (8 * b + (p - 1))
theorem pO_lt {b p e : Nat} (hb : b ≤ 1) (hp : p ≤ 8) (h : pO b p = some e) : e < 16 := by
  unfold pO at h
  split at h
  · cases h
  · cases h; omega
theorem RlA.at {F : Nat → Nat → Int32} {b : Nat} {us : List RuR} (h : RlA F b us) {p e : Nat} (hp : p ≤ us.length) (he : pO b p = some e) : RuA F e (rl2 us p) ∧ e = 8 * b + (p - 1) ∧ 0 < p := by
  unfold pO at he
  unfold rl2
  split at he
  · cases he
  · next z =>
    cases he
    rw [if_neg z, List.getD_eq_getElem?_getD, List.getElem?_eq_getElem (show p - 1 < us.length by omega)]
    exact ⟨h.2.2 _ _ (List.getElem?_eq_getElem (by omega)), rfl, by omega⟩
theorem pO_none {b p : Nat} (h : pO b p = none) : p = 0 := by
  unfold pO at h
  split at h
  · assumption
  · cases h
theorem rl2_zero (us : List RuR) : rl2 us 0 = (0, [], [], []) := if_pos rfl
set_option maxRecDepth 20000 in
set_option maxHeartbeats 4000000 in
theorem c_Md_prefix (l : Launch) (G : GG) {g : GH} {p : Nat} (hp : p ≤ 8) : gMet l G y_Md_prefix b_Md_prefix 1 (some .int) (rmk 0 0 0 0) [.int (nI p)] g (fun v g' => v = some (.int (oI (pO 0 p))) ∧ g' = g) := by
  refine gMet.of [some (.int (nI p))] (by decide +kernel) rfl (Nat.le_of_ble_eq_true rfl) rfl (fun X hK hI hE => ?_)
  refine gh_iload_n hK d_Md_prefix_0 rfl ?_
  refine gh_if_neN hK d_Md_prefix_1 (tgt := 8) (by decide) (by omega) (fun z => ?_) (fun z => ?_)
  · refine gh_iload_n hK d_Md_prefix_8 rfl ?_
    refine gh_iconst (v := nI 1) hK d_Md_prefix_9 (by decide) ?_
    refine gh_subN hK d_Md_prefix_10 (by omega) ?_
    exact gh_iret hK hE d_Md_prefix_11 (Nat.le_of_ble_eq_true rfl) (Nat.le_of_ble_eq_true rfl) ⟨by rw [pO, if_neg (by omega)]; show _ = some (Value.int (nI _)); congr 2; congr 1; omega, rfl⟩
  · subst z
    refine gh_iconst (v := (-1)) hK d_Md_prefix_4 (by decide) ?_
    refine gh_goto (tgt := 11) hK d_Md_prefix_5 (by decide) ?_
    exact gh_iret hK hE d_Md_prefix_11 (Nat.le_of_ble_eq_true rfl) (Nat.le_of_ble_eq_true rfl) ⟨rfl, rfl⟩
set_option maxRecDepth 20000 in
set_option maxHeartbeats 4000000 in
theorem c_Md_suffix (l : Launch) (G : GG) {g : GH} {p : Nat} (hp : p ≤ 8) : gMet l G y_Md_suffix b_Md_suffix 1 (some .int) (rmk 0 0 0 0) [.int (nI p)] g (fun v g' => v = some (.int (oI (pO 1 p))) ∧ g' = g) := by
  refine gMet.of [some (.int (nI p))] (by decide +kernel) rfl (Nat.le_of_ble_eq_true rfl) rfl (fun X hK hI hE => ?_)
  refine gh_iload_n hK d_Md_suffix_0 rfl ?_
  refine gh_if_neN hK d_Md_suffix_1 (tgt := 8) (by decide) (by omega) (fun z => ?_) (fun z => ?_)
  · refine gh_bipush (v := nI 7) hK d_Md_suffix_8 (by decide) ?_
    refine gh_iload_n hK d_Md_suffix_10 rfl ?_
    refine gh_addN hK d_Md_suffix_11 ?_
    exact gh_iret hK hE d_Md_suffix_12 (Nat.le_of_ble_eq_true rfl) (Nat.le_of_ble_eq_true rfl) ⟨by rw [pO, if_neg (by omega)]; show _ = some (Value.int (nI _)); congr 2; congr 1; omega, rfl⟩
  · subst z
    refine gh_iconst (v := (-1)) hK d_Md_suffix_4 (by decide) ?_
    refine gh_goto (tgt := 12) hK d_Md_suffix_5 (by decide) ?_
    exact gh_iret hK hE d_Md_suffix_12 (Nat.le_of_ble_eq_true rfl) (Nat.le_of_ble_eq_true rfl) ⟨rfl, rfl⟩
theorem sm32 : ∀ k, k < 32 → ((nI k).toBitVec.smod 32).toNat = k := by decide +kernel
theorem st_go {g0 c : Bool} {q : Nat → Bool} {k : Nat} : (g0 && (c && (List.range (k + 1)).all q)) = ((g0 && (c && (List.range k).all q)) && q k) := by
  rw [List.range_succ, List.all_append, List.all_cons, List.all_nil, Bool.and_true]
  cases g0 <;> cases c <;> rfl
theorem all_le {q : Nat → Bool} {k n : Nat} (h : k ≤ n) (hf : (List.range k).all q = false) : (List.range n).all q = false := by
  rw [List.all_eq_false] at hf ⊢
  obtain ⟨x, h1, h2⟩ := hf
  exact ⟨x, List.mem_range.mpr (by have := List.mem_range.mp h1; omega), h2⟩
theorem and_le {g0 c : Bool} {q : Nat → Bool} {k n : Nat} (h : k ≤ n) (hf : (g0 && (c && (List.range k).all q)) = false) : (g0 && (c && (List.range n).all q)) = false := by
  cases g0
  · rfl
  · cases c
    · rfl
    · rw [Bool.true_and, Bool.true_and] at hf ⊢
      exact all_le h hf
theorem fl_bit {x fl : Nat} (h : x / 2 ^ fl % 2 = 1 ∨ x / 2 ^ fl % 2 = 0) : decide (x &&& 2 ^ fl = 2 ^ fl) = decide (x / 2 ^ fl % 2 = 1) := by
  have e : x.testBit fl = decide (x / 2 ^ fl % 2 = 1) := Nat.testBit_eq_decide_div_mod_eq
  rw [← e]
  cases hb : x.testBit fl with
  | true =>
    rw [decide_eq_true_iff]
    apply Nat.eq_of_testBit_eq
    intro i
    rw [Nat.testBit_and, Nat.testBit_two_pow]
    by_cases z : fl = i
    · subst z; rw [hb]; simp
    · simp [z]
  | false =>
    rw [decide_eq_false_iff_not]
    intro z
    have := congrArg (fun y => Nat.testBit y fl) z
    rw [Nat.testBit_and, hb, Nat.testBit_two_pow_self] at this
    cases this
set_option maxRecDepth 20000 in
set_option maxHeartbeats 4000000 in
theorem c_Md_goesN (l : Launch) (G : GG) {e : Nat} {g : GH} {B : Nat → Nat} {cd ty ne fr tt ap fi en wr mk wd : Nat} {F : Nat → Nat → Int32} {o : List Nat × Nat} (h : Md G g B (mS cd ty ne fr tt ap fi en wr mk wd) F o)  : gMet l G y_Md_goes b_Md_goes 10 (some .boolean) (rmk 0 0 0 0) [.ref (B 0), .int (oI none), .int (nI e)] g (fun v g' => v = some (.int (nI (bn true))) ∧ g' = g) := by
  refine gMet.of [some (.ref (B 0)), some (.int (oI none)), some (.int (nI e)), none, none, none, none, none, none, none] (by decide +kernel) rfl (Nat.le_of_ble_eq_true rfl) rfl (fun X hK hI hE => ?_)
  refine gh_iload_n hK d_Md_goes_0 rfl ?_
  refine gh_iconst (v := (-1)) hK d_Md_goes_1 (by decide) ?_
  refine gh_icmp_neO (b := none) hK d_Md_goes_2 (tgt := 7) (by decide) (fun i hi => by cases hi) (fun i q => by cases q) (fun _ => ?_)
  refine gh_iconst (v := nI 1) hK d_Md_goes_5 (by decide) ?_
  exact gh_zret (by decide) hK hE d_Md_goes_6 (Nat.le_of_ble_eq_true rfl) (Nat.le_of_ble_eq_true rfl) ⟨rfl, rfl⟩
set_option maxRecDepth 20000 in
set_option maxHeartbeats 4000000 in
theorem c_Md_goesR (l : Launch) (G : GG) {ds : List (List Nat × Nat)} {e r : Nat} {fr1 : Bool} {u : RuR} {x : List Nat × Nat} {g : GH} {B : Nat → Nat} {cd ty fr tt ap fi en wr mk wd : Nat} {F : Nat → Nat → Int32} {o : List Nat × Nat} (h : Md G g B (mS cd ty ds.length fr tt ap fi en wr mk wd) F o) (hD : DcA F ds) (he : ds[e]? = some x) (hr : r < 16) (hfr : decide (r < 8) = fr1) (hU : RuA F r u) : gMet l G y_Md_goes b_Md_goes 10 (some .boolean) (rmk 0 0 0 0) [.ref (B 0), .int (oI (some r)), .int (nI e)] g (fun v g' => v = some (.int (nI (bn (goO fr1 u.1 u.2.1 u.2.2.2 x.1 x.2)))) ∧ g' = g) := by
  refine gMet.of [some (.ref (B 0)), some (.int (oI (some r))), some (.int (nI e)), none, none, none, none, none, none, none] (by decide +kernel) rfl (Nat.le_of_ble_eq_true rfl) rfl (fun X hK hI hE => ?_)
  have hdl := hD.1
  have hel : e < ds.length := (List.getElem?_eq_some_iff.mp he).1
  obtain ⟨d1, d2, d3, d4, d5⟩ := hD.2 e x he
  obtain ⟨⟨hb1, hb2, hb3⟩, ⟨fl, hfl, hf2, hf3⟩, ⟨p1, p2, p3⟩, ⟨s1, s2, s3⟩, n1, n2⟩ := hU
  have part2 : ∀ (g0 : Bool) (v6 v7 v8 v9 : Option Value) (kz : ∀ v6 v7 v8 v9 : Option Value, gh_W l G (rmk 0 0 0 0) X g 0 0 [some (.ref (B 0)), some (.int (nI r)), some (.int (nI e)), some (.int (nI (bn fr1))), some (.int (nI (bn (g0 && stO fr1 u.2.2.2 x.1)))), some (.int (nI 2)), v6, v7, v8, v9] 191 []), gh_W l G (rmk 0 0 0 0) X g 0 0 [some (.ref (B 0)), some (.int (nI r)), some (.int (nI e)), some (.int (nI (bn fr1))), some (.int (nI (bn g0))), some (.int (nI 2)), v6, v7, v8, v9] 54 [] := by
    intro g0 v6 v7 v8 v9 kz
    have lp : ∀ (m k : Nat) (v8 v9 : Option Value), k + m = u.2.2.2.length → gh_W l G (rmk 0 0 0 0) X g 0 0 [some (.ref (B 0)), some (.int (nI r)), some (.int (nI e)), some (.int (nI (bn fr1))), some (.int (nI (bn (g0 && (decide (u.2.2.2.length ≤ x.1.length) && (List.range k).all (fun i => decide (u.2.2.2.getD i 0 = 46) || decide (u.2.2.2.getD i 0 = x.1.getD ((if fr1 = true then 0 else x.1.length - u.2.2.2.length) + i) 0))))))), some (.int (nI 2)), some (.int (nI u.2.2.2.length)), some (.int (nI k)), v8, v9] 93 [] := by
      intro m
      induction m with
      | zero =>
        intro k v8 v9 hk
        have hk : k = u.2.2.2.length := by omega
        subst hk
        refine gh_iload hK d_Md_goes_93 rfl ?_
        refine gh_iload hK d_Md_goes_95 rfl ?_
        refine gh_icmp_geN hK d_Md_goes_97 (tgt := 191) (by decide) (by omega) (by omega) (fun _ => kz _ _ _ _) (fun z => by omega)
      | succ m ih =>
        intro k v8 v9 hk
        refine gh_iload hK d_Md_goes_93 rfl ?_
        refine gh_iload hK d_Md_goes_95 rfl ?_
        refine gh_icmp_geN hK d_Md_goes_97 (tgt := 191) (by decide) (by omega) (by omega) (fun z => by omega) (fun _ => ?_)
        refine gh_iload hK d_Md_goes_100 rfl ?_
        refine gh_if_eqB hK d_Md_goes_102 (tgt := 191) (by decide) (fun z => ?_) (fun z => ?_)
        · rw [z]
          have ze := and_le (n := u.2.2.2.length) (by omega) z
          have kq := kz (some (.int (nI u.2.2.2.length))) (some (.int (nI k))) v8 v9
          rw [show (g0 && stO fr1 u.2.2.2 x.1) = false from ze] at kq
          exact kq
        have hle : u.2.2.2.length ≤ x.1.length := by
          by_cases q : u.2.2.2.length ≤ x.1.length
          · exact q
          · rw [decide_eq_false q, Bool.false_and, Bool.and_false] at z; cases z
        have hsx := s3 k (by omega)
        have hd4 := d4 ((if fr1 = true then 0 else x.1.length - u.2.2.2.length) + k) (by cases fr1 <;> simp <;> omega)
        refine gh_aload_n hK d_Md_goes_105 rfl ?_
        refine gh_get (v := .ref (B 9)) hK d_Md_goes_106 in_Md rfl h.1 13 (by decide) kf_Md_34 rfl rfl ?_
        refine gh_bipush (v := nI 18) hK d_Md_goes_109 (by decide) ?_
        refine gh_iload_n hK d_Md_goes_111 rfl ?_
        refine gh_mulN hK d_Md_goes_112 ?_
        refine gh_bipush (v := nI 6) hK d_Md_goes_113 (by decide) ?_
        refine gh_iload hK d_Md_goes_115 rfl ?_
        refine gh_mulN hK d_Md_goes_117 ?_
        refine gh_addN hK d_Md_goes_118 ?_
        refine gh_iload hK d_Md_goes_119 rfl ?_
        refine gh_addN hK d_Md_goes_121 ?_
        refine gh_mald hK d_Md_goes_122 h 9 (by decide) (i := ((18 * r) + (6 * 2)) + k) (x := (nI (u.2.2.2.getD k 0))) (by show ((18 * r) + (6 * 2)) + k < 288; omega) (by have := hsx.1; rw [show 18 * r + 12 + k = 18 * r + 6 * 2 + k from rfl] at this; exact this) ?_
        refine gh_istore (lv' := [some (.ref (B 0)), some (.int (nI r)), some (.int (nI e)), some (.int (nI (bn fr1))), some (.int (nI (bn (g0 && (decide (u.2.2.2.length ≤ x.1.length) && (List.range k).all (fun i => decide (u.2.2.2.getD i 0 = 46) || decide (u.2.2.2.getD i 0 = x.1.getD ((if fr1 = true then 0 else x.1.length - u.2.2.2.length) + i) 0))))))), some (.int (nI 2)), some (.int (nI u.2.2.2.length)), some (.int (nI k)), some (.int (nI (u.2.2.2.getD k 0))), v9]) hK d_Md_goes_123 (Nat.le_of_ble_eq_true rfl) rfl ?_
        refine gh_aload_n hK d_Md_goes_125 rfl ?_
        refine gh_get (v := .ref (B 5)) hK d_Md_goes_126 in_Md rfl h.1 9 (by decide) kf_Md_22 rfl rfl ?_
        refine gh_bipush (v := nI 16) hK d_Md_goes_129 (by decide) ?_
        refine gh_iload_n hK d_Md_goes_131 rfl ?_
        refine gh_mulN hK d_Md_goes_132 ?_
        refine gh_iload_n hK d_Md_goes_133 rfl ?_
        have jn : gh_W l G (rmk 0 0 0 0) X g 0 0 [some (.ref (B 0)), some (.int (nI r)), some (.int (nI e)), some (.int (nI (bn fr1))), some (.int (nI (bn (g0 && (decide (u.2.2.2.length ≤ x.1.length) && (List.range k).all (fun i => decide (u.2.2.2.getD i 0 = 46) || decide (u.2.2.2.getD i 0 = x.1.getD ((if fr1 = true then 0 else x.1.length - u.2.2.2.length) + i) 0))))))), some (.int (nI 2)), some (.int (nI u.2.2.2.length)), some (.int (nI k)), some (.int (nI (u.2.2.2.getD k 0))), v9] 155 [.int (nI (16 * e + ((if fr1 = true then 0 else x.1.length - u.2.2.2.length) + k))), .ref (B 5)] → gh_W l G (rmk 0 0 0 0) X g 0 0 [some (.ref (B 0)), some (.int (nI r)), some (.int (nI e)), some (.int (nI (bn fr1))), some (.int (nI (bn (g0 && (decide (u.2.2.2.length ≤ x.1.length) && (List.range k).all (fun i => decide (u.2.2.2.getD i 0 = 46) || decide (u.2.2.2.getD i 0 = x.1.getD ((if fr1 = true then 0 else x.1.length - u.2.2.2.length) + i) 0))))))), some (.int (nI 2)), some (.int (nI u.2.2.2.length)), some (.int (nI k)), some (.int (nI (u.2.2.2.getD k 0))), v9] 134 [.int (nI (bn fr1)), .int (nI (16 * e)), .ref (B 5)] := by
          intro kk
          refine gh_if_eqB hK d_Md_goes_134 (tgt := 142) (by decide) (fun zf => ?_) (fun zf => ?_)
          · refine gh_aload_n hK d_Md_goes_142 rfl ?_
            refine gh_get (v := .ref (B 3)) hK d_Md_goes_143 in_Md rfl h.1 7 (by decide) kf_Md_16 rfl rfl ?_
            refine gh_iload_n hK d_Md_goes_146 rfl ?_
            refine gh_mald hK d_Md_goes_147 h 3 (by decide) (i := e) (x := (nI x.1.length)) (by show e < 300; omega) d2 ?_
            refine gh_iload hK d_Md_goes_148 rfl ?_
            refine gh_subN hK d_Md_goes_150 (by omega) ?_
            refine gh_iload hK d_Md_goes_151 rfl ?_
            refine gh_addN hK d_Md_goes_153 ?_
            refine gh_addN hK d_Md_goes_154 ?_
            subst zf
            rw [show (if false = true then 0 else x.1.length - u.2.2.2.length) = x.1.length - u.2.2.2.length from if_neg (by decide)] at kk
            exact kk
          · refine gh_iload hK d_Md_goes_137 rfl ?_
            refine gh_goto (tgt := 154) hK d_Md_goes_139 (by decide) ?_
            refine gh_addN hK d_Md_goes_154 ?_
            subst zf
            rw [show (if true = true then 0 else x.1.length - u.2.2.2.length) = 0 from if_pos rfl, Nat.zero_add] at kk
            exact kk
        refine jn ?_
        refine gh_mald hK d_Md_goes_155 h 5 (by decide) (by show _ < 4800; cases fr1 <;> simp <;> omega) hd4.1 ?_
        refine gh_istore (lv' := [some (.ref (B 0)), some (.int (nI r)), some (.int (nI e)), some (.int (nI (bn fr1))), some (.int (nI (bn (g0 && (decide (u.2.2.2.length ≤ x.1.length) && (List.range k).all (fun i => decide (u.2.2.2.getD i 0 = 46) || decide (u.2.2.2.getD i 0 = x.1.getD ((if fr1 = true then 0 else x.1.length - u.2.2.2.length) + i) 0))))))), some (.int (nI 2)), some (.int (nI u.2.2.2.length)), some (.int (nI k)), some (.int (nI (u.2.2.2.getD k 0))), some (.int (nI (x.1.getD ((if fr1 = true then 0 else x.1.length - u.2.2.2.length) + k) 0)))]) hK d_Md_goes_156 (Nat.le_of_ble_eq_true rfl) rfl ?_
        refine gh_iload hK d_Md_goes_158 rfl ?_
        refine gh_iload hK d_Md_goes_160 rfl ?_
        have tail : ∀ b : Bool, b = (fun i => decide (u.2.2.2.getD i 0 = 46) || decide (u.2.2.2.getD i 0 = x.1.getD ((if fr1 = true then 0 else x.1.length - u.2.2.2.length) + i) 0)) k → gh_W l G (rmk 0 0 0 0) X g 0 0 [some (.ref (B 0)), some (.int (nI r)), some (.int (nI e)), some (.int (nI (bn fr1))), some (.int (nI (bn (g0 && (decide (u.2.2.2.length ≤ x.1.length) && (List.range k).all (fun i => decide (u.2.2.2.getD i 0 = 46) || decide (u.2.2.2.getD i 0 = x.1.getD ((if fr1 = true then 0 else x.1.length - u.2.2.2.length) + i) 0))))))), some (.int (nI 2)), some (.int (nI u.2.2.2.length)), some (.int (nI k)), some (.int (nI (u.2.2.2.getD k 0))), some (.int (nI (x.1.getD ((if fr1 = true then 0 else x.1.length - u.2.2.2.length) + k) 0)))] 183 [.int (nI (bn b))] := by
          intro b hb
          rw [z]
          refine gh_istore (lv' := [some (.ref (B 0)), some (.int (nI r)), some (.int (nI e)), some (.int (nI (bn fr1))), some (.int (nI (bn b))), some (.int (nI 2)), some (.int (nI u.2.2.2.length)), some (.int (nI k)), some (.int (nI (u.2.2.2.getD k 0))), some (.int (nI (x.1.getD ((if fr1 = true then 0 else x.1.length - u.2.2.2.length) + k) 0)))]) hK d_Md_goes_183 (Nat.le_of_ble_eq_true rfl) rfl ?_
          refine gh_incN (lv' := [some (.ref (B 0)), some (.int (nI r)), some (.int (nI e)), some (.int (nI (bn fr1))), some (.int (nI (bn b))), some (.int (nI 2)), some (.int (nI u.2.2.2.length)), some (.int (nI (k + 1))), some (.int (nI (u.2.2.2.getD k 0))), some (.int (nI (x.1.getD ((if fr1 = true then 0 else x.1.length - u.2.2.2.length) + k) 0)))]) hK d_Md_goes_185 rfl rfl ?_
          refine gh_goto (tgt := 93) hK d_Md_goes_188 (by decide) ?_
          have e1 : b = (g0 && (decide (u.2.2.2.length ≤ x.1.length) && (List.range (k + 1)).all (fun i => decide (u.2.2.2.getD i 0 = 46) || decide (u.2.2.2.getD i 0 = x.1.getD ((if fr1 = true then 0 else x.1.length - u.2.2.2.length) + i) 0)))) := by rw [st_go, z, Bool.true_and]; exact hb
          rw [e1]
          exact ih (k + 1) _ _ (by omega)
        have hc1 := hsx.2
        have hc2 := hd4.2
        refine gh_icmp_eqN hK d_Md_goes_162 (tgt := 178) (by decide) (by omega) (by omega) (fun z1 => ?_) (fun z1 => ?_)
        · refine gh_iconst (v := nI 1) hK d_Md_goes_178 (by decide) ?_
          refine gh_goto (tgt := 183) hK d_Md_goes_179 (by decide) ?_
          exact tail true (by show _ = (decide _ || decide _); rw [decide_eq_true (p := _ = x.1.getD _ 0) z1, Bool.or_true])
        refine gh_iload hK d_Md_goes_165 rfl ?_
        refine gh_iconst (v := nI 2) hK d_Md_goes_167 (by decide) ?_
        refine gh_icmp_neN hK d_Md_goes_168 (tgt := 182) (by decide) (by decide) (by decide) (fun q => absurd rfl q) (fun _ => ?_)
        refine gh_iload hK d_Md_goes_171 rfl ?_
        refine gh_bipush (v := nI 46) hK d_Md_goes_173 (by decide) ?_
        refine gh_icmp_neN hK d_Md_goes_175 (tgt := 182) (by decide) (by omega) (by decide) (fun z2 => ?_) (fun z2 => ?_)
        · refine gh_iconst (v := nI 0) hK d_Md_goes_182 (by decide) ?_
          exact tail false (by show _ = (decide _ || decide _); rw [decide_eq_false (p := _ = x.1.getD _ 0) z1, decide_eq_false z2]; rfl)
        · refine gh_iconst (v := nI 1) hK d_Md_goes_178 (by decide) ?_
          refine gh_goto (tgt := 183) hK d_Md_goes_179 (by decide) ?_
          exact tail true (by show _ = (decide _ || decide _); rw [decide_eq_true z2]; rfl)
    refine gh_aload_n hK d_Md_goes_54 rfl ?_
    refine gh_get (v := .ref (B 8)) hK d_Md_goes_55 in_Md rfl h.1 12 (by decide) kf_Md_31 rfl rfl ?_
    refine gh_iconst (v := nI 3) hK d_Md_goes_58 (by decide) ?_
    refine gh_iload_n hK d_Md_goes_59 rfl ?_
    refine gh_mulN hK d_Md_goes_60 ?_
    refine gh_iload hK d_Md_goes_61 rfl ?_
    refine gh_addN hK d_Md_goes_63 ?_
    refine gh_mald hK d_Md_goes_64 h 8 (by decide) (i := (3 * r) + 2) (x := (nI u.2.2.2.length)) (by show (3 * r) + 2 < 48; omega) p3 ?_
    refine gh_istore (lv' := [some (.ref (B 0)), some (.int (nI r)), some (.int (nI e)), some (.int (nI (bn fr1))), some (.int (nI (bn g0))), some (.int (nI 2)), some (.int (nI u.2.2.2.length)), v7, v8, v9]) hK d_Md_goes_65 (Nat.le_of_ble_eq_true rfl) rfl ?_
    refine gh_iload hK d_Md_goes_67 rfl ?_
    have tl : ∀ b : Bool, b = (g0 && decide (u.2.2.2.length ≤ x.1.length)) → gh_W l G (rmk 0 0 0 0) X g 0 0 [some (.ref (B 0)), some (.int (nI r)), some (.int (nI e)), some (.int (nI (bn fr1))), some (.int (nI (bn g0))), some (.int (nI 2)), some (.int (nI u.2.2.2.length)), v7, v8, v9] 88 [.int (nI (bn b))] := by
      intro b hb
      refine gh_istore (lv' := [some (.ref (B 0)), some (.int (nI r)), some (.int (nI e)), some (.int (nI (bn fr1))), some (.int (nI (bn b))), some (.int (nI 2)), some (.int (nI u.2.2.2.length)), v7, v8, v9]) hK d_Md_goes_88 (Nat.le_of_ble_eq_true rfl) rfl ?_
      refine gh_iconst (v := nI 0) hK d_Md_goes_90 (by decide) ?_
      refine gh_istore (lv' := [some (.ref (B 0)), some (.int (nI r)), some (.int (nI e)), some (.int (nI (bn fr1))), some (.int (nI (bn b))), some (.int (nI 2)), some (.int (nI u.2.2.2.length)), some (.int (nI 0)), v8, v9]) hK d_Md_goes_91 (Nat.le_of_ble_eq_true rfl) rfl ?_
      have e1 : b = (g0 && (decide (u.2.2.2.length ≤ x.1.length) && (List.range 0).all (fun i => decide (u.2.2.2.getD i 0 = 46) || decide (u.2.2.2.getD i 0 = x.1.getD ((if fr1 = true then 0 else x.1.length - u.2.2.2.length) + i) 0)))) := by rw [hb, List.range_zero, List.all_nil, Bool.and_true]
      rw [e1]
      exact lp u.2.2.2.length 0 _ _ (by omega)
    refine gh_if_eqB hK d_Md_goes_69 (tgt := 87) (by decide) (fun z => ?_) (fun z => ?_)
    · refine gh_iconst (v := nI 0) hK d_Md_goes_87 (by decide) ?_
      exact tl false (by rw [z]; rfl)
    refine gh_aload_n hK d_Md_goes_72 rfl ?_
    refine gh_get (v := .ref (B 3)) hK d_Md_goes_73 in_Md rfl h.1 7 (by decide) kf_Md_16 rfl rfl ?_
    refine gh_iload_n hK d_Md_goes_76 rfl ?_
    refine gh_mald hK d_Md_goes_77 h 3 (by decide) (i := e) (x := (nI x.1.length)) (by show e < 300; omega) d2 ?_
    refine gh_iload hK d_Md_goes_78 rfl ?_
    refine gh_icmp_ltN hK d_Md_goes_80 (tgt := 87) (by decide) (by omega) (by omega) (fun z2 => ?_) (fun z2 => ?_)
    · refine gh_iconst (v := nI 0) hK d_Md_goes_87 (by decide) ?_
      exact tl false (by rw [decide_eq_false (by omega), Bool.and_false])
    · refine gh_iconst (v := nI 1) hK d_Md_goes_83 (by decide) ?_
      refine gh_goto (tgt := 88) hK d_Md_goes_84 (by decide) ?_
      exact tl true (by rw [z, decide_eq_true z2]; rfl)
  have part0 : ∀ (g0 : Bool) (v6 v7 v8 v9 : Option Value) (kz : ∀ v6 v7 v8 v9 : Option Value, gh_W l G (rmk 0 0 0 0) X g 0 0 [some (.ref (B 0)), some (.int (nI r)), some (.int (nI e)), some (.int (nI (bn fr1))), some (.int (nI (bn (g0 && stO fr1 u.2.1 x.1)))), some (.int (nI 0)), v6, v7, v8, v9] 191 []), gh_W l G (rmk 0 0 0 0) X g 0 0 [some (.ref (B 0)), some (.int (nI r)), some (.int (nI e)), some (.int (nI (bn fr1))), some (.int (nI (bn g0))), some (.int (nI 0)), v6, v7, v8, v9] 54 [] := by
    intro g0 v6 v7 v8 v9 kz
    have lp : ∀ (m k : Nat) (v8 v9 : Option Value), k + m = u.2.1.length → gh_W l G (rmk 0 0 0 0) X g 0 0 [some (.ref (B 0)), some (.int (nI r)), some (.int (nI e)), some (.int (nI (bn fr1))), some (.int (nI (bn (g0 && (decide (u.2.1.length ≤ x.1.length) && (List.range k).all (fun i => decide (u.2.1.getD i 0 = 46) || decide (u.2.1.getD i 0 = x.1.getD ((if fr1 = true then 0 else x.1.length - u.2.1.length) + i) 0))))))), some (.int (nI 0)), some (.int (nI u.2.1.length)), some (.int (nI k)), v8, v9] 93 [] := by
      intro m
      induction m with
      | zero =>
        intro k v8 v9 hk
        have hk : k = u.2.1.length := by omega
        subst hk
        refine gh_iload hK d_Md_goes_93 rfl ?_
        refine gh_iload hK d_Md_goes_95 rfl ?_
        refine gh_icmp_geN hK d_Md_goes_97 (tgt := 191) (by decide) (by omega) (by omega) (fun _ => kz _ _ _ _) (fun z => by omega)
      | succ m ih =>
        intro k v8 v9 hk
        refine gh_iload hK d_Md_goes_93 rfl ?_
        refine gh_iload hK d_Md_goes_95 rfl ?_
        refine gh_icmp_geN hK d_Md_goes_97 (tgt := 191) (by decide) (by omega) (by omega) (fun z => by omega) (fun _ => ?_)
        refine gh_iload hK d_Md_goes_100 rfl ?_
        refine gh_if_eqB hK d_Md_goes_102 (tgt := 191) (by decide) (fun z => ?_) (fun z => ?_)
        · rw [z]
          have ze := and_le (n := u.2.1.length) (by omega) z
          have kq := kz (some (.int (nI u.2.1.length))) (some (.int (nI k))) v8 v9
          rw [show (g0 && stO fr1 u.2.1 x.1) = false from ze] at kq
          exact kq
        have hle : u.2.1.length ≤ x.1.length := by
          by_cases q : u.2.1.length ≤ x.1.length
          · exact q
          · rw [decide_eq_false q, Bool.false_and, Bool.and_false] at z; cases z
        have hsx := s1 k (by omega)
        have hd4 := d4 ((if fr1 = true then 0 else x.1.length - u.2.1.length) + k) (by cases fr1 <;> simp <;> omega)
        refine gh_aload_n hK d_Md_goes_105 rfl ?_
        refine gh_get (v := .ref (B 9)) hK d_Md_goes_106 in_Md rfl h.1 13 (by decide) kf_Md_34 rfl rfl ?_
        refine gh_bipush (v := nI 18) hK d_Md_goes_109 (by decide) ?_
        refine gh_iload_n hK d_Md_goes_111 rfl ?_
        refine gh_mulN hK d_Md_goes_112 ?_
        refine gh_bipush (v := nI 6) hK d_Md_goes_113 (by decide) ?_
        refine gh_iload hK d_Md_goes_115 rfl ?_
        refine gh_mulN hK d_Md_goes_117 ?_
        refine gh_addN hK d_Md_goes_118 ?_
        refine gh_iload hK d_Md_goes_119 rfl ?_
        refine gh_addN hK d_Md_goes_121 ?_
        refine gh_mald hK d_Md_goes_122 h 9 (by decide) (i := ((18 * r) + (6 * 0)) + k) (x := (nI (u.2.1.getD k 0))) (by show ((18 * r) + (6 * 0)) + k < 288; omega) (by have := hsx.1; exact this) ?_
        refine gh_istore (lv' := [some (.ref (B 0)), some (.int (nI r)), some (.int (nI e)), some (.int (nI (bn fr1))), some (.int (nI (bn (g0 && (decide (u.2.1.length ≤ x.1.length) && (List.range k).all (fun i => decide (u.2.1.getD i 0 = 46) || decide (u.2.1.getD i 0 = x.1.getD ((if fr1 = true then 0 else x.1.length - u.2.1.length) + i) 0))))))), some (.int (nI 0)), some (.int (nI u.2.1.length)), some (.int (nI k)), some (.int (nI (u.2.1.getD k 0))), v9]) hK d_Md_goes_123 (Nat.le_of_ble_eq_true rfl) rfl ?_
        refine gh_aload_n hK d_Md_goes_125 rfl ?_
        refine gh_get (v := .ref (B 5)) hK d_Md_goes_126 in_Md rfl h.1 9 (by decide) kf_Md_22 rfl rfl ?_
        refine gh_bipush (v := nI 16) hK d_Md_goes_129 (by decide) ?_
        refine gh_iload_n hK d_Md_goes_131 rfl ?_
        refine gh_mulN hK d_Md_goes_132 ?_
        refine gh_iload_n hK d_Md_goes_133 rfl ?_
        have jn : gh_W l G (rmk 0 0 0 0) X g 0 0 [some (.ref (B 0)), some (.int (nI r)), some (.int (nI e)), some (.int (nI (bn fr1))), some (.int (nI (bn (g0 && (decide (u.2.1.length ≤ x.1.length) && (List.range k).all (fun i => decide (u.2.1.getD i 0 = 46) || decide (u.2.1.getD i 0 = x.1.getD ((if fr1 = true then 0 else x.1.length - u.2.1.length) + i) 0))))))), some (.int (nI 0)), some (.int (nI u.2.1.length)), some (.int (nI k)), some (.int (nI (u.2.1.getD k 0))), v9] 155 [.int (nI (16 * e + ((if fr1 = true then 0 else x.1.length - u.2.1.length) + k))), .ref (B 5)] → gh_W l G (rmk 0 0 0 0) X g 0 0 [some (.ref (B 0)), some (.int (nI r)), some (.int (nI e)), some (.int (nI (bn fr1))), some (.int (nI (bn (g0 && (decide (u.2.1.length ≤ x.1.length) && (List.range k).all (fun i => decide (u.2.1.getD i 0 = 46) || decide (u.2.1.getD i 0 = x.1.getD ((if fr1 = true then 0 else x.1.length - u.2.1.length) + i) 0))))))), some (.int (nI 0)), some (.int (nI u.2.1.length)), some (.int (nI k)), some (.int (nI (u.2.1.getD k 0))), v9] 134 [.int (nI (bn fr1)), .int (nI (16 * e)), .ref (B 5)] := by
          intro kk
          refine gh_if_eqB hK d_Md_goes_134 (tgt := 142) (by decide) (fun zf => ?_) (fun zf => ?_)
          · refine gh_aload_n hK d_Md_goes_142 rfl ?_
            refine gh_get (v := .ref (B 3)) hK d_Md_goes_143 in_Md rfl h.1 7 (by decide) kf_Md_16 rfl rfl ?_
            refine gh_iload_n hK d_Md_goes_146 rfl ?_
            refine gh_mald hK d_Md_goes_147 h 3 (by decide) (i := e) (x := (nI x.1.length)) (by show e < 300; omega) d2 ?_
            refine gh_iload hK d_Md_goes_148 rfl ?_
            refine gh_subN hK d_Md_goes_150 (by omega) ?_
            refine gh_iload hK d_Md_goes_151 rfl ?_
            refine gh_addN hK d_Md_goes_153 ?_
            refine gh_addN hK d_Md_goes_154 ?_
            subst zf
            rw [show (if false = true then 0 else x.1.length - u.2.1.length) = x.1.length - u.2.1.length from if_neg (by decide)] at kk
            exact kk
          · refine gh_iload hK d_Md_goes_137 rfl ?_
            refine gh_goto (tgt := 154) hK d_Md_goes_139 (by decide) ?_
            refine gh_addN hK d_Md_goes_154 ?_
            subst zf
            rw [show (if true = true then 0 else x.1.length - u.2.1.length) = 0 from if_pos rfl, Nat.zero_add] at kk
            exact kk
        refine jn ?_
        refine gh_mald hK d_Md_goes_155 h 5 (by decide) (by show _ < 4800; cases fr1 <;> simp <;> omega) hd4.1 ?_
        refine gh_istore (lv' := [some (.ref (B 0)), some (.int (nI r)), some (.int (nI e)), some (.int (nI (bn fr1))), some (.int (nI (bn (g0 && (decide (u.2.1.length ≤ x.1.length) && (List.range k).all (fun i => decide (u.2.1.getD i 0 = 46) || decide (u.2.1.getD i 0 = x.1.getD ((if fr1 = true then 0 else x.1.length - u.2.1.length) + i) 0))))))), some (.int (nI 0)), some (.int (nI u.2.1.length)), some (.int (nI k)), some (.int (nI (u.2.1.getD k 0))), some (.int (nI (x.1.getD ((if fr1 = true then 0 else x.1.length - u.2.1.length) + k) 0)))]) hK d_Md_goes_156 (Nat.le_of_ble_eq_true rfl) rfl ?_
        refine gh_iload hK d_Md_goes_158 rfl ?_
        refine gh_iload hK d_Md_goes_160 rfl ?_
        have tail : ∀ b : Bool, b = (fun i => decide (u.2.1.getD i 0 = 46) || decide (u.2.1.getD i 0 = x.1.getD ((if fr1 = true then 0 else x.1.length - u.2.1.length) + i) 0)) k → gh_W l G (rmk 0 0 0 0) X g 0 0 [some (.ref (B 0)), some (.int (nI r)), some (.int (nI e)), some (.int (nI (bn fr1))), some (.int (nI (bn (g0 && (decide (u.2.1.length ≤ x.1.length) && (List.range k).all (fun i => decide (u.2.1.getD i 0 = 46) || decide (u.2.1.getD i 0 = x.1.getD ((if fr1 = true then 0 else x.1.length - u.2.1.length) + i) 0))))))), some (.int (nI 0)), some (.int (nI u.2.1.length)), some (.int (nI k)), some (.int (nI (u.2.1.getD k 0))), some (.int (nI (x.1.getD ((if fr1 = true then 0 else x.1.length - u.2.1.length) + k) 0)))] 183 [.int (nI (bn b))] := by
          intro b hb
          rw [z]
          refine gh_istore (lv' := [some (.ref (B 0)), some (.int (nI r)), some (.int (nI e)), some (.int (nI (bn fr1))), some (.int (nI (bn b))), some (.int (nI 0)), some (.int (nI u.2.1.length)), some (.int (nI k)), some (.int (nI (u.2.1.getD k 0))), some (.int (nI (x.1.getD ((if fr1 = true then 0 else x.1.length - u.2.1.length) + k) 0)))]) hK d_Md_goes_183 (Nat.le_of_ble_eq_true rfl) rfl ?_
          refine gh_incN (lv' := [some (.ref (B 0)), some (.int (nI r)), some (.int (nI e)), some (.int (nI (bn fr1))), some (.int (nI (bn b))), some (.int (nI 0)), some (.int (nI u.2.1.length)), some (.int (nI (k + 1))), some (.int (nI (u.2.1.getD k 0))), some (.int (nI (x.1.getD ((if fr1 = true then 0 else x.1.length - u.2.1.length) + k) 0)))]) hK d_Md_goes_185 rfl rfl ?_
          refine gh_goto (tgt := 93) hK d_Md_goes_188 (by decide) ?_
          have e1 : b = (g0 && (decide (u.2.1.length ≤ x.1.length) && (List.range (k + 1)).all (fun i => decide (u.2.1.getD i 0 = 46) || decide (u.2.1.getD i 0 = x.1.getD ((if fr1 = true then 0 else x.1.length - u.2.1.length) + i) 0)))) := by rw [st_go, z, Bool.true_and]; exact hb
          rw [e1]
          exact ih (k + 1) _ _ (by omega)
        have hc1 := hsx.2
        have hc2 := hd4.2
        refine gh_icmp_eqN hK d_Md_goes_162 (tgt := 178) (by decide) (by omega) (by omega) (fun z1 => ?_) (fun z1 => ?_)
        · refine gh_iconst (v := nI 1) hK d_Md_goes_178 (by decide) ?_
          refine gh_goto (tgt := 183) hK d_Md_goes_179 (by decide) ?_
          exact tail true (by show _ = (decide _ || decide _); rw [decide_eq_true (p := _ = x.1.getD _ 0) z1, Bool.or_true])
        refine gh_iload hK d_Md_goes_165 rfl ?_
        refine gh_iconst (v := nI 2) hK d_Md_goes_167 (by decide) ?_
        refine gh_icmp_neN hK d_Md_goes_168 (tgt := 182) (by decide) (by decide) (by decide) (fun _ => ?_) (fun q => absurd q (by decide))
        refine gh_iconst (v := nI 0) hK d_Md_goes_182 (by decide) ?_
        exact tail false (by show _ = (decide _ || decide _); rw [decide_eq_false (p := _ = x.1.getD _ 0) z1, decide_eq_false (n1 _ (by rw [List.getD_eq_getElem?_getD, List.getElem?_eq_getElem (show k < u.2.1.length by omega)]; exact List.getElem_mem _))]; rfl)
    refine gh_aload_n hK d_Md_goes_54 rfl ?_
    refine gh_get (v := .ref (B 8)) hK d_Md_goes_55 in_Md rfl h.1 12 (by decide) kf_Md_31 rfl rfl ?_
    refine gh_iconst (v := nI 3) hK d_Md_goes_58 (by decide) ?_
    refine gh_iload_n hK d_Md_goes_59 rfl ?_
    refine gh_mulN hK d_Md_goes_60 ?_
    refine gh_iload hK d_Md_goes_61 rfl ?_
    refine gh_addN hK d_Md_goes_63 ?_
    refine gh_mald hK d_Md_goes_64 h 8 (by decide) (i := (3 * r) + 0) (x := (nI u.2.1.length)) (by show (3 * r) + 0 < 48; omega) p1 ?_
    refine gh_istore (lv' := [some (.ref (B 0)), some (.int (nI r)), some (.int (nI e)), some (.int (nI (bn fr1))), some (.int (nI (bn g0))), some (.int (nI 0)), some (.int (nI u.2.1.length)), v7, v8, v9]) hK d_Md_goes_65 (Nat.le_of_ble_eq_true rfl) rfl ?_
    refine gh_iload hK d_Md_goes_67 rfl ?_
    have tl : ∀ b : Bool, b = (g0 && decide (u.2.1.length ≤ x.1.length)) → gh_W l G (rmk 0 0 0 0) X g 0 0 [some (.ref (B 0)), some (.int (nI r)), some (.int (nI e)), some (.int (nI (bn fr1))), some (.int (nI (bn g0))), some (.int (nI 0)), some (.int (nI u.2.1.length)), v7, v8, v9] 88 [.int (nI (bn b))] := by
      intro b hb
      refine gh_istore (lv' := [some (.ref (B 0)), some (.int (nI r)), some (.int (nI e)), some (.int (nI (bn fr1))), some (.int (nI (bn b))), some (.int (nI 0)), some (.int (nI u.2.1.length)), v7, v8, v9]) hK d_Md_goes_88 (Nat.le_of_ble_eq_true rfl) rfl ?_
      refine gh_iconst (v := nI 0) hK d_Md_goes_90 (by decide) ?_
      refine gh_istore (lv' := [some (.ref (B 0)), some (.int (nI r)), some (.int (nI e)), some (.int (nI (bn fr1))), some (.int (nI (bn b))), some (.int (nI 0)), some (.int (nI u.2.1.length)), some (.int (nI 0)), v8, v9]) hK d_Md_goes_91 (Nat.le_of_ble_eq_true rfl) rfl ?_
      have e1 : b = (g0 && (decide (u.2.1.length ≤ x.1.length) && (List.range 0).all (fun i => decide (u.2.1.getD i 0 = 46) || decide (u.2.1.getD i 0 = x.1.getD ((if fr1 = true then 0 else x.1.length - u.2.1.length) + i) 0)))) := by rw [hb, List.range_zero, List.all_nil, Bool.and_true]
      rw [e1]
      exact lp u.2.1.length 0 _ _ (by omega)
    refine gh_if_eqB hK d_Md_goes_69 (tgt := 87) (by decide) (fun z => ?_) (fun z => ?_)
    · refine gh_iconst (v := nI 0) hK d_Md_goes_87 (by decide) ?_
      exact tl false (by rw [z]; rfl)
    refine gh_aload_n hK d_Md_goes_72 rfl ?_
    refine gh_get (v := .ref (B 3)) hK d_Md_goes_73 in_Md rfl h.1 7 (by decide) kf_Md_16 rfl rfl ?_
    refine gh_iload_n hK d_Md_goes_76 rfl ?_
    refine gh_mald hK d_Md_goes_77 h 3 (by decide) (i := e) (x := (nI x.1.length)) (by show e < 300; omega) d2 ?_
    refine gh_iload hK d_Md_goes_78 rfl ?_
    refine gh_icmp_ltN hK d_Md_goes_80 (tgt := 87) (by decide) (by omega) (by omega) (fun z2 => ?_) (fun z2 => ?_)
    · refine gh_iconst (v := nI 0) hK d_Md_goes_87 (by decide) ?_
      exact tl false (by rw [decide_eq_false (by omega), Bool.and_false])
    · refine gh_iconst (v := nI 1) hK d_Md_goes_83 (by decide) ?_
      refine gh_goto (tgt := 88) hK d_Md_goes_84 (by decide) ?_
      exact tl true (by rw [z, decide_eq_true z2]; rfl)
  refine gh_iload_n hK d_Md_goes_0 rfl ?_
  refine gh_iconst (v := (-1)) hK d_Md_goes_1 (by decide) ?_
  refine gh_icmp_neO (b := some r) hK d_Md_goes_2 (tgt := 7) (by decide) (fun i hi => by cases hi; omega) (fun i _ => ?_) (fun q => by cases q)
  show gh_W l G _ X g 0 0 [some (.ref (B 0)), some (.int (nI r)), some (.int (nI e)), none, none, none, none, none, none, none] 7 []
  have last : ∀ (v6 v7 v8 v9 : Option Value), gh_W l G (rmk 0 0 0 0) X g 0 0 [some (.ref (B 0)), some (.int (nI r)), some (.int (nI e)), some (.int (nI (bn fr1))), some (.int (nI (bn ((decide (x.2 &&& u.1 = u.1) && stO fr1 u.2.1 x.1) && stO fr1 u.2.2.2 x.1)))), some (.int (nI 2)), v6, v7, v8, v9] 191 [] := by
    intro v6 v7 v8 v9
    refine gh_iinc (v := nI 4) (lv' := [some (.ref (B 0)), some (.int (nI r)), some (.int (nI e)), some (.int (nI (bn fr1))), some (.int (nI (bn ((decide (x.2 &&& u.1 = u.1) && stO fr1 u.2.1 x.1) && stO fr1 u.2.2.2 x.1)))), some (.int (nI 4)), v6, v7, v8, v9]) hK d_Md_goes_191 rfl (by decide) rfl ?_
    refine gh_goto (tgt := 48) hK d_Md_goes_194 (by decide) ?_
    refine gh_iload hK d_Md_goes_48 rfl ?_
    refine gh_iconst (v := nI 3) hK d_Md_goes_50 (by decide) ?_
    refine gh_icmp_geN hK d_Md_goes_51 (tgt := 197) (by decide) (by decide) (by decide) (fun _ => ?_) (fun q => absurd q (by decide))
    refine gh_iload hK d_Md_goes_197 rfl ?_
    have e1 : ((decide (x.2 &&& u.1 = u.1) && stO fr1 u.2.1 x.1) && stO fr1 u.2.2.2 x.1) = goO fr1 u.1 u.2.1 u.2.2.2 x.1 x.2 := by unfold goO; rw [Bool.and_assoc]
    rw [e1]
    exact gh_zret (by cases goO fr1 u.1 u.2.1 u.2.2.2 x.1 x.2 <;> decide) hK hE d_Md_goes_199 (Nat.le_of_ble_eq_true rfl) (Nat.le_of_ble_eq_true rfl) ⟨rfl, rfl⟩
  have mid : ∀ (v6 v7 v8 v9 : Option Value), gh_W l G (rmk 0 0 0 0) X g 0 0 [some (.ref (B 0)), some (.int (nI r)), some (.int (nI e)), some (.int (nI (bn fr1))), some (.int (nI (bn (decide (x.2 &&& u.1 = u.1) && stO fr1 u.2.1 x.1)))), some (.int (nI 0)), v6, v7, v8, v9] 191 [] := by
    intro v6 v7 v8 v9
    refine gh_iinc (v := nI 2) (lv' := [some (.ref (B 0)), some (.int (nI r)), some (.int (nI e)), some (.int (nI (bn fr1))), some (.int (nI (bn (decide (x.2 &&& u.1 = u.1) && stO fr1 u.2.1 x.1)))), some (.int (nI 2)), v6, v7, v8, v9]) hK d_Md_goes_191 rfl (by decide) rfl ?_
    refine gh_goto (tgt := 48) hK d_Md_goes_194 (by decide) ?_
    refine gh_iload hK d_Md_goes_48 rfl ?_
    refine gh_iconst (v := nI 3) hK d_Md_goes_50 (by decide) ?_
    refine gh_icmp_geN hK d_Md_goes_51 (tgt := 197) (by decide) (by decide) (by decide) (fun q => absurd q (by decide)) (fun _ => ?_)
    exact part2 _ _ _ _ _ last
  have fst : ∀ b : Bool, b = decide (x.2 &&& u.1 = u.1) → gh_W l G (rmk 0 0 0 0) X g 0 0 [some (.ref (B 0)), some (.int (nI r)), some (.int (nI e)), some (.int (nI (bn fr1))), none, none, none, none, none, none] 43 [.int (nI (bn b))] := by
    intro b hb
    subst hb
    refine gh_istore (lv' := [some (.ref (B 0)), some (.int (nI r)), some (.int (nI e)), some (.int (nI (bn fr1))), some (.int (nI (bn (decide (x.2 &&& u.1 = u.1))))), none, none, none, none, none]) hK d_Md_goes_43 (Nat.le_of_ble_eq_true rfl) rfl ?_
    refine gh_iconst (v := nI 0) hK d_Md_goes_45 (by decide) ?_
    refine gh_istore (lv' := [some (.ref (B 0)), some (.int (nI r)), some (.int (nI e)), some (.int (nI (bn fr1))), some (.int (nI (bn (decide (x.2 &&& u.1 = u.1))))), some (.int (nI 0)), none, none, none, none]) hK d_Md_goes_46 (Nat.le_of_ble_eq_true rfl) rfl ?_
    refine gh_iload hK d_Md_goes_48 rfl ?_
    refine gh_iconst (v := nI 3) hK d_Md_goes_50 (by decide) ?_
    refine gh_icmp_geN hK d_Md_goes_51 (tgt := 197) (by decide) (by decide) (by decide) (fun q => absurd q (by decide)) (fun _ => ?_)
    exact part0 _ _ _ _ _ mid
  have mark : ∀ b : Bool, b = fr1 → gh_W l G (rmk 0 0 0 0) X g 0 0 [some (.ref (B 0)), some (.int (nI r)), some (.int (nI e)), none, none, none, none, none, none, none] 18 [.int (nI (bn b))] := by
    intro b hb
    subst hb
    refine gh_istore_n (lv' := [some (.ref (B 0)), some (.int (nI r)), some (.int (nI e)), some (.int (nI (bn b))), none, none, none, none, none, none]) hK d_Md_goes_18 (Nat.le_of_ble_eq_true rfl) rfl ?_
    refine gh_aload_n hK d_Md_goes_19 rfl ?_
    refine gh_get (v := .ref (B 4)) hK d_Md_goes_20 in_Md rfl h.1 8 (by decide) kf_Md_19 rfl rfl ?_
    refine gh_iload_n hK d_Md_goes_23 rfl ?_
    refine gh_mald hK d_Md_goes_24 h 4 (by decide) (i := e) (x := (nI x.2)) (by show e < 300; omega) d3 ?_
    refine gh_aload_n hK d_Md_goes_25 rfl ?_
    refine gh_get (v := .ref (B 7)) hK d_Md_goes_26 in_Md rfl h.1 11 (by decide) kf_Md_28 rfl rfl ?_
    refine gh_iload_n hK d_Md_goes_29 rfl ?_
    refine gh_mald hK d_Md_goes_30 h 7 (by decide) (i := r) (x := (nI fl)) (by show r < 16; omega) hf3 ?_
    refine gh_ishr hK d_Md_goes_31 ?_
    rw [show (nI x.2 >>> (nI fl &&& 31)) = nI (x.2 / 2 ^ fl) from by rw [show nI fl &&& 31 = nI fl from (pk_andN (by omega) 5 (by decide)).trans (by rw [Nat.mod_eq_of_lt (by omega)])]; exact pk_shrN (by omega) (nI fl) fl (sm32 fl (by omega))]
    refine gh_iconst (v := nI 1) hK d_Md_goes_32 (by decide) ?_
    refine gh_iand hK d_Md_goes_33 ?_
    rw [show nI (x.2 / 2 ^ fl) &&& nI 1 = nI (x.2 / 2 ^ fl % 2) from pk_andN (Nat.lt_of_le_of_lt (Nat.div_le_self _ _) (by omega)) 1 (by decide)]
    refine gh_iconst (v := nI 1) hK d_Md_goes_34 (by decide) ?_
    have h01 : x.2 / 2 ^ fl % 2 = 1 ∨ x.2 / 2 ^ fl % 2 = 0 := by omega
    refine gh_icmp_neN hK d_Md_goes_35 (tgt := 42) (by decide) (by omega) (by decide) (fun z => ?_) (fun z => ?_)
    · refine gh_iconst (v := nI 0) hK d_Md_goes_42 (by decide) ?_
      exact fst false (by rw [hf2, fl_bit h01, decide_eq_false z])
    · refine gh_iconst (v := nI 1) hK d_Md_goes_38 (by decide) ?_
      refine gh_goto (tgt := 43) hK d_Md_goes_39 (by decide) ?_
      exact fst true (by rw [hf2, fl_bit h01, decide_eq_true z])
  refine gh_iload_n hK d_Md_goes_7 rfl ?_
  refine gh_bipush (v := nI 8) hK d_Md_goes_8 (by decide) ?_
  refine gh_icmp_geN hK d_Md_goes_10 (tgt := 17) (by decide) (by omega) (by decide) (fun z => ?_) (fun z => ?_)
  · refine gh_iconst (v := nI 0) hK d_Md_goes_17 (by decide) ?_
    exact mark false (by rw [← hfr, decide_eq_false (by omega)])
  · refine gh_iconst (v := nI 1) hK d_Md_goes_13 (by decide) ?_
    refine gh_goto (tgt := 18) hK d_Md_goes_14 (by decide) ?_
    exact mark true (by rw [← hfr, decide_eq_true (by omega)])
