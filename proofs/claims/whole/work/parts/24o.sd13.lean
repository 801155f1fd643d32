abbrev LnT := Bool × Nat × List (Nat × List Nat × Nat) × List (Nat × RuR) × List (Nat × RuR) × (List Nat × Nat)
/-- what the command of a line does, whose first piece is from s to e; a is where a new entry or rule lies -/
def lnC (a : Nat) (es : List (Nat × List Nat × Nat)) (us1 us2 : List (Nat × RuR)) (tx : List Nat) (o : List Nat × Nat) (le s e : Nat) : LnT :=
  if pcI tx s e (st_txt.getD 0 []) = true then (adO tx le e, adQ tx le e, (if adO tx le e = true then adE es a (adW tx le e) ((adF tx le e).getD 0) else es), us1, us2, (if adO tx le e = true then prs o (adT es (adW tx le e)) else o)) else
  if pcI tx s e (st_txt.getD 4 []) = true then (owO tx 16 le e, owS tx 16 le e, (if owO tx 16 le e = true then (if nxW tx le e ∈ dws es then es.eraseIdx (rnkL (nxW tx le e) (dws es)) else es) else es), us1, us2, (if owO tx 16 le e = true then prs o (if nxW tx le e ∈ dws es then st_txt.getD 3 [] else st_txt.getD 5 []) else o)) else
  if pcI tx s e (st_txt.getD 6 []) = true then ((rdR tx le e).1.isSome, (rdR tx le e).2, es, (ruA us1 a (rdR tx le e).1), us2, (ruT us1 (rdR tx le e).1 o)) else
  if pcI tx s e (st_txt.getD 8 []) = true then ((rdR tx le e).1.isSome, (rdR tx le e).2, es, us1, (ruA us2 a (rdR tx le e).1), (ruT us2 (rdR tx le e).1 o)) else
  if pcI tx s e (st_txt.getD 9 []) = true then ((ckA tx le e).1.isNone, ((ckA tx le e).1.getD 0), es, us1, us2, (if (ckA tx le e).1.isNone = true then prs o (jnI ((ckA tx le e).2.filter (ckN es us1 us2))) else o)) else
  if pcI tx s e (st_txt.getD 10 []) = true then (owO tx 16 le e, owS tx 16 le e, es, us1, us2, (if owO tx 16 le e = true then prs o (jnI (lkW (nxW tx le e) (es.drop (rnkL (nxW tx le e) (dws es))))) else o)) else
  if pcI tx s e (st_txt.getD 11 []) = true then (owO tx 28 le e, owS tx 28 le e, es, us1, us2, (if owO tx 28 le e = true then prs o (jnI ((wyA es us1 us2 81 (nxW tx le e)).map (wyX es))) else o)) else
  if pcI tx s e (st_txt.getD 15 []) = true then (owO tx 16 le e, owS tx 16 le e, es, us1, us2, (if owO tx 16 le e = true then prs o (jnI (frW es us1 us2 (nxW tx le e))) else o)) else
  if pcI tx s e (st_txt.getD 16 []) = true then (decide (nxE tx le e ≤ nxS tx le e), nxS tx le e, es, us1, us2, (if decide (nxE tx le e ≤ nxS tx le e) = true then prs o (decL es.length ++ 32 :: (decL us1.length ++ 32 :: decL us2.length)) else o)) else
  if pcI tx s e (st_txt.getD 17 []) = true then (decide (nxE tx le e ≤ nxS tx le e), nxS tx le e, (if decide (nxE tx le e ≤ nxS tx le e) = true then [] else es), (if decide (nxE tx le e ≤ nxS tx le e) = true then [] else us1), (if decide (nxE tx le e ≤ nxS tx le e) = true then [] else us2), (if decide (nxE tx le e ≤ nxS tx le e) = true then prs o (st_txt.getD 3 []) else o)) else
  (false, s, es, us1, us2, o)
def lnO (ls : Nat) (t : LnT) : List Nat × Nat := prt (if t.1 = true then t.2.2.2.2.2 else prs t.2.2.2.2.2 (st_txt.getD 18 [] ++ decL (t.2.1 - ls + 1))) 10
/-! the places of faults lie in the line -/
theorem adQ_in {tx : List Nat} {le e : Nat} (he : e ≤ le) : e ≤ adQ tx le e ∧ adQ tx le e ≤ le := by
  have b1 := nxS_le (tx := tx) he
  have b2 := nxE_le (tx := tx) he
  have b3 := nxS_le (tx := tx) b2.2
  unfold adQ
  split <;> omega
theorem owS_in {tx : List Nat} {k le e : Nat} (he : e ≤ le) : e ≤ owS tx k le e ∧ owS tx k le e ≤ le := by
  have b1 := nxS_le (tx := tx) he
  have b2 := nxE_le (tx := tx) he
  have b3 := nxS_le (tx := tx) b2.2
  unfold owS
  split <;> omega
theorem rdR_in {tx : List Nat} {le e : Nat} (he : e ≤ le) : e ≤ (rdR tx le e).2 ∧ (rdR tx le e).2 ≤ le := by
  have b1 := nxS_le (tx := tx) he
  have c1 := nxE_le (tx := tx) he
  have b2 := nxS_le (tx := tx) c1.2
  have c2 := nxE_le (tx := tx) c1.2
  have b3 := nxS_le (tx := tx) c2.2
  have c3 := nxE_le (tx := tx) c2.2
  have b4 := nxS_le (tx := tx) c3.2
  have c4 := nxE_le (tx := tx) c3.2
  have b5 := nxS_le (tx := tx) c4.2
  unfold rdR
  split
  · unfold rdR2
    split
    · unfold rdR3
      split
      · unfold rdR4
        split
        · unfold rdR5
          split
          · show e ≤ nxS tx le _ ∧ nxS tx le _ ≤ le; omega
          · show e ≤ nxS tx le _ ∧ nxS tx le _ ≤ le; omega
        · show e ≤ nxS tx le _ ∧ nxS tx le _ ≤ le; omega
      · show e ≤ nxS tx le _ ∧ nxS tx le _ ≤ le; omega
    · show e ≤ nxS tx le _ ∧ nxS tx le _ ≤ le; omega
  · show e ≤ nxS tx le _ ∧ nxS tx le _ ≤ le; omega
theorem ckG_in {tx : List Nat} {le : Nat} {q : Nat} : ∀ (k e : Nat) (ws : List (List Nat)), e ≤ le → (ckG tx le k e ws).1 = some q → e ≤ q ∧ q ≤ le
  | 0, _, _, _, h => by cases h
  | k + 1, e, ws, he, h => by
    have b1 := nxS_le (tx := tx) he
    have c1 := nxE_le (tx := tx) he
    rw [ckG] at h
    split at h
    · cases h
    · split at h
      · have := ckG_in k _ _ c1.2 h
        omega
      · have := Option.some.inj h
        omega
theorem ckA_in {tx : List Nat} {le e q : Nat} (he : e ≤ le) (h : (ckA tx le e).1 = some q) : e ≤ q ∧ q ≤ le := by
  have b1 := nxS_le (tx := tx) he
  have c1 := nxE_le (tx := tx) he
  unfold ckA at h
  split at h
  · have := ckG_in _ _ _ c1.2 h
    omega
  · have := Option.some.inj h
    omega
