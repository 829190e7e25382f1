/-! small words: the same -/
theorem isKB_eq {of k : Int32} (h : kok of) : isKB of k = isAB of k := by
  unfold isKB isAB abvI
  rcases h with z | z | z | z | z <;> subst z
  · by_cases h0 : k = 0
    · subst h0; decide
    · by_cases h1 : k = 1
      · subst h1; decide
      · have e : ¬ (1 : Int32) = k := fun z => h1 z.symm
        by_cases h4 : k = 4
        · subst h4; decide
        · simp [h0, h1, h4, e]
  · by_cases h0 : k = 0
    · subst h0; decide
    · by_cases h1 : k = 1
      · subst h1; decide
      · by_cases h2 : k = 2
        · subst h2; decide
        · have e : ¬ (2 : Int32) = k := fun z => h2 z.symm
          by_cases h4 : k = 4
          · subst h4; decide
          · simp [h0, h1, h2, h4, e]
  · by_cases h0 : k = 0
    · subst h0; decide
    · by_cases h1 : k = 1
      · subst h1; decide
      · by_cases h2 : k = 3
        · subst h2; decide
        · have e : ¬ (3 : Int32) = k := fun z => h2 z.symm
          by_cases h4 : k = 4
          · subst h4; decide
          · simp [h0, h1, h2, h4, e]
  · by_cases h0 : k = 0
    · subst h0; decide
    · by_cases h1 : k = 1
      · subst h1; decide
      · by_cases h4 : k = 4
        · subst h4; decide
        · have e : ¬ (4 : Int32) = k := fun z => h4 z.symm
          simp [h0, h1, h4, e]
  · by_cases h0 : k = 0
    · subst h0; decide
    · by_cases h1 : k = 1
      · subst h1; decide
      · by_cases h4 : k = 4
        · subst h4; decide
        · by_cases h5 : k = 5
          · subst h5; decide
          · have e : ¬ (5 : Int32) = k := fun z => h5 z.symm
            simp [h0, h1, h4, h5, e]
theorem aw_1 : ∀ k : Nat, k < 64 → ∀ i : Nat, i < 6 → (awN (nI k) (nI i) 1 = nI k ↔ (nI k >>> (nI i &&& 31)) &&& 1 = 1) ∧ (¬ awN (nI k) (nI i) 1 = nI k → awN (nI k) (nI i) 1 = nI k ^^^ (1 <<< (nI i &&& 31))) := by decide +kernel
theorem aw_0 : ∀ k : Nat, k < 64 → ∀ i : Nat, i < 6 → (awN (nI k) (nI i) 0 = nI k ↔ (nI k >>> (nI i &&& 31)) &&& 1 = 0) ∧ (¬ awN (nI k) (nI i) 0 = nI k → awN (nI k) (nI i) 0 = nI k ^^^ (1 <<< (nI i &&& 31))) := by decide +kernel
theorem rowB_in {x y : Int32} : rowB x y = !(inI x 0 2 && !decide (40 < y)) := by
  unfold rowB inI
  by_cases h1 : x < 0
  · rw [if_pos h1, if_pos h1]; rfl
  · rw [if_neg h1, if_neg h1]
    by_cases h2 : 3 ≤ x
    · have h3 : (2 : Int32) < x := by
        rw [Int32.lt_iff_toInt_lt]; rw [Int32.le_iff_toInt_le] at h2
        have e3 : (3 : Int32).toInt = 3 := by decide
        have e2 : (2 : Int32).toInt = 2 := by decide
        omega
      rw [if_pos h2, if_pos h3]; rfl
    · have h3 : ¬ (2 : Int32) < x := by
        rw [Int32.lt_iff_toInt_lt]; rw [Int32.le_iff_toInt_le] at h2
        have e3 : (3 : Int32).toInt = 3 := by decide
        have e2 : (2 : Int32).toInt = 2 := by decide
        omega
      rw [if_neg h2, if_neg h3, Bool.true_and]
      by_cases h4 : 40 < y
      · rw [if_pos h4, decide_eq_true h4]; rfl
      · rw [if_neg h4, decide_eq_false h4]; rfl
theorem inI_01b {y : Int32} : inI y 0 1 = zo y := by
  unfold inI zo
  by_cases h1 : y = 0
  · subst h1; decide
  · by_cases h2 : y = 1
    · subst h2; decide
    · rw [decide_eq_false h1, decide_eq_false h2]
      by_cases h3 : y < 0
      · rw [if_pos h3]; rfl
      · rw [if_neg h3, if_pos]
        · rfl
        · rw [Int32.lt_iff_toInt_lt] at *
          have e0 : (0 : Int32).toInt = 0 := by decide
          have e1 : (1 : Int32).toInt = 1 := by decide
          have g0 : ¬ y.toInt = 0 := fun z => h1 (Int32.toInt_inj.mp (z.trans e0.symm))
          have g1 : ¬ y.toInt = 1 := fun z => h2 (Int32.toInt_inj.mp (z.trans e1.symm))
          omega
