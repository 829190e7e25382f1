/-! Euclid ends -/
def eud : Nat → Int32 → Int32 → Prop
  | 0, _, y => y = 0
  | n + 1, x, y => y = 0 ∨ eud n y (x - x / y * y)
theorem euc_ne : ∀ (n : Nat) (x y : Int32), eud n x y → ¬ (x = 0 ∧ y = 0) → ¬ euc n x y = 0
  | 0, x, y, h, hz => fun h2 => hz ⟨h2, h⟩
  | n + 1, x, y, h, hz => by
    rw [euc]
    split
    · rename_i h0
      exact fun h2 => hz ⟨h2, h0⟩
    · rename_i h0
      exact euc_ne n y _ (h.resolve_left h0) (fun q => h0 q.1)
theorem rem_abs (x y : Int32) (_ : ¬ y = 0) : (x - x / y * y).toInt.natAbs = x.toInt.natAbs % y.toInt.natAbs := by
  rw [rem_toInt, Int.natAbs_tmod]
theorem abs_0 {y : Int32} (h : y.toInt.natAbs = 0) : y = 0 := by
  have h1 : y.toInt = 0 := Int.natAbs_eq_zero.mp h
  exact Int32.toInt_inj.mp h1
/-- two steps halve -/
theorem eud_two : ∀ (k : Nat) (x y : Int32), y.toInt.natAbs < 2 ^ k → eud (2 * k) x y
  | 0, x, y, h => abs_0 (by omega)
  | k + 1, x, y, h => by
    rw [show 2 * (k + 1) = 2 * k + 1 + 1 by omega, eud]
    by_cases h0 : y = 0
    · exact Or.inl h0
    · right
      rw [eud]
      by_cases h1 : x - x / y * y = 0
      · exact Or.inl h1
      · right
        apply eud_two k
        have e1 := rem_abs x y h0
        have e2 := rem_abs y (x - x / y * y) h1
        rw [e2]
        have hy : 0 < y.toInt.natAbs := by
          rcases Nat.eq_zero_or_pos y.toInt.natAbs with q | q
          · exact absurd (abs_0 q) h0
          · exact q
        have hr : (x - x / y * y).toInt.natAbs < y.toInt.natAbs := by rw [e1]; exact Nat.mod_lt _ hy
        have hr0 : 0 < (x - x / y * y).toInt.natAbs := by
          rcases Nat.eq_zero_or_pos (x - x / y * y).toInt.natAbs with q | q
          · exact absurd (abs_0 q) h1
          · exact q
        generalize (x - x / y * y).toInt.natAbs = r at hr hr0
        generalize y.toInt.natAbs = s at h hy hr
        have h3 : s % r < r := Nat.mod_lt _ hr0
        have h4 : s % r + r ≤ s := by
          have h5 := Nat.div_add_mod s r
          have h6 : 1 ≤ s / r := Nat.div_pos (Nat.le_of_lt hr) hr0
          have h7 : r * 1 ≤ r * (s / r) := Nat.mul_le_mul_left r h6
          omega
        rw [Nat.pow_succ] at h
        omega
theorem eud_up : ∀ (n m : Nat) (x y : Int32), n ≤ m → eud n x y → eud m x y
  | 0, 0, _, _, _, h => h
  | 0, m + 1, _, _, _, h => Or.inl h
  | n + 1, 0, _, _, h, _ => by omega
  | n + 1, m + 1, x, y, h, h2 => h2.imp id (eud_up n m _ _ (by omega))
theorem eud_all (x y : Int32) : eud 100 x y := by
  refine eud_up (2 * 32) 100 x y (by decide) (eud_two 32 x y ?_)
  have h1 := Int32.le_toInt y
  have h2 := Int32.toInt_lt y
  omega
theorem inI_01 (x : Int32) : inI x 0 1 = zo x := by
  rw [show (1 : Int32) = nI 2 - 1 from by decide, inI_0 (by decide)]
  unfold inB zo
  by_cases h : x < 0
  · rw [if_pos h]
    have h1 : ¬ x = 0 := by intro q; subst q; exact absurd h (by decide)
    have h2 : ¬ x = 1 := by intro q; subst q; exact absurd h (by decide)
    simp [h1, h2]
  · rw [if_neg h]
    obtain ⟨j, hj, rfl⟩ := nI_of h
    by_cases h3 : 2 ≤ j
    · rw [if_pos (nI_le h3 hj)]
      have h1 : ¬ nI j = 0 := nI_ne0 (by omega) hj
      have h2 : ¬ nI j = 1 := fun q => by have := eq_nI (a := j) (b := 1) q hj (by decide); omega
      simp [h1, h2]
    · rw [if_neg (nI_ge (by omega) (by decide))]
      rcases (show j = 0 ∨ j = 1 by omega) with q | q <;> subst q <;> decide
def isKB (of k : Int32) : Bool := if k = 0 then true else if of = k then true else if k = 1 then (if of < 4 then true else if k = 4 then (if of = 5 then true else false) else false) else if k = 4 then (if of = 5 then true else false) else false
theorem zero_sub32 (x : Int32) : -x = 0 - x := by
  rw [Int32.zero_sub]
theorem fac_ne : ∀ n : Nat, n ≤ 6 → ¬ nI (facN n) = 0 := by decide +kernel
