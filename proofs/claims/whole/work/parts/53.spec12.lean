/-! the class's words and the model's words are the same -/
theorem soI_v (c : Int32) : soI c = 0 ∨ soI c = 2 ∨ soI c = 4 := by
  unfold soI
  repeat' split
  all_goals decide
theorem isL_eq {f : Nat → Int32} {len q : Nat} {c : Int32} (hc : soI c = 0 ∨ soI c = 2) : isL f len q c = (decide (tkS f len q = soI c) && decide (tkV f len q = c)) := by
  unfold isL mtk mva tkS tkV
  by_cases h1 : len ≤ q
  · simp only [if_pos h1]
    rcases hc with z | z <;> rw [z] <;> rfl
  · simp only [if_neg h1]
    by_cases h2 : fig (f q) = true
    · simp only [if_pos h2]
      by_cases h3 : dg f (len - q) q ≤ 2
      · simp only [if_pos h3]
        rcases hc with z | z <;> rw [z] <;> rfl
      · simp only [if_neg h3]
        rcases hc with z | z <;> rw [z] <;> rfl
    · simp only [if_neg h2]
      by_cases h4 : f q = c
      · subst h4
        rcases hc with z | z <;> rw [z] <;> simp
      · rw [decide_eq_false h4, Bool.and_false]
        by_cases h5 : soI (f q) = 4
        · simp only [if_pos h5]; rw [if_neg (by decide)]
        · simp only [if_neg h5, if_neg h4]; rfl
theorem isL_let {f : Nat → Int32} {len q : Nat} {c : Int32} (hc : soI c = 0) : isL f len q c = (decide (tkS f len q = 0) && decide (tkV f len q = c)) := by
  rw [isL_eq (Or.inl hc), hc]
theorem isL_sig {f : Nat → Int32} {len q : Nat} {c : Int32} (hc : soI c = 2) : isL f len q c = (decide (tkS f len q = 2) && decide (tkV f len q = c)) := by
  rw [isL_eq (Or.inr hc), hc]
theorem mtk_end (f : Nat → Int32) (len q : Nat) : (mtk f len q = 3) ↔ (tkS f len q = 3) := by
  unfold mtk tkS
  by_cases h1 : len ≤ q
  · simp only [if_pos h1] <;> decide
  · simp only [if_neg h1]
    by_cases h2 : fig (f q) = true
    · simp only [if_pos h2]
      split <;> decide
    · simp only [if_neg h2]
      rcases soI_v (f q) with z | z | z <;> rw [z] <;> decide
theorem mtk_num (f : Nat → Int32) (len q : Nat) : (mtk f len q = 2) ↔ (tkS f len q = 1) := by
  unfold mtk tkS
  by_cases h1 : len ≤ q
  · simp only [if_pos h1] <;> decide
  · simp only [if_neg h1]
    by_cases h2 : fig (f q) = true
    · simp only [if_pos h2]
      split <;> decide
    · simp only [if_neg h2]
      rcases soI_v (f q) with z | z | z <;> rw [z] <;> decide
theorem fig_v {c : Int32} (h : fig c = true) : 48 ≤ c ∧ c ≤ 57 := by
  unfold fig at h
  by_cases h1 : c < 48
  · rw [if_pos h1] at h; cases h
  · rw [if_neg h1] at h
    by_cases h2 : 57 < c
    · rw [if_pos h2] at h; cases h
    · exact ⟨Int32.not_lt.mp h1, Int32.not_lt.mp h2⟩
theorem fig_nI {c : Int32} (h : fig c = true) : ∃ k : Nat, k ≤ 9 ∧ c = nI (48 + k) := by
  have h1 := fig_v h
  have h2 := Int32.le_iff_toInt_le.mp h1.1
  have h3 := Int32.le_iff_toInt_le.mp h1.2
  rw [show (48 : Int32).toInt = 48 from by decide] at h2
  rw [show (57 : Int32).toInt = 57 from by decide] at h3
  refine ⟨(c.toInt - 48).toNat, by omega, Int32.toInt_inj.mp ?_⟩
  rw [nI_toInt (by omega)]
  omega
/-- a figure read is one of ten -/
theorem mdv_1 {f : Nat → Int32} {q : Nat} (h : fig (f q) = true) : ∃ k : Nat, k ≤ 9 ∧ mdv f q 1 = nI k := by
  obtain ⟨k, hk, he⟩ := fig_nI h
  refine ⟨k, hk, ?_⟩
  show (if (0 : Int32) ≤ 99 then 10 * 0 + f (q + 0) - 48 else 0) = nI k
  rw [if_pos (by decide), Nat.add_zero, he]
  clear he
  rcases (show k = 0 ∨ k = 1 ∨ k = 2 ∨ k = 3 ∨ k = 4 ∨ k = 5 ∨ k = 6 ∨ k = 7 ∨ k = 8 ∨ k = 9 by omega) with z | z | z | z | z | z | z | z | z | z <;> subst z <;> decide
theorem mdv_dv {f : Nat → Int32} {q : Nat} : ∀ {k : Nat}, k ≤ 2 → (1 ≤ k → fig (f q) = true) → mdv f q k = dv f q k
  | 0, _, _ => rfl
  | 1, _, _ => by show (if (0 : Int32) ≤ 99 then 10 * 0 + f (q + 0) - 48 else 0) = (if 0 + 1 ≤ 2 then 10 * 0 + f (q + 0) - 48 else 0); rw [if_pos (by decide), if_pos (by decide)]
  | 2, _, h => by
    have h1 : mdv f q 1 = dv f q 1 := mdv_dv (by omega) (fun _ => h (by omega))
    obtain ⟨k, hk, he⟩ := mdv_1 (h (by omega))
    have h2 : mdv f q 1 ≤ 99 := by rw [he]; exact (nI_leI (a := k) (b := 99) (by omega) (by decide)).mpr (by omega)
    show (if mdv f q 1 ≤ 99 then 10 * mdv f q 1 + f (q + 1) - 48 else mdv f q 1) = (if 1 + 1 ≤ 2 then 10 * dv f q 1 + f (q + 1) - 48 else dv f q 1)
    rw [if_pos h2, if_pos (Nat.le_refl _), h1]
  | n + 3, h, _ => absurd h (by omega)
theorem mva_num {f : Nat → Int32} {len q : Nat} (h : tkS f len q = 1) : mva f len q = tkV f len q := by
  unfold tkS at h
  unfold mva tkV
  by_cases h1 : len ≤ q
  · rw [if_pos h1, if_pos h1]
  · rw [if_neg h1, if_neg h1]
    rw [if_neg h1] at h
    by_cases h2 : fig (f q) = true
    · rw [if_pos h2, if_pos h2]
      rw [if_pos h2] at h
      by_cases h3 : dg f (len - q) q ≤ 2
      · exact mdv_dv h3 (fun _ => h2)
      · rw [if_neg h3] at h; exact absurd h (by decide)
    · rw [if_neg h2, if_neg h2]
theorem inI_iff {x a b : Int32} : inI x a b = true ↔ ¬ x < a ∧ ¬ b < x := by
  unfold inI
  by_cases h1 : x < a
  · rw [if_pos h1]; exact ⟨fun z => (by cases z), fun z => absurd h1 z.1⟩
  · rw [if_neg h1]
    by_cases h2 : b < x
    · rw [if_pos h2]; exact ⟨fun z => (by cases z), fun z => absurd h2 z.2⟩
    · rw [if_neg h2]; exact ⟨fun _ => ⟨h1, h2⟩, fun _ => rfl⟩
theorem nfM_eq (f : Nat → Int32) (len q : Nat) (lo hi : Int32) : nfM f len q lo hi = nfI f len q lo hi := by
  unfold nfM nfI
  by_cases h1 : tkS f len q = 1
  · rw [if_pos ((mtk_num f len q).mpr h1), if_pos h1, mva_num h1]
    unfold inI
    by_cases h2 : tkV f len q < lo
    · rw [if_pos h2, if_pos h2]; rfl
    · rw [if_neg h2, if_neg h2]
      by_cases h3 : hi < tkV f len q
      · rw [if_pos h3, if_pos h3]; rfl
      · rw [if_neg h3, if_neg h3]; rfl
  · rw [if_neg (fun z => h1 ((mtk_num f len q).mp z)), if_neg h1]
theorem sfI_isL {f : Nat → Int32} {len q : Nat} {c : Int32} (hc : soI c = 2) : sfI f len q c = (if isL f len q c = true then 0 else 1) := by
  rw [isL_sig hc]
  unfold sfI
  by_cases h1 : tkS f len q = 2
  · rw [if_pos h1, decide_eq_true h1, Bool.true_and]
    by_cases h2 : tkV f len q = c
    · rw [if_pos h2, if_pos (decide_eq_true h2)]
    · rw [if_neg h2, if_neg (by rw [decide_eq_false h2]; decide)]
  · rw [if_neg h1, decide_eq_false h1, Bool.false_and, if_neg (by decide)]
theorem kdM_eq (f : Nat → Int32) (len q : Nat) : kdM f len q = kdAt f len q := by
  unfold kdM kdAt kdI
  rw [isL_let (c := 97) (by decide), isL_let (c := 113) (by decide), isL_let (c := 109) (by decide), isL_let (c := 121) (by decide), isL_let (c := 110) (by decide)]
  by_cases h1 : tkS f len q = 0
  · simp only [h1, decide_true, Bool.true_and, decide_eq_true_eq, reduceIte]
  · simp only [h1, decide_false, Bool.false_and, Bool.false_eq_true, reduceIte]
