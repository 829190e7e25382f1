/-! the law that was read: the class and the model -/
theorem lm_lw (f : Nat → Int32) (len : Nat) : lmR f len = lwR f len := by
  unfold lmR lwR tn1 tn2
  rw [isL_let (c := 116) (by decide), nfM_eq, sfI_isL (c := 59) (by decide)]
  by_cases h1 : tkS f len 0 = 0
  · rw [if_pos h1, decide_eq_true h1, Bool.true_and]
    by_cases h2 : tkV f len 0 = 116
    · rw [if_pos h2, decide_eq_true h2, if_pos rfl]
    · rw [if_neg h2, decide_eq_false h2, if_neg (by decide)]
  · rw [if_neg h1, decide_eq_false h1, Bool.false_and, if_neg (by decide)]
theorem lmP_bad {f : Nat → Int32} {len : Nat} (h : ¬ lmR f len = 0) : lmP f len = lwP f len := by
  unfold lmR at h
  unfold lmP lwP tn1 tn2
  rw [isL_let (c := 116) (by decide), nfM_eq] at h
  rw [isL_let (c := 116) (by decide), nfM_eq]
  by_cases h1 : tkS f len 0 = 0
  · rw [if_pos h1, decide_eq_true h1, Bool.true_and]
    rw [decide_eq_true h1, Bool.true_and] at h
    by_cases h2 : tkV f len 0 = 116
    · rw [if_pos h2, decide_eq_true h2, if_pos rfl]
      rw [decide_eq_true h2, if_pos rfl] at h
      by_cases h3 : nfI f len (tkN f len 0) 2 6 = 0
      · rw [if_pos h3, if_pos h3]
        rw [if_pos h3] at h
        rw [if_neg (fun z => h (if_pos z))]
      · rw [if_neg h3, if_neg h3]
    · rw [if_neg h2, decide_eq_false h2, if_neg (by decide)]
  · rw [if_neg h1, decide_eq_false h1, Bool.false_and, if_neg (by decide)]
theorem lwP_ok {f : Nat → Int32} {len : Nat} (h : lmR f len = 0) : lwP f len = tkN f len (tkN f len 0) := by
  obtain ⟨h1, h2, h3⟩ := lm_ok h
  rw [isL_let (c := 116) (by decide), Bool.and_eq_true, decide_eq_true_eq, decide_eq_true_eq] at h1
  rw [nfM_eq] at h2
  unfold lwP tn1 tn2
  rw [if_pos h1.1, if_pos h1.2, if_pos h2]
theorem pe0_eq {f : Nat → Int32} {len : Nat} (h : lmR f len = 0) : pe0 f len = tkV f len (tn1 f len 0) := by
  obtain ⟨_, h2, _⟩ := lm_ok h
  refine mva_num (f := f) (len := len) (q := tkN f len 0) ?_
  rw [nfM_eq] at h2
  unfold nfI at h2
  by_cases h3 : tkS f len (tkN f len 0) = 1
  · exact h3
  · rw [if_neg h3] at h2; exact absurd h2 (by decide)
theorem nfI_num {f : Nat → Int32} {len q : Nat} {lo hi : Int32} (h : nfI f len q lo hi = 0) : tkS f len q = 1 ∧ ¬ tkV f len q < lo ∧ ¬ hi < tkV f len q := by
  unfold nfI at h
  by_cases h3 : tkS f len q = 1
  · rw [if_pos h3] at h
    by_cases h4 : tkV f len q < lo
    · rw [if_pos h4] at h; exact absurd h (by decide)
    · rw [if_neg h4] at h
      by_cases h5 : hi < tkV f len q
      · rw [if_pos h5] at h; exact absurd h (by decide)
      · exact ⟨h3, h4, h5⟩
  · rw [if_neg h3] at h; exact absurd h (by decide)
/-- a tie read, by the model: as by the class -/
def dT (f : Nat → Int32) (len tn q : Nat) (d : Nat → Int32) : Nat → Int32 := upd (upd (upd (upd d (5 + tn) (kdAt f len q)) 1 (nI (tn + 1))) (13 + tn) (tkV f len (tn1 f len q))) (21 + tn) (tkV f len (tn3 f len q))
theorem rt_tf {f : Nat → Int32} {len tn q : Nat} {al : Int32} {d : Nat → Int32} (ht : tn ≤ 8) (hk : ¬ kdAt f len q = 0) :
    (rtX f len al tn q (kdM f len q) d).1 = tfR f len al tn q ∧ (¬ tfR f len al tn q = 0 → (rtX f len al tn q (kdM f len q) d).2.1 = tfP f len al tn q) ∧ (tfR f len al tn q = 0 → (rtX f len al tn q (kdM f len q) d).2 = (tkN f len (tfP f len al tn q), dT f len tn q d)) := by
  unfold rtX tfR tfP dT
  rw [if_neg hk, if_neg hk, kdM_eq, nfM_eq, nfM_eq, sfI_isL (c := 44) (by decide), sfI_isL (c := 59) (by decide)]
  by_cases h1 : 8 ≤ tn
  · have h2 : tn = 8 := by omega
    rw [if_pos h1, if_pos h1, if_pos h2]
    exact ⟨rfl, fun _ => rfl, fun z => absurd z (by decide)⟩
  · have h2 : ¬ tn = 8 := by omega
    rw [if_neg h1, if_neg h1, if_neg h2]
    have e10 : ¬ (1 : Int32) = 0 := by decide
    by_cases h3 : nfI f len (tn1 f len q) 1 al = 0
    · simp only [if_pos h3]
      by_cases h4 : isL f len (tn2 f len q) 44 = true
      · simp only [if_pos h4, reduceIte]
        by_cases h5 : nfI f len (tn3 f len q) 0 40 = 0
        · simp only [if_pos h5]
          by_cases h6 : isL f len (tn4 f len q) 59 = true
          · simp only [if_pos h6]
            rw [mva_num (nfI_num h3).1, mva_num (nfI_num h5).1]
            refine ⟨?_, ?_, fun _ => rfl⟩ <;> first | trivial | exact fun z => absurd trivial z | exact fun z => absurd rfl z
          · simp only [if_neg h6]
            refine ⟨?_, ?_, fun z => absurd z e10⟩ <;> first | trivial | exact fun _ => trivial | exact fun _ => rfl
        · simp only [if_neg h5]
          refine ⟨?_, ?_, fun z => absurd z h5⟩ <;> first | trivial | exact fun _ => trivial | exact fun _ => rfl
      · simp only [if_neg h4, if_neg e10]
        refine ⟨?_, ?_, fun z => absurd z e10⟩ <;> first | trivial | exact fun _ => trivial | exact fun _ => rfl
    · simp only [if_neg h3]
      refine ⟨?_, ?_, fun z => absurd z h3⟩ <;> first | trivial | exact fun _ => trivial | exact fun _ => rfl
