theorem rtX_le {f : Nat → Int32} {len : Nat} {al : Int32} {tn q : Nat} {kd : Int32} {d : Nat → Int32} (h : q ≤ len) : (rtX f len al tn q kd d).2.1 ≤ len := by
  have h1 := tkN_le (f := f) h
  have h2 := tkN_le (f := f) h1
  have h3 := tkN_le (f := f) h2
  have h4 := tkN_le (f := f) h3
  have h5 := tkN_le (f := f) h4
  unfold rtX tn1 tn2 tn3 tn4
  repeat' split
  all_goals assumption
theorem nf_no2 {f : Nat → Int32} {len q : Nat} {lo hi : Int32} : nfM f len q lo hi = 0 ∨ nfM f len q lo hi = 1 ∨ nfM f len q lo hi = 2 := by
  unfold nfM
  split
  · split
    · left; rfl
    · right; right; rfl
  · right; left; rfl
theorem rtX_ok {f : Nat → Int32} {len : Nat} {al : Int32} {tn q : Nat} {kd : Int32} {d : Nat → Int32} (h : (rtX f len al tn q kd d).1 = 0) (ht : tn ≤ 8) :
    tn < 8 ∧ (rtX f len al tn q kd d).2 = (tkN f len (tn4 f len q), upd (upd (upd (upd d (5 + tn) kd) 1 (nI (tn + 1))) (13 + tn) (mva f len (tn1 f len q))) (21 + tn) (mva f len (tn3 f len q))) ∧ nfM f len (tn1 f len q) 1 al = 0 ∧ isL f len (tn2 f len q) 44 = true ∧ nfM f len (tn3 f len q) 0 40 = 0 ∧ isL f len (tn4 f len q) 59 = true := by
  unfold rtX at h ⊢
  by_cases h8 : tn = 8
  · rw [if_pos h8] at h; exact absurd (show (3 : Int32) = 0 from h) (by decide)
  · rw [if_neg h8] at h ⊢
    by_cases z1 : nfM f len (tn1 f len q) 1 al = 0
    · rw [if_pos z1] at h ⊢
      by_cases z2 : isL f len (tn2 f len q) 44 = true
      · rw [if_pos z2] at h ⊢
        by_cases z3 : nfM f len (tn3 f len q) 0 40 = 0
        · rw [if_pos z3] at h ⊢
          by_cases z4 : isL f len (tn4 f len q) 59 = true
          · rw [if_pos z4]
            exact ⟨by omega, rfl, z1, z2, z3, z4⟩
          · rw [if_neg z4] at h; exact absurd (show (1 : Int32) = 0 from h) (by decide)
        · rw [if_neg z3] at h; exact absurd h z3
      · rw [if_neg z2] at h; exact absurd (show (1 : Int32) = 0 from h) (by decide)
    · rw [if_neg z1] at h; exact absurd h z1
theorem rtX_d {f : Nat → Int32} {len : Nat} {al : Int32} {tn q : Nat} {kd : Int32} {d : Nat → Int32} (h : (rtX f len al tn q kd d).1 = 0) (ht : tn ≤ 8) : (rtX f len al tn q kd d).2.2 1 = nI (tn + 1) ∧ (rtX f len al tn q kd d).2.2 0 = d 0 := by
  obtain ⟨h1, h2, -⟩ := rtX_ok h ht
  rw [h2]
  constructor
  · simp only [upd]
    rw [if_neg (by omega), if_neg (by omega)]
    rfl
  · simp only [upd]
    rw [if_neg (by omega), if_neg (by omega), if_neg (by omega), if_neg (by omega)]
def lmR (f : Nat → Int32) (len : Nat) : Int32 := if isL f len 0 116 = true then (if nfM f len (tkN f len 0) 2 6 = 0 then (if isL f len (tkN f len (tkN f len 0)) 59 = true then 0 else 1) else nfM f len (tkN f len 0) 2 6) else 1
def lmP (f : Nat → Int32) (len : Nat) : Nat := if isL f len 0 116 = true then (if nfM f len (tkN f len 0) 2 6 = 0 then (if isL f len (tkN f len (tkN f len 0)) 59 = true then tkN f len (tkN f len (tkN f len 0)) else tkN f len (tkN f len 0)) else tkN f len 0) else 0
def lmD (f : Nat → Int32) (len : Nat) (d : Nat → Int32) : Nat → Int32 := if isL f len 0 116 = true then (if nfM f len (tkN f len 0) 2 6 = 0 then upd (zrF d 29) 0 (mva f len (tkN f len 0)) else zrF d 29) else zrF d 29
def pe0 (f : Nat → Int32) (len : Nat) : Int32 := mva f len (tkN f len 0)
def mdX (f : Nat → Int32) (len : Nat) (d : Nat → Int32) : Int32 × Nat × (Nat → Int32) := rmX f len (allI (pe0 f len)) 9 (tkN f len (tkN f len (tkN f len 0))) 0 (upd (zrF d 29) 0 (pe0 f len))
theorem lm_ok {f : Nat → Int32} {len : Nat} (h : lmR f len = 0) : isL f len 0 116 = true ∧ nfM f len (tkN f len 0) 2 6 = 0 ∧ isL f len (tkN f len (tkN f len 0)) 59 = true := by
  unfold lmR at h
  by_cases z1 : isL f len 0 116 = true
  · rw [if_pos z1] at h
    by_cases z2 : nfM f len (tkN f len 0) 2 6 = 0
    · rw [if_pos z2] at h
      by_cases z3 : isL f len (tkN f len (tkN f len 0)) 59 = true
      · exact ⟨z1, z2, z3⟩
      · rw [if_neg z3] at h; exact absurd h (by decide)
    · rw [if_neg z2] at h; exact absurd h z2
  · rw [if_neg z1] at h; exact absurd h (by decide)
