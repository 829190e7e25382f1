/-! the model's rows -/
def zr2 (f : Nat → Int32) (b n : Nat) : Nat → Int32 := fun q => if b ≤ q ∧ q < b + n then 0 else f q
theorem zr2_0 (f : Nat → Int32) (b : Nat) : f = zr2 f b 0 := by funext j; rw [zr2, if_neg (by omega)]
theorem zr2_s (f : Nat → Int32) (b n : Nat) : upd (zr2 f b n) (b + n) 0 = zr2 f b (n + 1) := by
  funext j
  simp only [upd, zr2]
  by_cases h : j = b + n
  · subst h; rw [if_pos rfl, if_pos (by omega)]
  · rw [if_neg h]
    by_cases h2 : b ≤ j ∧ j < b + n
    · rw [if_pos h2, if_pos (by omega)]
    · rw [if_neg h2, if_neg (by omega)]
theorem i64_sub_lt {a z x : Nat} (ha : a ≤ 40) (hz : z < 2 ^ 31) (hx : x < 2 ^ 31) : ((nI a).toInt64 - (nI z).toInt64 < (nI x).toInt64) ↔ a < x + z := by
  rw [Int64.lt_iff_toInt_lt, Int64.toInt_sub, Int32.toInt_toInt64, Int32.toInt_toInt64, Int32.toInt_toInt64, nI_toInt (by omega), nI_toInt hz, nI_toInt hx]
  rw [Int.bmod_eq_of_le (by omega) (by omega)]
  omega
theorem inL_hold {a : Nat} {i q : Int32} (ha : a ≤ 40) (hq : ¬ q < 0) : inL i.toInt64 0 ((nI a).toInt64 - q.toInt64) = hold (nI a) i q := by
  unfold inL hold
  have h0 : (i.toInt64 < 0) ↔ i < 0 := by
    have h9 := i64_lt i 0
    exact h9
  by_cases h : i < 0
  · rw [if_pos (h0.mpr h), if_pos h]
  · rw [if_neg (fun z => h (h0.mp z)), if_neg h, if_neg hq]
    obtain ⟨x, hx, rfl⟩ := nI_of h
    obtain ⟨z, hz, rfl⟩ := nI_of hq
    have h1 := i64_sub_lt ha hz hx
    by_cases h2 : a < x + z
    · rw [if_pos (h1.mpr h2), if_pos]
      rw [Int32.lt_iff_toInt_lt, Int32.toInt_sub, nI_toInt (by omega), nI_toInt hx, nI_toInt hz, Int.bmod_eq_of_le (by omega) (by omega)]
      omega
    · rw [if_neg (fun z => h2 (h1.mp z)), if_neg]
      rw [Int32.lt_iff_toInt_lt, Int32.toInt_sub, nI_toInt (by omega), nI_toInt hx, nI_toInt hz, Int.bmod_eq_of_le (by omega) (by omega)]
      omega
/-! the model's tokens -/
def mdv (f : Nat → Int32) (q : Nat) : Nat → Int32
  | 0 => 0
  | k + 1 => if mdv f q k ≤ 99 then 10 * mdv f q k + f (q + k) - 48 else mdv f q k
def mtk (f : Nat → Int32) (len q : Nat) : Int32 := if len ≤ q then 3 else if fig (f q) = true then (if dg f (len - q) q ≤ 2 then 2 else 0) else if soI (f q) = 4 then 0 else 1
def mva (f : Nat → Int32) (len q : Nat) : Int32 := if len ≤ q then 0 else if fig (f q) = true then mdv f q (dg f (len - q) q) else f q
def isL (f : Nat → Int32) (len q : Nat) (c : Int32) : Bool := if mtk f len q = 1 then (if mva f len q = c then true else false) else false
def nfM (f : Nat → Int32) (len q : Nat) (lo hi : Int32) : Int32 := if mtk f len q = 2 then (if inI (mva f len q) lo hi = true then 0 else 2) else 1
theorem dg_pos {f : Nat → Int32} {len q : Nat} (h : q < len) (hf : fig (f q) = true) : 1 ≤ dg f (len - q) q := by
  rw [show len - q = (len - q - 1) + 1 by omega, dg, if_pos hf]
  omega
theorem dg_none {f : Nat → Int32} {len q : Nat} (h : q < len) (hf : fig (f q) = false) : dg f (len - q) q = 0 := by
  rw [show len - q = (len - q - 1) + 1 by omega, dg, if_neg (by rw [hf]; decide)]
theorem so_let (c : Int32) : inI c 97 122 = true → ¬ soI c = 4 := by
  unfold inI soI
  split
  · intro h; cases h
  · split
    · intro h; cases h
    · intro _; decide
theorem so_com : ¬ soI 44 = 4 := by decide
theorem so_sem : ¬ soI 59 = 4 := by decide
theorem so_no {c : Int32} (h : inI c 97 122 = false) (h1 : ¬ c = 44) (h2 : ¬ c = 59) : soI c = 4 := by
  unfold inI at h
  unfold soI
  by_cases h3 : c < 97
  · simp [h1, h2, h3]
  · rw [if_neg h3] at h
    by_cases h4 : 122 < c
    · simp [h1, h2, h3, h4]
    · exfalso
      rw [if_neg h4] at h
      cases h
/-- a tie at q: the fault (0 none), the last token looked at, what was read -/
def rtX (f : Nat → Int32) (len : Nat) (al : Int32) (tn q : Nat) (kd : Int32) (d : Nat → Int32) : Int32 × Nat × (Nat → Int32) :=
  if tn = 8 then (3, q, d)
  else if nfM f len (tn1 f len q) 1 al = 0 then
    (if isL f len (tn2 f len q) 44 = true then
      (if nfM f len (tn3 f len q) 0 40 = 0 then
        (if isL f len (tn4 f len q) 59 = true then (0, tkN f len (tn4 f len q), upd (upd (upd (upd d (5 + tn) kd) 1 (nI (tn + 1))) (13 + tn) (mva f len (tn1 f len q))) (21 + tn) (mva f len (tn3 f len q)))
        else (1, tn4 f len q, upd (upd (upd (upd d (5 + tn) kd) 1 (nI (tn + 1))) (13 + tn) (mva f len (tn1 f len q))) (21 + tn) (mva f len (tn3 f len q))))
      else (nfM f len (tn3 f len q) 0 40, tn3 f len q, upd (upd (upd d (5 + tn) kd) 1 (nI (tn + 1))) (13 + tn) (mva f len (tn1 f len q))))
    else (1, tn2 f len q, upd (upd (upd d (5 + tn) kd) 1 (nI (tn + 1))) (13 + tn) (mva f len (tn1 f len q))))
  else (nfM f len (tn1 f len q) 1 al, tn1 f len q, upd (upd d (5 + tn) kd) 1 (nI (tn + 1)))
def kdM (f : Nat → Int32) (len q : Nat) : Int32 := if isL f len q 97 = true then 1 else if isL f len q 113 = true then 2 else if isL f len q 109 = true then 3 else if isL f len q 121 = true then 4 else if isL f len q 110 = true then 5 else 0
def rmX (f : Nat → Int32) (len : Nat) (al : Int32) : Nat → Nat → Nat → (Nat → Int32) → Int32 × Nat × (Nat → Int32)
  | 0, q, _, d => (0, q, d)
  | n + 1, q, tn, d => if mtk f len q = 3 then (0, q, d) else if 0 < kdM f len q then (if (rtX f len al tn q (kdM f len q) d).1 = 0 then rmX f len al n (rtX f len al tn q (kdM f len q) d).2.1 (tn + 1) (rtX f len al tn q (kdM f len q) d).2.2 else rtX f len al tn q (kdM f len q) d) else (1, q, d)
