/-! what is foretold -/
def waP (kf sf wf : Nat → Int32) (tn pn : Nat) (v : Int32) (i : Nat) : Bool := decide (wsum kf sf wf (allI (nI pn) &&& (nI i ^^^ (-1))) tn = v)
def waC (P : Nat → Bool) : Nat → Nat
  | 0 => 0
  | n + 1 => if P n = true then waC P n + 1 else waC P n
def waF (P : Nat → Bool) : Nat → Int32
  | 0 => -1000000
  | n + 1 => if P n = true then (if nI (waC P n) = 0 then nI n else waF P n) else waF P n
def wN (kf sf wf : Nat → Int32) (tn : Nat) (i : Nat) : Int32 := wsum kf sf wf (nI i) tn
def enS (W : Nat → Int32) (v : Int32) : Nat → Int32 × Int32
  | 0 => (-1000000, -1000000)
  | n + 1 => if W n < v then enS W v n else if (enS W v n).2 = -1000000 then (nI (pop n), nI n) else if nI (pop n) < (enS W v n).1 then (nI (pop n), nI n) else enS W v n
/-- best of the sets 0 to n -/
def beS (W : Nat → Int32) : Nat → Int32 × Int32
  | 0 => (0, W 0)
  | n + 1 => if (beS W n).2 < W (n + 1) then (nI (n + 1), W (n + 1)) else if W (n + 1) = (beS W n).2 then (if nI (pop (n + 1)) < pcI (beS W n).1 then (nI (n + 1), W (n + 1)) else beS W n) else beS W n
theorem beS_s64 (W : Nat → Int32) : ∀ n, n < 64 → s64 (beS W n).1
  | 0, _ => s64_0
  | n + 1, h => by
    have ih := beS_s64 W n (by omega)
    rw [beS]
    split
    · exact ⟨n + 1, h, rfl⟩
    · split
      · split
        · exact ⟨n + 1, h, rfl⟩
        · exact ih
      · exact ih
def brS (kf sf wf : Nat → Int32) (tn : Nat) (aw th : Int32) : Nat → Int32 × Int32
  | 0 => (-1000000, -1000000)
  | q + 1 => if hasB aw (nI q) = true then (if (brS kf sf wf tn aw th q).1 = -1000000 then (nI q, adI kf sf wf tn th (nI q)) else if adI kf sf wf tn th (nI q) ≤ (brS kf sf wf tn aw th q).2 then brS kf sf wf tn aw th q else (nI q, adI kf sf wf tn th (nI q))) else brS kf sf wf tn aw th q
/-- pairs: the inner walk from (a, a+1) on -/
def toI (P : Nat → Nat → Bool) (a : Nat) (x : Nat × Int32) : Nat → Nat × Int32
  | 0 => x
  | k + 1 => if P a (a + 1 + k) = true then ((toI P a x k).1 + 1, if nI (toI P a x k).1 = 0 then 10 * nI a + nI (a + 1 + k) else (toI P a x k).2) else toI P a x k
def toO (P : Nat → Nat → Bool) (pn : Nat) : Nat → Nat × Int32
  | 0 => (0, -1000000)
  | a + 1 => toI P a (toO P pn a) (pn - 1 - a)
theorem toO_s (P : Nat → Nat → Bool) (pn a : Nat) : toO P pn (a + 1) = toI P a (toO P pn a) (pn - 1 - a) := rfl
def toP (kf sf wf : Nat → Int32) (tn pn : Nat) (a b : Nat) : Bool := mtB kf sf wf tn (nI pn) (nI a) (nI b)
/-- the first of the sets 1 to n of which P -/
def lvS (P : Nat → Bool) : Nat → Int32
  | 0 => -1000000
  | n + 1 => if lvS P n = -1000000 then (if P (n + 1) = true then nI (n + 1) else -1000000) else lvS P n
theorem lvS_none {P : Nat → Bool} : ∀ {n : Nat}, (∀ i, 1 ≤ i → i ≤ n → P i = false) → lvS P n = -1000000
  | 0, _ => rfl
  | n + 1, h => by
    rw [lvS, lvS_none (fun i h1 h2 => h i h1 (by omega)), if_pos rfl, h (n + 1) (by omega) (by omega)]
    rfl
theorem nI_ne_none {i : Nat} (h : i < 2 ^ 31) : ¬ nI i = -1000000 := by
  intro h2
  have h3 : (nI i).toInt = (-1000000 : Int32).toInt := by rw [h2]
  rw [nI_toInt h] at h3
  have h4 : (-1000000 : Int32).toInt = -1000000 := by decide
  rw [h4] at h3
  omega
theorem lvS_first {P : Nat → Bool} {j : Nat} (hj : 1 ≤ j) (hb : j < 2 ^ 31) (hP : P j = true) (h : ∀ i, 1 ≤ i → i < j → P i = false) : ∀ {n : Nat}, j ≤ n → lvS P n = nI j
  | 0, hn => by omega
  | n + 1, hn => by
    rcases Nat.lt_or_ge n j with h2 | h2
    · obtain rfl : j = n + 1 := by omega
      rw [lvS, lvS_none (fun i a b => h i a (by omega)), if_pos rfl, if_pos hP]
    · rw [lvS, lvS_first hj hb hP h h2, if_neg (nI_ne_none hb)]
def lvP (kf sf wf : Nat → Int32) (tn pn : Nat) (rf : Nat → Int32) (ix : Int32) (i : Nat) : Bool := decide (sumL rf ix (nI i) pn < (wsum kf sf wf (nI i) tn).toInt64)
/-- whether what n meals tell to have been there are sets -/
def whB (pn : Nat) (rf : Nat → Int32) (i : Int32) : Nat → Bool
  | 0 => true
  | n + 1 => whB pn rf i n && setB (nI pn) (gA rf 40 (i + 2 * nI n))
theorem whB_le {pn : Nat} {rf : Nat → Int32} {i : Int32} : ∀ {n m : Nat}, n ≤ m → whB pn rf i m = true → whB pn rf i n = true
  | n, 0, h, hb => by obtain rfl : n = 0 := by omega
                      exact hb
  | n, m + 1, h, hb => by
    rcases Nat.lt_or_ge m n with h2 | h2
    · obtain rfl : n = m + 1 := by omega
      exact hb
    · rw [whB, Bool.and_eq_true] at hb
      exact whB_le h2 hb.1
def whK (F : Nat → Bool) : Nat → Int32
  | 0 => 0
  | k + 1 => if F (k + 1) = true then whK F k ||| (1 <<< (nI (k + 1) &&& 31)) else whK F k
def coS (W : Nat → Int32) (v c : Int32) (thn : Nat) : Nat → Int32
  | 0 => 0
  | n + 1 => if nI n &&& (nI thn ^^^ (-1)) = 0 then (if W n < v then coS W v c thn n else coS W v c thn n + powI (10 - c) (pop n) * powI c (pop thn - pop n)) else coS W v c thn n
theorem pop_sub : ∀ a : Nat, a < 64 → ∀ b : Nat, b < 64 → nI a &&& (nI b ^^^ (-1)) = 0 → pop a ≤ pop b := by decide +kernel
theorem inB_pos {n : Nat} {x : Int32} (hn : n < 2 ^ 31) (h : inB (nI n) x = true) : 1 ≤ n := by
  obtain ⟨q, hq, -⟩ := inB_t hn h
  omega
