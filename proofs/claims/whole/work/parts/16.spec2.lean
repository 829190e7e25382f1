/-! the asks: which bodies are left, what is answered -/
def putL (f : Nat → Int32) : Nat → List Int32 → Nat → Int32
  | _, [] => f
  | n, b :: r => putL (upd f n b) (n + 1) r
theorem putL_app : ∀ (a b : List Int32) (f : Nat → Int32) (n : Nat), putL f n (a ++ b) = putL (putL f n a) (n + a.length) b
  | [], b, f, n => rfl
  | x :: a, b, f, n => by
    show putL (upd f n x) (n + 1) (a ++ b) = putL (putL (upd f n x) (n + 1) a) (n + (a.length + 1)) b
    rw [putL_app a b, show n + 1 + a.length = n + (a.length + 1) by omega]
def maT (k : Int32) : List Int32 := if k = 3 then [22, 21, 20] else if k = 2 then [24, 21, 20] else [21, 20]
def maV (k x y th : Int32) : Int32 := if k = 3 then x + pcI (y &&& th) - 1000 else if k = 2 then 2 * (x + pcI (y &&& th)) else x + pcI (y &&& th)
def syT (k : Int32) : List Int32 := if k = 5 then [14, 13, 10] else [13, 10]
def syV (k w : Int32) : Int32 := if k = 5 then 2 * (w - 100) else w - 100
def saT (k : Int32) : List Int32 := if k = 2 then [12, 11, 10] ++ maT k else [11, 10] ++ maT k
def saV (k x y w th : Int32) : Int32 := if k = 2 then -(w + maV k x y th) else w + maV k x y th
def myT (k : Int32) : List Int32 := [23, 20] ++ syT k
def myV (k x w : Int32) : Int32 := x - syV k w
def askT (k w : Int32) : List Int32 := if w = 0 then (if isAB k 1 = true then saT k else syT k) else if isAB k 1 = true then maT k else myT k
def askV (k x y w th a : Int32) : Int32 := if a = 0 then (if isAB k 1 = true then saV k x y w th else syV k w) else if isAB k 1 = true then maV k x y th else myV k x w
theorem maT_len (k : Int32) : (maT k).length ≤ 3 := by unfold maT; split <;> (try split) <;> simp
theorem syT_len (k : Int32) : (syT k).length ≤ 3 := by unfold syT; split <;> simp
/-! the tape: tokens -/
def fig (c : Int32) : Bool := if c < 48 then false else if 57 < c then false else true
def soI (c : Int32) : Int32 := if c < 97 then (if c = 44 then 2 else if c = 59 then 2 else 4) else if 122 < c then (if c = 44 then 2 else if c = 59 then 2 else 4) else 0
/-- how many figures stand from p on, r bytes being left -/
def dg (f : Nat → Int32) : Nat → Nat → Nat
  | 0, _ => 0
  | r + 1, q => if fig (f q) = true then dg f r (q + 1) + 1 else 0
def dv (f : Nat → Int32) (q : Nat) : Nat → Int32
  | 0 => 0
  | k + 1 => if k + 1 ≤ 2 then 10 * dv f q k + f (q + k) - 48 else dv f q k
theorem dg_le (f : Nat → Int32) : ∀ r q, dg f r q ≤ r
  | 0, _ => Nat.le_refl _
  | r + 1, q => by
    rw [dg]; split
    · have := dg_le f r (q + 1); omega
    · omega
def tkS (f : Nat → Int32) (len q : Nat) : Int32 := if len ≤ q then 3 else if fig (f q) = true then (if dg f (len - q) q ≤ 2 then 1 else 4) else soI (f q)
def tkV (f : Nat → Int32) (len q : Nat) : Int32 := if len ≤ q then 0 else if fig (f q) = true then dv f q (dg f (len - q) q) else f q
def tkN (f : Nat → Int32) (len q : Nat) : Nat := if len ≤ q then q else if fig (f q) = true then q + dg f (len - q) q else q + 1
theorem tkN_le {f : Nat → Int32} {len q : Nat} (h : q ≤ len) : tkN f len q ≤ len := by
  unfold tkN
  split
  · exact h
  · split
    · have := dg_le f (len - q) q; omega
    · omega
def kdI (v : Int32) : Int32 := if v = 97 then 1 else if v = 113 then 2 else if v = 109 then 3 else if v = 121 then 4 else if v = 110 then 5 else 0
def nfI (f : Nat → Int32) (len q : Nat) (lo hi : Int32) : Int32 := if tkS f len q = 1 then (if tkV f len q < lo then 2 else if hi < tkV f len q then 2 else 0) else 1
def sfI (f : Nat → Int32) (len q : Nat) (sg : Int32) : Int32 := if tkS f len q = 2 then (if tkV f len q = sg then 0 else 1) else 1
/-- the kind that the token at q tells -/
def kdAt (f : Nat → Int32) (len q : Nat) : Int32 := if tkS f len q = 0 then kdI (tkV f len q) else 0
def tn1 (f : Nat → Int32) (len q : Nat) : Nat := tkN f len q
def tn2 (f : Nat → Int32) (len q : Nat) : Nat := tkN f len (tkN f len q)
def tn3 (f : Nat → Int32) (len q : Nat) : Nat := tkN f len (tkN f len (tkN f len q))
def tn4 (f : Nat → Int32) (len q : Nat) : Nat := tkN f len (tkN f len (tkN f len (tkN f len q)))
/-- a tie at q: its fault, and the last token looked at -/
def tfR (f : Nat → Int32) (len : Nat) (al : Int32) (ti q : Nat) : Int32 :=
  if kdAt f len q = 0 then 1 else if 8 ≤ ti then 3
  else if nfI f len (tn1 f len q) 1 al = 0 then (if sfI f len (tn2 f len q) 44 = 0 then (if nfI f len (tn3 f len q) 0 40 = 0 then sfI f len (tn4 f len q) 59 else nfI f len (tn3 f len q) 0 40) else sfI f len (tn2 f len q) 44) else nfI f len (tn1 f len q) 1 al
def tfP (f : Nat → Int32) (len : Nat) (al : Int32) (ti q : Nat) : Nat :=
  if kdAt f len q = 0 then q else if 8 ≤ ti then q
  else if nfI f len (tn1 f len q) 1 al = 0 then (if sfI f len (tn2 f len q) 44 = 0 then (if nfI f len (tn3 f len q) 0 40 = 0 then tn4 f len q else tn3 f len q) else tn2 f len q) else tn1 f len q
theorem tfP_le {f : Nat → Int32} {len : Nat} {al : Int32} {ti q : Nat} (h : q ≤ len) : tfP f len al ti q ≤ len := by
  have h1 := tkN_le (f := f) h
  have h2 := tkN_le (f := f) h1
  have h3 := tkN_le (f := f) h2
  have h4 := tkN_le (f := f) h3
  unfold tfP tn1 tn2 tn3 tn4
  repeat' split
  all_goals assumption
/-- the law's fault -/
def lwR (f : Nat → Int32) (len : Nat) : Int32 := if tkS f len 0 = 0 then (if tkV f len 0 = 116 then (if nfI f len (tn1 f len 0) 2 6 = 0 then sfI f len (tn2 f len 0) 59 else nfI f len (tn1 f len 0) 2 6) else 1) else 1
def lwP (f : Nat → Int32) (len : Nat) : Nat := if tkS f len 0 = 0 then (if tkV f len 0 = 116 then (if nfI f len (tn1 f len 0) 2 6 = 0 then tn2 f len 0 else tn1 f len 0) else 0) else 0
/-- whether the law told how many people -/
def lwB (f : Nat → Int32) (len : Nat) : Bool := decide (tkS f len 0 = 0) && decide (tkV f len 0 = 116) && decide (nfI f len (tn1 f len 0) 2 6 = 0)
/-- the ties read, turn by turn: the fault, the last token, how many ties, and they themselves -/
def riW (f : Nat → Int32) (len : Nat) (al : Int32) : Nat → Nat → Nat → (Nat → Int32) → (Nat → Int32) → (Nat → Int32) → Int32 × Nat × Nat × (Nat → Int32) × (Nat → Int32) × (Nat → Int32)
  | 0, q, tn, k, x, w => (0, q, tn, k, x, w)
  | n + 1, q, tn, k, x, w =>
    if tkS f len (tkN f len q) = 3 then (0, tkN f len q, tn, k, x, w)
    else if tfR f len al tn (tkN f len q) = 0 then riW f len al n (tfP f len al tn (tkN f len q)) (tn + 1) (upd k tn (kdAt f len (tkN f len q))) (upd x tn (tkV f len (tn1 f len (tkN f len q)))) (upd w tn (tkV f len (tn3 f len (tkN f len q))))
    else (tfR f len al tn (tkN f len q), tfP f len al tn (tkN f len q), tn, k, x, w)
def rdW (f : Nat → Int32) (len : Nat) (k x w : Nat → Int32) : Int32 × Nat × Nat × (Nat → Int32) × (Nat → Int32) × (Nat → Int32) := riW f len (allI (tkV f len (tn1 f len 0))) 9 (lwP f len) 0 k x w
theorem lwP_le (f : Nat → Int32) (len : Nat) : lwP f len ≤ len := by
  have h0 : 0 ≤ len := Nat.zero_le _
  have h1 := tkN_le (f := f) h0
  have h2 := tkN_le (f := f) h1
  unfold lwP tn1 tn2
  repeat' split
  all_goals assumption
/-- how many of the first n rows stand -/
def cntS (st : Nat → Bool) : Nat → Nat
  | 0 => 0
  | n + 1 => if st n = true then cntS st n + 1 else cntS st n
theorem cntS_le (st : Nat → Bool) : ∀ n, cntS st n ≤ n
  | 0 => Nat.le_refl _
  | n + 1 => by have := cntS_le st n; rw [cntS]; split <;> omega
/-- which: whether n meals fit the kind kd of the tie x -/
def fitB (kf sf wf : Nat → Int32) (tn : Nat) (rf : Nat → Int32) (x kd i : Int32) : Nat → Bool
  | 0 => true
  | n + 1 => fitB kf sf wf tn rf x kd i n && decide (wsum kf sf wf (gA rf 40 (i + 2 * nI n)) tn - cnt (gA kf 8 x) (gA sf 8 x) (gA wf 8 x) (gA rf 40 (i + 2 * nI n)) + cnt kd (gA sf 8 x) (gA wf 8 x) (gA rf 40 (i + 2 * nI n)) = gA rf 40 (i + 2 * nI n + 1))
theorem fitB_le {kf sf wf : Nat → Int32} {tn : Nat} {rf : Nat → Int32} {x kd i : Int32} : ∀ {n m : Nat}, n ≤ m → fitB kf sf wf tn rf x kd i m = true → fitB kf sf wf tn rf x kd i n = true
  | n, 0, h, hb => by obtain rfl : n = 0 := by omega
                      exact hb
  | n, m + 1, h, hb => by
    rcases Nat.lt_or_ge m n with h2 | h2
    · obtain rfl : n = m + 1 := by omega
      exact hb
    · rw [fitB, Bool.and_eq_true] at hb
      exact fitB_le h2 hb.1
theorem tfR_lt {f : Nat → Int32} {len : Nat} {al : Int32} {ti q : Nat} (h : tfR f len al ti q = 0) : ti < 8 := by
  rcases Nat.lt_or_ge ti 8 with h2 | h2
  · exact h2
  · unfold tfR at h
    rw [if_pos h2] at h
    split at h
    · exact absurd h (by decide)
    · exact absurd h (by decide)
theorem lwB_of {f : Nat → Int32} {len : Nat} (h : lwR f len = 0) : lwB f len = true := by
  unfold lwR at h
  unfold lwB
  split at h
  · rename_i h1
    split at h
    · rename_i h2
      split at h
      · rename_i h3
        simp [h1, h2, h3]
      · rename_i h3
        exact absurd h h3
    · exact absurd h (by decide)
  · exact absurd h (by decide)
theorem in8_out {x : Int32} (h : inB 8 x = false) : x < 0 ∨ 8 ≤ x := by
  unfold inB at h
  split at h
  · left; assumption
  · split at h
    · right; assumption
    · cases h
theorem in2_out {x : Int32} (h : inB 2 x = false) : x < 0 ∨ 2 ≤ x := by
  unfold inB at h
  split at h
  · left; assumption
  · split at h
    · right; assumption
    · cases h
theorem cntS_s (st : Nat → Bool) (n : Nat) : cntS st (n + 1) = if st n = true then cntS st n + 1 else cntS st n := rfl
