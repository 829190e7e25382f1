def rfM (itf : Nat → Int32) (j : Nat) : Nat → Int32 := fun q => itf (40 * j + q)
theorem rfM_gA {itf : Nat → Int32} {j q : Nat} (h : q < 40) : gA (rfM itf j) 40 (nI q) = itf (40 * j + q) := gA_in h (by decide)
theorem sumL_s (f : Nat → Int32) (ix x : Int32) (n : Nat) : sumL f ix x (n + 1) = if hasB x (nI n) = true then sumL f ix x n + (gA f 40 (ix + nI n)).toInt64 else sumL f ix x n := rfl
/-- part: persons one by one -/
def ptS (c : Int32) (n thn : Nat) : Nat → Int32
  | 0 => 1
  | k + 1 => ptS c n thn k * (if hasB (nI n) (nI k) = true then 10 - c else if hasB (nI thn) (nI k) = true then c else 1)
def ck1 (n : Nat) : Nat → Nat
  | 0 => 0
  | k + 1 => if hasB (nI n) (nI k) = true then ck1 n k + 1 else ck1 n k
def ck2 (n thn : Nat) : Nat → Nat
  | 0 => 0
  | k + 1 => if hasB (nI n) (nI k) = true then ck2 n thn k else if hasB (nI thn) (nI k) = true then ck2 n thn k + 1 else ck2 n thn k
theorem ptS_eq (c : Int32) (n thn : Nat) : ∀ k, ptS c n thn k = powI (10 - c) (ck1 n k) * powI c (ck2 n thn k)
  | 0 => by rw [ptS, ck1, ck2, powI, powI, Int32.one_mul]
  | k + 1 => by
    rw [ptS, ck1, ck2, ptS_eq c n thn k]
    split
    · rw [powI]
      generalize powI (10 - c) (ck1 n k) = a
      generalize powI c (ck2 n thn k) = b
      rw [Int32.mul_assoc, Int32.mul_comm b, ← Int32.mul_assoc]
    · split
      · rw [powI, Int32.mul_assoc]
      · rw [Int32.mul_one]
theorem ck_6 : ∀ pn : Nat, pn ≤ 6 → ∀ n : Nat, n < 2 ^ pn → ck1 n pn = pop n := by decide +kernel
theorem ck2_6 : ∀ n : Nat, n < 64 → ∀ t : Nat, t < 64 → nI n &&& (nI t ^^^ (-1)) = 0 → ck2 n t 6 = pop t - pop n := by decide +kernel
theorem hasB_hi : ∀ k : Nat, k < 6 → ∀ t : Nat, t < 2 ^ k → hasB (nI t) (nI k) = false := by decide +kernel
theorem pow_mono {a b : Nat} (h : a ≤ b) : 2 ^ a ≤ 2 ^ b := Nat.pow_le_pow_right (by decide) h
theorem ck2_hi {n t pn : Nat} (hn : n < 2 ^ pn) (ht : t < 2 ^ pn) : ∀ k, pn ≤ k → k ≤ 6 → ck2 n t k = ck2 n t pn
  | 0, h, _ => by obtain rfl : pn = 0 := by omega
                  rfl
  | k + 1, h, h6 => by
    rcases Nat.lt_or_ge k pn with q | q
    · obtain rfl : pn = k + 1 := by omega
      rfl
    · have hm := pow_mono q
      rw [ck2, hasB_hi k (by omega) n (by omega), hasB_hi k (by omega) t (by omega)]
      simp only [Bool.false_eq_true, if_false]
      exact ck2_hi hn ht k q (by omega)
theorem ptS_all {c : Int32} {n thn pn : Nat} (hpn : pn ≤ 6) (hn : n < 2 ^ pn) (ht : thn < 2 ^ pn) (hs : nI n &&& (nI thn ^^^ (-1)) = 0) : ptS c n thn pn = powI (10 - c) (pop n) * powI c (pop thn - pop n) := by
  have hp := pw64 pn hpn
  rw [ptS_eq, ck_6 pn hpn n hn, ← ck2_hi hn ht 6 hpn (Nat.le_refl _), ck2_6 n (by omega) thn (by omega) hs]
theorem pow10_ne : ∀ n : Nat, n ≤ 6 → ¬ powI 10 n = 0 := by decide +kernel
/-- pairs, downward -/
def tmI (P : Nat → Nat → Bool) (pn a : Nat) (x : Nat × Int32) : Nat → Nat × Int32
  | 0 => x
  | e + 1 => if P a (pn - 1 - e) = true then ((tmI P pn a x e).1 + 1, 10 * nI a + nI (pn - 1 - e)) else tmI P pn a x e
def tmO (P : Nat → Nat → Bool) (pn : Nat) : Nat → Nat × Int32
  | 0 => (0, -1000000)
  | d + 1 => tmI P pn (pn - (d + 1)) (tmO P pn d) d
theorem tmO_s (P : Nat → Nat → Bool) (pn d : Nat) : tmO P pn (d + 1) = tmI P pn (pn - (d + 1)) (tmO P pn d) d := rfl
theorem kok_nI {k : Nat} (h : 1 ≤ k) (h2 : k ≤ 5) : kok (nI k) := by
  rcases (show k = 1 ∨ k = 2 ∨ k = 3 ∨ k = 4 ∨ k = 5 by omega) with q | q | q | q | q <;> subst q <;> unfold kok <;> decide
theorem ix2 (a k : Nat) : nI a + 2 * nI k = nI (a + 2 * k) := by
  have h : nI 2 * nI k = nI (2 * k) := pk_mul 2 k
  rw [show (2 : Int32) = nI 2 from rfl, h, nI_add]
theorem whK_s (F : Nat → Bool) (k : Nat) : whK F (k + 1) = whK F k ||| (if F (k + 1) = true then (1 <<< (nI (k + 1) &&& 31)) else 0) := by
  rw [whK]
  split
  · rfl
  · rw [Int32.or_zero]

theorem fitM {tf itf : Nat → Int32} {tn j t ii u : Nat} {kd : Int32} (ht : t < 8) (hu : ii + 2 * u + 1 < 40) : fitB (kS tf) (sS tf) (wS tf) tn (rfM itf j) (nI t) kd (nI ii) (u + 1) = (fitB (kS tf) (sS tf) (wS tf) tn (rfM itf j) (nI t) kd (nI ii) u && decide (itf (40 * j + ii + 2 * u + 1) = wsum (kS tf) (sS tf) (wS tf) (itf (40 * j + ii + 2 * u)) tn - cnt (tf (5 + t)) (tf (13 + t)) (tf (21 + t)) (itf (40 * j + ii + 2 * u)) + cnt kd (tf (13 + t)) (tf (21 + t)) (itf (40 * j + ii + 2 * u)))) := by
  have h1 : gA (kS tf) 8 (nI t) = tf (5 + t) := gA_in ht (by decide)
  have h2 : gA (sS tf) 8 (nI t) = tf (13 + t) := gA_in ht (by decide)
  have h3 : gA (wS tf) 8 (nI t) = tf (21 + t) := gA_in ht (by decide)
  have h4 : gA (rfM itf j) 40 (nI (ii + 2 * u)) = itf (40 * j + ii + 2 * u) := by rw [rfM_gA (by omega), Nat.add_assoc]
  have h5 : gA (rfM itf j) 40 (nI (ii + 2 * u + 1)) = itf (40 * j + ii + 2 * u + 1) := by rw [rfM_gA hu]; exact congrArg itf (by omega)
  rw [fitB, ix2, nI_1, h1, h2, h3, h4, h5, decide_eq_decide.mpr eq_comm]
