/-- the acts' snapshots, one more noted -/
def ntF (mf tf : Nat → Int32) (an : Nat) : Nat → Int32 := fun j => if an < 24 then (if 29 * an ≤ j ∧ j < 29 * an + 29 then tf (j - 29 * an) else mf j) else (if 667 ≤ j ∧ j < 696 then tf (j - 667) else if j < 667 then mf (j + 29) else mf j)
/-- copied: n places of g from u on to b on -/
def mvF (f g : Nat → Int32) (b u n : Nat) : Nat → Int32 := fun j => if b ≤ j ∧ j < b + n then g (u + (j - b)) else f j
theorem mvF_0 (f g : Nat → Int32) (b u : Nat) : f = mvF f g b u 0 := by funext j; rw [mvF, if_neg (by omega)]
theorem mvF_s (f g : Nat → Int32) (b u n : Nat) : upd (mvF f g b u n) (b + n) (g (u + n)) = mvF f g b u (n + 1) := by
  funext j
  simp only [upd, mvF]
  by_cases h : j = b + n
  · subst h
    rw [if_pos rfl, if_pos (by omega), show b + n - b = n by omega]
  · rw [if_neg h]
    by_cases h2 : b ≤ j ∧ j < b + n
    · rw [if_pos h2, if_pos (by omega)]
    · rw [if_neg h2, if_neg (by omega)]
def shM (f : Nat → Int32) (n : Nat) : Nat → Int32 := fun j => if j < n then f (j + 29) else f j
theorem shM_0 (f : Nat → Int32) : f = shM f 0 := by funext j; rw [shM, if_neg (by omega)]
theorem shM_s (f : Nat → Int32) (n : Nat) : upd (shM f n) n (f (n + 29)) = shM f (n + 1) := by
  funext j
  simp only [upd, shM]
  by_cases h : j = n
  · subst h; rw [if_pos rfl, if_pos (by omega)]
  · rw [if_neg h]
    by_cases h2 : j < n
    · rw [if_pos h2, if_pos (by omega)]
    · rw [if_neg h2, if_neg (by omega)]
theorem shM_at (f : Nat → Int32) (n : Nat) : shM f n (n + 29) = f (n + 29) := by rw [shM, if_neg (by omega)]
theorem ntF_L (mf tf : Nat → Int32) {an : Nat} (h : an < 24) : mvF mf tf (29 * an) 0 29 = ntF mf tf an := by
  funext j
  simp only [mvF, ntF, if_pos h]
  split
  · rw [Nat.zero_add]
  · rfl
theorem ntF_O (mf tf : Nat → Int32) : mvF (shM mf 667) tf 667 0 29 = ntF mf tf 24 := by
  funext j
  simp only [mvF, ntF, shM, if_neg (show ¬ 24 < 24 by omega), show 667 + 29 = 696 from rfl]
  split
  · rw [Nat.zero_add]
  · rfl
theorem ix29 (a i : Nat) : 29 * nI a + nI i = nI (29 * a + i) := by
  have h : nI 29 * nI a = nI (29 * a) := pk_mul 29 a
  rw [show (29 : Int32) = nI 29 from rfl, h, nI_add]
theorem ix40 (a i : Nat) : 40 * nI a + nI i = nI (40 * a + i) := by
  have h : nI 40 * nI a = nI (40 * a) := pk_mul 40 a
  rw [show (40 : Int32) = nI 40 from rfl, h, nI_add]
/-- the table behind i meals of worth v each -/
def mlT (tf : Nat → Int32) (v : Int32) (i : Nat) : Nat → Int32 := upd (upd tf 2 (tf 2 + nI i)) 3 (tf 3 + nI i * v)
theorem mlT_0 (tf : Nat → Int32) (v : Int32) : tf = mlT tf v 0 := by
  funext j
  simp only [mlT, upd, show nI 0 = 0 from rfl, Int32.add_zero, Int32.zero_mul]
  split
  · rename_i h; rw [h]
  · split
    · rename_i h; rw [h]
    · rfl
theorem mlT_s (tf : Nat → Int32) (v : Int32) (i : Nat) : upd (upd (mlT tf v i) 2 (mlT tf v i 2 + 1)) 3 (upd (mlT tf v i) 2 (mlT tf v i 2 + 1) 3 + v) = mlT tf v (i + 1) := by
  have e1 : tf 2 + nI i + 1 = tf 2 + nI (i + 1) := by rw [Int32.add_assoc, nI_1]
  have e2 : tf 3 + nI i * v + v = tf 3 + nI (i + 1) * v := by rw [← nI_1, Int32.add_mul, Int32.one_mul, Int32.add_assoc]
  funext j
  simp only [mlT, upd]
  by_cases h3 : j = 3
  · subst h3; simp [e2]
  · by_cases h2 : j = 2
    · subst h2; simp [e1]
    · simp [h2, h3]
theorem mlT_out (tf : Nat → Int32) (v : Int32) (i j : Nat) (h : j ≠ 2 ∧ j ≠ 3) : mlT tf v i j = tf j := by simp [mlT, upd, h.1, h.2]
theorem mlT_kS (tf : Nat → Int32) (v : Int32) (i : Nat) : kS (mlT tf v i) = kS tf := by funext j; exact mlT_out _ _ _ _ (by omega)
theorem mlT_sS (tf : Nat → Int32) (v : Int32) (i : Nat) : sS (mlT tf v i) = sS tf := by funext j; exact mlT_out _ _ _ _ (by omega)
theorem mlT_wS (tf : Nat → Int32) (v : Int32) (i : Nat) : wS (mlT tf v i) = wS tf := by funext j; exact mlT_out _ _ _ _ (by omega)
def mlA (mf tf : Nat → Int32) (v : Int32) (an : Nat) : Nat → Nat → Int32
  | 0 => mf
  | i + 1 => ntF (mlA mf tf v an i) (mlT tf v i) (kmN an i)
theorem u2_kS (tf : Nat → Int32) (a : Int32) : kS (upd tf 2 a) = kS tf := by funext j; simp [kS, upd]; omega
theorem u2_sS (tf : Nat → Int32) (a : Int32) : sS (upd tf 2 a) = sS tf := by funext j; simp [sS, upd]; omega
theorem u2_wS (tf : Nat → Int32) (a : Int32) : wS (upd tf 2 a) = wS tf := by funext j; simp [wS, upd]; omega
theorem u2_at (tf : Nat → Int32) (a : Int32) (j : Nat) (h : j ≠ 2) : upd tf 2 a j = tf j := by simp [upd, h]
theorem inI_t {n a b : Nat} (h1 : a ≤ n) (h2 : n ≤ b) (hb : b < 2 ^ 31) : inI (nI n) (nI a) (nI b) = true := by
  unfold inI
  rw [if_neg (nI_nlt h1 (by omega)), if_neg (nI_nlt h2 hb)]
