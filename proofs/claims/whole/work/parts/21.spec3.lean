/-! what the calls answer -/
def rowB (x y : Int32) : Bool := if x < 0 then true else if 3 ≤ x then true else if 40 < y then true else false
def bitI (x : Int32) : Int32 := 1 <<< (x &&& 31)
def awN (aw x y : Int32) : Int32 := if y = 1 then aw ||| bitI x else aw &&& (bitI x ^^^ (-1))
def awOk (pe aw x y : Int32) : Bool := inB pe x && zo y && !decide (awN aw x y = aw)
def tieB (pe x y z : Int32) : Bool := if x < 1 then false else if 5 < x then false else if y = 0 then false else if setB pe y = true then (if z < 0 then false else if 40 < z then false else true) else false
def tieOk (pe x y z : Int32) (tn : Nat) : Bool := decide (0 < pe) && tieB pe x y z && decide (tn < 8)
def kmN (kn : Nat) : Nat → Nat
  | 0 => kn
  | m + 1 => kpN (kmN kn m)
def kmF (af : Nat → Int32) (kn : Nat) (v : Int32) : Nat → Nat → Int32
  | 0 => af
  | m + 1 => kpF (kmF af kn v m) (kmN kn m) 3 v 0 0
theorem kpN_le {n : Nat} (h : n ≤ 24) : kpN n ≤ 24 := by unfold kpN; split <;> omega
theorem kmN_le {n : Nat} (h : n ≤ 24) : ∀ m, kmN n m ≤ 24
  | 0 => h
  | m + 1 => kpN_le (kmN_le h m)
theorem all_nI : ∀ pn : Nat, pn ≤ 6 → allI (nI pn) = nI (2 ^ pn - 1) := by decide +kernel
theorem pw64 : ∀ pn : Nat, pn ≤ 6 → 2 ^ pn ≤ 64 ∧ 0 < 2 ^ pn := by decide +kernel
theorem pc_nI {i : Nat} (h : i < 2 ^ 31) : pcI (nI i) = nI (pop i) := by rw [pcI, nI_clamp h]
theorem pop_le (i : Nat) : pop i ≤ 6 := by unfold pop; omega
theorem pop_lt : ∀ pn : Nat, pn ≤ 6 → ∀ i : Nat, i < 2 ^ pn → ∀ q : Nat, q < pn → hasB (nI i) (nI q) = false → pop i ≤ pn - 1 := by decide +kernel
theorem inB_t {n : Nat} {x : Int32} (hn : n < 2 ^ 31) (h : inB (nI n) x = true) : ∃ q : Nat, q < n ∧ x = nI q := by
  unfold inB at h
  split at h
  · cases h
  · rename_i h1
    split at h
    · cases h
    · rename_i h2
      obtain ⟨j, hj, rfl⟩ := nI_of h1
      exact ⟨j, nle_nI h2 hn hj, rfl⟩
theorem inB_f {n : Nat} {x : Int32} (h : inB (nI n) x = false) : x < 0 ∨ nI n ≤ x := by
  unfold inB at h
  split at h
  · left; assumption
  · split at h
    · right; assumption
    · cases h
theorem inB_in {n q : Nat} (hn : n < 2 ^ 31) (h : q < n) : inB (nI n) (nI q) = true := by
  unfold inB
  rw [if_neg (nI_pos (by omega)), if_neg (nI_ge h hn)]
theorem setB_t {n : Nat} {x : Int32} (hn : n ≤ 6) (h : setB (nI n) x = true) : ∃ j : Nat, j < 2 ^ n ∧ x = nI j := by
  have hp := pw64 n hn
  unfold setB at h
  rw [all_nI n hn] at h
  split at h
  · cases h
  · rename_i h1
    split at h
    · cases h
    · rename_i h2
      obtain ⟨j, hj, rfl⟩ := nI_of h1
      have := nlt_nI h2 (by omega) hj
      exact ⟨j, by omega, rfl⟩
theorem setB_in {n j : Nat} (hn : n ≤ 6) (h : j < 2 ^ n) : setB (nI n) (nI j) = true := by
  have hp := pw64 n hn
  unfold setB
  rw [all_nI n hn, if_neg (nI_pos (by omega)), if_neg (nI_nlt (by omega) (by omega))]
theorem hold_t {a : Nat} {i q : Int32} (ha : a ≤ 40) (h : hold (nI a) i q = true) : ∃ x y : Nat, i = nI x ∧ q = nI y ∧ x + y ≤ a := by
  unfold hold at h
  split at h
  · cases h
  · rename_i h1
    split at h
    · cases h
    · rename_i h2
      split at h
      · cases h
      · rename_i h3
        obtain ⟨x, hx, rfl⟩ := nI_of h1
        obtain ⟨y, hy, rfl⟩ := nI_of h2
        refine ⟨x, y, rfl, rfl, ?_⟩
        rw [Int32.lt_iff_toInt_lt, Int32.toInt_sub, nI_toInt (by omega), nI_toInt hx, nI_toInt hy] at h3
        rw [Int.bmod_eq_of_le (by omega) (by omega)] at h3
        omega
theorem hold_in {a x y : Nat} (ha : a ≤ 40) (h : x + y ≤ a) : hold (nI a) (nI x) (nI y) = true := by
  unfold hold
  rw [if_neg (nI_pos (by omega)), if_neg (nI_pos (by omega)), pk_sub (by omega), if_neg (nI_nlt (by omega) (by omega))]
theorem hold_le {a : Nat} {i q : Int32} (ha : a ≤ 40) (h : hold (nI a) i q = true) : i.toNatClampNeg + q.toNatClampNeg ≤ 40 := by
  obtain ⟨x, y, rfl, rfl, h3⟩ := hold_t ha h
  rw [nI_clamp (by omega), nI_clamp (by omega)]
  omega
/-- due: the sum over the sets below n -/
def dueS (kf sf wf : Nat → Int32) (tn pn : Nat) (x : Int32) : Nat → Int32
  | 0 => 0
  | i + 1 => if hasB (nI i) x = true then dueS kf sf wf tn pn x i else dueS kf sf wf tn pn x i + nI (facN (pop i)) * nI (facN (pn - 1 - pop i)) * adI kf sf wf tn (nI i) x
theorem lat_0 {af : Nat → Int32} {k : Nat} (h : k < 24) : gA af 96 ((nI (k + 1) - 1) * 4 + 0) = af (4 * k) := by
  rw [nI_pred, k4_0, show nI (4 * k) + 0 = nI (4 * k) from nI_add _ 0, gA_in (by omega) (by decide)]
theorem lat_1 {af : Nat → Int32} {k : Nat} (h : k < 24) : gA af 96 ((nI (k + 1) - 1) * 4 + 1) = af (4 * k + 1) := by
  rw [nI_pred, k4_0, k4_1, gA_in (by omega) (by decide)]
theorem lat_2 {af : Nat → Int32} {k : Nat} (h : k < 24) : gA af 96 ((nI (k + 1) - 1) * 4 + 2) = af (4 * k + 2) := by
  rw [nI_pred, k4_0, k4_2, gA_in (by omega) (by decide)]
theorem lat_3 {af : Nat → Int32} {k : Nat} (h : k < 24) : gA af 96 ((nI (k + 1) - 1) * 4 + 3) = af (4 * k + 3) := by
  rw [nI_pred, k4_0, k4_3, gA_in (by omega) (by decide)]
