/-- downward walks: the last d of n places, how many and the lowest -/
def dnC (P : Nat → Bool) (n : Nat) : Nat → Nat
  | 0 => 0
  | d + 1 => if P (n - (d + 1)) = true then dnC P n d + 1 else dnC P n d
def dnF (P : Nat → Bool) (n : Nat) : Nat → Int32
  | 0 => -1000000
  | d + 1 => if P (n - (d + 1)) = true then nI (n - (d + 1)) else dnF P n d
theorem dnC_w (P : Nat → Bool) (n : Nat) : ∀ d, d ≤ n → dnC P n d + waC P (n - d) = waC P n
  | 0, _ => by rw [dnC, Nat.zero_add, Nat.sub_zero]
  | d + 1, h => by
    have ih := dnC_w P n d (by omega)
    rw [show n - d = (n - (d + 1)) + 1 by omega, waC] at ih
    rw [dnC]
    split
    · rename_i h1; rw [if_pos h1] at ih; omega
    · rename_i h1; rw [if_neg h1] at ih; omega
theorem dnC_all (P : Nat → Bool) (n : Nat) : dnC P n n = waC P n := by
  have h := dnC_w P n n (Nat.le_refl _)
  rw [Nat.sub_self] at h
  exact h
def isF (P : Nat → Bool) (n : Nat) (r : Int32) : Prop := ((∀ j, j < n → P j = false) ∧ r = -1000000) ∨ ∃ j, j < n ∧ P j = true ∧ (∀ i, i < j → P i = false) ∧ r = nI j
theorem isF_one {P : Nat → Bool} {n : Nat} {r r2 : Int32} (h : isF P n r) (h2 : isF P n r2) : r = r2 := by
  rcases h with ⟨h, e⟩ | ⟨j, hj, hp, hn, e⟩ <;> rcases h2 with ⟨h2, e2⟩ | ⟨j2, hj2, hp2, hn2, e2⟩
  · rw [e, e2]
  · rw [h j2 hj2] at hp2; cases hp2
  · rw [h2 j hj] at hp; cases hp
  · have : j = j2 := by
      rcases Nat.lt_trichotomy j j2 with q | q | q
      · rw [hn2 j q] at hp; cases hp
      · exact q
      · rw [hn j2 q] at hp2; cases hp2
    rw [e, e2, this]
theorem waC_0 {P : Nat → Bool} : ∀ {n : Nat}, waC P n = 0 → ∀ j, j < n → P j = false
  | n + 1, h, j, hj => by
    rw [waC] at h
    split at h
    · omega
    · rename_i h1
      rcases Nat.lt_or_ge j n with q | q
      · exact waC_0 h j q
      · obtain rfl : j = n := by omega
        simpa using h1
theorem waC_none {P : Nat → Bool} : ∀ {n : Nat}, (∀ j, j < n → P j = false) → waC P n = 0
  | 0, _ => rfl
  | n + 1, h => by rw [waC, h n (by omega)]; exact waC_none (fun j hj => h j (by omega))
theorem waC_le (P : Nat → Bool) : ∀ n, waC P n ≤ n
  | 0 => Nat.le_refl _
  | n + 1 => by have := waC_le P n; rw [waC]; split <;> omega
theorem waF_is (P : Nat → Bool) : ∀ n, n < 2 ^ 31 → isF P n (waF P n)
  | 0, _ => Or.inl ⟨fun j h => absurd h (by omega), rfl⟩
  | n + 1, hb => by
    have ih := waF_is P n (by omega)
    have hc := waC_le P n
    rw [waF]
    split
    · rename_i hp
      split
      · rename_i h0
        have h1 : waC P n = 0 := eq_nI (a := waC P n) (b := 0) h0 (by omega) (by decide)
        exact Or.inr ⟨n, by omega, hp, waC_0 h1, rfl⟩
      · rename_i h0
        rcases ih with ⟨h, e⟩ | ⟨j, hj, hp2, hn, e⟩
        · exact absurd (by rw [waC_none h]; rfl) h0
        · exact Or.inr ⟨j, by omega, hp2, hn, e⟩
    · rename_i hp
      have hp : P n = false := by simpa using hp
      rcases ih with ⟨h, e⟩ | ⟨j, hj, hp2, hn, e⟩
      · refine Or.inl ⟨fun j hj => ?_, e⟩
        rcases Nat.lt_or_ge j n with q | q
        · exact h j q
        · obtain rfl : j = n := by omega
          exact hp
      · exact Or.inr ⟨j, by omega, hp2, hn, e⟩
theorem dnF_is (P : Nat → Bool) (n : Nat) : ∀ d, d ≤ n → ((∀ j, n - d ≤ j → j < n → P j = false) ∧ dnF P n d = -1000000) ∨ ∃ j, n - d ≤ j ∧ j < n ∧ P j = true ∧ (∀ i, n - d ≤ i → i < j → P i = false) ∧ dnF P n d = nI j
  | 0, _ => Or.inl ⟨fun j h h2 => absurd h2 (by omega), rfl⟩
  | d + 1, h => by
    have ih := dnF_is P n d (by omega)
    rw [dnF]
    split
    · rename_i hp
      exact Or.inr ⟨n - (d + 1), Nat.le_refl _, by omega, hp, fun i a b => absurd b (by omega), rfl⟩
    · rename_i hp
      have hp : P (n - (d + 1)) = false := by simpa using hp
      have key : ∀ i, n - (d + 1) ≤ i → i = n - (d + 1) ∨ n - d ≤ i := fun i a => by omega
      rcases ih with ⟨h1, e⟩ | ⟨j, hj, hj2, hp2, hn, e⟩
      · exact Or.inl ⟨fun j a b => (key j a).elim (fun q => by rw [q]; exact hp) (fun q => h1 j q b), e⟩
      · exact Or.inr ⟨j, by omega, hj2, hp2, fun i a b => (key i a).elim (fun q => by rw [q]; exact hp) (fun q => hn i q b), e⟩
theorem dnF_all (P : Nat → Bool) (n : Nat) (hb : n < 2 ^ 31) : dnF P n n = waF P n := by
  refine isF_one ?_ (waF_is P n hb)
  have h := dnF_is P n n (Nat.le_refl _)
  rw [Nat.sub_self] at h
  rcases h with ⟨h1, e⟩ | ⟨j, -, hj2, hp, hn, e⟩
  · exact Or.inl ⟨fun j b => h1 j (Nat.zero_le _) b, e⟩
  · exact Or.inr ⟨j, hj2, hp, fun i b => hn i (Nat.zero_le _) b, e⟩
/-- the same for the sets from 1 on -/
theorem lvS_dn (P : Nat → Bool) (n : Nat) (hn : n < 2 ^ 31) : dnF (fun j => P (j + 1)) n n = (if lvS P n = -1000000 then -1000000 else lvS P n - 1) := by
  have h := dnF_is (fun j => P (j + 1)) n n (Nat.le_refl _)
  rw [Nat.sub_self] at h
  rcases h with ⟨h1, e⟩ | ⟨j, -, hj2, hp, hnn, e⟩
  · have : lvS P n = -1000000 := lvS_none (fun i a b => by have := h1 (i - 1) (Nat.zero_le _) (by omega); rw [show i - 1 + 1 = i by omega] at this; exact this)
    rw [if_pos this, e]
  · have : lvS P n = nI (j + 1) := lvS_first (by omega) (by omega) hp (fun i a b => by have := hnn (i - 1) (Nat.zero_le _) (by omega); rw [show i - 1 + 1 = i by omega] at this; exact this) (by omega)
    rw [this, if_neg (nI_ne_none (by omega)), nI_pred, e]
/-- from n down to 1: the lowest of which P -/
def dn1 (P : Nat → Bool) (n : Nat) : Nat → Int32
  | 0 => -1000000
  | d + 1 => if P (n - d) = true then nI (n - d) else dn1 P n d
theorem dn1_is (P : Nat → Bool) (n : Nat) : ∀ d, d ≤ n → ((∀ j, n - d < j → j ≤ n → P j = false) ∧ dn1 P n d = -1000000) ∨ ∃ j, n - d < j ∧ j ≤ n ∧ P j = true ∧ (∀ i, n - d < i → i < j → P i = false) ∧ dn1 P n d = nI j
  | 0, _ => Or.inl ⟨fun j h h2 => absurd h2 (by omega), rfl⟩
  | d + 1, h => by
    have ih := dn1_is P n d (by omega)
    rw [dn1]
    split
    · rename_i hp
      exact Or.inr ⟨n - d, by omega, by omega, hp, fun i a b => absurd b (by omega), rfl⟩
    · rename_i hp
      have hp : P (n - d) = false := by simpa using hp
      have key : ∀ i, n - (d + 1) < i → i = n - d ∨ n - d < i := fun i a => by omega
      rcases ih with ⟨h1, e⟩ | ⟨j, hj, hj2, hp2, hn, e⟩
      · exact Or.inl ⟨fun j a b => (key j a).elim (fun q => by rw [q]; exact hp) (fun q => h1 j q b), e⟩
      · exact Or.inr ⟨j, by omega, hj2, hp2, fun i a b => (key i a).elim (fun q => by rw [q]; exact hp) (fun q => hn i q b), e⟩
theorem dn1_all (P : Nat → Bool) (n : Nat) (hn : n < 2 ^ 31) : dn1 P n n = lvS P n := by
  have h := dn1_is P n n (Nat.le_refl _)
  rw [Nat.sub_self] at h
  rcases h with ⟨h1, e⟩ | ⟨j, hj, hj2, hp, hnn, e⟩
  · rw [e, lvS_none (fun i a b => h1 i (by omega) b)]
  · rw [e, lvS_first (by omega) (by omega) hp (fun i a b => hnn i (by omega) b) hj2]
/-! enough, best, bring: the model's one number -/
def mB (e : Int32) : Int32 := if e = -1000000 then -1 else e
theorem enS_inv (W : Nat → Int32) (v : Int32) : ∀ n, (enS W v n) = (-1000000, -1000000) ∨ ∃ j, j < n ∧ enS W v n = (nI (pop j), nI j)
  | 0 => Or.inl rfl
  | n + 1 => by
    have ih := enS_inv W v n
    have up : (enS W v n = (-1000000, -1000000) ∨ ∃ j, j < n + 1 ∧ enS W v n = (nI (pop j), nI j)) := ih.imp id (fun ⟨j, a, b⟩ => ⟨j, by omega, b⟩)
    rw [enS]
    split
    · exact up
    · split
      · exact Or.inr ⟨n, by omega, rfl⟩
      · split
        · exact Or.inr ⟨n, by omega, rfl⟩
        · exact up
def wbd (x : Int32) : Prop := -1000000 ≤ x.toInt ∧ x.toInt ≤ 1000000
theorem wbd_sub {a b : Int32} (ha : wbd a) (hb : wbd b) : (0 < a - b ↔ b < a) ∧ (a - b = 0 ↔ a = b) := by
  obtain ⟨a1, a2⟩ := ha
  obtain ⟨b1, b2⟩ := hb
  have e : (a - b).toInt = a.toInt - b.toInt := by
    rw [Int32.toInt_sub, Int.bmod_eq_of_le (by omega) (by omega)]
  constructor
  · rw [Int32.lt_iff_toInt_lt, Int32.lt_iff_toInt_lt, e, show (0 : Int32).toInt = 0 by decide]
    omega
  · constructor
    · intro h
      apply Int32.toInt_inj.mp
      have : (a - b).toInt = 0 := by rw [h]; decide
      omega
    · intro h
      rw [h, Int32.sub_self]
theorem beS_inv (W : Nat → Int32) : ∀ n, ∃ j, j ≤ n ∧ beS W n = (nI j, W j)
  | 0 => ⟨0, Nat.le_refl _, rfl⟩
  | n + 1 => by
    obtain ⟨j, a, b⟩ := beS_inv W n
    have up : ∃ j, j ≤ n + 1 ∧ beS W n = (nI j, W j) := ⟨j, by omega, b⟩
    rw [beS]
    split
    · exact ⟨n + 1, Nat.le_refl _, rfl⟩
    · split
      · split
        · exact ⟨n + 1, Nat.le_refl _, rfl⟩
        · exact up
      · exact up
theorem brS_inv (kf sf wf : Nat → Int32) (tn : Nat) (aw th : Int32) : ∀ n, brS kf sf wf tn aw th n = (-1000000, -1000000) ∨ ∃ j, j < n ∧ brS kf sf wf tn aw th n = (nI j, adI kf sf wf tn th (nI j))
  | 0 => Or.inl rfl
  | n + 1 => by
    have ih := brS_inv kf sf wf tn aw th n
    have up : (brS kf sf wf tn aw th n = (-1000000, -1000000) ∨ ∃ j, j < n + 1 ∧ brS kf sf wf tn aw th n = (nI j, adI kf sf wf tn th (nI j))) := ih.imp id (fun ⟨j, a, b⟩ => ⟨j, by omega, b⟩)
    rw [brS]
    split
    · split
      · exact Or.inr ⟨n, by omega, rfl⟩
      · split
        · exact up
        · exact Or.inr ⟨n, by omega, rfl⟩
    · exact up
theorem add_m1 (x : Int32) : x + (-1) = x - 1 := (Int32.sub_eq_add_neg x 1).symm
theorem mB_nI {i : Nat} (h : i < 2 ^ 31) : mB (nI i) = nI i := by rw [mB, if_neg (nI_ne_none h)]
