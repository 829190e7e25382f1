/-! the model's words -/
def inL (v lo hi : Int64) : Bool := if v < lo then false else if hi < v then false else true
def inI (x a b : Int32) : Bool := if x < a then false else if b < x then false else true
theorem i64_lt (x y : Int32) : (x.toInt64 < y.toInt64) ↔ x < y := by
  rw [Int64.lt_iff_toInt_lt, Int32.lt_iff_toInt_lt, Int32.toInt_toInt64, Int32.toInt_toInt64]
theorem inL_I (x a b : Int32) : inL x.toInt64 a.toInt64 b.toInt64 = inI x a b := by
  unfold inL inI
  simp only [i64_lt]
theorem inI_0 {n : Nat} (hn : n < 2 ^ 31) (x : Int32) : inI x 0 (nI n - 1) = inB (nI n) x := by
  unfold inI inB
  by_cases h : x < 0
  · rw [if_pos h, if_pos h]
  · rw [if_neg h, if_neg h]
    obtain ⟨j, hj, rfl⟩ := nI_of h
    rcases Nat.eq_zero_or_pos n with h0 | h0
    · subst h0
      have h1 : nI 0 - 1 < nI j := by
        rw [Int32.lt_iff_toInt_lt, nI_toInt hj, show (nI 0 - 1).toInt = -1 by decide]
        omega
      have h2 : nI 0 ≤ nI j := nI_le (Nat.zero_le _) hj
      rw [if_pos h1, if_pos h2]
    · have e : nI n - 1 = nI (n - 1) := pk_sub (a := n) (b := 1) h0
      rw [e]
      by_cases h3 : n ≤ j
      · rw [if_pos (nI_lt (by omega) hj), if_pos (nI_le h3 hj)]
      · rw [if_neg (nI_nlt (by omega) (by omega)), if_neg (nI_ge (by omega) hn)]
theorem inI_8 (x : Int32) : inI x 0 7 = inB 8 x := inI_0 (n := 8) (by decide) x
theorem ones_s : ∀ k : Nat, k < 64 → 0 < k → nI k &&& (nI k - 1) = nI (k &&& (k - 1)) ∧ pop k = pop (k &&& (k - 1)) + 1 ∧ k &&& (k - 1) < k := by decide +kernel
theorem pc_pos64 : ∀ j : Nat, j < 64 → ((0 < pcI (nI j)) ↔ ¬ nI j = 0) := by decide +kernel
theorem pc_pos {x : Int32} (h : s64 x) : (0 < pcI x) ↔ ¬ x = 0 := by obtain ⟨j, hj, rfl⟩ := h; exact pc_pos64 j hj
theorem pc_gt64 : ∀ j : Nat, j < 64 → ((1 < pcI (nI j)) ↔ (0 < pcI (nI j) - 1)) := by decide +kernel
theorem pc_gt {x : Int32} (h : s64 x) : (1 < pcI x) ↔ (0 < pcI x - 1) := by obtain ⟨j, hj, rfl⟩ := h; exact pc_gt64 j hj
theorem and_sub (x y : Int32) : (x &&& (y ^^^ (-1)) = 0) ↔ (x &&& y = x) := by
  rw [← Int32.toBitVec_inj, ← Int32.toBitVec_inj, Int32.toBitVec_and, Int32.toBitVec_and, Int32.toBitVec_xor]
  rw [show (-1 : Int32).toBitVec = BitVec.allOnes 32 by decide, show (0 : Int32).toBitVec = 0#32 by decide, BitVec.xor_allOnes]
  constructor
  · intro h
    apply BitVec.eq_of_getLsbD_eq
    intro i hi
    have h1 := congrArg (fun z : BitVec 32 => z.getLsbD i) h
    simp only [BitVec.getLsbD_and, BitVec.getLsbD_not, BitVec.getLsbD_zero, hi, decide_true, Bool.true_and] at h1
    simp only [BitVec.getLsbD_and]
    revert h1
    cases x.toBitVec.getLsbD i <;> cases y.toBitVec.getLsbD i <;> simp
  · intro h
    apply BitVec.eq_of_getLsbD_eq
    intro i hi
    have h1 := congrArg (fun z : BitVec 32 => z.getLsbD i) h
    simp only [BitVec.getLsbD_and] at h1
    simp only [BitVec.getLsbD_and, BitVec.getLsbD_not, BitVec.getLsbD_zero, hi, decide_true, Bool.true_and]
    revert h1
    cases x.toBitVec.getLsbD i <;> cases y.toBitVec.getLsbD i <;> simp
def kok (k : Int32) : Prop := k = 1 ∨ k = 2 ∨ k = 3 ∨ k = 4 ∨ k = 5
def kS (f : Nat → Int32) : Nat → Int32 := fun i => f (5 + i)
def sS (f : Nat → Int32) : Nat → Int32 := fun i => f (13 + i)
def wS (f : Nat → Int32) : Nat → Int32 := fun i => f (21 + i)
/-- the model's counts are cnt -/
theorem cnt_more {x w th : Int32} (h : s64 x) : cnt 3 x w th = if 1 < pcI (x &&& th) then (pcI (x &&& th) - 1) * w else 0 := by
  have h1 := s64_and (y := th) h
  have hg := pc_gt h1
  simp only [cnt, show (3 : Int32) = 1 ↔ False by decide, show (3 : Int32) = 2 ↔ False by decide, if_false, if_true]
  by_cases hc : 1 < pcI (x &&& th)
  · rw [if_pos hc, if_pos (hg.mp hc), Int32.mul_comm]
  · rw [if_neg hc, if_neg (fun z => hc (hg.mpr z)), Int32.mul_zero]
theorem cnt_any {x w th : Int32} (h : s64 x) : cnt 4 x w th = if 0 < pcI (x &&& th) then w else 0 := by
  have hg := pc_pos (s64_and (y := th) h)
  simp only [cnt, show (4 : Int32) = 1 ↔ False by decide, show (4 : Int32) = 2 ↔ False by decide, show (4 : Int32) = 3 ↔ False by decide, if_false, if_true]
  by_cases hc : x &&& th = 0
  · rw [if_pos hc, if_neg (fun z => hg.mp z hc)]
  · rw [if_neg hc, if_pos (hg.mpr hc)]
theorem cnt_nob {x w th : Int32} (h : s64 x) : cnt 5 x w th = if 0 < pcI (x &&& th) then 0 else w := by
  have hg := pc_pos (s64_and (y := th) h)
  simp only [cnt, show (5 : Int32) = 1 ↔ False by decide, show (5 : Int32) = 2 ↔ False by decide, show (5 : Int32) = 3 ↔ False by decide, show (5 : Int32) = 4 ↔ False by decide, if_false, if_true]
  by_cases hc : x &&& th = 0
  · rw [if_pos hc, if_neg (fun z => hg.mp z hc)]
  · rw [if_neg hc, if_pos (hg.mpr hc)]
theorem cnt_all {x w th : Int32} : cnt 1 x w th = if x &&& (th ^^^ (-1)) = 0 then w else 0 := by
  simp only [cnt, if_true, and_sub]
theorem cnt_qua {x w th : Int32} : cnt 2 x w th = if x &&& (th ^^^ (-1)) = 0 then -w else 0 := by
  simp only [cnt, show (2 : Int32) = 1 ↔ False by decide, if_false, if_true, and_sub]
theorem asL_0 (v : Int32) : (v <<< (24 &&& 31)) >>> (24 &&& 31) = v.toInt8.toInt32 := by
  apply Int32.toBitVec_inj.mp
  rw [Int32.toBitVec_shiftRight, Int32.toBitVec_shiftLeft, Int8.toBitVec_toInt32, Int32.toBitVec_toInt8]
  rw [show ((24 &&& 31 : Int32).toBitVec.smod 32) = 24#32 by decide]
  apply BitVec.eq_of_getLsbD_eq
  intro i hi
  simp only [BitVec.sshiftRight_eq', BitVec.shiftLeft_eq', BitVec.getLsbD_sshiftRight, BitVec.getLsbD_shiftLeft, BitVec.getLsbD_signExtend, BitVec.getLsbD_setWidth, BitVec.msb_eq_getLsbD_last, show (24#32).toNat = 24 from rfl]
  by_cases h : i < 8
  · simp [h, hi, show 24 + i < 32 by omega, show ¬ 32 ≤ i by omega, show ¬ 24 + i < 24 by omega]
  · simp [h, hi, show ¬ 24 + i < 32 by omega]
theorem asL_1 (v : Int32) : (v <<< (16 &&& 31)) >>> (16 &&& 31) = v.toInt16.toInt32 := by
  apply Int32.toBitVec_inj.mp
  rw [Int32.toBitVec_shiftRight, Int32.toBitVec_shiftLeft, Int16.toBitVec_toInt32, Int32.toBitVec_toInt16]
  rw [show ((16 &&& 31 : Int32).toBitVec.smod 32) = 16#32 by decide]
  apply BitVec.eq_of_getLsbD_eq
  intro i hi
  simp only [BitVec.sshiftRight_eq', BitVec.shiftLeft_eq', BitVec.getLsbD_sshiftRight, BitVec.getLsbD_shiftLeft, BitVec.getLsbD_signExtend, BitVec.getLsbD_setWidth, BitVec.msb_eq_getLsbD_last, show (16#32).toNat = 16 from rfl]
  by_cases h : i < 16
  · simp [h, hi, show 16 + i < 32 by omega, show ¬ 32 ≤ i by omega, show ¬ 16 + i < 16 by omega]
  · simp [h, hi, show ¬ 16 + i < 32 by omega]
