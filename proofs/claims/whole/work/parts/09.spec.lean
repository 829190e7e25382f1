/-! words for what the methods answer -/
abbrev tz (cs : Nat → ClassId) : List (ClassId × FieldType) := [(cs 0, .int), (cs 1, .boolean), (cs 2, .object "TableShares$Row"), (cs 3, .object "TableShares$Table")]
theorem nI_inc (a : Nat) : nI a + Int32.ofInt 1 = nI (a + 1) := nI_1 a
theorem nI_lit (a : Nat) : nI a = Int32.ofNat a := rfl
theorem in_of_ge {i : Int32} {n : Nat} (hn : n < 2 ^ 31) (h1 : ¬ i < 0) (h2 : ¬ Int32.ofNat n ≤ i) : vp_in i n := by
  obtain ⟨j, hj, rfl⟩ := nI_of h1
  have h3 : ¬ n ≤ j := fun h => h2 (nI_le h hj)
  exact vp_in_nI (by omega) hn
theorem lt_of_in {i : Int32} {n : Nat} (hn : n < 2 ^ 31) (h : vp_in i n) : ¬ i < 0 ∧ ¬ Int32.ofNat n ≤ i := by
  obtain ⟨j, hj, rfl⟩ := vp_in_of h hn
  exact ⟨nI_pos (by omega), nI_ge hj hn⟩
/-- numbers[i], 0 outside -/
def gA (f : Nat → Int32) (n : Nat) (i : Int32) : Int32 := if i < 0 then 0 else if Int32.ofNat n ≤ i then 0 else f i.toNatClampNeg
def pA (f : Nat → Int32) (n : Nat) (i x : Int32) : Nat → Int32 := if i < 0 then f else if Int32.ofNat n ≤ i then f else upd f i.toNatClampNeg x
theorem gA_in {f : Nat → Int32} {n j : Nat} (h : j < n) (hn : n < 2 ^ 31) : gA f n (nI j) = f j := by
  rw [gA, if_neg (nI_pos (by omega)), if_neg (nI_ge h hn), nI_clamp (by omega)]
theorem pA_in {f : Nat → Int32} {n j : Nat} {x : Int32} (h : j < n) (hn : n < 2 ^ 31) : pA f n (nI j) x = upd f j x := by
  rw [pA, if_neg (nI_pos (by omega)), if_neg (nI_ge h hn), nI_clamp (by omega)]
def pop (j : Nat) : Nat := j % 2 + j / 2 % 2 + j / 4 % 2 + j / 8 % 2 + j / 16 % 2 + j / 32 % 2
def pcI (x : Int32) : Int32 := nI (pop x.toNatClampNeg)
def s64 (x : Int32) : Prop := ∃ j : Nat, j < 64 ∧ x = nI j
def inB (n x : Int32) : Bool := if x < 0 then false else if n ≤ x then false else true
def allI (pe : Int32) : Int32 := (1 <<< (pe &&& 31)) - 1
def thI (pe aw : Int32) : Int32 := allI pe &&& (aw ^^^ (-1))
def setB (pe x : Int32) : Bool := if x < 0 then false else if allI pe < x then false else true
def hasB (x q : Int32) : Bool := decide ((x >>> (q &&& 31)) &&& 1 = 1)
def zo (x : Int32) : Bool := decide (x = 0) || decide (x = 1)
def lkF (v : Int32) : Bool := if v < -999 then false else if 9999 < v then false else true
def hold (len i n : Int32) : Bool := if i < 0 then false else if n < 0 then false else if len - n < i then false else true
def cnt (k x w th : Int32) : Int32 :=
  if k = 1 then (if x &&& th = x then w else 0) else if k = 2 then (if x &&& th = x then -w else 0)
  else if k = 3 then w * (if 0 < pcI (x &&& th) - 1 then pcI (x &&& th) - 1 else 0)
  else if k = 4 then (if x &&& th = 0 then 0 else w) else if k = 5 then (if x &&& th = 0 then w else 0) else 0
def wsum (kf sf wf : Nat → Int32) (th : Int32) : Nat → Int32
  | 0 => 0
  | n + 1 => wsum kf sf wf th n + cnt (kf n) (sf n) (wf n) th
theorem nI_and {a b : Nat} (hb : b < 2 ^ 31) : nI a &&& nI b = nI (a &&& b) := by
  apply Int32.toBitVec_inj.mp
  simp [nI, Int32.toBitVec_and]
theorem s64_and {x y : Int32} (h : s64 x) : s64 (x &&& y) := by
  obtain ⟨j, hj, rfl⟩ := h
  refine ⟨j &&& y.toBitVec.toNat, Nat.lt_of_le_of_lt Nat.and_le_left hj, ?_⟩
  apply Int32.toBitVec_inj.mp
  apply BitVec.eq_of_toNat_eq
  simp [nI, Int32.toBitVec_and]
  rw [Nat.mod_eq_of_lt (a := j) (by omega), Nat.mod_eq_of_lt (Nat.lt_of_le_of_lt Nat.and_le_left (by omega))]
theorem s64_0 : s64 0 := ⟨0, by decide, rfl⟩
theorem s64_gA {f : Nat → Int32} {n : Nat} {i : Int32} (h : ∀ t, s64 (f t)) : s64 (gA f n i) := by
  unfold gA
  split
  · exact s64_0
  · split
    · exact s64_0
    · exact h _
