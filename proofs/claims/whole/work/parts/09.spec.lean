/-! words for what the methods answer -/
abbrev tz (cs : Nat → ClassId) : List (ClassId × FieldType) := [(cs 0, .int), (cs 1, .boolean), (cs 2, .object "TableShares$Row"), (cs 3, .object "TableShares$Table")]
theorem nI_inc (a : Nat) : nI a + Int32.ofInt 1 = nI (a + 1) := nI_1 a
theorem nI_lit (a : Nat) : nI a = Int32.ofNat a := rfl
theorem in_of_ge {i : Int32} {n : Nat} (hn : n < 2 ^ 31) (h1 : ¬ i < 0) (h2 : ¬ Int32.ofNat n ≤ i) : vp_in i n := by
  obtain ⟨j, hj, rfl⟩ := nI_of h1
  have h3 : ¬ n ≤ j := fun h => h2 (nI_le h hj)
  exact vp_in_nI (by omega) hn
theorem lt_of_in {i : Int32} {n : Nat} (hn : n < 2 ^ 31) (h : vp_in i n) : ¬ i < 0 ∧ ¬ Int32.ofNat n ≤ i := by
  obtain ⟨j, hj, rfl⟩ := vp_in_of h hn
  exact ⟨nI_pos (by omega), nI_ge hj hn⟩
/-- numbers[i], 0 outside -/
def gA (f : Nat → Int32) (n : Nat) (i : Int32) : Int32 := if i < 0 then 0 else if Int32.ofNat n ≤ i then 0 else f i.toNatClampNeg
def pA (f : Nat → Int32) (n : Nat) (i x : Int32) : Nat → Int32 := if i < 0 then f else if Int32.ofNat n ≤ i then f else upd f i.toNatClampNeg x
theorem gA_in {f : Nat → Int32} {n j : Nat} (h : j < n) (hn : n < 2 ^ 31) : gA f n (nI j) = f j := by
  rw [gA, if_neg (nI_pos (by omega)), if_neg (show ¬ Int32.ofNat n ≤ nI j from nI_ge h hn), nI_clamp (by omega)]
theorem pA_in {f : Nat → Int32} {n j : Nat} {x : Int32} (h : j < n) (hn : n < 2 ^ 31) : pA f n (nI j) x = upd f j x := by
  rw [pA, if_neg (nI_pos (by omega)), if_neg (show ¬ Int32.ofNat n ≤ nI j from nI_ge h hn), nI_clamp (by omega)]
def pop (j : Nat) : Nat := j % 2 + j / 2 % 2 + j / 4 % 2 + j / 8 % 2 + j / 16 % 2 + j / 32 % 2
def pcI (x : Int32) : Int32 := nI (pop x.toNatClampNeg)
def s64 (x : Int32) : Prop := ∃ j : Nat, j < 64 ∧ x = nI j
def inB (n x : Int32) : Bool := if x < 0 then false else if n ≤ x then false else true
def allI (pe : Int32) : Int32 := (1 <<< (pe &&& 31)) - 1
def thI (pe aw : Int32) : Int32 := allI pe &&& (aw ^^^ (-1))
def setB (pe x : Int32) : Bool := if x < 0 then false else if allI pe < x then false else true
def hasB (x q : Int32) : Bool := decide ((x >>> (q &&& 31)) &&& 1 = 1)
def zo (x : Int32) : Bool := decide (x = 0) || decide (x = 1)
def lkF (v : Int32) : Bool := if v < -999 then false else if 9999 < v then false else true
def hold (len i n : Int32) : Bool := if i < 0 then false else if n < 0 then false else if len - n < i then false else true
def cnt (k x w th : Int32) : Int32 :=
  if k = 1 then (if x &&& th = x then w else 0) else if k = 2 then (if x &&& th = x then -w else 0)
  else if k = 3 then w * (if 0 < pcI (x &&& th) - 1 then pcI (x &&& th) - 1 else 0)
  else if k = 4 then (if x &&& th = 0 then 0 else w) else if k = 5 then (if x &&& th = 0 then w else 0) else 0
def wsum (kf sf wf : Nat → Int32) (th : Int32) : Nat → Int32
  | 0 => 0
  | n + 1 => wsum kf sf wf th n + cnt (kf n) (sf n) (wf n) th
theorem nI_and {a b : Nat} (hb : b < 2 ^ 31) : nI a &&& nI b = nI (a &&& b) := by
  apply Int32.toBitVec_inj.mp
  simp [nI, Int32.toBitVec_and]
theorem s64_and {x y : Int32} (h : s64 x) : s64 (x &&& y) := by
  obtain ⟨j, hj, rfl⟩ := h
  refine ⟨j &&& y.toBitVec.toNat, Nat.lt_of_le_of_lt Nat.and_le_left hj, ?_⟩
  apply Int32.toBitVec_inj.mp
  apply BitVec.eq_of_toNat_eq
  simp [nI, Int32.toBitVec_and]
theorem s64_0 : s64 0 := ⟨0, by decide, rfl⟩
theorem s64_gA {f : Nat → Int32} {n : Nat} {i : Int32} (h : ∀ t, s64 (f t)) : s64 (gA f n i) := by
  unfold gA
  split
  · exact s64_0
  · split
    · exact s64_0
    · exact h _
theorem le_nI {a b : Nat} (h : nI a ≤ nI b) (ha : a < 2 ^ 31) (hb : b < 2 ^ 31) : a ≤ b := (nI_leI ha hb).mp h
theorem nle_nI {a b : Nat} (h : ¬ nI a ≤ nI b) (ha : a < 2 ^ 31) (hb : b < 2 ^ 31) : b < a := Nat.lt_of_not_le (fun q => h ((nI_leI ha hb).mpr q))
theorem lt_nI {a b : Nat} (h : nI a < nI b) (ha : a < 2 ^ 31) (hb : b < 2 ^ 31) : a < b := (nI_ltI ha hb).mp h
theorem nlt_nI {a b : Nat} (h : ¬ nI a < nI b) (ha : a < 2 ^ 31) (hb : b < 2 ^ 31) : b ≤ a := Nat.le_of_not_lt (fun q => h ((nI_ltI ha hb).mpr q))
theorem eq_nI {a b : Nat} (h : nI a = nI b) (ha : a < 2 ^ 31) (hb : b < 2 ^ 31) : a = b := (nI_eq ha hb).mp h
/-- Integer.bitCount, as the JDK counts -/
def sr (x y : Int32) : Int32 := ((Int32.toUInt32 x) >>> ((Int32.toUInt32 y) &&& Int32.toUInt32 31)).toInt32
def bc1 (x : Int32) : Int32 := x - (sr x 1 &&& 1431655765)
def bc2 (x : Int32) : Int32 := (x &&& 858993459) + (sr x 2 &&& 858993459)
def bc3 (x : Int32) : Int32 := (x + sr x 4) &&& 252645135
def bc4 (x : Int32) : Int32 := x + sr x 8
def bc5 (x : Int32) : Int32 := x + sr x 16
theorem bc_eq : ∀ j : Nat, j < 64 → bc5 (bc4 (bc3 (bc2 (bc1 (nI j))))) &&& 63 = pcI (nI j) := by decide +kernel
theorem bc_s {x : Int32} (h : s64 x) : bc5 (bc4 (bc3 (bc2 (bc1 x)))) &&& 63 = pcI x := by
  obtain ⟨j, hj, rfl⟩ := h
  exact bc_eq j hj
def mxI (x y : Int32) : Int32 := if x < y then y else x
def abI (x : Int32) : Int32 := if 0 ≤ x then x else 0 - x
/-- what a set is worth: a sum over the ties -/
def adI (kf sf wf : Nat → Int32) (n : Nat) (x q : Int32) : Int32 := wsum kf sf wf (x ||| (1 <<< (q &&& 31))) n - wsum kf sf wf x n
def loI (kf sf wf : Nat → Int32) (n : Nat) (pe x : Int32) : Int32 := wsum kf sf wf (allI pe) n - wsum kf sf wf (allI pe &&& (x ^^^ (-1))) n
def mtB (kf sf wf : Nat → Int32) (n : Nat) (pe a b : Int32) : Bool := decide (loI kf sf wf n pe (1 <<< (a &&& 31)) = 0) && decide (loI kf sf wf n pe (1 <<< (b &&& 31)) = 0) && decide ((0 : Int32) < loI kf sf wf n pe ((1 <<< (a &&& 31)) ||| (1 <<< (b &&& 31))))

section MYM
variable {p : Program} {l : Launch} {e : Env} {R : Room} {s : State} {m : MethodId} {args : Array Value} {below : List Frame} {meth : Method} {c : Code} {cells slots : Nat} {Q : State → Prop}
variable {cc : ByteArray} {nL : Nat} {Ts : List Cond} {own : String} {D : va_G} {tys : List (ClassId × FieldType)} {A : Nat → Prop} {H0 : Heap} {pc : Nat} {lv : List (Nat × Value)} {st : List Value} {ws : va_W}
theorem v_mmax (C : VOk p s m args c cc nL Ts own D tys A H0) {index : Nat} {x y : Int32} (h1 : Cond.methodLink own index Lib.Math.max.name ∈ Ts) (h2 : Cond.static Lib.Math.max.name ∈ Ts) (h3 : Cond.initialized "java/lang/Math" ∈ Ts) (h4 : Cond.code Lib.Math.max.name Lib.Math.max.code 2 (some .int) ∈ Ts) (hR : 1 ≤ R.frames ∧ (st.map fun v => v.category).sum + 13 ≤ R.locals) (hcs : cells ≤ R.cells ∧ slots ≤ R.slots) (hd : decode cc pc = .ok (.invokestatic index, 3)) (kk : V p l e R s m args below meth c cells slots Q nL D A H0 (pc + 3) lv (.int (mxI x y) :: st) ws) : V p l e R s m args below meth c cells slots Q nL D A H0 pc lv (.int y :: .int x :: st) ws := fun ls H locs h hP hD hS => va_mmax C.x C.b (C.ml.trans h.1.symm) C.ow (C.ts _ h1) (C.ts _ h2) (C.ts _ h3) (C.ts _ h4) hR.1 (by omega) hcs.1 hcs.2 hd (kk ls H locs h hP hD hS)
theorem v_mabs (C : VOk p s m args c cc nL Ts own D tys A H0) {index : Nat} {x y : Int32} (h1 : Cond.methodLink own index Lib.Math.abs.name ∈ Ts) (h2 : Cond.static Lib.Math.abs.name ∈ Ts) (h3 : Cond.initialized "java/lang/Math" ∈ Ts) (h4 : Cond.code Lib.Math.abs.name Lib.Math.abs.code 1 (some .int) ∈ Ts) (hR : 1 ≤ R.frames ∧ (st.map fun v => v.category).sum + 13 ≤ R.locals) (hcs : cells ≤ R.cells ∧ slots ≤ R.slots) (hd : decode cc pc = .ok (.invokestatic index, 3)) (kk : V p l e R s m args below meth c cells slots Q nL D A H0 (pc + 3) lv (.int (abI x) :: st) ws) : V p l e R s m args below meth c cells slots Q nL D A H0 pc lv (.int x :: st) ws := fun ls H locs h hP hD hS => va_mabs C.x C.b (C.ml.trans h.1.symm) C.ow (C.ts _ h1) (C.ts _ h2) (C.ts _ h3) (C.ts _ h4) hR.1 (by omega) hcs.1 hcs.2 hd (kk ls H locs h hP hD hS)
end MYM
