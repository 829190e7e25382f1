/-! words for what the methods answer -/
abbrev tz (cs : Nat → ClassId) : List (ClassId × FieldType) := [(cs 0, .int), (cs 1, .boolean), (cs 2, .object "TableShares$Row"), (cs 3, .object "TableShares$Table")]
theorem nI_inc (a : Nat) : nI a + Int32.ofInt 1 = nI (a + 1) := nI_1 a
theorem nI_lit (a : Nat) : nI a = Int32.ofNat a := rfl
theorem in_of_ge {i : Int32} {n : Nat} (hn : n < 2 ^ 31) (h1 : ¬ i < 0) (h2 : ¬ Int32.ofNat n ≤ i) : vp_in i n := by
  obtain ⟨j, hj, rfl⟩ := nI_of h1
  have h3 : ¬ n ≤ j := fun h => h2 (nI_le h hj)
  exact vp_in_nI (by omega) hn
theorem lt_of_in {i : Int32} {n : Nat} (hn : n < 2 ^ 31) (h : vp_in i n) : ¬ i < 0 ∧ ¬ Int32.ofNat n ≤ i := by
  obtain ⟨j, hj, rfl⟩ := vp_in_of h hn
  exact ⟨nI_pos (by omega), nI_ge hj hn⟩
/-- numbers[i], 0 outside -/
def gA (f : Nat → Int32) (n : Nat) (i : Int32) : Int32 := if i < 0 then 0 else if Int32.ofNat n ≤ i then 0 else f i.toNatClampNeg
def pA (f : Nat → Int32) (n : Nat) (i x : Int32) : Nat → Int32 := if i < 0 then f else if Int32.ofNat n ≤ i then f else upd f i.toNatClampNeg x
theorem gA_in {f : Nat → Int32} {n j : Nat} (h : j < n) (hn : n < 2 ^ 31) : gA f n (nI j) = f j := by
  rw [gA, if_neg (nI_pos (by omega)), if_neg (show ¬ Int32.ofNat n ≤ nI j from nI_ge h hn), nI_clamp (by omega)]
theorem pA_in {f : Nat → Int32} {n j : Nat} {x : Int32} (h : j < n) (hn : n < 2 ^ 31) : pA f n (nI j) x = upd f j x := by
  rw [pA, if_neg (nI_pos (by omega)), if_neg (show ¬ Int32.ofNat n ≤ nI j from nI_ge h hn), nI_clamp (by omega)]
def pop (j : Nat) : Nat := j % 2 + j / 2 % 2 + j / 4 % 2 + j / 8 % 2 + j / 16 % 2 + j / 32 % 2
def pcI (x : Int32) : Int32 := nI (pop x.toNatClampNeg)
def s64 (x : Int32) : Prop := ∃ j : Nat, j < 64 ∧ x = nI j
def inB (n x : Int32) : Bool := if x < 0 then false else if n ≤ x then false else true
def allI (pe : Int32) : Int32 := (1 <<< (pe &&& 31)) - 1
def thI (pe aw : Int32) : Int32 := allI pe &&& (aw ^^^ (-1))
def setB (pe x : Int32) : Bool := if x < 0 then false else if allI pe < x then false else true
def hasB (x q : Int32) : Bool := decide ((x >>> (q &&& 31)) &&& 1 = 1)
def zo (x : Int32) : Bool := decide (x = 0) || decide (x = 1)
def lkF (v : Int32) : Bool := if v < -999 then false else if 9999 < v then false else true
def hold (len i n : Int32) : Bool := if i < 0 then false else if n < 0 then false else if len - n < i then false else true
def cnt (k x w th : Int32) : Int32 :=
  if k = 1 then (if x &&& th = x then w else 0) else if k = 2 then (if x &&& th = x then -w else 0)
  else if k = 3 then w * (if 0 < pcI (x &&& th) - 1 then pcI (x &&& th) - 1 else 0)
  else if k = 4 then (if x &&& th = 0 then 0 else w) else if k = 5 then (if x &&& th = 0 then w else 0) else 0
def wsum (kf sf wf : Nat → Int32) (th : Int32) : Nat → Int32
  | 0 => 0
  | n + 1 => wsum kf sf wf th n + cnt (kf n) (sf n) (wf n) th
theorem nI_and {a b : Nat} (hb : b < 2 ^ 31) : nI a &&& nI b = nI (a &&& b) := by
  apply Int32.toBitVec_inj.mp
  simp [nI, Int32.toBitVec_and]
theorem s64_and {x y : Int32} (h : s64 x) : s64 (x &&& y) := by
  obtain ⟨j, hj, rfl⟩ := h
  refine ⟨j &&& y.toBitVec.toNat, Nat.lt_of_le_of_lt Nat.and_le_left hj, ?_⟩
  apply Int32.toBitVec_inj.mp
  apply BitVec.eq_of_toNat_eq
  simp [nI, Int32.toBitVec_and]
theorem s64_0 : s64 0 := ⟨0, by decide, rfl⟩
theorem s64_gA {f : Nat → Int32} {n : Nat} {i : Int32} (h : ∀ t, s64 (f t)) : s64 (gA f n i) := by
  unfold gA
  split
  · exact s64_0
  · split
    · exact s64_0
    · exact h _
theorem le_nI {a b : Nat} (h : nI a ≤ nI b) (ha : a < 2 ^ 31) (hb : b < 2 ^ 31) : a ≤ b := (nI_leI ha hb).mp h
theorem nle_nI {a b : Nat} (h : ¬ nI a ≤ nI b) (ha : a < 2 ^ 31) (hb : b < 2 ^ 31) : b < a := Nat.lt_of_not_le (fun q => h ((nI_leI ha hb).mpr q))
theorem lt_nI {a b : Nat} (h : nI a < nI b) (ha : a < 2 ^ 31) (hb : b < 2 ^ 31) : a < b := (nI_ltI ha hb).mp h
theorem nlt_nI {a b : Nat} (h : ¬ nI a < nI b) (ha : a < 2 ^ 31) (hb : b < 2 ^ 31) : b ≤ a := Nat.le_of_not_lt (fun q => h ((nI_ltI ha hb).mpr q))
theorem eq_nI {a b : Nat} (h : nI a = nI b) (ha : a < 2 ^ 31) (hb : b < 2 ^ 31) : a = b := (nI_eq ha hb).mp h
/-- Integer.bitCount, as the JDK counts -/
def sr (x y : Int32) : Int32 := ((Int32.toUInt32 x) >>> ((Int32.toUInt32 y) &&& Int32.toUInt32 31)).toInt32
def bc1 (x : Int32) : Int32 := x - (sr x 1 &&& 1431655765)
def bc2 (x : Int32) : Int32 := (x &&& 858993459) + (sr x 2 &&& 858993459)
def bc3 (x : Int32) : Int32 := (x + sr x 4) &&& 252645135
def bc4 (x : Int32) : Int32 := x + sr x 8
def bc5 (x : Int32) : Int32 := x + sr x 16
theorem bc_eq : ∀ j : Nat, j < 64 → bc5 (bc4 (bc3 (bc2 (bc1 (nI j))))) &&& 63 = pcI (nI j) := by decide +kernel
theorem bc_s {x : Int32} (h : s64 x) : bc5 (bc4 (bc3 (bc2 (bc1 x)))) &&& 63 = pcI x := by
  obtain ⟨j, hj, rfl⟩ := h
  exact bc_eq j hj
def mxI (x y : Int32) : Int32 := if x < y then y else x
def abI (x : Int32) : Int32 := if 0 ≤ x then x else 0 - x
/-- what a set is worth: a sum over the ties -/
def adI (kf sf wf : Nat → Int32) (n : Nat) (x q : Int32) : Int32 := wsum kf sf wf (x ||| (1 <<< (q &&& 31))) n - wsum kf sf wf x n
def loI (kf sf wf : Nat → Int32) (n : Nat) (pe x : Int32) : Int32 := wsum kf sf wf (allI pe) n - wsum kf sf wf (allI pe &&& (x ^^^ (-1))) n
def mtB (kf sf wf : Nat → Int32) (n : Nat) (pe a b : Int32) : Bool := decide (loI kf sf wf n pe (1 <<< (a &&& 31)) = 0) && decide (loI kf sf wf n pe (1 <<< (b &&& 31)) = 0) && decide ((0 : Int32) < loI kf sf wf n pe ((1 <<< (a &&& 31)) ||| (1 <<< (b &&& 31))))
def facN : Nat → Nat
  | 0 => 1
  | n + 1 => facN n * (n + 1)
def powI (b : Int32) : Nat → Int32
  | 0 => 1
  | n + 1 => powI b n * b
def euc : Nat → Int32 → Int32 → Int32
  | 0, x, _ => x
  | n + 1, x, y => if y = 0 then x else euc n y (x - x / y * y)
def frI (a b w : Int32) : Int32 := if euc 100 (abI a) b = 0 then w else if w = 0 then a / euc 100 (abI a) b else b / euc 100 (abI a) b
def abvI (x : Int32) : Int32 := if x = 2 then 1 else if x = 3 then 1 else if x = 5 then 4 else 0
def isAB (x k : Int32) : Bool := decide (k = x) || decide (k = 0) || decide (k = abvI x)
def zrF (f : Nat → Int32) (n : Nat) : Nat → Int32 := fun j => if j < n then 0 else f j
theorem zrF_s (f : Nat → Int32) (n : Nat) : upd (zrF f n) n 0 = zrF f (n + 1) := by
  funext j
  simp only [upd, zrF]
  by_cases h : j = n
  · simp [h]
  · by_cases h2 : j < n
    · simp [h, h2, Nat.lt_succ_of_lt h2]
    · simp [h, h2, show ¬ j < n + 1 by omega]
theorem zrF_0 (f : Nat → Int32) : f = zrF f 0 := by funext j; simp [zrF]
def cpF (f g : Nat → Int32) (n : Nat) : Nat → Int32 := fun j => if j < n then g j else f j
theorem cpF_s (f g : Nat → Int32) (n : Nat) : upd (cpF f g n) n (g n) = cpF f g (n + 1) := by
  funext j
  simp only [upd, cpF]
  by_cases h : j = n
  · simp [h]
  · by_cases h2 : j < n
    · simp [h, h2, Nat.lt_succ_of_lt h2]
    · simp [h, h2, show ¬ j < n + 1 by omega]
theorem cpF_0 (f g : Nat → Int32) : f = cpF f g 0 := by funext j; simp [cpF]
def asL (la v : Int32) : Int32 := if la = 0 then v.toInt8.toInt32 else if la = 1 then v.toInt16.toInt32 else v
def sumL (f : Nat → Int32) (ix x : Int32) : Nat → Int64
  | 0 => 0
  | q + 1 => if hasB x (nI q) = true then sumL f ix x q + (gA f 40 (ix + nI q)).toInt64 else sumL f ix x q
/-- the acts, the oldest forgotten, up to place n -/
def shF (f : Nat → Int32) (n : Nat) : Nat → Int32 := fun j => if j + 4 < n then f (j + 4) else f j
theorem shF_s (f : Nat → Int32) (n : Nat) (h : 4 ≤ n) : upd (shF f n) (n - 4) (f n) = shF f (n + 1) := by
  funext j
  simp only [upd, shF]
  by_cases h1 : j = n - 4
  · subst h1; simp [show n - 4 + 4 < n + 1 by omega, show n - 4 + 4 = n by omega]
  · by_cases h2 : j + 4 < n
    · simp [h1, h2, show j + 4 < n + 1 by omega]
    · simp [h1, h2, show ¬ j + 4 < n + 1 by omega]
theorem shF_0 (f : Nat → Int32) : f = shF f 4 := by funext j; rw [shF, if_neg (by omega)]
def kpF (f : Nat → Int32) (n : Nat) (a b d e : Int32) : Nat → Int32 :=
  upd (upd (upd (upd (if n < 24 then f else shF f 96) (4 * (if n < 24 then n else 23)) a) (4 * (if n < 24 then n else 23) + 1) b) (4 * (if n < 24 then n else 23) + 2) d) (4 * (if n < 24 then n else 23) + 3) e
def kpN (n : Nat) : Nat := if n < 24 then n + 1 else 24
theorem k4_0 (n : Nat) : nI n * 4 = nI (4 * n) := by
  have h : nI n * nI 4 = nI (n * 4) := pk_mul n 4
  rw [Nat.mul_comm] at h
  exact h
theorem k4_1 (n : Nat) : nI n + 1 = nI (n + 1) := nI_1 n
theorem k4_2 (n : Nat) : nI n + 2 = nI (n + 2) := nI_add n 2
theorem k4_3 (n : Nat) : nI n + 3 = nI (n + 3) := nI_add n 3
theorem s4_i {n : Nat} (h : 4 ≤ n) : nI n - 4 = nI (n - 4) := pk_sub (a := n) (b := 4) h
theorem lt24 {n : Nat} (h : n < 24) : nI n < 24 := nI_lt (b := 24) h (by decide)
theorem shF_at (f : Nat → Int32) (n : Nat) : shF f n n = f n := by rw [shF, if_neg (by omega)]

section MYM
variable {p : Program} {l : Launch} {e : Env} {R : Room} {s : State} {m : MethodId} {args : Array Value} {below : List Frame} {meth : Method} {c : Code} {cells slots : Nat} {Q : State → Prop}
variable {cc : ByteArray} {nL : Nat} {Ts : List Cond} {own : String} {D : va_G} {tys : List (ClassId × FieldType)} {A : Nat → Prop} {H0 : Heap} {pc : Nat} {lv : List (Nat × Value)} {st : List Value} {ws : va_W}
theorem v_mmax (C : VOk p s m args c cc nL Ts own D tys A H0) {index : Nat} {x y : Int32} (h1 : Cond.methodLink own index Lib.Math.max.name ∈ Ts) (h2 : Cond.static Lib.Math.max.name ∈ Ts) (h3 : Cond.initialized "java/lang/Math" ∈ Ts) (h4 : Cond.code Lib.Math.max.name Lib.Math.max.code 2 (some .int) ∈ Ts) (hR : 1 ≤ R.frames ∧ (st.map fun v => v.category).sum + 13 ≤ R.locals) (hcs : cells ≤ R.cells ∧ slots ≤ R.slots) (hd : decode cc pc = .ok (.invokestatic index, 3)) (kk : V p l e R s m args below meth c cells slots Q nL D A H0 (pc + 3) lv (.int (mxI x y) :: st) ws) : V p l e R s m args below meth c cells slots Q nL D A H0 pc lv (.int y :: .int x :: st) ws := fun ls H locs h hP hD hS => va_mmax C.x C.b (C.ml.trans h.1.symm) C.ow (C.ts _ h1) (C.ts _ h2) (C.ts _ h3) (C.ts _ h4) hR.1 (by omega) hcs.1 hcs.2 hd (kk ls H locs h hP hD hS)
theorem v_mabs (C : VOk p s m args c cc nL Ts own D tys A H0) {index : Nat} {x y : Int32} (h1 : Cond.methodLink own index Lib.Math.abs.name ∈ Ts) (h2 : Cond.static Lib.Math.abs.name ∈ Ts) (h3 : Cond.initialized "java/lang/Math" ∈ Ts) (h4 : Cond.code Lib.Math.abs.name Lib.Math.abs.code 1 (some .int) ∈ Ts) (hR : 1 ≤ R.frames ∧ (st.map fun v => v.category).sum + 13 ≤ R.locals) (hcs : cells ≤ R.cells ∧ slots ≤ R.slots) (hd : decode cc pc = .ok (.invokestatic index, 3)) (kk : V p l e R s m args below meth c cells slots Q nL D A H0 (pc + 3) lv (.int (abI x) :: st) ws) : V p l e R s m args below meth c cells slots Q nL D A H0 pc lv (.int x :: st) ws := fun ls H locs h hP hD hS => va_mabs C.x C.b (C.ml.trans h.1.symm) C.ow (C.ts _ h1) (C.ts _ h2) (C.ts _ h3) (C.ts _ h4) hR.1 (by omega) hcs.1 hcs.2 hd (kk ls H locs h hP hD hS)
theorem hold_i {ln i q : Int32} (h : hold ln i q = true) : ¬ i < 0 := by
  intro h2; simp [hold, h2] at h
theorem hold_n {ln i q : Int32} (h : hold ln i q = true) : ¬ q < 0 := by
  intro h2; by_cases h3 : i < 0 <;> simp [hold, h2, h3] at h
theorem v_copyi (C : VOk p s m args c cc nL Ts own D tys A H0) {index : Nat} (q0 q1 t0 t1 : Nat) {a a0 : Nat} {c0 c1 : ClassId} {n0 n1 : Nat} {f g : Nat → Int32} (ha0 : ws[q0]? = some (a0, .inl (c0, n0, .inl f))) (ha1 : ws[q1]? = some (a, .inl (c1, n1, .inl g))) (ht0 : tys[t0]? = some (c0, .int)) (ht1 : tys[t1]? = some (c1, .int)) {sp dp n : Int32} (h1 : ¬ sp < 0) (h2 : ¬ dp < 0) (h3 : ¬ n < 0) (h4 : sp.toNatClampNeg + n.toNatClampNeg ≤ n0) (h5 : dp.toNatClampNeg + n.toNatClampNeg ≤ n1) (ws' : va_W) (hw : ws.set q1 (a, .inl (c1, n1, .inl (va_cpy f g sp.toNatClampNeg dp.toNatClampNeg n.toNatClampNeg))) = ws') (hl : Cond.methodLink own index arraycopyName ∈ Ts) (hnat : Cond.native arraycopyName ∈ Ts) (hstat : Cond.static arraycopyName ∈ Ts) (hini : Cond.initialized "java/lang/System" ∈ Ts) (hR : 1 ≤ R.frames ∧ (st.map fun v => v.category).sum + (nativeFrameWords "java/lang/System" "arraycopy" 5 + 11) ≤ R.locals) (hd : decode cc pc = .ok (.invokestatic index, 3)) (kk : V p l e R s m args below meth c cells slots Q nL D A H0 (pc + 3) lv st (ws')) : V p l e R s m args below meth c cells slots Q nL D A H0 pc lv (.int n :: .int dp :: .ref a :: .int sp :: .ref a0 :: st) ws := fun ls H locs h hP hD hS => va_copyi C.x C.b (C.ml.trans h.1.symm) C.ow (C.ts _ hl) (C.ts _ hnat) (C.ts _ hstat) (C.ts _ hini) C.K hP hD hS q0 q1 t0 t1 ha0 ha1 ht0 ht1 rfl h1 h2 h3 h4 h5 (fun _ _ => rfl) hR.1 hR.2 hd (fun H1 locs1 hP1 hD1 hS1 => kk ls H1 locs1 h (hw ▸ hP1) (hw ▸ hD1) hS1)
end MYM
