def FL (own : String) (Ts : List Cond) (ref C : String) (T : u_T) (N ci k index : Nat) : Prop := ((∀ w ∈ u_ws C T N, w ∈ Ts) ∧ vwCl[ci]? = some (C, T, N) ∧ k < N ∧ ref = (T k).1) ∧ Cond.fieldLink own index ref (T k).2.1 (T k).2.2.1 ∈ Ts
def FLN (own : String) (Ts : List Cond) (ref C : String) (T : u_T) (N ci k index : Nat) : Prop := ((∀ w ∈ u_ws C T N, w ∈ Ts) ∧ vwCl[ci]? = some (C, T, N) ∧ k < N ∧ ref = (T k).1) ∧ ∃ host : String, (own, index, ref, (T k).2.1, (T k).2.2.1, host) ∈ nestF
def FP (T : u_T) (N k : Nat) (ty0 : Nat → FieldType) (ty : FieldType) : Prop := (∀ k, k < N → parseFieldDescriptor (T k).2.2.1 = some (ty0 k)) ∧ (∀ a, a < N → ∀ b, b < N → a ≠ b → (T a).2.1 ≠ (T b).2.1) ∧ (T k).2.2.2 = false ∧ parseFieldDescriptor (T k).2.2.1 = some ty
def KD (y : MethodName) (ws : List Cond) (bytes : ByteArray) (maxL : Nat) (ret : Option FieldType) (n : Nat) : Prop := (∃ ws', ws = Cond.code y bytes maxL ret :: ws') ∧ plainName y.cls = true ∧ y.cls ≠ "java/lang/invoke/MethodHandle" ∧ y.cls ≠ "java/lang/invoke/VarHandle" ∧ (parseMethodDescriptor y.desc).map (fun d => d.parameters.length) = some n
/-- the one answer r and the one world w1 -/
def vq_Q (r : Option Value) (D : va_G) (w1 wc : va_W) (sz : Nat) : Array Value → State → Outcome → State → Prop := fun _ st oc t => oc = .returned r ∧ (va_P D vwCl w1 t.heap ∧ va_D (va_A wc sz) w1) ∧ va_F (va_A wc sz) st t
def vq_P (av : List Value) (D : va_G) (tys : List (ClassId × FieldType)) (wc : va_W) (sz : Nat) : Array Value → State → Prop := va_Pc av (fun U => U.heap.size = sz ∧ va_P D vwCl wc U.heap ∧ KK D tys U ∧ va_D (fun _ => True) wc)
/-- a contract: of these arguments and cells the method answers r, and its cells are w1; no cell is new -/
def CT (l : Launch) (D : va_G) (tys : List (ClassId × FieldType)) (y : MethodName) (wsy : List Cond) (rm : Room) (av : List Value) (wc : va_W) (r : Option Value) (w1 : va_W) : Prop := ∀ sz : Nat, Met l y wsy rm (vq_P av D tys wc sz) (vq_Q r D w1 wc sz) 0 0 (va_A wc sz)
theorem vq_blind {av : List Value} {D : va_G} {tys : List (ClassId × FieldType)} {wc : va_W} {sz : Nat} : FrameBlind (vq_P av D tys wc sz) := fun _ _ _ _ q => ⟨q.1, q.2.1, q.2.2.1, q.2.2.2.1.calling, q.2.2.2.2⟩
theorem b2_fits (b : Bool) : fits .boolean (.int (b2 b)) = true := by cases b <;> rfl
section MYC
variable {p : Program} {l : Launch} {e : Env} {R : Room} {s : State} {m : MethodId} {args : Array Value} {below : List Frame} {meth : Method} {c : Code} {cells slots : Nat} {Q : State → Prop}
variable {cc : ByteArray} {nL : Nat} {Ts : List Cond} {own : String} {D : va_G} {tys : List (ClassId × FieldType)} {A : Nat → Prop} {H0 : Heap} {pc : Nat} {lv : List (Nat × Value)} {st : List Value} {ws : va_W}
theorem v_get (C : VOk p s m args c cc nL Ts own D tys A H0) {ref Cn : String} {T : u_T} {N ci k index a : Nat} {fs : List Value} {v : Value} (F : FL own Ts ref Cn T N ci k index) (q0 : Nat) (he : ws[q0]? = some (a, .inr (ci, fs))) (hv : fs[k]? = some v) (hd : decode cc pc = .ok (.getfield index, 3)) (kk : V p l e R s m args below meth c cells slots Q nL D A H0 (pc + 3) lv (v :: st) ws) : V p l e R s m args below meth c cells slots Q nL D A H0 pc lv (.ref a :: st) ws := by
  intro ls H locs h hP hD hS
  obtain ⟨⟨F1, F2, F3, rfl⟩, F4⟩ := F
  exact va_get C.x C.b C.ts F1 C.ow C.K hP q0 he F2 k F3 (C.ts _ F4) (fun _ hx => hx) hv hd (kk ls H locs h hP hD hS)
theorem v_put (C : VOk p s m args c cc nL Ts own D tys A H0) {ref Cn : String} {T : u_T} {N ci k index a : Nat} {fs : List Value} {v : Value} {ty0 : Nat → FieldType} {ty : FieldType} (F : FL own Ts ref Cn T N ci k index) (P : FP T N k ty0 ty) (q0 : Nat) (he : ws[q0]? = some (a, .inr (ci, fs))) (hn : narrow ty v = v) (hf : fits ty v = true) (hl : k < fs.length) (ws' : va_W) (hw : ws.set q0 (a, .inr (ci, fs.set k v)) = ws') (hd : decode cc pc = .ok (.putfield index, 3)) (kk : V p l e R s m args below meth c cells slots Q nL D A H0 (pc + 3) lv st (ws')) : V p l e R s m args below meth c cells slots Q nL D A H0 pc lv (v :: .ref a :: st) ws := by
  intro ls H locs h hP hD hS
  obtain ⟨⟨F1, F2, F3, rfl⟩, F4⟩ := F
  obtain ⟨P1, P2, P3, P4⟩ := P
  subst hw
  exact va_put C.x C.b C.ts F1 ty0 P1 P2 C.ow C.K hP hD hS q0 he F2 k F3 (C.ts _ F4) (fun _ hx => hx) P3 P4 hn hf hl hd (fun H1 locs1 hP1 hD1 hS1 => kk ls H1 locs1 h hP1 hD1 hS1)
theorem v_getN (C : VOk p s m args c cc nL Ts own D tys A H0) {ref Cn : String} {T : u_T} {N ci k index a : Nat} {fs : List Value} {v : Value} (F : FLN own Ts ref Cn T N ci k index) (q0 : Nat) (he : ws[q0]? = some (a, .inr (ci, fs))) (hv : fs[k]? = some v) (hd : decode cc pc = .ok (.getfield index, 3)) (kk : V p l e R s m args below meth c cells slots Q nL D A H0 (pc + 3) lv (v :: st) ws) : V p l e R s m args below meth c cells slots Q nL D A H0 pc lv (.ref a :: st) ws := by
  intro ls H locs h hP hD hS
  obtain ⟨⟨F1, F2, F3, rfl⟩, F4⟩ := F
  obtain ⟨host, F5⟩ := F4
  exact va_getN C.x C.b C.ts F1 C.ow C.K hP q0 he F2 k F3 (va_Nw.use rfl (C.N.1 _ F5)) (fun _ hx => hx) hv hd (kk ls H locs h hP hD hS)
theorem v_putN (C : VOk p s m args c cc nL Ts own D tys A H0) {ref Cn : String} {T : u_T} {N ci k index a : Nat} {fs : List Value} {v : Value} {ty0 : Nat → FieldType} {ty : FieldType} (F : FLN own Ts ref Cn T N ci k index) (P : FP T N k ty0 ty) (q0 : Nat) (he : ws[q0]? = some (a, .inr (ci, fs))) (hn : narrow ty v = v) (hf : fits ty v = true) (hl : k < fs.length) (ws' : va_W) (hw : ws.set q0 (a, .inr (ci, fs.set k v)) = ws') (hd : decode cc pc = .ok (.putfield index, 3)) (kk : V p l e R s m args below meth c cells slots Q nL D A H0 (pc + 3) lv st (ws')) : V p l e R s m args below meth c cells slots Q nL D A H0 pc lv (v :: .ref a :: st) ws := by
  intro ls H locs h hP hD hS
  obtain ⟨⟨F1, F2, F3, rfl⟩, F4⟩ := F
  obtain ⟨P1, P2, P3, P4⟩ := P
  subst hw
  obtain ⟨host, F5⟩ := F4
  exact va_putN C.x C.b C.ts F1 ty0 P1 P2 C.ow C.K hP hD hS q0 he F2 k F3 (va_Nw.use rfl (C.N.1 _ F5)) (fun _ hx => hx) P3 P4 hn hf hl hd (fun H1 locs1 hP1 hD1 hS1 => kk ls H1 locs1 h hP1 hD1 hS1)
theorem v_iald (C : VOk p s m args c cc nL Ts own D tys A H0) (q0 t0 : Nat) {a n : Nat} {cA : ClassId} {f : Nat → Int32} (ha : ws[q0]? = some (a, .inl (cA, n, .inl f))) (ht : tys[t0]? = some (cA, .int)) {i : Int32} (v : Int32) (hv : f i.toNatClampNeg = v) (hin : vp_in i n) (hd : decode cc pc = .ok (.iaload, 1)) (kk : V p l e R s m args below meth c cells slots Q nL D A H0 (pc + 1) lv (.int v :: st) ws) : V p l e R s m args below meth c cells slots Q nL D A H0 pc lv (.int i :: .ref a :: st) ws := fun ls H locs h hP hD hS => va_iald C.x C.b C.K hP q0 t0 ha ht hin hd (by rw [hv]; exact kk ls H locs h hP hD hS)
theorem v_zald (C : VOk p s m args c cc nL Ts own D tys A H0) (q0 t0 : Nat) {a n : Nat} {cA : ClassId} {f : Nat → Int32} (ha : ws[q0]? = some (a, .inl (cA, n, .inl f))) (ht : tys[t0]? = some (cA, .boolean)) {i : Int32} (v : Int32) (hv : f i.toNatClampNeg = v) (hin : vp_in i n) (hd : decode cc pc = .ok (.baload, 1)) (kk : V p l e R s m args below meth c cells slots Q nL D A H0 (pc + 1) lv (.int v :: st) ws) : V p l e R s m args below meth c cells slots Q nL D A H0 pc lv (.int i :: .ref a :: st) ws := fun ls H locs h hP hD hS => va_zald C.x C.b C.K hP q0 t0 ha ht hin hd (by rw [hv]; exact kk ls H locs h hP hD hS)
theorem v_iast (C : VOk p s m args c cc nL Ts own D tys A H0) (q0 t0 : Nat) {a n : Nat} {cA : ClassId} {f : Nat → Int32} (ha : ws[q0]? = some (a, .inl (cA, n, .inl f))) (ht : tys[t0]? = some (cA, .int)) {i x : Int32} (hin : vp_in i n) (ws' : va_W) (hw : ws.set q0 (a, .inl (cA, n, .inl (upd f i.toNatClampNeg x))) = ws') (hd : decode cc pc = .ok (.iastore, 1)) (kk : V p l e R s m args below meth c cells slots Q nL D A H0 (pc + 1) lv st (ws')) : V p l e R s m args below meth c cells slots Q nL D A H0 pc lv (.int x :: .int i :: .ref a :: st) ws := fun ls H locs h hP hD hS => va_iast C.x C.b C.K hP hD hS q0 t0 ha ht hin hd (fun H1 locs1 hP1 hD1 hS1 => kk ls H1 locs1 h (hw ▸ hP1) (hw ▸ hD1) hS1)
theorem v_zast (C : VOk p s m args c cc nL Ts own D tys A H0) (q0 t0 : Nat) {a n : Nat} {cA : ClassId} {f : Nat → Int32} (ha : ws[q0]? = some (a, .inl (cA, n, .inl f))) (ht : tys[t0]? = some (cA, .boolean)) {i x : Int32} (hin : vp_in i n) (ws' : va_W) (hw : ws.set q0 (a, .inl (cA, n, .inl (upd f i.toNatClampNeg (vp_nar .boolean x)))) = ws') (hd : decode cc pc = .ok (.bastore, 1)) (kk : V p l e R s m args below meth c cells slots Q nL D A H0 (pc + 1) lv st (ws')) : V p l e R s m args below meth c cells slots Q nL D A H0 pc lv (.int x :: .int i :: .ref a :: st) ws := fun ls H locs h hP hD hS => va_zast C.x C.b C.K hP hD hS q0 t0 ha ht hin hd (fun H1 locs1 hP1 hD1 hS1 => kk ls H1 locs1 h (hw ▸ hP1) (hw ▸ hD1) hS1)
theorem v_alen (C : VOk p s m args c cc nL Ts own D tys A H0) (q0 t0 : Nat) {a : Nat} {cA : ClassId} {x : vp_A} (ha : ws[q0]? = some (a, .inl (cA, x))) {ty : FieldType} (ht : tys[t0]? = some (cA, ty)) {v : Int32} (hv : Int32.ofNat x.1 = v) (hd : decode cc pc = .ok (.arraylength, 1)) (kk : V p l e R s m args below meth c cells slots Q nL D A H0 (pc + 1) lv (.int v :: st) ws) : V p l e R s m args below meth c cells slots Q nL D A H0 pc lv (.ref a :: st) ws := fun ls H locs h hP hD hS => va_alen C.x C.b C.K hP q0 t0 ha ht hv hd (kk ls H locs h hP hD hS)
theorem v_aldq (C : VOk p s m args c cc nL Ts own D tys A H0) (q0 t0 : Nat) {a n : Nat} {cA : ClassId} {Cn : String} {f : Nat → Option Nat} (ha : ws[q0]? = some (a, .inl (cA, n, .inr (.inr (.inr (.inr f)))))) (ht : tys[t0]? = some (cA, .object Cn)) {i : Int32} (r : Nat) (hr : f i.toNatClampNeg = some r) (hin : vp_in i n) (hd : decode cc pc = .ok (.aaload, 1)) (kk : V p l e R s m args below meth c cells slots Q nL D A H0 (pc + 1) lv (.ref r :: st) ws) : V p l e R s m args below meth c cells slots Q nL D A H0 pc lv (.int i :: .ref a :: st) ws := fun ls H locs h hP hD hS => va_aldq C.x C.b C.K hP q0 t0 ha ht hin hd (by rw [hr]; exact kk ls H locs h hP hD hS)
theorem v_ishl (C : VOk p s m args c cc nL Ts own D tys A H0) {x y : Int32} (hd : decode cc pc = .ok (.ishl, 1)) (kk : V p l e R s m args below meth c cells slots Q nL D A H0 (pc + 1) lv (.int (x <<< (y &&& 31)) :: st) ws) : V p l e R s m args below meth c cells slots Q nL D A H0 pc lv (.int y :: .int x :: st) ws := fun ls H locs h hP hD hS => lv_ishl C.x C.b hd (kk ls H locs h hP hD hS)
theorem v_ishr (C : VOk p s m args c cc nL Ts own D tys A H0) {x y : Int32} (hd : decode cc pc = .ok (.ishr, 1)) (kk : V p l e R s m args below meth c cells slots Q nL D A H0 (pc + 1) lv (.int (x >>> (y &&& 31)) :: st) ws) : V p l e R s m args below meth c cells slots Q nL D A H0 pc lv (.int y :: .int x :: st) ws := fun ls H locs h hP hD hS => lv_ishr C.x C.b hd (kk ls H locs h hP hD hS)
theorem v_lcmp (C : VOk p s m args c cc nL Ts own D tys A H0) {x y : Int64} (hd : decode cc pc = .ok (.lcmp, 1)) (kk : V p l e R s m args below meth c cells slots Q nL D A H0 (pc + 1) lv (.int (lg_cmp x y) :: st) ws) : V p l e R s m args below meth c cells slots Q nL D A H0 pc lv (.long y :: .long x :: st) ws := fun ls H locs h hP hD hS => W.lcmp C.x C.b hd (kk ls H locs h hP hD hS)
theorem v_tableIn (C : VOk p s m args c cc nL Ts own D tys A H0) {dflt lo hi : Int} {offs : Array Int} {len : Nat} {x : Int32} {off : Int} (tgt : Nat) (hd : decode cc pc = .ok (.tableswitch dflt lo hi offs, len)) (h1 : ¬ x.toInt < lo) (h2 : ¬ hi < x.toInt) (ho : offs[(x.toInt - lo).toNat]? = some off) (ht : (pc : Int) + off = (tgt : Int)) (kk : V p l e R s m args below meth c cells slots Q nL D A H0 tgt lv st ws) : V p l e R s m args below meth c cells slots Q nL D A H0 pc lv (.int x :: st) ws := fun ls H locs h hP hD hS => lv_tableIn C.x C.b hd h1 h2 ho ht (kk ls H locs h hP hD hS)
theorem v_tableOut (C : VOk p s m args c cc nL Ts own D tys A H0) {dflt lo hi : Int} {offs : Array Int} {len : Nat} {x : Int32} (tgt : Nat) (hd : decode cc pc = .ok (.tableswitch dflt lo hi offs, len)) (hz : x.toInt < lo ∨ hi < x.toInt) (ht : (pc : Int) + dflt = (tgt : Int)) (kk : V p l e R s m args below meth c cells slots Q nL D A H0 tgt lv st ws) : V p l e R s m args below meth c cells slots Q nL D A H0 pc lv (.int x :: st) ws := fun ls H locs h hP hD hS => lv_tableOut C.x C.b hd hz ht (kk ls H locs h hP hD hS)
theorem v_lookup (C : VOk p s m args c cc nL Ts own D tys A H0) {dflt : Int} {ps : Array (Int × Int)} {len : Nat} {x : Int32} {off : Int} (tgt : Nat) (hd : decode cc pc = .ok (.lookupswitch dflt ps, len)) (hp : (ps.toList.zip (ps.toList.drop 1)).all (fun (a, next) => a.1 < next.1) = true) (ho : Op.lookupswitch.offset ps.toList dflt x.toInt = off) (ht : (pc : Int) + off = (tgt : Int)) (kk : V p l e R s m args below meth c cells slots Q nL D A H0 tgt lv st ws) : V p l e R s m args below meth c cells slots Q nL D A H0 pc lv (.int x :: st) ws := fun ls H locs h hP hD hS => lv_lookup C.x C.b hd hp ho ht (kk ls H locs h hP hD hS)
/-- behind a call of which va_Run speaks -/
theorem v_after (C : VOk p s m args c cc nL Ts own D tys A H0) {wc w1 ws2 : va_W} {isC : List Nat} {r : Option Value} {rest : List Value} {arr : Array Value} (hC : isC.map (fun i => ws[i]?) = wc.map some) (hn : va_nd isC = true) (ha : w1.map (fun q => q.1) = wc.map (fun q => q.1)) (hu : putAll ws isC w1 = ws2)
    (hrun : ∀ (ls : Array Slot) (H : Heap) (locs : List Loc), lv_has ls nL lv → va_P D vwCl ws H → va_D A ws → va_P D vwCl wc H → va_D (fun _ => True) wc → va_Run p l e R s m args below meth c H locs cells slots 0 0 (F0 m pc ls st) rest (vq_Q r D w1 wc H.size arr) (va_A wc H.size))
    (kk : V p l e R s m args below meth c cells slots Q nL D A H0 (pc + 3) lv (r.toList ++ rest) ws2) : V p l e R s m args below meth c cells slots Q nL D A H0 pc lv st ws := by
  intro ls H locs h hP hD hS T hT X
  have hnd : va_nd isC = true := hn
  have hPc : va_P D vwCl wc H := fun k q hq => by
    have h1 : (isC.map (fun i => ws[i]?))[k]? = some (some q) := by rw [hC, List.getElem?_map, hq]; rfl
    rw [List.getElem?_map] at h1
    cases hi : isC[k]? with
    | none => rw [hi] at h1; cases h1
    | some i => rw [hi] at h1; exact hP i q (Option.some.inj h1)
  have hDc : va_D (fun _ => True) wc := (hD.sub isC hn hC).weaken (fun _ _ _ _ => trivial)
  have hF : ∀ q, va_A wc H.size q → A q := va_free hD hS C.fr isC hC
  obtain ⟨v, st₀, t, T', L, h0, X', hL, e1, e2, ⟨hv, ⟨hP1, hD1⟩, hz, hk⟩, stp⟩ := hrun ls H locs h hP hD hPc hDc T hT X
  cases hv
  rw [h0] at hz hk
  obtain ⟨hP2, hD2⟩ := put_P hP hD hC hn ha hk hP1
  rw [hu] at hP2 hD2
  rw [← e1] at hP2 hz hk
  have hS2 : va_S A H0 T'.heap (locs ++ L) := ⟨Nat.le_trans hS.1 hz, fun q h1 h2 => by rw [hk q (Nat.lt_of_lt_of_le h1 hS.1) (fun z => h2 (hF q z))]; exact hS.2.1 q h1 h2, fun q hq => by
    rcases List.mem_append.mp hq with h | h
    · exact hS.2.2 q h
    · exact hF _ (hL q h)⟩
  obtain ⟨t2, a1, b1⟩ := kk ls T'.heap (locs ++ L) h hP2 hD2 hS2 T' rfl X'
  exact ⟨t2, stp t2 a1, b1⟩
theorem preS_of (C : VOk p s m args c cc nL Ts own D tys A H0) {av : List Value} {wc : va_W} {H : Heap} (hPc : va_P D vwCl wc H) (hDc : va_D (fun _ => True) wc) : FrameBlind (vq_P av D tys wc H.size) ∧ ∀ U : State, U.heap = H → s.WarmedH U.vm → vq_P av D tys wc H.size av.toArray U :=
  ⟨vq_blind, fun U hU hW => ⟨rfl, by rw [hU], by rw [hU]; exact hPc, C.2.2.2.1.warm hW, hDc⟩⟩
theorem v_callV (C : VOk p s m args c cc nL Ts own D tys A H0) {y : MethodName} {bytes : ByteArray} {maxL n index : Nat} {ret : Option FieldType} {wsy : List Cond} {rm : Room} {wc w1 : va_W} {r : Option Value} {b qi ci : Nat} (As rest : List Value) (hkd : KD y wsy bytes maxL ret n) (hg : GoodIn Ts (wsV own index y.cls y wsy)) (hM : CT l D tys y wsy rm (.ref b :: As) wc r w1) (hR : rm.frames + 1 ≤ R.frames ∧ 8 + (maxL + 11) + rm.locals ≤ R.locals) (h0 : rm.cells = 0 ∧ rm.slots = 0) (hcs : cells ≤ R.cells ∧ slots ≤ R.slots) (hlen : As.length = n) (qr : Nat) {fs : List Value} {q : vw_C} (hrec : ws[qr]? = some (b, .inr (ci, fs))) (hcl : vwCl[ci]? = some q) (hqc : y.cls = q.1) (hst : st = As.reverse ++ .ref b :: rest) (hroom : (rest.map fun v => v.category).sum ≤ 8) (isC : List Nat) (ws2 : va_W) (hC : isC.map (fun i => ws[i]?) = wc.map some) (hn : va_nd isC = true) (ha : w1.map (fun q => q.1) = wc.map (fun q => q.1)) (hu : putAll ws isC w1 = ws2) (hd : decode cc pc = .ok (.invokevirtual index, 3)) (kk : V p l e R s m args below meth c cells slots Q nL D A H0 (pc + 3) lv (r.toList ++ rest) ws2) : V p l e R s m args below meth c cells slots Q nL D A H0 pc lv st ws := by
  obtain ⟨⟨ws', hw⟩, -, hd1, hd2, hd3⟩ := hkd
  refine v_after (arr := (Value.ref b :: As).toArray) (rest := rest) C hC hn ha hu (fun ls H locs h hP hD hPc hDc => ?_) kk
  exact va_runV (As := As) (b := b) (rest := rest) (C := y.cls) (nL := nL) ⟨C.x, C.b, C.ml, C.ow, C.ts⟩ (hM H.size) (cwV n C.ts hg hw h0.1 h0.2 ⟨rfl, hd1, hd2, hd3⟩ hR) ⟨vq_blind, by rw [hqc]; exact va_recv C.K hP hcl hrec, (preS_of C hPc hDc).2⟩ rfl hlen h.1 hst (lv_room hroom) hd hcs
theorem v_callVN (C : VOk p s m args c cc nL Ts own D tys A H0) {y : MethodName} {bytes : ByteArray} {maxL n index : Nat} {ret : Option FieldType} {wsy : List Cond} {rm : Room} {wc w1 : va_W} {r : Option Value} {b qi ci : Nat} (As rest : List Value) (hkd : KD y wsy bytes maxL ret n) (hg : GoodIn Ts wsy) {host : String} (hne : (own, index, y, host) ∈ nestM) (hws : Cond.initialized y.cls ∈ Ts ∧ Cond.instanceMethod y ∈ Ts ∧ Cond.selects y.cls y y ∈ Ts) (hM : CT l D tys y wsy rm (.ref b :: As) wc r w1) (hR : rm.frames + 1 ≤ R.frames ∧ 8 + (maxL + 11) + rm.locals ≤ R.locals) (h0 : rm.cells = 0 ∧ rm.slots = 0) (hcs : cells ≤ R.cells ∧ slots ≤ R.slots) (hlen : As.length = n) (qr : Nat) {fs : List Value} {q : vw_C} (hrec : ws[qr]? = some (b, .inr (ci, fs))) (hcl : vwCl[ci]? = some q) (hqc : y.cls = q.1) (hst : st = As.reverse ++ .ref b :: rest) (hroom : (rest.map fun v => v.category).sum ≤ 8) (isC : List Nat) (ws2 : va_W) (hC : isC.map (fun i => ws[i]?) = wc.map some) (hn : va_nd isC = true) (ha : w1.map (fun q => q.1) = wc.map (fun q => q.1)) (hu : putAll ws isC w1 = ws2) (hd : decode cc pc = .ok (.invokevirtual index, 3)) (kk : V p l e R s m args below meth c cells slots Q nL D A H0 (pc + 3) lv (r.toList ++ rest) ws2) : V p l e R s m args below meth c cells slots Q nL D A H0 pc lv st ws := by
  obtain ⟨⟨ws', hw⟩, -, hd1, hd2, hd3⟩ := hkd
  refine v_after (arr := (Value.ref b :: As).toArray) (rest := rest) C hC hn ha hu (fun ls H locs h hP hD hPc hDc => ?_) kk
  exact va_runVN (As := As) (b := b) (rest := rest) (C := y.cls) (nL := nL) ⟨C.x, C.b, C.ml, C.ow, C.ts⟩ (hM H.size) ⟨va_cnB n C.ts hg hw h0.1 h0.2 (C.N.2 _ hne) (C.ts _ hws.1) ⟨hd1, hd2, hd3⟩ hR, C.ts _ hws.2.1, C.ts _ hws.2.2⟩ ⟨vq_blind, by rw [hqc]; exact va_recv C.K hP hcl hrec, (preS_of C hPc hDc).2⟩ rfl hlen h.1 hst (lv_room hroom) hd hcs
theorem v_callS (C : VOk p s m args c cc nL Ts own D tys A H0) {y : MethodName} {bytes : ByteArray} {maxL n index : Nat} {ret : Option FieldType} {wsy : List Cond} {rm : Room} {wc w1 : va_W} {r : Option Value} (As rest : List Value) (hkd : KD y wsy bytes maxL ret n) (hg : GoodIn Ts (va_wsS own index y wsy)) (hM : CT l D tys y wsy rm As wc r w1) (hR : rm.frames + 1 ≤ R.frames ∧ 8 + (maxL + 11) + rm.locals ≤ R.locals) (h0 : rm.cells = 0 ∧ rm.slots = 0) (hcs : cells ≤ R.cells ∧ slots ≤ R.slots) (hlen : As.length = n) (hst : st = As.reverse ++ rest) (hroom : (rest.map fun v => v.category).sum ≤ 8) (isC : List Nat) (ws2 : va_W) (hC : isC.map (fun i => ws[i]?) = wc.map some) (hn : va_nd isC = true) (ha : w1.map (fun q => q.1) = wc.map (fun q => q.1)) (hu : putAll ws isC w1 = ws2) (hd : decode cc pc = .ok (.invokestatic index, 3)) (kk : V p l e R s m args below meth c cells slots Q nL D A H0 (pc + 3) lv (r.toList ++ rest) ws2) : V p l e R s m args below meth c cells slots Q nL D A H0 pc lv st ws := by
  obtain ⟨⟨ws', hw⟩, -, hd1, hd2, hd3⟩ := hkd
  refine v_after (arr := As.toArray) (rest := rest) C hC hn ha hu (fun ls H locs h hP hD hPc hDc => ?_) kk
  exact va_runS (As := As) (rest := rest) (nL := nL) ⟨C.x, C.b, C.ml, C.ow, C.ts⟩ (hM H.size) (va_cwS n C.ts hg hw h0.1 h0.2 ⟨hd1, hd2, hd3⟩ hR) (preS_of C hPc hDc) rfl hlen h.1 hst (lv_room hroom) hd hcs
theorem v_callSN (C : VOk p s m args c cc nL Ts own D tys A H0) {y : MethodName} {bytes : ByteArray} {maxL n index : Nat} {ret : Option FieldType} {wsy : List Cond} {rm : Room} {wc w1 : va_W} {r : Option Value} (As rest : List Value) (hkd : KD y wsy bytes maxL ret n) (hg : GoodIn Ts wsy) {host : String} (hne : (own, index, y, host) ∈ nestM) (hws : Cond.initialized y.cls ∈ Ts ∧ Cond.static y ∈ Ts) (hM : CT l D tys y wsy rm As wc r w1) (hR : rm.frames + 1 ≤ R.frames ∧ 8 + (maxL + 11) + rm.locals ≤ R.locals) (h0 : rm.cells = 0 ∧ rm.slots = 0) (hcs : cells ≤ R.cells ∧ slots ≤ R.slots) (hlen : As.length = n) (hst : st = As.reverse ++ rest) (hroom : (rest.map fun v => v.category).sum ≤ 8) (isC : List Nat) (ws2 : va_W) (hC : isC.map (fun i => ws[i]?) = wc.map some) (hn : va_nd isC = true) (ha : w1.map (fun q => q.1) = wc.map (fun q => q.1)) (hu : putAll ws isC w1 = ws2) (hd : decode cc pc = .ok (.invokestatic index, 3)) (kk : V p l e R s m args below meth c cells slots Q nL D A H0 (pc + 3) lv (r.toList ++ rest) ws2) : V p l e R s m args below meth c cells slots Q nL D A H0 pc lv st ws := by
  obtain ⟨⟨ws', hw⟩, -, hd1, hd2, hd3⟩ := hkd
  refine v_after (arr := As.toArray) (rest := rest) C hC hn ha hu (fun ls H locs h hP hD hPc hDc => ?_) kk
  exact va_runSN (As := As) (rest := rest) (nL := nL) ⟨C.x, C.b, C.ml, C.ow, C.ts⟩ (hM H.size) ⟨va_cnB n C.ts hg hw h0.1 h0.2 (C.N.2 _ hne) (C.ts _ hws.1) ⟨hd1, hd2, hd3⟩ hR, C.ts _ hws.2, trivial⟩ (preS_of C hPc hDc) rfl hlen h.1 hst (lv_room hroom) hd hcs
/-- what an end needs -/
def VEnd (meth : Method) (s : State) (A : Nat → Prop) (wc : va_W) (ret : Option FieldType) : Prop := meth.sig.returnType = ret ∧ meth.locks = false ∧ A = va_A wc s.heap.size
theorem v_iret (C : VOk p s m args c cc nL Ts own D tys A s.heap) {wc w1 : va_W} {v v1 : Int32} (E : VEnd meth s A wc (some .int)) (hw : ws = w1) (hv : v = v1) (hd : decode cc pc = .ok (.ireturn, 1)) : V p l e R s m args below meth c 0 0 (MQ below (vq_Q (some (.int v1)) D w1 wc s.heap.size) args s 0 0 (va_A wc s.heap.size)) nL D A s.heap pc lv [.int v] ws := by
  intro ls H locs h hP hD hS
  obtain ⟨hr, hlk, hA⟩ := E
  subst hw
  subst hA
  subst hv
  exact W.iret C.x C.b hr (fun t ht hW => ⟨rfl, ⟨by rw [ht]; exact hP, hD⟩, hS.F ht⟩) hS.2.2 hd hlk
theorem v_lret (C : VOk p s m args c cc nL Ts own D tys A s.heap) {wc w1 : va_W} {v v1 : Int64} (E : VEnd meth s A wc (some .long)) (hw : ws = w1) (hv : v = v1) (hd : decode cc pc = .ok (.lreturn, 1)) : V p l e R s m args below meth c 0 0 (MQ below (vq_Q (some (.long v1)) D w1 wc s.heap.size) args s 0 0 (va_A wc s.heap.size)) nL D A s.heap pc lv [.long v] ws := by
  intro ls H locs h hP hD hS
  obtain ⟨hr, hlk, hA⟩ := E
  subst hw
  subst hA
  subst hv
  exact W.lret C.x C.b hr (fun t ht hW => ⟨rfl, ⟨by rw [ht]; exact hP, hD⟩, hS.F ht⟩) hS.2.2 hd hlk
theorem v_vret (C : VOk p s m args c cc nL Ts own D tys A s.heap) {wc w1 : va_W} (E : VEnd meth s A wc none) (hw : ws = w1) (hd : decode cc pc = .ok (.return_, 1)) : V p l e R s m args below meth c 0 0 (MQ below (vq_Q none D w1 wc s.heap.size) args s 0 0 (va_A wc s.heap.size)) nL D A s.heap pc lv [] ws := by
  intro ls H locs h hP hD hS
  obtain ⟨hr, hlk, hA⟩ := E
  subst hw
  subst hA
  exact W.vret C.x C.b hr (fun t ht hW => ⟨rfl, ⟨by rw [ht]; exact hP, hD⟩, hS.F ht⟩) hS.2.2 hd hlk
theorem v_aret (C : VOk p s m args c cc nL Ts own D tys A s.heap) {wc w1 : va_W} {Cn : String} {v : Nat} (E : VEnd meth s A wc (some (.object Cn))) (hw : ws = w1) (hd : decode cc pc = .ok (.areturn, 1)) : V p l e R s m args below meth c 0 0 (MQ below (vq_Q (some (.ref v)) D w1 wc s.heap.size) args s 0 0 (va_A wc s.heap.size)) nL D A s.heap pc lv [.ref v] ws := by
  intro ls H locs h hP hD hS
  obtain ⟨hr, hlk, hA⟩ := E
  subst hw
  subst hA
  exact W.aret C.x C.b hr (Or.inl ⟨_, rfl⟩) (Or.inr ⟨_, rfl⟩) (fun t ht hW => ⟨rfl, ⟨by rw [ht]; exact hP, hD⟩, hS.F ht⟩) hS.2.2 hd hlk
theorem v_aretN (C : VOk p s m args c cc nL Ts own D tys A s.heap) {wc w1 : va_W} {Cn : String} (E : VEnd meth s A wc (some (.object Cn))) (hw : ws = w1) (hd : decode cc pc = .ok (.areturn, 1)) : V p l e R s m args below meth c 0 0 (MQ below (vq_Q (some .null) D w1 wc s.heap.size) args s 0 0 (va_A wc s.heap.size)) nL D A s.heap pc lv [.null] ws := by
  intro ls H locs h hP hD hS
  obtain ⟨hr, hlk, hA⟩ := E
  subst hw
  subst hA
  exact W.aret C.x C.b hr (Or.inl ⟨_, rfl⟩) (Or.inl rfl) (fun t ht hW => ⟨rfl, ⟨by rw [ht]; exact hP, hD⟩, hS.F ht⟩) hS.2.2 hd hlk
theorem v_zret (C : VOk p s m args c cc nL Ts own D tys A s.heap) {wc w1 : va_W} {v : Int32} {b : Bool} (E : VEnd meth s A wc (some .boolean)) (hw : ws = w1) (hv : v = b2 b) (hd : decode cc pc = .ok (.ireturn, 1)) : V p l e R s m args below meth c 0 0 (MQ below (vq_Q (some (.int (b2 b))) D w1 wc s.heap.size) args s 0 0 (va_A wc s.heap.size)) nL D A s.heap pc lv [.int v] ws := by
  intro ls H locs h hP hD hS
  obtain ⟨hr, hlk, hA⟩ := E
  subst hw
  subst hA
  subst hv
  exact W.zret C.x C.b hr (b2_nar b) (fun t ht hW => ⟨rfl, ⟨by rw [ht]; exact hP, hD⟩, hS.F ht⟩) hS.2.2 hd hlk
end MYC
/-- a contract out of the walk of the body -/
theorem CT.of {l : Launch} {D : va_G} {tys : List (ClassId × FieldType)} {y : MethodName} {wsy : List Cond} {rm : Room} {av : List Value} {wc w1 : va_W} {r : Option Value} {cc : ByteArray} {maxL n : Nat} {ret : Option FieldType} (hk : KD y wsy cc maxL ret n) (hl : (lg_sl av).length ≤ maxL)
    (body : ∀ (p : Program) (e : Env) (s : State) (m : MethodId) (below : List Frame) (meth : Method) (c : Code) (A : Nat → Prop), VOk p s m av.toArray c cc maxL wsy y.cls D tys A s.heap → VEnd meth s A wc ret → V p l e rm s m av.toArray below meth c 0 0 (MQ below (vq_Q r D w1 wc s.heap.size) av.toArray s 0 0 (va_A wc s.heap.size)) maxL D A s.heap 0 (lv_args 0 av) [] wc) :
    CT l D tys y wsy rm av wc r w1 := by
  intro sz
  obtain ⟨⟨ws', hw⟩, hp, -⟩ := hk
  refine Met.ofW (cc := cc) (maxL := maxL) (ret := ret) hp hw ?_
  intro p e s m args below meth c s₁ B hml hv
  obtain ⟨rfl, hsz, hP, hK, hD0⟩ := hv
  subst hsz
  have hx := B.exec
  have hb := B.bytes
  have hts : ∀ w ∈ wsy, w.before av.toArray s = true := atoms_spec (ws := wsy) B.pre
  have hown : s.vm.findClass y.cls = some m.cls := findClass_of_methodNamed B.named
  have hD := hD0.self (sz := s.heap.size)
  rw [lg_entry_eq]
  exact body p e s m below meth c _ ⟨⟨hx, hb, hml⟩, hown, hts, hK, fun q h => Or.inr h⟩ ⟨B.returns, B.notSynchronized, rfl⟩ _ s.heap [] (lv_entry av hl) hP hD va_S.rf
/-- the frame rule of contracts -/
theorem CT.frame {l : Launch} {D : va_G} {tys : List (ClassId × FieldType)} {y : MethodName} {wsy : List Cond} {rm : Room} {av : List Value} {wc w1 : va_W} {r : Option Value} (h : CT l D tys y wsy rm av wc r w1) {ws ws2 : va_W} (isC : List Nat) (hC : isC.map (fun i => ws[i]?) = wc.map some) (hn : va_nd isC = true) (ha : w1.map (fun q => q.1) = wc.map (fun q => q.1)) (hu : putAll ws isC w1 = ws2) : True := trivial
