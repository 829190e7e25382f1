/-! making: rows over V, contracts of constructors -/
def KC (D : va_G) (tys : List (ClassId × FieldType)) (U : State) : Prop := KK D tys U ∧ va_AO "TableShares$Row" U ∧ va_AO "TableShares$Table" U
theorem KC.warm {D : va_G} {tys : List (ClassId × FieldType)} {s U : State} (hW : s.WarmedH U.vm) (h : KC D tys s) : KC D tys U := ⟨h.1.warm hW, va_AO.moved hW.alike h.2.1, va_AO.moved hW.alike h.2.2⟩
theorem KC.calling {D : va_G} {tys : List (ClassId × FieldType)} {U : State} {g : JFrame} {mk : MethodId} {a : Array Value} (h : KC D tys U) : KC D tys (U.calling g mk a) := ⟨h.1.calling, va_AO.moved (u := U) (U := U.calling g mk a) (Vm.Alike.refl U.vm) h.2.1, va_AO.moved (u := U) (U := U.calling g mk a) (Vm.Alike.refl U.vm) h.2.2⟩
def cn_Q (D : va_G) (w1 : (Nat → Nat) → va_W) (wc : va_W) (sz : Nat) : Array Value → State → Outcome → State → Prop := fun _ st oc t => oc = .returned none ∧ (∃ ad : Nat → Nat, va_P D vwCl (w1 ad) t.heap ∧ va_D (va_A wc sz) (w1 ad)) ∧ va_F (va_A wc sz) st t
def cn_P (av : List Value) (D : va_G) (tys : List (ClassId × FieldType)) (wc : va_W) (sz : Nat) : Array Value → State → Prop := va_Pc av (fun U => U.heap.size = sz ∧ va_P D vwCl wc U.heap ∧ KC D tys U ∧ va_D (fun _ => True) wc)
theorem cn_blind {av : List Value} {D : va_G} {tys : List (ClassId × FieldType)} {wc : va_W} {sz : Nat} : FrameBlind (cn_P av D tys wc sz) := fun _ _ _ _ q => ⟨q.1, q.2.1, q.2.2.1, q.2.2.2.1.calling, q.2.2.2.2⟩
/-- a constructor's contract: of these arguments and cells, new cells at some addresses ad, the world is w1 ad -/
def CN (l : Launch) (D : va_G) (tys : List (ClassId × FieldType)) (y : MethodName) (wsy : List Cond) (rm : Room) (mc ms : Nat) (av : List Value) (wc : va_W) (w1 : (Nat → Nat) → va_W) : Prop := ∀ sz : Nat, Met l y wsy rm (cn_P av D tys wc sz) (cn_Q D w1 wc sz) mc ms (va_A wc sz)
theorem P_pick {D : va_G} {ws w : va_W} {H : Heap} (hP : va_P D vwCl ws H) {is : List Nat} (hC : is.map (fun i => ws[i]?) = w.map some) : va_P D vwCl w H := fun k q hq => by
  have h1 : (is.map (fun i => ws[i]?))[k]? = some (some q) := by rw [hC, List.getElem?_map, hq]; rfl
  rw [List.getElem?_map] at h1
  cases hi : is[k]? with
  | none => rw [hi] at h1; cases h1
  | some i => rw [hi] at h1; exact hP i q (Option.some.inj h1)
theorem newI_eq {D : va_G} {tys : List (ClassId × FieldType)} {s : State} {cA cB : ClassId} {t0 : Nat} (hK : va_K D vwCl tys s) (hK1 : va_K D vwCl (tys ++ [(cB, .int)]) s) (ht : tys[t0]? = some (cA, .int)) : cB = cA := by
  have h1 : s.vm.findClass ("[" ++ FieldType.int.toString) = some cA := (hK.2 t0 _ ht).2
  have h2 : s.vm.findClass ("[" ++ FieldType.int.toString) = some cB := (hK1.2 tys.length (cB, .int) (by simp)).2
  exact Option.some.inj (h2.symm.trans h1)
theorem newZ_eq {D : va_G} {tys : List (ClassId × FieldType)} {s : State} {cA cB : ClassId} {t0 : Nat} (hK : va_K D vwCl tys s) (hK1 : va_K D vwCl (tys ++ [(cB, .boolean)]) s) (ht : tys[t0]? = some (cA, .boolean)) : cB = cA := by
  have h1 : s.vm.findClass ("[" ++ FieldType.boolean.toString) = some cA := (hK.2 t0 _ ht).2
  have h2 : s.vm.findClass ("[" ++ FieldType.boolean.toString) = some cB := (hK1.2 tys.length (cB, .boolean) (by simp)).2
  exact Option.some.inj (h2.symm.trans h1)
theorem newQ_eq {D : va_G} {tys : List (ClassId × FieldType)} {s : State} {cA cB : ClassId} {t0 : Nat} {Cn : String} (hK : va_K D vwCl tys s) (hK1 : va_K D vwCl (tys ++ [(cB, .object Cn)]) s) (ht : tys[t0]? = some (cA, .object Cn)) : cB = cA := by
  obtain ⟨_, _, _, _, _, h1⟩ := (hK.2 t0 _ ht).2
  obtain ⟨_, _, _, _, _, h2⟩ := (hK1.2 tys.length (cB, .object Cn) (by simp)).2
  exact Option.some.inj (h2.symm.trans h1)
section MYN
variable {p : Program} {l : Launch} {e : Env} {R : Room} {s : State} {m : MethodId} {args : Array Value} {below : List Frame} {meth : Method} {c : Code} {cells slots : Nat} {Q : State → Prop}
variable {cc : ByteArray} {nL : Nat} {Ts : List Cond} {own : String} {D : va_G} {tys : List (ClassId × FieldType)} {A : Nat → Prop} {H0 : Heap} {pc : Nat} {lv : List (Nat × Value)} {st : List Value} {ws : va_W}
theorem v_new (C : VOk p s m args c cc nL Ts own D tys A H0) {Cn : String} {T : u_T} {N ci index : Nat} {fs : List Value} (hin : ∀ w ∈ u_ws Cn T N, w ∈ Ts) (ty : Nat → FieldType) (hty : ∀ k, k < N → parseFieldDescriptor (T k).2.2.1 = some (ty k)) (hw : Cond.classLink own index Cn ∈ Ts ∧ Cond.instantiable Cn N ∈ Ts ∧ Cond.initialized Cn ∈ Ts) (hc : vwCl[ci]? = some (Cn, T, N)) (hfs : ∀ j, j < N → defaultValue (ty j) = vp_V fs j) (hcs : cells + 1 ≤ R.cells ∧ slots + N ≤ R.slots) (hd : decode cc pc = .ok (.new index, 3)) (kk : ∀ q : Nat, V p l e R s m args below meth c (cells + 1) (slots + N) Q nL D A H0 (pc + 3) lv (.ref q :: st) (ws ++ [(q, .inr (ci, fs))])) : V p l e R s m args below meth c cells slots Q nL D A H0 pc lv st ws := fun ls H locs h hP hD hS => va_new C.x C.b C.ts hin ty hty C.ow (C.ts _ hw.1) (C.ts _ hw.2.1) (C.ts _ hw.2.2) C.K hP hD hS C.fr hc hfs hcs.1 hcs.2 hd (fun q H1 hP1 hD1 hS1 => kk q ls H1 locs h hP1 hD1 hS1)
theorem v_newI (C : VOk p s m args c cc nL Ts own D tys A H0) (t0 : Nat) {cA : ClassId} (ht : tys[t0]? = some (cA, .int)) (harr : Cond.arrayClass .int ∈ Ts) {n : Int32} (N : Nat) (hn : ¬ n < 0) (hN : n.toNatClampNeg = N) (hb : N * componentBytes .int ≤ 536870912) (hcs : cells + 1 ≤ R.cells ∧ slots + N ≤ R.slots) (hd : decode cc pc = .ok (.newarray .int, 2)) (kk : ∀ q : Nat, V p l e R s m args below meth c (cells + 1) (slots + N) Q nL D A H0 (pc + 2) lv (.ref q :: st) (ws ++ [(q, .inl (cA, N, .inl (fun _ => 0)))])) : V p l e R s m args below meth c cells slots Q nL D A H0 pc lv (.int n :: st) ws := by
  intro ls H locs h hP hD hS
  refine va_newa (atype := .int) (a0 := (N, .inl (fun _ => 0))) C.x C.b (C.ts _ harr) rfl C.K hP hD hS C.fr (fun _ => rfl) hn hN hb hcs.1 hcs.2 hd (fun q cB H1 hK1 hP1 hD1 hS1 => ?_)
  have e := newI_eq C.K hK1 ht
  subst e
  exact kk q ls H1 locs h hP1 hD1 hS1
theorem v_newZ (C : VOk p s m args c cc nL Ts own D tys A H0) (t0 : Nat) {cA : ClassId} (ht : tys[t0]? = some (cA, .boolean)) (harr : Cond.arrayClass .boolean ∈ Ts) {n : Int32} (N : Nat) (hn : ¬ n < 0) (hN : n.toNatClampNeg = N) (hb : N * componentBytes .boolean ≤ 536870912) (hcs : cells + 1 ≤ R.cells ∧ slots + N ≤ R.slots) (hd : decode cc pc = .ok (.newarray .boolean, 2)) (kk : ∀ q : Nat, V p l e R s m args below meth c (cells + 1) (slots + N) Q nL D A H0 (pc + 2) lv (.ref q :: st) (ws ++ [(q, .inl (cA, N, .inl (fun _ => 0)))])) : V p l e R s m args below meth c cells slots Q nL D A H0 pc lv (.int n :: st) ws := by
  intro ls H locs h hP hD hS
  refine va_newa (atype := .boolean) (a0 := (N, .inl (fun _ => 0))) C.x C.b (C.ts _ harr) rfl C.K hP hD hS C.fr (fun _ => rfl) hn hN hb hcs.1 hcs.2 hd (fun q cB H1 hK1 hP1 hD1 hS1 => ?_)
  have e := newZ_eq C.K hK1 ht
  subst e
  exact kk q ls H1 locs h hP1 hD1 hS1
theorem v_newQ (C : VOk p s m args c cc nL Ts own D tys A H0) (t0 : Nat) {cA : ClassId} {Cn : String} {index : Nat} (ht : tys[t0]? = some (cA, .object Cn)) (hcl : Cond.classLink own index Cn ∈ Ts) (hov : va_AO Cn s) {n : Int32} (N : Nat) (hn : ¬ n < 0) (hN : n.toNatClampNeg = N) (hb : N * 4 ≤ 536870912) (hcs : cells + 1 ≤ R.cells ∧ slots + N ≤ R.slots) (hd : decode cc pc = .ok (.anewarray index, 3)) (kk : ∀ q : Nat, V p l e R s m args below meth c (cells + 1) (slots + N) Q nL D A H0 (pc + 3) lv (.ref q :: st) (ws ++ [(q, .inl (cA, N, .inr (.inr (.inr (.inr (fun _ => none))))))])) : V p l e R s m args below meth c cells slots Q nL D A H0 pc lv (.int n :: st) ws := by
  intro ls H locs h hP hD hS
  refine va_newq C.x C.b C.ow (C.ts _ hcl) hov C.K hP hD hS C.fr hn hN hb hcs.1 hcs.2 hd (fun q cB H1 hK1 hP1 hD1 hS1 => ?_)
  have e := newQ_eq C.K hK1 ht
  subst e
  exact kk q ls H1 locs h hP1 hD1 hS1
theorem v_putF (C : VOk p s m args c cc nL Ts own D tys A H0) {ref Cn : String} {T : u_T} {N ci k index a : Nat} {fs : List Value} {v : Value} {ty0 : Nat → FieldType} {ty : FieldType} (F : FL own Ts ref Cn T N ci k index) (P1 : ∀ k, k < N → parseFieldDescriptor (T k).2.2.1 = some (ty0 k)) (P2 : ∀ a, a < N → ∀ b, b < N → a ≠ b → (T a).2.1 ≠ (T b).2.1) (P3 : (T k).2.2.2 = true) (P4 : parseFieldDescriptor (T k).2.2.1 = some ty) (hin : meth.name = "<init>") (hdc : (T k).1 = own) (q0 : Nat) (he : ws[q0]? = some (a, .inr (ci, fs))) (hn : narrow ty v = v) (hf : fits ty v = true) (hl : k < fs.length) (ws' : va_W) (hw : ws.set q0 (a, .inr (ci, fs.set k v)) = ws') (hd : decode cc pc = .ok (.putfield index, 3)) (kk : V p l e R s m args below meth c cells slots Q nL D A H0 (pc + 3) lv st ws') : V p l e R s m args below meth c cells slots Q nL D A H0 pc lv (v :: .ref a :: st) ws := by
  intro ls H locs h hP hD hS
  obtain ⟨⟨F1, F2, F3, rfl⟩, F4⟩ := F
  subst hw
  exact va_putF C.x C.b C.ts F1 ty0 P1 P2 C.ow C.K hP hD hS q0 he F2 k F3 (C.ts _ F4) (fun _ hx => hx) P3 hin hdc P4 hn hf hl hd (fun H1 locs1 hP1 hD1 hS1 => kk ls H1 locs1 h hP1 hD1 hS1)
theorem v_objInit (C : VOk p s m args c cc nL Ts own D tys A H0) {idx a : Nat} (h1 : Cond.methodLink own idx objectInit ∈ Ts) (h2 : Cond.instanceMethod objectInit ∈ Ts) (h3 : Cond.code objectInit ⟨#[0xb1]⟩ 1 none ∈ Ts) (hR : 1 ≤ R.frames ∧ (st.map fun v => v.category).sum + 12 ≤ R.locals) (hd : decode cc pc = .ok (.invokespecial idx, 3)) (kk : V p l e R s m args below meth c cells slots Q nL D A H0 (pc + 3) lv st ws) : V p l e R s m args below meth c cells slots Q nL D A H0 pc lv (.ref a :: st) ws := fun ls H locs h hP hD hS => W.objInit C.x C.b C.ow (C.ts _ h1) (C.ts _ h2) (C.ts _ h3) rfl (by rw [C.ml]; exact h.1) rfl hd hR.1 (show 2 * 0 + _ + 12 ≤ _ by have := hR.2; omega) (W.eq (g2 := F0 m (pc + 3) ls st) rfl (kk ls H locs h hP hD hS))
theorem v_astq (C : VOk p s m args c cc nL Ts own D tys A H0) (q0 t0 qk ci : Nat) {a : Nat} {cA : ClassId} {r : vw_C} {n v : Nat} {vs : List Value} {f : Nat → Option Nat} (ha : ws[q0]? = some (a, .inl (cA, n, .inr (.inr (.inr (.inr f)))))) (ht : tys[t0]? = some (cA, .object r.1)) (hv : ws[qk]? = some (v, .inr (ci, vs))) (hc : vwCl[ci]? = some r) {i : Int32} (k : Nat) (hk : i.toNatClampNeg = k) (hin : vp_in i n) (ws' : va_W) (hw : ws.set q0 (a, .inl (cA, n, .inr (.inr (.inr (.inr (va_up f k (some v))))))) = ws') (hd : decode cc pc = .ok (.aastore, 1)) (kk : V p l e R s m args below meth c cells slots Q nL D A H0 (pc + 1) lv st ws') : V p l e R s m args below meth c cells slots Q nL D A H0 pc lv (.ref v :: .int i :: .ref a :: st) ws := by
  intro ls H locs h hP hD hS
  subst hw
  subst hk
  exact va_astq C.x C.b C.K hP hD hS q0 t0 qk ci ha ht hv hc hin hd (fun H1 locs1 hP1 hD1 hS1 => kk ls H1 locs1 h hP1 hD1 hS1)
/-- behind a call of a constructor -/
theorem v_afterN (C : VOk p s m args c cc nL Ts own D tys A H0) {wc wr : va_W} {w1 : (Nat → Nat) → va_W} {isC isR : List Nat} {rest : List Value} {mc ms : Nat} {arr : Array Value} (hC : isC.map (fun i => ws[i]?) = wc.map some) (hR : isR.map (fun i => ws[i]?) = wr.map some) (hn : va_nd isR = true) (hnC : va_nd isC = true) (hdis : ∀ i ∈ isR, i ∉ isC)
    (hrun : ∀ (ls : Array Slot) (H : Heap) (locs : List Loc), lv_has ls nL lv → va_P D vwCl ws H → va_D A ws → va_P D vwCl wc H → va_D (fun _ => True) wc → va_Run p l e R s m args below meth c H locs cells slots mc ms (F0 m pc ls st) rest (cn_Q D w1 wc H.size arr) (va_A wc H.size))
    (kk : ∀ ad : Nat → Nat, V p l e R s m args below meth c (cells + mc) (slots + ms) Q nL D A H0 (pc + 3) lv rest (wr ++ w1 ad)) : V p l e R s m args below meth c cells slots Q nL D A H0 pc lv st ws := by
  intro ls H locs h hP hD hS T hT X
  have hPc : va_P D vwCl wc H := P_pick hP hC
  have hDc : va_D (fun _ => True) wc := (hD.sub isC hnC hC).weaken (fun _ _ _ _ => trivial)
  have hF : ∀ q, va_A wc H.size q → A q := va_free hD hS C.fr isC hC
  obtain ⟨v, st₀, t, T', L, h0, X', hL, e1, e2, ⟨hv, ⟨ad, hP1, hD1⟩, hz, hk⟩, stp⟩ := hrun ls H locs h hP hD hPc hDc T hT X
  cases hv
  rw [h0] at hz hk
  rw [← e1] at hP1 hz hk
  obtain ⟨hP2, hD2⟩ := va_join hP hD isC isR hC hR hn hdis hk hF hP1 hD1
  have hS2 : va_S A H0 T'.heap (locs ++ L) := ⟨Nat.le_trans hS.1 hz, fun q h1 h2 => by rw [hk q (Nat.lt_of_lt_of_le h1 hS.1) (fun z => h2 (hF q z))]; exact hS.2.1 q h1 h2, fun q hq => by
    rcases List.mem_append.mp hq with h | h
    · exact hS.2.2 q h
    · exact hF _ (hL q h)⟩
  obtain ⟨t2, a1, b1⟩ := kk ad ls T'.heap (locs ++ L) h hP2 hD2 hS2 T' rfl X'
  exact ⟨t2, stp t2 a1, b1⟩
theorem v_callIN (C : VOk p s m args c cc nL Ts own D tys A H0) {y : MethodName} {bytes : ByteArray} {maxL n index mc ms : Nat} {wsy : List Cond} {rm : Room} {wc wr : va_W} {w1 : (Nat → Nat) → va_W} {b : Nat} (As rest : List Value) (hkd : KD y wsy bytes maxL none n) (hg : GoodIn Ts wsy) {host : String} (hne : (own, index, y, host) ∈ nestM) (hws : Cond.initialized y.cls ∈ Ts ∧ Cond.instanceMethod y ∈ Ts) (hy1 : y.name = "<init>") (hM : CN l D tys y wsy rm mc ms (.ref b :: As) wc w1) (hQ : KC D tys s) (hR : rm.frames + 1 ≤ R.frames ∧ 8 + (maxL + 11) + rm.locals ≤ R.locals) (h0 : rm.cells = mc ∧ rm.slots = ms) (hcs : cells + mc ≤ R.cells ∧ slots + ms ≤ R.slots) (hlen : As.length = n) (hst : st = As.reverse ++ .ref b :: rest) (hroom : (rest.map fun v => v.category).sum ≤ 8) (isC isR : List Nat) (hC : isC.map (fun i => ws[i]?) = wc.map some) (hR2 : isR.map (fun i => ws[i]?) = wr.map some) (hn : va_nd isR = true) (hnC : va_nd isC = true) (hdis : ∀ i ∈ isR, i ∉ isC) (hd : decode cc pc = .ok (.invokespecial index, 3)) (kk : ∀ ad : Nat → Nat, V p l e R s m args below meth c (cells + mc) (slots + ms) Q nL D A H0 (pc + 3) lv rest (wr ++ w1 ad)) : V p l e R s m args below meth c cells slots Q nL D A H0 pc lv st ws := by
  obtain ⟨⟨ws', hw⟩, -, hd1, hd2, hd3⟩ := hkd
  refine v_afterN (arr := (Value.ref b :: As).toArray) C hC hR2 hn hnC hdis (fun ls H locs h hP hD hPc hDc => ?_) kk
  exact va_runIN (As := As) (b := b) (rest := rest) (nL := nL) ⟨C.x, C.b, C.ml, C.ow, C.ts⟩ (hM H.size) ⟨va_cnB n C.ts hg hw h0.1 h0.2 (C.N.2 _ hne) (C.ts _ hws.1) ⟨hd1, hd2, hd3⟩ hR, hy1, C.ts _ hws.2⟩ ⟨cn_blind, fun U hU hW => ⟨rfl, by rw [hU], by rw [hU]; exact hPc, hQ.warm hW, hDc⟩⟩ rfl hlen h.1 hst (lv_room hroom) hd hcs
theorem v_callI (C : VOk p s m args c cc nL Ts own D tys A H0) {y : MethodName} {bytes : ByteArray} {maxL n index mc ms : Nat} {wsy : List Cond} {rm : Room} {wc wr : va_W} {w1 : (Nat → Nat) → va_W} {b : Nat} (As rest : List Value) (hkd : KD y wsy bytes maxL none n) (hg : GoodIn Ts wsy) (hws : Cond.initialized y.cls ∈ Ts ∧ Cond.methodLink own index y ∈ Ts ∧ Cond.instanceMethod y ∈ Ts) (hy1 : y.name = "<init>") (hM : CN l D tys y wsy rm mc ms (.ref b :: As) wc w1) (hQ : KC D tys s) (hR : rm.frames + 1 ≤ R.frames ∧ 8 + (maxL + 11) + rm.locals ≤ R.locals) (h0 : rm.cells = mc ∧ rm.slots = ms) (hcs : cells + mc ≤ R.cells ∧ slots + ms ≤ R.slots) (hlen : As.length = n) (hst : st = As.reverse ++ .ref b :: rest) (hroom : (rest.map fun v => v.category).sum ≤ 8) (isC isR : List Nat) (hC : isC.map (fun i => ws[i]?) = wc.map some) (hR2 : isR.map (fun i => ws[i]?) = wr.map some) (hn : va_nd isR = true) (hnC : va_nd isC = true) (hdis : ∀ i ∈ isR, i ∉ isC) (hd : decode cc pc = .ok (.invokespecial index, 3)) (kk : ∀ ad : Nat → Nat, V p l e R s m args below meth c (cells + mc) (slots + ms) Q nL D A H0 (pc + 3) lv rest (wr ++ w1 ad)) : V p l e R s m args below meth c cells slots Q nL D A H0 pc lv st ws := by
  obtain ⟨⟨ws', hw⟩, -, hd1, hd2, hd3⟩ := hkd
  refine v_afterN (arr := (Value.ref b :: As).toArray) C hC hR2 hn hnC hdis (fun ls H locs h hP hD hPc hDc => ?_) kk
  exact va_runI (As := As) (b := b) (rest := rest) (nL := nL) ⟨C.x, C.b, C.ml, C.ow, C.ts⟩ (hM H.size) (cwI n C.ts hg hw h0.1 h0.2 (C.ts _ hws.1) (C.ts _ hws.2.1) (C.ts _ hws.2.2) hy1 ⟨hd1, hd2, hd3⟩ hR) ⟨cn_blind, fun U hU hW => ⟨rfl, by rw [hU], by rw [hU]; exact hPc, hQ.warm hW, hDc⟩⟩ rfl hlen h.1 hst (lv_room hroom) hd hcs
theorem v_endN (C : VOk p s m args c cc nL Ts own D tys A s.heap) {wc : va_W} {w1 : (Nat → Nat) → va_W} {mc ms : Nat} (E : meth.sig.returnType = none ∧ meth.locks = false ∧ A = va_A wc s.heap.size) (ad : Nat → Nat) (isF : List Nat) (hF : isF.map (fun i => ws[i]?) = (w1 ad).map some) (hn : va_nd isF = true) (hc : cells ≤ mc ∧ slots ≤ ms) (hd : decode cc pc = .ok (.return_, 1)) : V p l e R s m args below meth c cells slots (MQ below (cn_Q D w1 wc s.heap.size) args s mc ms (va_A wc s.heap.size)) nL D A s.heap pc lv [] ws := by
  intro ls H locs h hP hD hS
  obtain ⟨hr, hlk, hA⟩ := E
  subst hA
  refine W.widen hc.1 hc.2 ?_
  exact W.vret C.x C.b hr (fun t ht hW => ⟨rfl, ⟨ad, by rw [ht]; exact P_pick hP hF, hD.sub isF hn hF⟩, hS.F ht⟩) hS.2.2 hd hlk
end MYN
theorem CN.of {l : Launch} {D : va_G} {tys : List (ClassId × FieldType)} {y : MethodName} {wsy : List Cond} {rm : Room} {mc ms : Nat} {av : List Value} {wc : va_W} {w1 : (Nat → Nat) → va_W} {cc : ByteArray} {maxL n : Nat} (hk : KD y wsy cc maxL none n) (hl : (lg_sl av).length ≤ maxL)
    (body : ∀ (p : Program) (e : Env) (s : State) (m : MethodId) (below : List Frame) (meth : Method) (c : Code) (A : Nat → Prop), VOk p s m av.toArray c cc maxL wsy y.cls D tys A s.heap → KC D tys s → meth.name = y.name → (meth.sig.returnType = none ∧ meth.locks = false ∧ A = va_A wc s.heap.size) → V p l e rm s m av.toArray below meth c 0 0 (MQ below (cn_Q D w1 wc s.heap.size) av.toArray s mc ms (va_A wc s.heap.size)) maxL D A s.heap 0 (lv_args 0 av) [] wc) :
    CN l D tys y wsy rm mc ms av wc w1 := by
  intro sz
  obtain ⟨⟨ws', hw⟩, hp, -⟩ := hk
  refine Met.ofW (cc := cc) (maxL := maxL) (ret := none) hp hw ?_
  intro p e s m args below meth c s₁ B hml hv
  obtain ⟨rfl, hsz, hP, hK, hD0⟩ := hv
  subst hsz
  have hx := B.exec
  have hb := B.bytes
  have hts : ∀ w ∈ wsy, w.before av.toArray s = true := atoms_spec (ws := wsy) B.pre
  have hown : s.vm.findClass y.cls = some m.cls := findClass_of_methodNamed B.named
  have hin : meth.name = y.name := (name_of_methodNamed B.named B.method).1
  have hD := hD0.self (sz := s.heap.size)
  rw [lg_entry_eq]
  exact body p e s m below meth c _ ⟨⟨hx, hb, hml⟩, hown, hts, hK.1, fun q h => Or.inr h⟩ hK hin ⟨B.returns, B.notSynchronized, rfl⟩ _ s.heap [] (lv_entry av hl) hP hD va_S.rf
