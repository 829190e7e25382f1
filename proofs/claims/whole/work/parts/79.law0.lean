/-! THE CLAIM OUT OF ONE WALK OF THE LAW'S BODY. Your part is whole_start (and what it stands on); all else here is the same for every law, but numbers. -/
def R_law : String := "TableSharesLaw"
def lw_P (b : Addr) (xs : List Int32) (args : Array Value) (s : State) : Prop := args = #[.ref b] ∧ s.IntsAt b xs ∧ xs.length ≤ 384 ∧ (Jvm.Cond.and given_1 narrow_1).before args s = true
def lw_Q (_ : Array Value) (s : State) (o : Outcome) (t : State) : Prop := o = .returned (some (.int 1)) ∧ Framed s o t [] 600000 7302250
def lw_Z (below : List Frame) (a : Array Value) (s : State) : State → Prop := fun t => ∃ o, t.status = .running ∧ Ended t below o ∧ lw_Q a s o t
/-- the law's own end, with 1 on the stack, nothing written that was there before, its room as the claim has it -/
theorem lw_ret {p : Program} {l : Launch} {e : Env} {s : State} {m : MethodId} {below : List Frame} {meth : Method} {c : Code} {b : Nat} (hx : p.tables.exec = Jvm.exec) (hb : c.code = code) (hr : meth.sig.returnType = ret) (hlocks : meth.locks = false) {pc : Nat} {H : Heap} {ls : Array Slot} (hdg : decode code pc = .ok (.ireturn, 1)) : W p l e room_1 s m #[Value.ref b] below meth c H [] 600000 7302250 (lw_Z below #[Value.ref b] s) (F0 m pc ls [.int 1]) := by
  intro T hT X
  obtain ⟨fs, hret, hrun, hended, hW, hframe⟩ := X.leave (v := some (.int 1)) (hlocks := hlocks) (fun h => by rw [hr] at h; cases h)
  have hmeth' : T.vm.method? m = some meth := X.method'
  refine ⟨T.setFrames fs, ?_, .returned (some (.int 1)), hrun, hended, rfl, ⟨_, rfl⟩, hW, hframe⟩
  jvm_step X.here [X.here.top, hx, hb, hdg, hmeth', hr, ret, narrow_b1]
  (try refine ⟨rfl, ?_⟩); (try refine ⟨rfl, ?_⟩)
  first | (intro acts; rw [hret _ acts rfl rfl rfl]) | rw [hret _ _ rfl rfl rfl]
  exact Steps.refl _
/-- what holds at the law's entry: the machine, the code, the tables' words (any of lw_tbl by 'hts w (by decide +kernel)'), the script of L ints xs at the cell b, what the Statement gives of the start (any of its parts by flat_of_before) -/
def lw_At (p : Program) (s : State) (m : MethodId) (meth : Method) (c : Code) (b L : Nat) (xs : Nat → Int32) : Prop :=
  p.tables.exec = Jvm.exec ∧ c.code = code ∧ meth.sig.returnType = ret ∧ c.maxLocals = 4 ∧ s.vm.findClass R_law = some m.cls ∧ (∀ w ∈ lw_tbl, w.before #[Value.ref b] s = true) ∧ va_X b L xs s s.heap ∧ b < s.heap.size ∧ meth.locks = false ∧ (Jvm.Cond.and given_1 narrow_1).before #[Value.ref b] s = true

section MYL
variable {p : Program} {l : Launch} {e : Env} {R : Room} {s : State} {m : MethodId} {args : Array Value} {below : List Frame} {meth : Method} {c : Code} {cells slots : Nat} {Q : State → Prop}
variable {cc : ByteArray} {nL : Nat} {Ts : List Cond} {own : String} {D : va_G} {tys : List (ClassId × FieldType)} {A : Nat → Prop} {H0 : Heap} {pc : Nat} {lv : List (Nat × Value)} {st : List Value} {ws : va_W}
theorem v_sld (C : VOk p s m args c cc nL Ts own D tys A H0) {b L : Nat} {xs : Nat → Int32} (hX : va_X b L xs s H0) (hbl : b < H0.size) (hbA : ¬ A b) {i : Int32} (v : Int32) (hv : xs i.toNatClampNeg = v) (hin : vp_in i L) (hd : decode cc pc = .ok (.iaload, 1)) (kk : V p l e R s m args below meth c cells slots Q nL D A H0 (pc + 1) lv (.int v :: st) ws) : V p l e R s m args below meth c cells slots Q nL D A H0 pc lv (.int i :: .ref b :: st) ws := fun ls H locs h hP hD hS => va_sld C.x C.b hX hbl hbA hS hin hd (by rw [hv]; exact kk ls H locs h hP hD hS)
theorem v_slen (C : VOk p s m args c cc nL Ts own D tys A H0) {b L : Nat} {xs : Nat → Int32} (hX : va_X b L xs s H0) (hbl : b < H0.size) (hbA : ¬ A b) (hd : decode cc pc = .ok (.arraylength, 1)) (kk : V p l e R s m args below meth c cells slots Q nL D A H0 (pc + 1) lv (.int (nI L) :: st) ws) : V p l e R s m args below meth c cells slots Q nL D A H0 pc lv (.ref b :: st) ws := fun ls H locs h hP hD hS => va_slen C.x C.b hX hbl hbA hS hd (kk ls H locs h hP hD hS)
theorem v_widen {k n : Nat} (h1 : cells ≤ k) (h2 : slots ≤ n) (kk : V p l e R s m args below meth c k n Q nL D A H0 pc lv st ws) : V p l e R s m args below meth c cells slots Q nL D A H0 pc lv st ws := fun ls H locs h hP hD hS => W.widen h1 h2 (kk ls H locs h hP hD hS)
end MYL
theorem v_lawret {p : Program} {l : Launch} {e : Env} {s : State} {m : MethodId} {below : List Frame} {meth : Method} {c : Code} {D : va_G} {cs : Nat → ClassId} {b L : Nat} {xs : Nat → Int32} {ws : va_W} {lv : List (Nat × Value)} {pc : Nat} (C : VOk p s m #[Value.ref b] c cL_law 4 wsL_law RL D (tz cs) (fun q : Nat => s.heap.size ≤ q) s.heap) (hr : meth.sig.returnType = ret) (hlocks : meth.locks = false) (hd : decode code pc = .ok (.ireturn, 1)) : V p l e room_1 s m #[Value.ref b] below meth c 600000 7302250 (lw_Z below #[Value.ref b] s) 4 D (fun q : Nat => s.heap.size ≤ q) s.heap pc lv [.int 1] ws := fun ls H locs h hP hD hS => va_forget (fun q hq => hS.2.2 q hq) (lw_ret C.x C.b hr hlocks hd)
/-- the law's locals -/
abbrev lwL (b x y i : Nat) : List (Nat × Value) := [(0, .ref b), (1, .ref x), (2, .ref y), (3, .int (nI i))]
theorem Inv.at0 {cs : Nat → ClassId} {ad : Nat → Nat} {ws : va_W} (h : Inv cs ad ws) : ∃ fs : List Value, ws[0]? = some (ad 0, .inr (5, fs)) := by
  refine h.opn (G := fun ws => ∃ fs : List Value, ws[0]? = some (ad 0, .inr (5, fs))) ?_
  intro _ _ _ _ _ _ _ _ _ _ _ _ _ _ _ _ _ _ _ _ _ _ _ _ _ _ _ _ _ _ _ _ _ _ _ _ _ _ _ _ _ _ _ _ _ _ _ _ _ _ _ _ _ _ _ _ _ _ _ _ _ _ _
  exact ⟨_, rfl⟩
