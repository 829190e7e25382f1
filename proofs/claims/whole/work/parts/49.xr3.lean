theorem kX6_lacks : KD yX6_lacks wsX6_lacks cX6_lacks 4 (some .int) 3 := ⟨⟨_, rfl⟩, by decide, by decide +kernel, by decide +kernel, by decide +kernel⟩
theorem in_X6_lacks_X6 : ∀ w ∈ wsX60, w ∈ wsX6_lacks := by decide +kernel
theorem fl_X6_lacks_13 : FL RX6 wsX6_lacks RX6 RX6 TX6 22 6 1 13 := ⟨⟨in_X6_lacks_X6, rfl, by decide, rfl⟩, by decide +kernel⟩
set_option maxHeartbeats 4000000 in
set_option maxRecDepth 100000 in
theorem c_lacks (l : Launch) (D : va_G) (cs : Nat → ClassId) {mo : Nat} {ml : Nat} {mz : Nat} {mi : Nat} {mt : Nat} {mv : Nat} {mp : Nat} {md : Nat} {mc : Nat} {mk : Nat} {mq : Nat} {mr : Nat} {su : Int32} {it : Bool} {nby : Int32} {lt : Int32} {pl : Int32} {tok : Int32} {va : Int32} {be : Int32} {wr : Int32} {am : Int32} {td : Int32} {szf : Nat → Int32} {j : Nat} {x : Int32} {y : Int32} (hj : j < 8) : CT l D (tz cs) yX6_lacks wsX6_lacks ({ frames := 1, cells := 0, slots := 0, locals := 25 }) [.ref mo, .int (nI j), .int x, .int y] [(mo, .inr (6, [.ref ml, .ref mz, .ref mi, .int su, .int (b2 it), .ref mt, .ref mv, .ref mp, .int nby, .int lt, .int pl, .int tok, .int va, .int be, .int wr, .ref md, .ref mc, .int am, .ref mk, .ref mq, .ref mr, .int td])), (mz, .inl (cs 0, 8, .inl szf))] (some (.int (if szf j < 0 then -1000010 - 1 else if inI x 0 (szf j - y) = true then 0 else -1000010 - 2))) [(mo, .inr (6, [.ref ml, .ref mz, .ref mi, .int (if szf j < 0 then 1 else if inI x 0 (szf j - y) = true then su else 2), .int (b2 it), .ref mt, .ref mv, .ref mp, .int nby, .int lt, .int pl, .int tok, .int va, .int be, .int wr, .ref md, .ref mc, .int am, .ref mk, .ref mq, .ref mr, .int td])), (mz, .inl (cs 0, 8, .inl szf))] := by
  refine CT.of kX6_lacks (Nat.le_of_ble_eq_true rfl) ?_
  intro p e s m below meth c A C E
  have C : VOk p s m _ c cX6_lacks 4 wsX6_lacks RX6 D (tz cs) A s.heap := C
  refine V.lvs (lv' := [(0, .ref mo), (1, .int (nI j)), (2, .int x), (3, .int y)]) [0, 1, 2, 3] rfl ?_
  refine v_aload_n C 0 dX6_lacks_0 rfl ?_
  refine v_get C (v := .ref mz) fl_X6_lacks_13 0 rfl rfl dX6_lacks_1 ?_
  refine v_iload_n C 1 dX6_lacks_4 rfl ?_
  refine v_iald C 1 0 rfl rfl (szf j) (by rw [nI_clamp (by omega)]) (vp_in_nI (by omega) (by omega)) dX6_lacks_5 ?_
  refine v_if_ge C 15 dX6_lacks_6 (by decide) (fun c1 => ?_) (fun c1 => ?_)
  · skip
    refine v_iload_n C 2 dX6_lacks_15 rfl ?_
    refine v_i2l C dX6_lacks_16 ?_
    refine v_lconst C (v := 0) dX6_lacks_17 (by decide) ?_
    refine v_aload_n C 0 dX6_lacks_18 rfl ?_
    refine v_get C (v := .ref mz) fl_X6_lacks_13 0 rfl rfl dX6_lacks_19 ?_
    refine v_iload_n C 1 dX6_lacks_22 rfl ?_
    refine v_iald C 1 0 rfl rfl (szf j) (by rw [nI_clamp (by omega)]) (vp_in_nI (by omega) (by omega)) dX6_lacks_23 ?_
    refine v_iload_n C 3 dX6_lacks_24 rfl ?_
    refine v_isub C dX6_lacks_25 ?_
    refine v_i2l C dX6_lacks_26 ?_
    refine v_callS C [.long (Int32.toInt64 x), .long 0, .long (Int32.toInt64 ((szf j) - y))] [] kX6_in gX6_lacks_X6_in (c_inI l D cs (x := x) (a := 0) (b := ((szf j) - y)) (lo := 0) (hi := (Int32.toInt64 ((szf j) - y))) (by decide) (rfl)) ⟨Nat.le_of_ble_eq_true rfl, Nat.le_of_ble_eq_true rfl⟩ ⟨rfl, rfl⟩ ⟨Nat.zero_le _, Nat.zero_le _⟩ rfl rfl (Nat.le_of_ble_eq_true rfl) [] [(mo, .inr (6, [.ref ml, .ref mz, .ref mi, .int su, .int (b2 it), .ref mt, .ref mv, .ref mp, .int nby, .int lt, .int pl, .int tok, .int va, .int be, .int wr, .ref md, .ref mc, .int am, .ref mk, .ref mq, .ref mr, .int td])), (mz, .inl (cs 0, 8, .inl szf))] rfl (by decide) rfl (rfl) dX6_lacks_27 ?_
    refine V.sts (st' := [.int (b2 (inI x 0 ((szf j) - y)))]) rfl ?_
    refine v_if_eqB C 37 dX6_lacks_30 (by decide) (fun c2 => ?_) (fun c2 => ?_)
    · skip
      refine v_aload_n C 0 dX6_lacks_37 rfl ?_
      refine v_iconst C (v := 2) dX6_lacks_38 (by decide) ?_
      refine v_callV (qi := 0) C [.int 2] [] kX6_find gX6_lacks_X6_find (c_find l D cs (mo := mo) (ml := ml) (mz := mz) (mi := mi) (mt := mt) (mv := mv) (mp := mp) (md := md) (mc := mc) (mk := mk) (mq := mq) (mr := mr) (su := su) (it := it) (nby := nby) (lt := lt) (pl := pl) (tok := tok) (va := va) (be := be) (wr := wr) (am := am) (td := td) (x := 2) ) ⟨Nat.le_of_ble_eq_true rfl, Nat.le_of_ble_eq_true rfl⟩ ⟨rfl, rfl⟩ ⟨Nat.zero_le _, Nat.zero_le _⟩ rfl 0 rfl rfl rfl rfl (Nat.le_of_ble_eq_true rfl) [0] [(mo, .inr (6, [.ref ml, .ref mz, .ref mi, .int 2, .int (b2 it), .ref mt, .ref mv, .ref mp, .int nby, .int lt, .int pl, .int tok, .int va, .int be, .int wr, .ref md, .ref mc, .int am, .ref mk, .ref mq, .ref mr, .int td])), (mz, .inl (cs 0, 8, .inl szf))] rfl (by decide) (show [mo] = [mo] from rfl) (rfl) dX6_lacks_39 ?_
      refine V.sts (st' := [.int (-1000010 - 2)]) rfl ?_
      exact v_iret C E (by first | rfl | (simp only [c1, Int32.not_lt.mpr c1, c2, ↓reduceIte, Bool.false_eq_true, reduceCtorEq, Bool.and_true, Bool.true_and, Bool.and_false, Bool.false_and]; done) | (simp [c1, Int32.not_lt.mpr c1, c2]; done) | (simp_all [b2]; done)) (by first | rfl | (simp only [c1, Int32.not_lt.mpr c1, c2, ↓reduceIte, Bool.false_eq_true, reduceCtorEq, Bool.and_true, Bool.true_and, Bool.and_false, Bool.false_and]; done) | (simp [c1, Int32.not_lt.mpr c1, c2]; done) | (simp_all [b2]; done)) dX6_lacks_42
    · skip
      refine v_iconst C (v := 0) dX6_lacks_33 (by decide) ?_
      refine v_goto C 42 dX6_lacks_34 (by decide) ?_
      exact v_iret C E (by first | rfl | (simp only [c1, Int32.not_lt.mpr c1, c2, ↓reduceIte, Bool.false_eq_true, reduceCtorEq, Bool.and_true, Bool.true_and, Bool.and_false, Bool.false_and]; done) | (simp [c1, Int32.not_lt.mpr c1, c2]; done) | (simp_all [b2]; done)) (by first | rfl | (simp only [c1, Int32.not_lt.mpr c1, c2, ↓reduceIte, Bool.false_eq_true, reduceCtorEq, Bool.and_true, Bool.true_and, Bool.and_false, Bool.false_and]; done) | (simp [c1, Int32.not_lt.mpr c1, c2]; done) | (simp_all [b2]; done)) dX6_lacks_42
  · skip
    refine v_aload_n C 0 dX6_lacks_9 rfl ?_
    refine v_iconst C (v := 1) dX6_lacks_10 (by decide) ?_
    refine v_callV (qi := 0) C [.int 1] [] kX6_find gX6_lacks_X6_find (c_find l D cs (mo := mo) (ml := ml) (mz := mz) (mi := mi) (mt := mt) (mv := mv) (mp := mp) (md := md) (mc := mc) (mk := mk) (mq := mq) (mr := mr) (su := su) (it := it) (nby := nby) (lt := lt) (pl := pl) (tok := tok) (va := va) (be := be) (wr := wr) (am := am) (td := td) (x := 1) ) ⟨Nat.le_of_ble_eq_true rfl, Nat.le_of_ble_eq_true rfl⟩ ⟨rfl, rfl⟩ ⟨Nat.zero_le _, Nat.zero_le _⟩ rfl 0 rfl rfl rfl rfl (Nat.le_of_ble_eq_true rfl) [0] [(mo, .inr (6, [.ref ml, .ref mz, .ref mi, .int 1, .int (b2 it), .ref mt, .ref mv, .ref mp, .int nby, .int lt, .int pl, .int tok, .int va, .int be, .int wr, .ref md, .ref mc, .int am, .ref mk, .ref mq, .ref mr, .int td])), (mz, .inl (cs 0, 8, .inl szf))] rfl (by decide) (show [mo] = [mo] from rfl) (rfl) dX6_lacks_11 ?_
    refine V.sts (st' := [.int (-1000010 - 1)]) rfl ?_
    exact v_iret C E (by first | rfl | (simp only [c1, Int32.not_le.mp c1, ↓reduceIte, Bool.false_eq_true, reduceCtorEq, Bool.and_true, Bool.true_and, Bool.and_false, Bool.false_and]; done) | (simp [c1, Int32.not_le.mp c1]; done) | (simp_all [b2]; done)) (by first | rfl | (simp only [c1, Int32.not_le.mp c1, ↓reduceIte, Bool.false_eq_true, reduceCtorEq, Bool.and_true, Bool.true_and, Bool.and_false, Bool.false_and]; done) | (simp [c1, Int32.not_le.mp c1]; done) | (simp_all [b2]; done)) dX6_lacks_14
theorem kX6_leaves : KD yX6_leaves wsX6_leaves cX6_leaves 9 (some .int) 2 := ⟨⟨_, rfl⟩, by decide, by decide +kernel, by decide +kernel, by decide +kernel⟩
theorem in_X6_leaves_X6 : ∀ w ∈ wsX60, w ∈ wsX6_leaves := by decide +kernel
theorem fl_X6_leaves_129 : FL RX6 wsX6_leaves RX6 RX6 TX6 22 6 4 129 := ⟨⟨in_X6_leaves_X6, rfl, by decide, rfl⟩, by decide +kernel⟩
set_option maxHeartbeats 4000000 in
set_option maxRecDepth 100000 in
theorem c_mleavesOut (l : Launch) (D : va_G) (cs : Nat → ClassId) {mo : Nat} {ml : Nat} {mz : Nat} {mi : Nat} {mt : Nat} {mv : Nat} {mp : Nat} {md : Nat} {mc : Nat} {mk : Nat} {mq : Nat} {mr : Nat} {su : Int32} {it : Bool} {nby : Int32} {lt : Int32} {pl : Int32} {tok : Int32} {va : Int32} {be : Int32} {wr : Int32} {am : Int32} {td : Int32} {x0 : Int32} {x : Int32} (ho : inB 8 x0 = false) : CT l D (tz cs) yX6_leaves wsX6_leaves ({ frames := 3, cells := 0, slots := 0, locals := 72 }) [.ref mo, .int x0, .int x] [(mo, .inr (6, [.ref ml, .ref mz, .ref mi, .int su, .int (b2 it), .ref mt, .ref mv, .ref mp, .int nby, .int lt, .int pl, .int tok, .int va, .int be, .int wr, .ref md, .ref mc, .int am, .ref mk, .ref mq, .ref mr, .int td]))] (some (.int (if it = true then -1000001 else -1000002))) [(mo, .inr (6, [.ref ml, .ref mz, .ref mi, .int su, .int (b2 it), .ref mt, .ref mv, .ref mp, .int nby, .int lt, .int pl, .int tok, .int va, .int be, .int wr, .ref md, .ref mc, .int am, .ref mk, .ref mq, .ref mr, .int td]))] := by
  refine CT.of kX6_leaves (Nat.le_of_ble_eq_true rfl) ?_
  intro p e s m below meth c A C E
  have C : VOk p s m _ c cX6_leaves 9 wsX6_leaves RX6 D (tz cs) A s.heap := C
  refine V.lvs (lv' := [(0, .ref mo), (1, .int x0), (2, .int x)]) [0, 1, 2] rfl ?_
  refine v_aload_n C 0 dX6_leaves_0 rfl ?_
  refine v_get C (v := .int (b2 it)) fl_X6_leaves_129 0 rfl rfl dX6_leaves_1 ?_
  refine v_if_neB C 10 dX6_leaves_4 (by decide) (fun c1 => ?_) (fun c1 => ?_)
  · skip
    refine v_iload_n C 1 dX6_leaves_10 rfl ?_
    refine v_callS C [.int x0] [] kX6_isRow gX6_leaves_X6_isRow (c_isRow l D cs (x := x0) ) ⟨Nat.le_of_ble_eq_true rfl, Nat.le_of_ble_eq_true rfl⟩ ⟨rfl, rfl⟩ ⟨Nat.zero_le _, Nat.zero_le _⟩ rfl rfl (Nat.le_of_ble_eq_true rfl) [] [(mo, .inr (6, [.ref ml, .ref mz, .ref mi, .int su, .int (b2 it), .ref mt, .ref mv, .ref mp, .int nby, .int lt, .int pl, .int tok, .int va, .int be, .int wr, .ref md, .ref mc, .int am, .ref mk, .ref mq, .ref mr, .int td]))] rfl (by decide) rfl (rfl) dX6_leaves_11 ?_
    refine V.sts (st' := [.int (b2 (inB 8 x0))]) rfl ?_
    refine v_if_neB C 20 dX6_leaves_14 (by decide) (fun c2 => ?_) (fun c2 => ?_)
    · exact absurd (ho.symm.trans c2) (by decide)
    · skip
      refine v_ldc C (v := -1000001) (by decide +kernel) dX6_leaves_17 ?_
      exact v_iret C E (by first | rfl | (simp only [c1, c2, ↓reduceIte, Bool.false_eq_true, reduceCtorEq, Bool.and_true, Bool.true_and, Bool.and_false, Bool.false_and]; done) | (simp [c1, c2]; done) | (simp_all [b2]; done)) (by first | rfl | (simp only [c1, c2, ↓reduceIte, Bool.false_eq_true, reduceCtorEq, Bool.and_true, Bool.true_and, Bool.and_false, Bool.false_and]; done) | (simp [c1, c2]; done) | (simp_all [b2]; done)) dX6_leaves_19
  · skip
    refine v_ldc C (v := -1000002) (by decide +kernel) dX6_leaves_7 ?_
    exact v_iret C E (by first | rfl | (simp only [c1, ↓reduceIte, Bool.false_eq_true, reduceCtorEq, Bool.and_true, Bool.true_and, Bool.and_false, Bool.false_and]; done) | (simp [c1]; done) | (simp_all [b2]; done)) (by first | rfl | (simp only [c1, ↓reduceIte, Bool.false_eq_true, reduceCtorEq, Bool.and_true, Bool.true_and, Bool.and_false, Bool.false_and]; done) | (simp [c1]; done) | (simp_all [b2]; done)) dX6_leaves_9
set_option maxHeartbeats 4000000 in
set_option maxRecDepth 100000 in
theorem c_mleavesSt (l : Launch) (D : va_G) (cs : Nat → ClassId) {mo : Nat} {ml : Nat} {mz : Nat} {mi : Nat} {mt : Nat} {mv : Nat} {mp : Nat} {md : Nat} {mc : Nat} {mk : Nat} {mq : Nat} {mr : Nat} {su : Int32} {nby : Int32} {lt : Int32} {pl : Int32} {tok : Int32} {va : Int32} {be : Int32} {wr : Int32} {am : Int32} {td : Int32} {x0 : Int32} {x : Int32} : CT l D (tz cs) yX6_leaves wsX6_leaves ({ frames := 3, cells := 0, slots := 0, locals := 72 }) [.ref mo, .int x0, .int x] [(mo, .inr (6, [.ref ml, .ref mz, .ref mi, .int su, .int (b2 false), .ref mt, .ref mv, .ref mp, .int nby, .int lt, .int pl, .int tok, .int va, .int be, .int wr, .ref md, .ref mc, .int am, .ref mk, .ref mq, .ref mr, .int td]))] (some (.int (-1000002))) [(mo, .inr (6, [.ref ml, .ref mz, .ref mi, .int su, .int (b2 false), .ref mt, .ref mv, .ref mp, .int nby, .int lt, .int pl, .int tok, .int va, .int be, .int wr, .ref md, .ref mc, .int am, .ref mk, .ref mq, .ref mr, .int td]))] := by
  refine CT.of kX6_leaves (Nat.le_of_ble_eq_true rfl) ?_
  intro p e s m below meth c A C E
  have C : VOk p s m _ c cX6_leaves 9 wsX6_leaves RX6 D (tz cs) A s.heap := C
  refine V.lvs (lv' := [(0, .ref mo), (1, .int x0), (2, .int x)]) [0, 1, 2] rfl ?_
  refine v_aload_n C 0 dX6_leaves_0 rfl ?_
  refine v_get C (v := .int (b2 false)) fl_X6_leaves_129 0 rfl rfl dX6_leaves_1 ?_
  refine v_if_neB C 10 dX6_leaves_4 (by decide) (fun c1 => ?_) (fun c1 => ?_)
  · exact absurd c1 (by decide)
  · skip
    refine v_ldc C (v := -1000002) (by decide +kernel) dX6_leaves_7 ?_
    exact v_iret C E (rfl) (by first | rfl | (simp [c1, ↓reduceIte]; done) | (simp_all [b2]; done)) dX6_leaves_9
theorem fl_X6_leaves_19 : FL RX6 wsX6_leaves RX6 RX6 TX6 22 6 5 19 := ⟨⟨in_X6_leaves_X6, rfl, by decide, rfl⟩, by decide +kernel⟩
set_option maxHeartbeats 4000000 in
set_option maxRecDepth 100000 in
theorem c_mleavesLk (l : Launch) (D : va_G) (cs : Nat → ClassId) {mo : Nat} {ml : Nat} {mz : Nat} {mi : Nat} {mt : Nat} {mv : Nat} {mp : Nat} {md : Nat} {mc : Nat} {mk : Nat} {mq : Nat} {mr : Nat} {su : Int32} {nby : Int32} {lt : Int32} {pl : Int32} {tok : Int32} {va : Int32} {be : Int32} {wr : Int32} {am : Int32} {td : Int32} {tf : Nat → Int32} {szf : Nat → Int32} {j : Nat} {pn : Nat} {x : Int32} (hpe : tf 0 = nI pn) (hj : j < 8) (hno : szf j < 0 ∨ inI x 0 (szf j - nI pn) = false) : CT l D (tz cs) yX6_leaves wsX6_leaves ({ frames := 3, cells := 0, slots := 0, locals := 72 }) [.ref mo, .int (nI j), .int x] [(mo, .inr (6, [.ref ml, .ref mz, .ref mi, .int su, .int (b2 true), .ref mt, .ref mv, .ref mp, .int nby, .int lt, .int pl, .int tok, .int va, .int be, .int wr, .ref md, .ref mc, .int am, .ref mk, .ref mq, .ref mr, .int td])), (mz, .inl (cs 0, 8, .inl szf)), (mt, .inl (cs 0, 29, .inl tf))] (some (.int (if szf j < 0 then -1000010 - 1 else -1000010 - 2))) [(mo, .inr (6, [.ref ml, .ref mz, .ref mi, .int (if szf j < 0 then 1 else 2), .int (b2 true), .ref mt, .ref mv, .ref mp, .int nby, .int lt, .int pl, .int tok, .int va, .int be, .int wr, .ref md, .ref mc, .int am, .ref mk, .ref mq, .ref mr, .int td])), (mz, .inl (cs 0, 8, .inl szf)), (mt, .inl (cs 0, 29, .inl tf))] := by
  refine CT.of kX6_leaves (Nat.le_of_ble_eq_true rfl) ?_
  intro p e s m below meth c A C E
  have C : VOk p s m _ c cX6_leaves 9 wsX6_leaves RX6 D (tz cs) A s.heap := C
  refine V.lvs (lv' := [(0, .ref mo), (1, .int (nI j)), (2, .int x)]) [0, 1, 2] rfl ?_
  refine v_aload_n C 0 dX6_leaves_0 rfl ?_
  refine v_get C (v := .int (b2 true)) fl_X6_leaves_129 0 rfl rfl dX6_leaves_1 ?_
  refine v_if_neB C 10 dX6_leaves_4 (by decide) (fun c1 => ?_) (fun c1 => ?_)
  · skip
    refine v_iload_n C 1 dX6_leaves_10 rfl ?_
    refine v_callS C [.int (nI j)] [] kX6_isRow gX6_leaves_X6_isRow (c_isRow l D cs (x := (nI j)) ) ⟨Nat.le_of_ble_eq_true rfl, Nat.le_of_ble_eq_true rfl⟩ ⟨rfl, rfl⟩ ⟨Nat.zero_le _, Nat.zero_le _⟩ rfl rfl (Nat.le_of_ble_eq_true rfl) [] [(mo, .inr (6, [.ref ml, .ref mz, .ref mi, .int su, .int (b2 true), .ref mt, .ref mv, .ref mp, .int nby, .int lt, .int pl, .int tok, .int va, .int be, .int wr, .ref md, .ref mc, .int am, .ref mk, .ref mq, .ref mr, .int td])), (mz, .inl (cs 0, 8, .inl szf)), (mt, .inl (cs 0, 29, .inl tf))] rfl (by decide) rfl (rfl) dX6_leaves_11 ?_
    refine V.sts (st' := [.int (b2 (inB 8 (nI j)))]) rfl ?_
    refine v_if_neB C 20 dX6_leaves_14 (by decide) (fun c2 => ?_) (fun c2 => ?_)
    · skip
      refine v_aload_n C 0 dX6_leaves_20 rfl ?_
      refine v_iload_n C 1 dX6_leaves_21 rfl ?_
      refine v_iload_n C 2 dX6_leaves_22 rfl ?_
      refine v_aload_n C 0 dX6_leaves_23 rfl ?_
      refine v_get C (v := .ref mt) fl_X6_leaves_19 0 rfl rfl dX6_leaves_24 ?_
      refine v_iconst C (v := 0) dX6_leaves_27 (by decide) ?_
      refine v_iald C 2 0 rfl rfl (tf 0) (rfl) (vp_in_nI (n := 0) (N := 29) (by decide) (by decide)) dX6_leaves_28 ?_
      refine V.topr (y := nI pn) (hpe) ?_
      refine v_callV (qi := 0) C [.int (nI j), .int x, .int (nI pn)] [] kX6_lacks gX6_leaves_X6_lacks (c_lacks l D cs (mo := mo) (ml := ml) (mz := mz) (mi := mi) (mt := mt) (mv := mv) (mp := mp) (md := md) (mc := mc) (mk := mk) (mq := mq) (mr := mr) (su := su) (it := true) (nby := nby) (lt := lt) (pl := pl) (tok := tok) (va := va) (be := be) (wr := wr) (am := am) (td := td) (szf := szf) (j := j) (x := x) (y := nI pn) (by first | assumption | omega)) ⟨Nat.le_of_ble_eq_true rfl, Nat.le_of_ble_eq_true rfl⟩ ⟨rfl, rfl⟩ ⟨Nat.zero_le _, Nat.zero_le _⟩ rfl 0 rfl rfl rfl rfl (Nat.le_of_ble_eq_true rfl) [0, 1] [(mo, .inr (6, [.ref ml, .ref mz, .ref mi, .int (if szf j < 0 then 1 else if inI x 0 (szf j - (nI pn)) = true then su else 2), .int (b2 true), .ref mt, .ref mv, .ref mp, .int nby, .int lt, .int pl, .int tok, .int va, .int be, .int wr, .ref md, .ref mc, .int am, .ref mk, .ref mq, .ref mr, .int td])), (mz, .inl (cs 0, 8, .inl szf)), (mt, .inl (cs 0, 29, .inl tf))] rfl (by decide) (show [mo, mz] = [mo, mz] from rfl) (rfl) dX6_leaves_29 ?_
      refine V.sts (st' := [.int (if szf j < 0 then -1000010 - 1 else if inI x 0 (szf j - (nI pn)) = true then 0 else -1000010 - 2)]) rfl ?_
      refine v_istore_n C [(0, .ref mo), (1, .int (nI j)), (2, .int x), (3, .int (if szf j < 0 then -1000010 - 1 else if inI x 0 (szf j - (nI pn)) = true then 0 else -1000010 - 2))] [1, 2, 3, 0] dX6_leaves_32 (by decide) rfl ?_
      refine v_iload_n C 3 dX6_leaves_33 rfl ?_
      refine v_if_ge C 39 dX6_leaves_34 (by decide) (fun c3 => ?_) (fun c3 => ?_)
      · exact absurd c3 (by rcases hno with z | z; rw [if_pos z]; decide; by_cases z2 : szf j < 0; rw [if_pos z2]; decide; rw [if_neg z2, z]; decide)
      · skip
        refine v_iload_n C 3 dX6_leaves_37 rfl ?_
        exact v_iret C E (by by_cases z2 : szf j < 0; simp only [if_pos z2]; have z3 := hno.resolve_left z2; simp only [if_neg z2, z3, Bool.false_eq_true, ↓reduceIte]) (by by_cases z2 : szf j < 0; simp only [if_pos z2]; have z3 := hno.resolve_left z2; simp only [if_neg z2, z3, Bool.false_eq_true, ↓reduceIte]) dX6_leaves_38
    · exact absurd ((inB_in (n := 8) (by decide) hj).symm.trans c2) (by decide)
  · exact absurd c1 (by decide)
theorem fl_X6_leaves_16 : FL RX6 wsX6_leaves RX6 RX6 TX6 22 6 2 16 := ⟨⟨in_X6_leaves_X6, rfl, by decide, rfl⟩, by decide +kernel⟩
set_option maxHeartbeats 4000000 in
set_option maxRecDepth 100000 in
theorem c_mleavesOk (l : Launch) (D : va_G) (cs : Nat → ClassId) {mo : Nat} {ml : Nat} {mz : Nat} {mi : Nat} {mt : Nat} {mv : Nat} {mp : Nat} {md : Nat} {mc : Nat} {mk : Nat} {mq : Nat} {mr : Nat} {su : Int32} {nby : Int32} {lt : Int32} {pl : Int32} {tok : Int32} {va : Int32} {be : Int32} {wr : Int32} {am : Int32} {td : Int32} {tf : Nat → Int32} {szf : Nat → Int32} {itf : Nat → Int32} {pn : Nat} {tn : Nat} {j : Nat} {sn : Nat} {q : Nat} (hte : tf 1 = nI tn) (hti : tn ≤ 8) (hS : ∀ t, s64 (tf (13 + t))) (hK : ∀ t, t < tn → kok (tf (5 + t))) (hpe : tf 0 = nI pn) (hpn : pn ≤ 6) (hj : j < 8) (hsz : szf j = nI sn) (hsn : sn ≤ 40) (hq : q + pn ≤ sn) : CT l D (tz cs) yX6_leaves wsX6_leaves ({ frames := 3, cells := 0, slots := 0, locals := 72 }) [.ref mo, .int (nI j), .int (nI q)] [(mo, .inr (6, [.ref ml, .ref mz, .ref mi, .int su, .int (b2 true), .ref mt, .ref mv, .ref mp, .int nby, .int lt, .int pl, .int tok, .int va, .int be, .int wr, .ref md, .ref mc, .int am, .ref mk, .ref mq, .ref mr, .int td])), (mz, .inl (cs 0, 8, .inl szf)), (mi, .inl (cs 0, 320, .inl itf)), (mt, .inl (cs 0, 29, .inl tf))] (some (.int (lvS (lvP (kS tf) (sS tf) (wS tf) tn pn (rfM itf j) (nI q)) (2 ^ pn - 1)))) [(mo, .inr (6, [.ref ml, .ref mz, .ref mi, .int 0, .int (b2 true), .ref mt, .ref mv, .ref mp, .int nby, .int lt, .int pl, .int tok, .int va, .int be, .int wr, .ref md, .ref mc, .int am, .ref mk, .ref mq, .ref mr, .int td])), (mz, .inl (cs 0, 8, .inl szf)), (mi, .inl (cs 0, 320, .inl itf)), (mt, .inl (cs 0, 29, .inl tf))] := by
  refine CT.of kX6_leaves (Nat.le_of_ble_eq_true rfl) ?_
  intro p e s m below meth c A C E
  have C : VOk p s m _ c cX6_leaves 9 wsX6_leaves RX6 D (tz cs) A s.heap := C
  refine V.lvs (lv' := [(0, .ref mo), (1, .int (nI j)), (2, .int (nI q))]) [0, 1, 2] rfl ?_
  have hpw := pw64 pn hpn
  have hlk1 : ¬ szf j < 0 := by rw [hsz]; exact nI_pos (by omega)
  have hlk2 : inI (nI q) 0 (szf j - nI pn) = true := by rw [hsz, pk_sub (by omega)]; exact inI_t (a := 0) (by omega) (by omega) (by omega)
  refine v_aload_n C 0 dX6_leaves_0 rfl ?_
  refine v_get C (v := .int (b2 true)) fl_X6_leaves_129 0 rfl rfl dX6_leaves_1 ?_
  refine v_if_neB C 10 dX6_leaves_4 (by decide) (fun c1 => ?_) (fun c1 => ?_)
  · skip
    refine v_iload_n C 1 dX6_leaves_10 rfl ?_
    refine v_callS C [.int (nI j)] [] kX6_isRow gX6_leaves_X6_isRow (c_isRow l D cs (x := (nI j)) ) ⟨Nat.le_of_ble_eq_true rfl, Nat.le_of_ble_eq_true rfl⟩ ⟨rfl, rfl⟩ ⟨Nat.zero_le _, Nat.zero_le _⟩ rfl rfl (Nat.le_of_ble_eq_true rfl) [] [(mo, .inr (6, [.ref ml, .ref mz, .ref mi, .int su, .int (b2 true), .ref mt, .ref mv, .ref mp, .int nby, .int lt, .int pl, .int tok, .int va, .int be, .int wr, .ref md, .ref mc, .int am, .ref mk, .ref mq, .ref mr, .int td])), (mz, .inl (cs 0, 8, .inl szf)), (mi, .inl (cs 0, 320, .inl itf)), (mt, .inl (cs 0, 29, .inl tf))] rfl (by decide) rfl (rfl) dX6_leaves_11 ?_
    refine V.sts (st' := [.int (b2 (inB 8 (nI j)))]) rfl ?_
    refine v_if_neB C 20 dX6_leaves_14 (by decide) (fun c2 => ?_) (fun c2 => ?_)
    · skip
      refine v_aload_n C 0 dX6_leaves_20 rfl ?_
      refine v_iload_n C 1 dX6_leaves_21 rfl ?_
      refine v_iload_n C 2 dX6_leaves_22 rfl ?_
      refine v_aload_n C 0 dX6_leaves_23 rfl ?_
      refine v_get C (v := .ref mt) fl_X6_leaves_19 0 rfl rfl dX6_leaves_24 ?_
      refine v_iconst C (v := 0) dX6_leaves_27 (by decide) ?_
      refine v_iald C 3 0 rfl rfl (tf 0) (rfl) (vp_in_nI (n := 0) (N := 29) (by decide) (by decide)) dX6_leaves_28 ?_
      refine V.topr (y := nI pn) (hpe) ?_
      refine v_callV (qi := 0) C [.int (nI j), .int (nI q), .int (nI pn)] [] kX6_lacks gX6_leaves_X6_lacks (c_lacks l D cs (mo := mo) (ml := ml) (mz := mz) (mi := mi) (mt := mt) (mv := mv) (mp := mp) (md := md) (mc := mc) (mk := mk) (mq := mq) (mr := mr) (su := su) (it := true) (nby := nby) (lt := lt) (pl := pl) (tok := tok) (va := va) (be := be) (wr := wr) (am := am) (td := td) (szf := szf) (j := j) (x := (nI q)) (y := nI pn) (by first | assumption | omega)) ⟨Nat.le_of_ble_eq_true rfl, Nat.le_of_ble_eq_true rfl⟩ ⟨rfl, rfl⟩ ⟨Nat.zero_le _, Nat.zero_le _⟩ rfl 0 rfl rfl rfl rfl (Nat.le_of_ble_eq_true rfl) [0, 1] [(mo, .inr (6, [.ref ml, .ref mz, .ref mi, .int (if szf j < 0 then 1 else if inI (nI q) 0 (szf j - (nI pn)) = true then su else 2), .int (b2 true), .ref mt, .ref mv, .ref mp, .int nby, .int lt, .int pl, .int tok, .int va, .int be, .int wr, .ref md, .ref mc, .int am, .ref mk, .ref mq, .ref mr, .int td])), (mz, .inl (cs 0, 8, .inl szf)), (mi, .inl (cs 0, 320, .inl itf)), (mt, .inl (cs 0, 29, .inl tf))] rfl (by decide) (show [mo, mz] = [mo, mz] from rfl) (rfl) dX6_leaves_29 ?_
      refine V.sts (st' := [.int (if szf j < 0 then -1000010 - 1 else if inI (nI q) 0 (szf j - (nI pn)) = true then 0 else -1000010 - 2)]) rfl ?_
      refine V.topr (y := 0) (by rw [if_neg hlk1, if_pos hlk2]) ?_
      refine V.wss (ws' := [(mo, .inr (6, [.ref ml, .ref mz, .ref mi, .int su, .int (b2 true), .ref mt, .ref mv, .ref mp, .int nby, .int lt, .int pl, .int tok, .int va, .int be, .int wr, .ref md, .ref mc, .int am, .ref mk, .ref mq, .ref mr, .int td])), (mz, .inl (cs 0, 8, .inl szf)), (mi, .inl (cs 0, 320, .inl itf)), (mt, .inl (cs 0, 29, .inl tf))]) (by rw [if_neg hlk1, if_pos hlk2]) ?_
      refine v_istore_n C [(0, .ref mo), (1, .int (nI j)), (2, .int (nI q)), (3, .int 0)] [1, 2, 3, 0] dX6_leaves_32 (by decide) rfl ?_
      refine v_iload_n C 3 dX6_leaves_33 rfl ?_
      refine v_if_ge C 39 dX6_leaves_34 (by decide) (fun c3 => ?_) (fun c3 => ?_)
      · skip
        refine v_ldc C (v := -1000000) (by decide +kernel) dX6_leaves_39 ?_
        refine v_istore C [(0, .ref mo), (1, .int (nI j)), (2, .int (nI q)), (3, .int 0), (4, .int (-1000000))] [1, 2, 3, 4, 0] dX6_leaves_41 (by decide) rfl ?_
        refine v_aload_n C 0 dX6_leaves_43 rfl ?_
        refine v_callV (qi := 0) C [] [] kX6_all gX6_leaves_X6_all (c_mall l D cs (mo := mo) (ml := ml) (mz := mz) (mi := mi) (mt := mt) (mv := mv) (mp := mp) (md := md) (mc := mc) (mk := mk) (mq := mq) (mr := mr) (su := su) (it := true) (nby := nby) (lt := lt) (pl := pl) (tok := tok) (va := va) (be := be) (wr := wr) (am := am) (td := td) (tf := tf) ) ⟨Nat.le_of_ble_eq_true rfl, Nat.le_of_ble_eq_true rfl⟩ ⟨rfl, rfl⟩ ⟨Nat.zero_le _, Nat.zero_le _⟩ rfl 0 rfl rfl rfl rfl (Nat.le_of_ble_eq_true rfl) [0, 3] [(mo, .inr (6, [.ref ml, .ref mz, .ref mi, .int su, .int (b2 true), .ref mt, .ref mv, .ref mp, .int nby, .int lt, .int pl, .int tok, .int va, .int be, .int wr, .ref md, .ref mc, .int am, .ref mk, .ref mq, .ref mr, .int td])), (mz, .inl (cs 0, 8, .inl szf)), (mi, .inl (cs 0, 320, .inl itf)), (mt, .inl (cs 0, 29, .inl tf))] rfl (by decide) (show [mo, mt] = [mo, mt] from rfl) (rfl) dX6_leaves_44 ?_
        refine V.sts (st' := [.int (allI (tf 0))]) rfl ?_
        refine V.topr (y := nI (2 ^ pn - 1)) (by rw [hpe]; exact all_nI pn hpn) ?_
        refine v_istore C [(0, .ref mo), (1, .int (nI j)), (2, .int (nI q)), (3, .int 0), (4, .int (-1000000)), (5, .int (nI (2 ^ pn - 1)))] [1, 2, 3, 4, 5, 0] dX6_leaves_47 (by decide) rfl ?_
        have L49 : ∀ (n : Nat) (dd : Nat) (y0 : Int32) (y1 : Int32), y0 = (dn1 (lvP (kS tf) (sS tf) (wS tf) tn pn (rfM itf j) (nI q)) (2 ^ pn - 1) dd) → y1 = (nI (2 ^ pn - 1 - dd)) → (dd ≤ 2 ^ pn - 1) → (2 ^ pn - dd) < n → V p l e ({ frames := 3, cells := 0, slots := 0, locals := 72 }) s m (List.toArray [.ref mo, .int (nI j), .int (nI q)]) below meth c 0 0 (MQ below (vq_Q (some (.int (lvS (lvP (kS tf) (sS tf) (wS tf) tn pn (rfM itf j) (nI q)) (2 ^ pn - 1)))) D [(mo, .inr (6, [.ref ml, .ref mz, .ref mi, .int 0, .int (b2 true), .ref mt, .ref mv, .ref mp, .int nby, .int lt, .int pl, .int tok, .int va, .int be, .int wr, .ref md, .ref mc, .int am, .ref mk, .ref mq, .ref mr, .int td])), (mz, .inl (cs 0, 8, .inl szf)), (mi, .inl (cs 0, 320, .inl itf)), (mt, .inl (cs 0, 29, .inl tf))] [(mo, .inr (6, [.ref ml, .ref mz, .ref mi, .int su, .int (b2 true), .ref mt, .ref mv, .ref mp, .int nby, .int lt, .int pl, .int tok, .int va, .int be, .int wr, .ref md, .ref mc, .int am, .ref mk, .ref mq, .ref mr, .int td])), (mz, .inl (cs 0, 8, .inl szf)), (mi, .inl (cs 0, 320, .inl itf)), (mt, .inl (cs 0, 29, .inl tf))] s.heap.size) (List.toArray [.ref mo, .int (nI j), .int (nI q)]) s 0 0 (va_A [(mo, .inr (6, [.ref ml, .ref mz, .ref mi, .int su, .int (b2 true), .ref mt, .ref mv, .ref mp, .int nby, .int lt, .int pl, .int tok, .int va, .int be, .int wr, .ref md, .ref mc, .int am, .ref mk, .ref mq, .ref mr, .int td])), (mz, .inl (cs 0, 8, .inl szf)), (mi, .inl (cs 0, 320, .inl itf)), (mt, .inl (cs 0, 29, .inl tf))] s.heap.size)) 9 D A s.heap 49 [(0, .ref mo), (1, .int (nI j)), (2, .int (nI q)), (3, .int 0), (4, .int y0), (5, .int y1)] [] [(mo, .inr (6, [.ref ml, .ref mz, .ref mi, .int su, .int (b2 true), .ref mt, .ref mv, .ref mp, .int nby, .int lt, .int pl, .int tok, .int va, .int be, .int wr, .ref md, .ref mc, .int am, .ref mk, .ref mq, .ref mr, .int td])), (mz, .inl (cs 0, 8, .inl szf)), (mi, .inl (cs 0, 320, .inl itf)), (mt, .inl (cs 0, 29, .inl tf))] := by
          intro n
          induction n with
          | zero =>
            intros; omega
          | succ n ih49 =>
            intro dd y0 y1 ey0 ey1 hd hn
            subst ey0
            subst ey1
            refine v_iload C 5 dX6_leaves_49 rfl ?_
            refine v_if_le C 139 dX6_leaves_51 (by decide) (fun c4 => ?_) (fun c4 => ?_)
            · skip
              have hge : 2 ^ pn - 1 ≤ dd := by rcases Nat.lt_or_ge dd (2 ^ pn - 1) with h9 | h9; exact absurd c4 (by exact nI_nle (by omega) (by omega)); exact h9
              have hsub : dd = 2 ^ pn - 1 := by omega
              subst hsub
              refine v_aload_n C 0 dX6_leaves_139 rfl ?_
              refine v_iload C 4 dX6_leaves_140 rfl ?_
              refine v_callV (qi := 0) C [.int (dn1 (lvP (kS tf) (sS tf) (wS tf) tn pn (rfM itf j) (nI q)) (2 ^ pn - 1) (2 ^ pn - 1))] [] kX6_well gX6_leaves_X6_well (c_mwell l D cs (mo := mo) (ml := ml) (mz := mz) (mi := mi) (mt := mt) (mv := mv) (mp := mp) (md := md) (mc := mc) (mk := mk) (mq := mq) (mr := mr) (su := su) (it := true) (nby := nby) (lt := lt) (pl := pl) (tok := tok) (va := va) (be := be) (wr := wr) (am := am) (td := td) (x := (dn1 (lvP (kS tf) (sS tf) (wS tf) tn pn (rfM itf j) (nI q)) (2 ^ pn - 1) (2 ^ pn - 1))) ) ⟨Nat.le_of_ble_eq_true rfl, Nat.le_of_ble_eq_true rfl⟩ ⟨rfl, rfl⟩ ⟨Nat.zero_le _, Nat.zero_le _⟩ rfl 0 rfl rfl rfl rfl (Nat.le_of_ble_eq_true rfl) [0] [(mo, .inr (6, [.ref ml, .ref mz, .ref mi, .int 0, .int (b2 true), .ref mt, .ref mv, .ref mp, .int nby, .int lt, .int pl, .int tok, .int va, .int be, .int wr, .ref md, .ref mc, .int am, .ref mk, .ref mq, .ref mr, .int td])), (mz, .inl (cs 0, 8, .inl szf)), (mi, .inl (cs 0, 320, .inl itf)), (mt, .inl (cs 0, 29, .inl tf))] rfl (by decide) (show [mo] = [mo] from rfl) (rfl) dX6_leaves_142 ?_
              refine V.sts (st' := [.int (dn1 (lvP (kS tf) (sS tf) (wS tf) tn pn (rfM itf j) (nI q)) (2 ^ pn - 1) (2 ^ pn - 1))]) rfl ?_
              exact v_iret C E (rfl) ((dn1_all _ _ (by omega))) dX6_leaves_145
            · skip
              have hlt : dd < 2 ^ pn - 1 := by rcases Nat.lt_or_ge dd (2 ^ pn - 1) with h9 | h9; exact h9; exact absurd (by rw [show 2 ^ pn - 1 - dd = 0 by omega]; decide) c4
              refine v_lconst C (v := 0) dX6_leaves_54 (by decide) ?_
              refine v_lstore C [(0, .ref mo), (1, .int (nI j)), (2, .int (nI q)), (3, .int 0), (4, .int (dn1 (lvP (kS tf) (sS tf) (wS tf) tn pn (rfM itf j) (nI q)) (2 ^ pn - 1) dd)), (5, .int (nI (2 ^ pn - 1 - dd))), (6, .long 0)] [1, 2, 3, 4, 5, 6, 0] dX6_leaves_55 (by decide) rfl ?_
              refine v_iconst C (v := 0) dX6_leaves_57 (by decide) ?_
              refine v_istore C [(0, .ref mo), (1, .int (nI j)), (2, .int (nI q)), (3, .int 0), (4, .int (dn1 (lvP (kS tf) (sS tf) (wS tf) tn pn (rfM itf j) (nI q)) (2 ^ pn - 1) dd)), (5, .int (nI (2 ^ pn - 1 - dd))), (6, .long 0), (8, .int 0)] [1, 2, 3, 4, 5, 6, 7, 0] dX6_leaves_58 (by decide) rfl ?_
              have L60 : ∀ (n : Nat) (i : Nat) (y0 : Int64) (y1 : Int32), y0 = (sumL (rfM itf j) (nI q) (nI (2 ^ pn - 1 - dd)) i) → y1 = (nI i) → (i ≤ pn) → (pn - i) < n → V p l e ({ frames := 3, cells := 0, slots := 0, locals := 72 }) s m (List.toArray [.ref mo, .int (nI j), .int (nI q)]) below meth c 0 0 (MQ below (vq_Q (some (.int (lvS (lvP (kS tf) (sS tf) (wS tf) tn pn (rfM itf j) (nI q)) (2 ^ pn - 1)))) D [(mo, .inr (6, [.ref ml, .ref mz, .ref mi, .int 0, .int (b2 true), .ref mt, .ref mv, .ref mp, .int nby, .int lt, .int pl, .int tok, .int va, .int be, .int wr, .ref md, .ref mc, .int am, .ref mk, .ref mq, .ref mr, .int td])), (mz, .inl (cs 0, 8, .inl szf)), (mi, .inl (cs 0, 320, .inl itf)), (mt, .inl (cs 0, 29, .inl tf))] [(mo, .inr (6, [.ref ml, .ref mz, .ref mi, .int su, .int (b2 true), .ref mt, .ref mv, .ref mp, .int nby, .int lt, .int pl, .int tok, .int va, .int be, .int wr, .ref md, .ref mc, .int am, .ref mk, .ref mq, .ref mr, .int td])), (mz, .inl (cs 0, 8, .inl szf)), (mi, .inl (cs 0, 320, .inl itf)), (mt, .inl (cs 0, 29, .inl tf))] s.heap.size) (List.toArray [.ref mo, .int (nI j), .int (nI q)]) s 0 0 (va_A [(mo, .inr (6, [.ref ml, .ref mz, .ref mi, .int su, .int (b2 true), .ref mt, .ref mv, .ref mp, .int nby, .int lt, .int pl, .int tok, .int va, .int be, .int wr, .ref md, .ref mc, .int am, .ref mk, .ref mq, .ref mr, .int td])), (mz, .inl (cs 0, 8, .inl szf)), (mi, .inl (cs 0, 320, .inl itf)), (mt, .inl (cs 0, 29, .inl tf))] s.heap.size)) 9 D A s.heap 60 [(0, .ref mo), (1, .int (nI j)), (2, .int (nI q)), (3, .int 0), (4, .int (dn1 (lvP (kS tf) (sS tf) (wS tf) tn pn (rfM itf j) (nI q)) (2 ^ pn - 1) dd)), (5, .int (nI (2 ^ pn - 1 - dd))), (6, .long y0), (8, .int y1)] [] [(mo, .inr (6, [.ref ml, .ref mz, .ref mi, .int su, .int (b2 true), .ref mt, .ref mv, .ref mp, .int nby, .int lt, .int pl, .int tok, .int va, .int be, .int wr, .ref md, .ref mc, .int am, .ref mk, .ref mq, .ref mr, .int td])), (mz, .inl (cs 0, 8, .inl szf)), (mi, .inl (cs 0, 320, .inl itf)), (mt, .inl (cs 0, 29, .inl tf))] := by
                intro n
                induction n with
                | zero =>
                  intros; omega
                | succ n ih60 =>
                  intro i y0 y1 ey0 ey1 hi hn
                  subst ey0
                  subst ey1
                  refine v_iload C 7 dX6_leaves_60 rfl ?_
                  refine v_aload_n C 0 dX6_leaves_62 rfl ?_
                  refine v_get C (v := .ref mt) fl_X6_leaves_19 0 rfl rfl dX6_leaves_63 ?_
                  refine v_iconst C (v := 0) dX6_leaves_66 (by decide) ?_
                  refine v_iald C 3 0 rfl rfl (tf 0) (rfl) (vp_in_nI (n := 0) (N := 29) (by decide) (by decide)) dX6_leaves_67 ?_
                  refine V.topr (y := nI pn) (hpe) ?_
                  refine v_icmp_ge C 111 dX6_leaves_68 (by decide) (fun c5 => ?_) (fun c5 => ?_)
                  · skip
                    have hgei : pn ≤ i := le_nI c5 (by omega) (by omega)
                    have hsub : pn = i := by omega
                    subst hsub
                    refine v_aload_n C 0 dX6_leaves_111 rfl ?_
                    refine v_iload C 5 dX6_leaves_112 rfl ?_
                    refine v_callV (qi := 0) C [.int (nI (2 ^ pn - 1 - dd))] [] kX6_worthOf gX6_leaves_X6_worthOf (c_mworthOf l D cs (mo := mo) (ml := ml) (mz := mz) (mi := mi) (mt := mt) (mv := mv) (mp := mp) (md := md) (mc := mc) (mk := mk) (mq := mq) (mr := mr) (su := su) (it := true) (nby := nby) (lt := lt) (pl := pl) (tok := tok) (va := va) (be := be) (wr := wr) (am := am) (td := td) (tf := tf) (tn := tn) (th := (nI (2 ^ pn - 1 - dd))) (by first | assumption | omega) (by first | assumption | omega) (by first | assumption | omega) (by first | assumption | omega)) ⟨Nat.le_of_ble_eq_true rfl, Nat.le_of_ble_eq_true rfl⟩ ⟨rfl, rfl⟩ ⟨Nat.zero_le _, Nat.zero_le _⟩ rfl 0 rfl rfl rfl rfl (Nat.le_of_ble_eq_true rfl) [0, 3] [(mo, .inr (6, [.ref ml, .ref mz, .ref mi, .int su, .int (b2 true), .ref mt, .ref mv, .ref mp, .int nby, .int lt, .int pl, .int tok, .int va, .int be, .int wr, .ref md, .ref mc, .int am, .ref mk, .ref mq, .ref mr, .int td])), (mz, .inl (cs 0, 8, .inl szf)), (mi, .inl (cs 0, 320, .inl itf)), (mt, .inl (cs 0, 29, .inl tf))] rfl (by decide) (show [mo, mt] = [mo, mt] from rfl) (rfl) dX6_leaves_114 ?_
                    refine V.sts (st' := [.int (wsum (kS tf) (sS tf) (wS tf) (nI (2 ^ pn - 1 - dd)) tn)]) rfl ?_
                    refine v_i2l C dX6_leaves_117 ?_
                    refine v_lload C 6 dX6_leaves_118 rfl ?_
                    refine v_lcmp C dX6_leaves_120 ?_
                    refine v_if_le C 129 dX6_leaves_121 (by decide) (fun c6 => ?_) (fun c6 => ?_)
                    · skip
                      refine v_iload C 4 dX6_leaves_129 rfl ?_
                      refine v_istore C [(0, .ref mo), (1, .int (nI j)), (2, .int (nI q)), (3, .int 0), (4, .int (dn1 (lvP (kS tf) (sS tf) (wS tf) tn pn (rfM itf j) (nI q)) (2 ^ pn - 1) dd)), (5, .int (nI (2 ^ pn - 1 - dd))), (6, .long (sumL (rfM itf j) (nI q) (nI (2 ^ pn - 1 - dd)) pn)), (8, .int (nI pn))] [1, 2, 3, 4, 0, 5, 6, 7] dX6_leaves_131 (by decide) rfl ?_
                      refine v_iinc C (k := 5) ((nI (2 ^ pn - 1 - dd)) + (-1)) [(0, .ref mo), (1, .int (nI j)), (2, .int (nI q)), (3, .int 0), (4, .int (dn1 (lvP (kS tf) (sS tf) (wS tf) tn pn (rfM itf j) (nI q)) (2 ^ pn - 1) dd)), (5, .int ((nI (2 ^ pn - 1 - dd)) + (-1))), (6, .long (sumL (rfM itf j) (nI q) (nI (2 ^ pn - 1 - dd)) pn)), (8, .int (nI pn))] [1, 2, 3, 4, 5, 0, 6, 7] dX6_leaves_133 rfl ((by rfl)) (by decide) rfl ?_
                      refine v_goto C 49 dX6_leaves_136 (by decide) ?_
                      refine V.lvs (lv' := [(0, .ref mo), (1, .int (nI j)), (2, .int (nI q)), (3, .int 0), (4, .int (dn1 (lvP (kS tf) (sS tf) (wS tf) tn pn (rfM itf j) (nI q)) (2 ^ pn - 1) dd)), (5, .int ((nI (2 ^ pn - 1 - dd)) + (-1)))]) [0, 1, 2, 3, 4, 5] rfl ?_
                      exact ih49 (dd + 1) _ _ (by rw [dn1, if_neg (by rw [show (lvP (kS tf) (sS tf) (wS tf) tn pn (rfM itf j) (nI q)) (2 ^ pn - 1 - dd) = false from decide_eq_false (Int64.not_lt.mpr ((lg_cmp_le _ _).mp c6))]; decide)]) (by rw [show 2 ^ pn - 1 - dd = (2 ^ pn - 1 - (dd + 1)) + 1 by omega, pk_m1]) (by omega) (by omega)
                    · skip
                      refine v_iload C 5 dX6_leaves_124 rfl ?_
                      refine v_goto C 131 dX6_leaves_126 (by decide) ?_
                      refine v_istore C [(0, .ref mo), (1, .int (nI j)), (2, .int (nI q)), (3, .int 0), (4, .int (nI (2 ^ pn - 1 - dd))), (5, .int (nI (2 ^ pn - 1 - dd))), (6, .long (sumL (rfM itf j) (nI q) (nI (2 ^ pn - 1 - dd)) pn)), (8, .int (nI pn))] [1, 2, 3, 4, 0, 5, 6, 7] dX6_leaves_131 (by decide) rfl ?_
                      refine v_iinc C (k := 5) ((nI (2 ^ pn - 1 - dd)) + (-1)) [(0, .ref mo), (1, .int (nI j)), (2, .int (nI q)), (3, .int 0), (4, .int (nI (2 ^ pn - 1 - dd))), (5, .int ((nI (2 ^ pn - 1 - dd)) + (-1))), (6, .long (sumL (rfM itf j) (nI q) (nI (2 ^ pn - 1 - dd)) pn)), (8, .int (nI pn))] [1, 2, 3, 4, 5, 0, 6, 7] dX6_leaves_133 rfl ((by rfl)) (by decide) rfl ?_
                      refine v_goto C 49 dX6_leaves_136 (by decide) ?_
                      refine V.lvs (lv' := [(0, .ref mo), (1, .int (nI j)), (2, .int (nI q)), (3, .int 0), (4, .int (nI (2 ^ pn - 1 - dd))), (5, .int ((nI (2 ^ pn - 1 - dd)) + (-1)))]) [0, 1, 2, 3, 4, 5] rfl ?_
                      exact ih49 (dd + 1) _ _ (by rw [dn1, if_pos (show (lvP (kS tf) (sS tf) (wS tf) tn pn (rfM itf j) (nI q)) (2 ^ pn - 1 - dd) = true from decide_eq_true (Int64.not_le.mp (fun z => c6 ((lg_cmp_le _ _).mpr z))))]) (by rw [show 2 ^ pn - 1 - dd = (2 ^ pn - 1 - (dd + 1)) + 1 by omega, pk_m1]) (by omega) (by omega)
                  · skip
                    have hlti : i < pn := nle_nI c5 (by omega) (by omega)
                    refine v_lload C 6 dX6_leaves_71 rfl ?_
                    refine v_iload C 5 dX6_leaves_73 rfl ?_
                    refine v_iload C 7 dX6_leaves_75 rfl ?_
                    refine v_callS C [.int (nI (2 ^ pn - 1 - dd)), .int (nI i)] [.long (sumL (rfM itf j) (nI q) (nI (2 ^ pn - 1 - dd)) i)] kX6_has gX6_leaves_X6_has (c_mhas l D cs (x := (nI (2 ^ pn - 1 - dd))) (q := (nI i)) ) ⟨Nat.le_of_ble_eq_true rfl, Nat.le_of_ble_eq_true rfl⟩ ⟨rfl, rfl⟩ ⟨Nat.zero_le _, Nat.zero_le _⟩ rfl rfl (Nat.le_of_ble_eq_true rfl) [] [(mo, .inr (6, [.ref ml, .ref mz, .ref mi, .int su, .int (b2 true), .ref mt, .ref mv, .ref mp, .int nby, .int lt, .int pl, .int tok, .int va, .int be, .int wr, .ref md, .ref mc, .int am, .ref mk, .ref mq, .ref mr, .int td])), (mz, .inl (cs 0, 8, .inl szf)), (mi, .inl (cs 0, 320, .inl itf)), (mt, .inl (cs 0, 29, .inl tf))] rfl (by decide) rfl (rfl) dX6_leaves_77 ?_
                    refine V.sts (st' := [.int (b2 (hasB (nI (2 ^ pn - 1 - dd)) (nI i))), .long (sumL (rfM itf j) (nI q) (nI (2 ^ pn - 1 - dd)) i)]) rfl ?_
                    refine v_if_eqB C 101 dX6_leaves_80 (by decide) (fun c7 => ?_) (fun c7 => ?_)
                    · skip
                      refine v_lconst C (v := 0) dX6_leaves_101 (by decide) ?_
                      refine v_ladd C dX6_leaves_102 ?_
                      refine v_lstore C [(0, .ref mo), (1, .int (nI j)), (2, .int (nI q)), (3, .int 0), (4, .int (dn1 (lvP (kS tf) (sS tf) (wS tf) tn pn (rfM itf j) (nI q)) (2 ^ pn - 1) dd)), (5, .int (nI (2 ^ pn - 1 - dd))), (6, .long ((sumL (rfM itf j) (nI q) (nI (2 ^ pn - 1 - dd)) i) + 0)), (8, .int (nI i))] [1, 2, 3, 4, 5, 6, 0, 7] dX6_leaves_103 (by decide) rfl ?_
                      refine v_iinc C (k := 7) (nI (i + 1)) [(0, .ref mo), (1, .int (nI j)), (2, .int (nI q)), (3, .int 0), (4, .int (dn1 (lvP (kS tf) (sS tf) (wS tf) tn pn (rfM itf j) (nI q)) (2 ^ pn - 1) dd)), (5, .int (nI (2 ^ pn - 1 - dd))), (6, .long ((sumL (rfM itf j) (nI q) (nI (2 ^ pn - 1 - dd)) i) + 0)), (8, .int (nI (i + 1)))] [1, 2, 3, 4, 5, 6, 7, 0] dX6_leaves_105 rfl (nI_inc _) (by decide) rfl ?_
                      refine v_goto C 60 dX6_leaves_108 (by decide) ?_
                      exact ih60 (i + 1) _ _ (by rw [sumL_s, if_neg (by rw [c7]; decide), Int64.add_zero]) (rfl) (by first | assumption | omega) (by omega)
                    · skip
                      refine v_aload_n C 0 dX6_leaves_83 rfl ?_
                      refine v_get C (v := .ref mi) fl_X6_leaves_16 0 rfl rfl dX6_leaves_84 ?_
                      refine v_bipush C (v := 40) dX6_leaves_87 (by decide) ?_
                      refine v_iload_n C 1 dX6_leaves_89 rfl ?_
                      refine v_imul C dX6_leaves_90 ?_
                      refine v_iload_n C 2 dX6_leaves_91 rfl ?_
                      refine v_iadd C dX6_leaves_92 ?_
                      refine V.topr (y := nI (40 * j + q)) (ix40 _ _) ?_
                      refine v_iload C 7 dX6_leaves_93 rfl ?_
                      refine v_iadd C dX6_leaves_95 ?_
                      refine V.topr (y := nI (40 * j + q + i)) (nI_add _ _) ?_
                      refine v_iald C 2 0 rfl rfl (itf (40 * j + q + i)) (by rw [nI_clamp (by omega)]) (vp_in_nI (by omega) (by omega)) dX6_leaves_96 ?_
                      refine v_i2l C dX6_leaves_97 ?_
                      refine v_goto C 102 dX6_leaves_98 (by decide) ?_
                      refine v_ladd C dX6_leaves_102 ?_
                      refine v_lstore C [(0, .ref mo), (1, .int (nI j)), (2, .int (nI q)), (3, .int 0), (4, .int (dn1 (lvP (kS tf) (sS tf) (wS tf) tn pn (rfM itf j) (nI q)) (2 ^ pn - 1) dd)), (5, .int (nI (2 ^ pn - 1 - dd))), (6, .long ((sumL (rfM itf j) (nI q) (nI (2 ^ pn - 1 - dd)) i) + (Int32.toInt64 (itf (40 * j + q + i))))), (8, .int (nI i))] [1, 2, 3, 4, 5, 6, 0, 7] dX6_leaves_103 (by decide) rfl ?_
                      refine v_iinc C (k := 7) (nI (i + 1)) [(0, .ref mo), (1, .int (nI j)), (2, .int (nI q)), (3, .int 0), (4, .int (dn1 (lvP (kS tf) (sS tf) (wS tf) tn pn (rfM itf j) (nI q)) (2 ^ pn - 1) dd)), (5, .int (nI (2 ^ pn - 1 - dd))), (6, .long ((sumL (rfM itf j) (nI q) (nI (2 ^ pn - 1 - dd)) i) + (Int32.toInt64 (itf (40 * j + q + i))))), (8, .int (nI (i + 1)))] [1, 2, 3, 4, 5, 6, 7, 0] dX6_leaves_105 rfl (nI_inc _) (by decide) rfl ?_
                      refine v_goto C 60 dX6_leaves_108 (by decide) ?_
                      exact ih60 (i + 1) _ _ (by rw [sumL_s, if_pos c7, nI_add, rfM_gA (by omega), Nat.add_assoc]) (rfl) (by first | assumption | omega) (by omega)
              exact L60 _ 0 _ _ (rfl) (rfl) (by first | assumption | omega) (Nat.lt_succ_self _)
        exact L49 _ 0 _ _ (rfl) (rfl) (Nat.zero_le _) (Nat.lt_succ_self _)
      · exact absurd c3 (by decide)
    · exact absurd ((inB_in (n := 8) (by decide) hj).symm.trans c2) (by decide)
  · exact absurd c1 (by decide)
