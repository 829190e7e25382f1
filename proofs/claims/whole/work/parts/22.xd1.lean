theorem kX5_row : KD yX5_row wsX5_row cX5_row 5 (some .int) 3 := ⟨⟨_, rfl⟩, by decide, by decide +kernel, by decide +kernel, by decide +kernel⟩
theorem nq_X5_row_X3_begin : Cond.initialized yX3_begin.cls ∈ wsX5_row ∧ Cond.instanceMethod yX3_begin ∈ wsX5_row ∧ Cond.selects yX3_begin.cls yX3_begin yX3_begin ∈ wsX5_row := ⟨by decide +kernel, by decide +kernel, by decide +kernel⟩
set_option maxHeartbeats 4000000 in
set_option maxRecDepth 100000 in
theorem c_rowIn (l : Launch) (D : va_G) (cs : Nat → ClassId) {xo : Nat} {xr : Nat} {xd : Nat} {ta : Nat} {tb : Nat} {xi : Nat} {aa : Nat} {sa : Nat} {lf : Int32} {fg : Int32} {g : Nat → Option Nat} {j : Nat} {ra : Nat} {rp : Nat} {rf : Nat → Int32} {sd : Bool} {la : Int32} {ln : Int32} {x : Int32} {y : Int32} (hj : j < 8) (hg : g j = some ra) : CT l D (tz cs) yX5_row wsX5_row ({ frames := 1, cells := 0, slots := 0, locals := 23 }) [.ref xo, .int (nI j), .int x, .int y] [(xo, .inr (5, [.ref xr, .ref xd, .ref ta, .ref tb, .ref xi, .ref aa, .ref sa, .int lf, .int fg])), (xr, .inl (cs 2, 8, .inr (.inr (.inr (.inr g))))), (ra, .inr (3, [.ref rp, .int (b2 sd), .int la, .int ln])), (rp, .inl (cs 0, 40, .inl rf))] (some (.int (if rowB x y = true then -1000001 else if y < 0 then -1000010 - 4 else y))) [(xo, .inr (5, [.ref xr, .ref xd, .ref ta, .ref tb, .ref xi, .ref aa, .ref sa, .int lf, .int (if rowB x y = true then fg else if y < 0 then 4 else 0)])), (xr, .inl (cs 2, 8, .inr (.inr (.inr (.inr g))))), (ra, .inr (3, [.ref rp, .int (b2 (if rowB x y = true then sd else if y < 0 then sd else true)), .int (if rowB x y = true then la else if y < 0 then la else x), .int (if rowB x y = true then ln else if y < 0 then ln else y)])), (rp, .inl (cs 0, 40, .inl (if rowB x y = true then rf else if y < 0 then rf else zrF rf 40)))] := by
  refine CT.of kX5_row (Nat.le_of_ble_eq_true rfl) ?_
  intro p e s m below meth c A C E
  have C : VOk p s m _ c cX5_row 5 wsX5_row RX5 D (tz cs) A s.heap := C
  refine V.lvs (lv' := [(0, .ref xo), (1, .int (nI j)), (2, .int x), (3, .int y)]) [0, 1, 2, 3] rfl ?_
  refine v_aload_n C 0 dX5_row_0 rfl ?_
  refine v_iload_n C 1 dX5_row_1 rfl ?_
  refine v_callV (qi := 0) C [.int (nI j)] [] kX5_rowAt gX5_row_X5_rowAt (c_rowAtIn l D cs (xo := xo) (xr := xr) (xd := xd) (ta := ta) (tb := tb) (xi := xi) (aa := aa) (sa := sa) (lf := lf) (fg := fg) (g := g) (j := j) (r := ra) (by first | assumption | omega) (by first | assumption | omega)) ⟨Nat.le_of_ble_eq_true rfl, Nat.le_of_ble_eq_true rfl⟩ ⟨rfl, rfl⟩ ⟨Nat.zero_le _, Nat.zero_le _⟩ rfl 0 rfl rfl rfl rfl (Nat.le_of_ble_eq_true rfl) [0, 1] [(xo, .inr (5, [.ref xr, .ref xd, .ref ta, .ref tb, .ref xi, .ref aa, .ref sa, .int lf, .int fg])), (xr, .inl (cs 2, 8, .inr (.inr (.inr (.inr g))))), (ra, .inr (3, [.ref rp, .int (b2 sd), .int la, .int ln])), (rp, .inl (cs 0, 40, .inl rf))] rfl (by decide) (show [xo, xr] = [xo, xr] from rfl) (rfl) dX5_row_2 ?_
  refine V.sts (st' := [.ref ra]) rfl ?_
  refine v_astore C [(0, .ref xo), (1, .int (nI j)), (2, .int x), (3, .int y), (4, .ref ra)] [1, 2, 3, 4, 0] dX5_row_5 (by decide) rfl ?_
  refine v_aload C 4 dX5_row_7 rfl ?_
  refine v_ifnull C dX5_row_9 ?_
  refine v_iload_n C 2 dX5_row_12 rfl ?_
  refine v_if_lt C 27 dX5_row_13 (by decide) (fun c1 => ?_) (fun c1 => ?_)
  · skip
    refine v_ldc C (v := -1000001) (by decide +kernel) dX5_row_27 ?_
    exact v_iret C E (by first | rfl | (simp only [rowB, c1, Int32.not_le.mpr c1, ↓reduceIte, Bool.false_eq_true, reduceCtorEq, Bool.and_true, Bool.true_and, Bool.and_false, Bool.false_and]; done) | (simp [rowB, c1, Int32.not_le.mpr c1]; done) | (simp_all [rowB]; done)) (by first | rfl | (simp only [rowB, c1, Int32.not_le.mpr c1, ↓reduceIte, Bool.false_eq_true, reduceCtorEq, Bool.and_true, Bool.true_and, Bool.and_false, Bool.false_and]; done) | (simp [rowB, c1, Int32.not_le.mpr c1]; done) | (simp_all [rowB]; done)) dX5_row_29
  · skip
    refine v_iload_n C 2 dX5_row_16 rfl ?_
    refine v_iconst C (v := 3) dX5_row_17 (by decide) ?_
    refine v_icmp_ge C 27 dX5_row_18 (by decide) (fun c2 => ?_) (fun c2 => ?_)
    · skip
      refine v_ldc C (v := -1000001) (by decide +kernel) dX5_row_27 ?_
      exact v_iret C E (by first | rfl | (simp only [rowB, c1, Int32.not_lt.mp c1, c2, Int32.not_lt.mpr c2, ↓reduceIte, Bool.false_eq_true, reduceCtorEq, Bool.and_true, Bool.true_and, Bool.and_false, Bool.false_and]; done) | (simp [rowB, c1, Int32.not_lt.mp c1, c2, Int32.not_lt.mpr c2]; done) | (simp_all [rowB]; done)) (by first | rfl | (simp only [rowB, c1, Int32.not_lt.mp c1, c2, Int32.not_lt.mpr c2, ↓reduceIte, Bool.false_eq_true, reduceCtorEq, Bool.and_true, Bool.true_and, Bool.and_false, Bool.false_and]; done) | (simp [rowB, c1, Int32.not_lt.mp c1, c2, Int32.not_lt.mpr c2]; done) | (simp_all [rowB]; done)) dX5_row_29
    · skip
      refine v_iload_n C 3 dX5_row_21 rfl ?_
      refine v_bipush C (v := 40) dX5_row_22 (by decide) ?_
      refine v_icmp_le C 30 dX5_row_24 (by decide) (fun c3 => ?_) (fun c3 => ?_)
      · skip
        refine v_iload_n C 3 dX5_row_30 rfl ?_
        refine v_if_ge C 40 dX5_row_31 (by decide) (fun c4 => ?_) (fun c4 => ?_)
        · skip
          refine v_aload C 4 dX5_row_40 rfl ?_
          refine v_iload_n C 2 dX5_row_42 rfl ?_
          refine v_iload_n C 3 dX5_row_43 rfl ?_
          refine v_callVN (qi := 0) C [.int x, .int y] [] kX3_begin gX5_row_X3_begin_n69 (host := "TableShares") (by decide +kernel) nq_X5_row_X3_begin (c_rbegin l D cs (ra := ra) (rp := rp) (rf := rf) (sd := sd) (la := la) (ln := ln) (x := x) (y := y) ) ⟨Nat.le_of_ble_eq_true rfl, Nat.le_of_ble_eq_true rfl⟩ ⟨rfl, rfl⟩ ⟨Nat.zero_le _, Nat.zero_le _⟩ rfl 2 rfl rfl rfl rfl (Nat.le_of_ble_eq_true rfl) [2, 3] [(xo, .inr (5, [.ref xr, .ref xd, .ref ta, .ref tb, .ref xi, .ref aa, .ref sa, .int lf, .int fg])), (xr, .inl (cs 2, 8, .inr (.inr (.inr (.inr g))))), (ra, .inr (3, [.ref rp, .int (b2 true), .int x, .int y])), (rp, .inl (cs 0, 40, .inl (zrF rf 40)))] rfl (by decide) (show [ra, rp] = [ra, rp] from rfl) (rfl) dX5_row_44 ?_
          refine V.sts (st' := []) rfl ?_
          refine v_aload_n C 0 dX5_row_47 rfl ?_
          refine v_iload_n C 3 dX5_row_48 rfl ?_
          refine v_callV (qi := 0) C [.int y] [] kX5_well gX5_row_X5_well (c_well l D cs (xo := xo) (xr := xr) (xd := xd) (ta := ta) (tb := tb) (xi := xi) (aa := aa) (sa := sa) (lf := lf) (fg := fg) (x := y) ) ⟨Nat.le_of_ble_eq_true rfl, Nat.le_of_ble_eq_true rfl⟩ ⟨rfl, rfl⟩ ⟨Nat.zero_le _, Nat.zero_le _⟩ rfl 0 rfl rfl rfl rfl (Nat.le_of_ble_eq_true rfl) [0] [(xo, .inr (5, [.ref xr, .ref xd, .ref ta, .ref tb, .ref xi, .ref aa, .ref sa, .int lf, .int 0])), (xr, .inl (cs 2, 8, .inr (.inr (.inr (.inr g))))), (ra, .inr (3, [.ref rp, .int (b2 true), .int x, .int y])), (rp, .inl (cs 0, 40, .inl (zrF rf 40)))] rfl (by decide) (show [xo] = [xo] from rfl) (rfl) dX5_row_49 ?_
          refine V.sts (st' := [.int y]) rfl ?_
          exact v_iret C E (by first | rfl | (simp only [rowB, c1, Int32.not_lt.mp c1, c2, Int32.not_le.mp c2, c3, Int32.not_lt.mpr c3, c4, Int32.not_lt.mpr c4, ↓reduceIte, Bool.false_eq_true, reduceCtorEq, Bool.and_true, Bool.true_and, Bool.and_false, Bool.false_and]; done) | (simp [rowB, c1, Int32.not_lt.mp c1, c2, Int32.not_le.mp c2, c3, Int32.not_lt.mpr c3, c4, Int32.not_lt.mpr c4]; done) | (simp_all [rowB]; done)) (by first | rfl | (simp only [rowB, c1, Int32.not_lt.mp c1, c2, Int32.not_le.mp c2, c3, Int32.not_lt.mpr c3, c4, Int32.not_lt.mpr c4, ↓reduceIte, Bool.false_eq_true, reduceCtorEq, Bool.and_true, Bool.true_and, Bool.and_false, Bool.false_and]; done) | (simp [rowB, c1, Int32.not_lt.mp c1, c2, Int32.not_le.mp c2, c3, Int32.not_lt.mpr c3, c4, Int32.not_lt.mpr c4]; done) | (simp_all [rowB]; done)) dX5_row_52
        · skip
          refine v_aload_n C 0 dX5_row_34 rfl ?_
          refine v_iconst C (v := 4) dX5_row_35 (by decide) ?_
          refine v_callV (qi := 0) C [.int 4] [] kX5_found gX5_row_X5_found (c_found l D cs (xo := xo) (xr := xr) (xd := xd) (ta := ta) (tb := tb) (xi := xi) (aa := aa) (sa := sa) (lf := lf) (fg := fg) (x := 4) ) ⟨Nat.le_of_ble_eq_true rfl, Nat.le_of_ble_eq_true rfl⟩ ⟨rfl, rfl⟩ ⟨Nat.zero_le _, Nat.zero_le _⟩ rfl 0 rfl rfl rfl rfl (Nat.le_of_ble_eq_true rfl) [0] [(xo, .inr (5, [.ref xr, .ref xd, .ref ta, .ref tb, .ref xi, .ref aa, .ref sa, .int lf, .int 4])), (xr, .inl (cs 2, 8, .inr (.inr (.inr (.inr g))))), (ra, .inr (3, [.ref rp, .int (b2 sd), .int la, .int ln])), (rp, .inl (cs 0, 40, .inl rf))] rfl (by decide) (show [xo] = [xo] from rfl) (rfl) dX5_row_36 ?_
          refine V.sts (st' := [.int (-1000010 - 4)]) rfl ?_
          exact v_iret C E (by first | rfl | (simp only [rowB, c1, Int32.not_lt.mp c1, c2, Int32.not_le.mp c2, c3, Int32.not_lt.mpr c3, c4, Int32.not_le.mp c4, ↓reduceIte, Bool.false_eq_true, reduceCtorEq, Bool.and_true, Bool.true_and, Bool.and_false, Bool.false_and]; done) | (simp [rowB, c1, Int32.not_lt.mp c1, c2, Int32.not_le.mp c2, c3, Int32.not_lt.mpr c3, c4, Int32.not_le.mp c4]; done) | (simp_all [rowB]; done)) (by first | rfl | (simp only [rowB, c1, Int32.not_lt.mp c1, c2, Int32.not_le.mp c2, c3, Int32.not_lt.mpr c3, c4, Int32.not_le.mp c4, ↓reduceIte, Bool.false_eq_true, reduceCtorEq, Bool.and_true, Bool.true_and, Bool.and_false, Bool.false_and]; done) | (simp [rowB, c1, Int32.not_lt.mp c1, c2, Int32.not_le.mp c2, c3, Int32.not_lt.mpr c3, c4, Int32.not_le.mp c4]; done) | (simp_all [rowB]; done)) dX5_row_39
      · skip
        refine v_ldc C (v := -1000001) (by decide +kernel) dX5_row_27 ?_
        exact v_iret C E (by first | rfl | (simp only [rowB, c1, Int32.not_lt.mp c1, c2, Int32.not_le.mp c2, c3, Int32.not_le.mp c3, ↓reduceIte, Bool.false_eq_true, reduceCtorEq, Bool.and_true, Bool.true_and, Bool.and_false, Bool.false_and]; done) | (simp [rowB, c1, Int32.not_lt.mp c1, c2, Int32.not_le.mp c2, c3, Int32.not_le.mp c3]; done) | (simp_all [rowB]; done)) (by first | rfl | (simp only [rowB, c1, Int32.not_lt.mp c1, c2, Int32.not_le.mp c2, c3, Int32.not_le.mp c3, ↓reduceIte, Bool.false_eq_true, reduceCtorEq, Bool.and_true, Bool.true_and, Bool.and_false, Bool.false_and]; done) | (simp [rowB, c1, Int32.not_lt.mp c1, c2, Int32.not_le.mp c2, c3, Int32.not_le.mp c3]; done) | (simp_all [rowB]; done)) dX5_row_29
set_option maxHeartbeats 4000000 in
set_option maxRecDepth 100000 in
theorem c_rowOut (l : Launch) (D : va_G) (cs : Nat → ClassId) {xo : Nat} {xr : Nat} {xd : Nat} {ta : Nat} {tb : Nat} {xi : Nat} {aa : Nat} {sa : Nat} {lf : Int32} {fg : Int32} {g : Nat → Option Nat} {x0 : Int32} {x : Int32} {y : Int32} (ho : x0 < 0 ∨ 8 ≤ x0) : CT l D (tz cs) yX5_row wsX5_row ({ frames := 1, cells := 0, slots := 0, locals := 23 }) [.ref xo, .int x0, .int x, .int y] [(xo, .inr (5, [.ref xr, .ref xd, .ref ta, .ref tb, .ref xi, .ref aa, .ref sa, .int lf, .int fg])), (xr, .inl (cs 2, 8, .inr (.inr (.inr (.inr g)))))] (some (.int (-1000001))) [(xo, .inr (5, [.ref xr, .ref xd, .ref ta, .ref tb, .ref xi, .ref aa, .ref sa, .int lf, .int fg])), (xr, .inl (cs 2, 8, .inr (.inr (.inr (.inr g)))))] := by
  refine CT.of kX5_row (Nat.le_of_ble_eq_true rfl) ?_
  intro p e s m below meth c A C E
  have C : VOk p s m _ c cX5_row 5 wsX5_row RX5 D (tz cs) A s.heap := C
  refine V.lvs (lv' := [(0, .ref xo), (1, .int x0), (2, .int x), (3, .int y)]) [0, 1, 2, 3] rfl ?_
  refine v_aload_n C 0 dX5_row_0 rfl ?_
  refine v_iload_n C 1 dX5_row_1 rfl ?_
  refine v_callV (qi := 0) C [.int x0] [] kX5_rowAt gX5_row_X5_rowAt (c_rowAtOut l D cs (xo := xo) (xr := xr) (xd := xd) (ta := ta) (tb := tb) (xi := xi) (aa := aa) (sa := sa) (lf := lf) (fg := fg) (g := g) (x := x0) (by first | assumption | omega)) ⟨Nat.le_of_ble_eq_true rfl, Nat.le_of_ble_eq_true rfl⟩ ⟨rfl, rfl⟩ ⟨Nat.zero_le _, Nat.zero_le _⟩ rfl 0 rfl rfl rfl rfl (Nat.le_of_ble_eq_true rfl) [0, 1] [(xo, .inr (5, [.ref xr, .ref xd, .ref ta, .ref tb, .ref xi, .ref aa, .ref sa, .int lf, .int fg])), (xr, .inl (cs 2, 8, .inr (.inr (.inr (.inr g)))))] rfl (by decide) (show [xo, xr] = [xo, xr] from rfl) (rfl) dX5_row_2 ?_
  refine V.sts (st' := [.null]) rfl ?_
  refine v_astoreN C [(0, .ref xo), (1, .int x0), (2, .int x), (3, .int y), (4, .null)] [1, 2, 3, 4, 0] dX5_row_5 (by decide) rfl ?_
  refine v_aloadN C 4 dX5_row_7 rfl ?_
  refine v_ifnullN C 27 dX5_row_9 (by decide) ?_
  refine v_ldc C (v := -1000001) (by decide +kernel) dX5_row_27 ?_
  exact v_iret C E (rfl) (by first | rfl | (simp [ho, ↓reduceIte]; done) | (simp_all [b2]; done)) dX5_row_29
theorem kX5_set : KD yX5_set wsX5_set cX5_set 5 (some .int) 3 := ⟨⟨_, rfl⟩, by decide, by decide +kernel, by decide +kernel, by decide +kernel⟩
theorem in_X5_set_X3 : ∀ w ∈ wsX30, w ∈ wsX5_set := by decide +kernel
theorem fn_X5_set_76 : FLN RX5 wsX5_set RX3 RX3 TX3 4 3 1 76 := ⟨⟨in_X5_set_X3, rfl, by decide, rfl⟩, "TableShares", by decide +kernel⟩
theorem nq_X5_set_X3_holds : Cond.initialized yX3_holds.cls ∈ wsX5_set ∧ Cond.instanceMethod yX3_holds ∈ wsX5_set ∧ Cond.selects yX3_holds.cls yX3_holds yX3_holds ∈ wsX5_set := ⟨by decide +kernel, by decide +kernel, by decide +kernel⟩
theorem nq_X5_set_X3_write : Cond.initialized yX3_write.cls ∈ wsX5_set ∧ Cond.instanceMethod yX3_write ∈ wsX5_set ∧ Cond.selects yX3_write.cls yX3_write yX3_write ∈ wsX5_set := ⟨by decide +kernel, by decide +kernel, by decide +kernel⟩
theorem nq_X5_set_X3_item : Cond.initialized yX3_item.cls ∈ wsX5_set ∧ Cond.instanceMethod yX3_item ∈ wsX5_set ∧ Cond.selects yX3_item.cls yX3_item yX3_item ∈ wsX5_set := ⟨by decide +kernel, by decide +kernel, by decide +kernel⟩
set_option maxHeartbeats 4000000 in
set_option maxRecDepth 100000 in
theorem c_setIn (l : Launch) (D : va_G) (cs : Nat → ClassId) {xo : Nat} {xr : Nat} {xd : Nat} {ta : Nat} {tb : Nat} {xi : Nat} {aa : Nat} {sa : Nat} {lf : Int32} {fg : Int32} {g : Nat → Option Nat} {j : Nat} {ra : Nat} {rp : Nat} {rf : Nat → Int32} {sd : Bool} {la : Int32} {ln : Int32} {x : Int32} {y : Int32} (hj : j < 8) (hg : g j = some ra) : CT l D (tz cs) yX5_set wsX5_set ({ frames := 2, cells := 0, slots := 0, locals := 44 }) [.ref xo, .int (nI j), .int x, .int y] [(xo, .inr (5, [.ref xr, .ref xd, .ref ta, .ref tb, .ref xi, .ref aa, .ref sa, .int lf, .int fg])), (xr, .inl (cs 2, 8, .inr (.inr (.inr (.inr g))))), (ra, .inr (3, [.ref rp, .int (b2 sd), .int la, .int ln])), (rp, .inl (cs 0, 40, .inl rf))] (some (.int (if sd = false then -1000010 - 1 else if hold ln x 1 = false then -1000010 - 2 else gA (pA rf 40 x (asL la y)) 40 x))) [(xo, .inr (5, [.ref xr, .ref xd, .ref ta, .ref tb, .ref xi, .ref aa, .ref sa, .int lf, .int (if sd = false then 1 else if hold ln x 1 = false then 2 else 0)])), (xr, .inl (cs 2, 8, .inr (.inr (.inr (.inr g))))), (ra, .inr (3, [.ref rp, .int (b2 sd), .int la, .int ln])), (rp, .inl (cs 0, 40, .inl (if sd = false then rf else if hold ln x 1 = false then rf else pA rf 40 x (asL la y))))] := by
  refine CT.of kX5_set (Nat.le_of_ble_eq_true rfl) ?_
  intro p e s m below meth c A C E
  have C : VOk p s m _ c cX5_set 5 wsX5_set RX5 D (tz cs) A s.heap := C
  refine V.lvs (lv' := [(0, .ref xo), (1, .int (nI j)), (2, .int x), (3, .int y)]) [0, 1, 2, 3] rfl ?_
  refine v_aload_n C 0 dX5_set_0 rfl ?_
  refine v_iload_n C 1 dX5_set_1 rfl ?_
  refine v_callV (qi := 0) C [.int (nI j)] [] kX5_rowAt gX5_set_X5_rowAt (c_rowAtIn l D cs (xo := xo) (xr := xr) (xd := xd) (ta := ta) (tb := tb) (xi := xi) (aa := aa) (sa := sa) (lf := lf) (fg := fg) (g := g) (j := j) (r := ra) (by first | assumption | omega) (by first | assumption | omega)) ⟨Nat.le_of_ble_eq_true rfl, Nat.le_of_ble_eq_true rfl⟩ ⟨rfl, rfl⟩ ⟨Nat.zero_le _, Nat.zero_le _⟩ rfl 0 rfl rfl rfl rfl (Nat.le_of_ble_eq_true rfl) [0, 1] [(xo, .inr (5, [.ref xr, .ref xd, .ref ta, .ref tb, .ref xi, .ref aa, .ref sa, .int lf, .int fg])), (xr, .inl (cs 2, 8, .inr (.inr (.inr (.inr g))))), (ra, .inr (3, [.ref rp, .int (b2 sd), .int la, .int ln])), (rp, .inl (cs 0, 40, .inl rf))] rfl (by decide) (show [xo, xr] = [xo, xr] from rfl) (rfl) dX5_set_2 ?_
  refine V.sts (st' := [.ref ra]) rfl ?_
  refine v_astore C [(0, .ref xo), (1, .int (nI j)), (2, .int x), (3, .int y), (4, .ref ra)] [1, 2, 3, 4, 0] dX5_set_5 (by decide) rfl ?_
  refine v_aload C 4 dX5_set_7 rfl ?_
  refine v_ifnonnull C 15 dX5_set_9 (by decide) ?_
  refine v_aload C 4 dX5_set_15 rfl ?_
  refine v_getN C (v := .int (b2 sd)) fn_X5_set_76 2 rfl rfl dX5_set_17 ?_
  refine v_if_neB C 29 dX5_set_20 (by decide) (fun c1 => ?_) (fun c1 => ?_)
  · skip
    refine v_aload C 4 dX5_set_29 rfl ?_
    refine v_iload_n C 2 dX5_set_31 rfl ?_
    refine v_iconst C (v := 1) dX5_set_32 (by decide) ?_
    refine v_callVN (qi := 0) C [.int x, .int 1] [] kX3_holds gX5_set_X3_holds_n80 (host := "TableShares") (by decide +kernel) nq_X5_set_X3_holds (c_holds l D cs (ra := ra) (rp := rp) (sd := sd) (la := la) (ln := ln) (i := x) (q := 1) ) ⟨Nat.le_of_ble_eq_true rfl, Nat.le_of_ble_eq_true rfl⟩ ⟨rfl, rfl⟩ ⟨Nat.zero_le _, Nat.zero_le _⟩ rfl 2 rfl rfl rfl rfl (Nat.le_of_ble_eq_true rfl) [2] [(xo, .inr (5, [.ref xr, .ref xd, .ref ta, .ref tb, .ref xi, .ref aa, .ref sa, .int lf, .int fg])), (xr, .inl (cs 2, 8, .inr (.inr (.inr (.inr g))))), (ra, .inr (3, [.ref rp, .int (b2 sd), .int la, .int ln])), (rp, .inl (cs 0, 40, .inl rf))] rfl (by decide) (show [ra] = [ra] from rfl) (rfl) dX5_set_33 ?_
    refine V.sts (st' := [.int (b2 (hold ln x 1))]) rfl ?_
    refine v_if_neB C 45 dX5_set_36 (by decide) (fun c2 => ?_) (fun c2 => ?_)
    · skip
      refine v_aload C 4 dX5_set_45 rfl ?_
      refine v_iload_n C 2 dX5_set_47 rfl ?_
      refine v_iload_n C 3 dX5_set_48 rfl ?_
      refine v_callVN (qi := 0) C [.int x, .int y] [] kX3_write gX5_set_X3_write_n84 (host := "TableShares") (by decide +kernel) nq_X5_set_X3_write (c_write l D cs (ra := ra) (rp := rp) (rf := rf) (sd := sd) (la := la) (ln := ln) (i := x) (v := y) ) ⟨Nat.le_of_ble_eq_true rfl, Nat.le_of_ble_eq_true rfl⟩ ⟨rfl, rfl⟩ ⟨Nat.zero_le _, Nat.zero_le _⟩ rfl 2 rfl rfl rfl rfl (Nat.le_of_ble_eq_true rfl) [2, 3] [(xo, .inr (5, [.ref xr, .ref xd, .ref ta, .ref tb, .ref xi, .ref aa, .ref sa, .int lf, .int fg])), (xr, .inl (cs 2, 8, .inr (.inr (.inr (.inr g))))), (ra, .inr (3, [.ref rp, .int (b2 sd), .int la, .int ln])), (rp, .inl (cs 0, 40, .inl (pA rf 40 x (asL la y))))] rfl (by decide) (show [ra, rp] = [ra, rp] from rfl) (rfl) dX5_set_49 ?_
      refine V.sts (st' := []) rfl ?_
      refine v_aload_n C 0 dX5_set_52 rfl ?_
      refine v_aload C 4 dX5_set_53 rfl ?_
      refine v_iload_n C 2 dX5_set_55 rfl ?_
      refine v_callVN (qi := 0) C [.int x] [.ref xo] kX3_item gX5_set_X3_item_n87 (host := "TableShares") (by decide +kernel) nq_X5_set_X3_item (c_item l D cs (ra := ra) (rp := rp) (rf := pA rf 40 x (asL la y)) (sd := sd) (la := la) (ln := ln) (i := x) ) ⟨Nat.le_of_ble_eq_true rfl, Nat.le_of_ble_eq_true rfl⟩ ⟨rfl, rfl⟩ ⟨Nat.zero_le _, Nat.zero_le _⟩ rfl 2 rfl rfl rfl rfl (Nat.le_of_ble_eq_true rfl) [2, 3] [(xo, .inr (5, [.ref xr, .ref xd, .ref ta, .ref tb, .ref xi, .ref aa, .ref sa, .int lf, .int fg])), (xr, .inl (cs 2, 8, .inr (.inr (.inr (.inr g))))), (ra, .inr (3, [.ref rp, .int (b2 sd), .int la, .int ln])), (rp, .inl (cs 0, 40, .inl (pA rf 40 x (asL la y))))] rfl (by decide) (show [ra, rp] = [ra, rp] from rfl) (rfl) dX5_set_56 ?_
      refine V.sts (st' := [.int (gA (pA rf 40 x (asL la y)) 40 x), .ref xo]) rfl ?_
      refine v_callV (qi := 0) C [.int (gA (pA rf 40 x (asL la y)) 40 x)] [] kX5_well gX5_set_X5_well (c_well l D cs (xo := xo) (xr := xr) (xd := xd) (ta := ta) (tb := tb) (xi := xi) (aa := aa) (sa := sa) (lf := lf) (fg := fg) (x := (gA (pA rf 40 x (asL la y)) 40 x)) ) ⟨Nat.le_of_ble_eq_true rfl, Nat.le_of_ble_eq_true rfl⟩ ⟨rfl, rfl⟩ ⟨Nat.zero_le _, Nat.zero_le _⟩ rfl 0 rfl rfl rfl rfl (Nat.le_of_ble_eq_true rfl) [0] [(xo, .inr (5, [.ref xr, .ref xd, .ref ta, .ref tb, .ref xi, .ref aa, .ref sa, .int lf, .int 0])), (xr, .inl (cs 2, 8, .inr (.inr (.inr (.inr g))))), (ra, .inr (3, [.ref rp, .int (b2 sd), .int la, .int ln])), (rp, .inl (cs 0, 40, .inl (pA rf 40 x (asL la y))))] rfl (by decide) (show [xo] = [xo] from rfl) (rfl) dX5_set_59 ?_
      refine V.sts (st' := [.int (gA (pA rf 40 x (asL la y)) 40 x)]) rfl ?_
      exact v_iret C E (by first | rfl | (simp only [c1, c2, ↓reduceIte, Bool.false_eq_true, reduceCtorEq, Bool.and_true, Bool.true_and, Bool.and_false, Bool.false_and]; done) | (simp [c1, c2]; done) | (simp_all [b2]; done)) (by first | rfl | (simp only [c1, c2, ↓reduceIte, Bool.false_eq_true, reduceCtorEq, Bool.and_true, Bool.true_and, Bool.and_false, Bool.false_and]; done) | (simp [c1, c2]; done) | (simp_all [b2]; done)) dX5_set_62
    · skip
      refine v_aload_n C 0 dX5_set_39 rfl ?_
      refine v_iconst C (v := 2) dX5_set_40 (by decide) ?_
      refine v_callV (qi := 0) C [.int 2] [] kX5_found gX5_set_X5_found (c_found l D cs (xo := xo) (xr := xr) (xd := xd) (ta := ta) (tb := tb) (xi := xi) (aa := aa) (sa := sa) (lf := lf) (fg := fg) (x := 2) ) ⟨Nat.le_of_ble_eq_true rfl, Nat.le_of_ble_eq_true rfl⟩ ⟨rfl, rfl⟩ ⟨Nat.zero_le _, Nat.zero_le _⟩ rfl 0 rfl rfl rfl rfl (Nat.le_of_ble_eq_true rfl) [0] [(xo, .inr (5, [.ref xr, .ref xd, .ref ta, .ref tb, .ref xi, .ref aa, .ref sa, .int lf, .int 2])), (xr, .inl (cs 2, 8, .inr (.inr (.inr (.inr g))))), (ra, .inr (3, [.ref rp, .int (b2 sd), .int la, .int ln])), (rp, .inl (cs 0, 40, .inl rf))] rfl (by decide) (show [xo] = [xo] from rfl) (rfl) dX5_set_41 ?_
      refine V.sts (st' := [.int (-1000010 - 2)]) rfl ?_
      exact v_iret C E (by first | rfl | (simp only [c1, c2, ↓reduceIte, Bool.false_eq_true, reduceCtorEq, Bool.and_true, Bool.true_and, Bool.and_false, Bool.false_and]; done) | (simp [c1, c2]; done) | (simp_all [b2]; done)) (by first | rfl | (simp only [c1, c2, ↓reduceIte, Bool.false_eq_true, reduceCtorEq, Bool.and_true, Bool.true_and, Bool.and_false, Bool.false_and]; done) | (simp [c1, c2]; done) | (simp_all [b2]; done)) dX5_set_44
  · skip
    refine v_aload_n C 0 dX5_set_23 rfl ?_
    refine v_iconst C (v := 1) dX5_set_24 (by decide) ?_
    refine v_callV (qi := 0) C [.int 1] [] kX5_found gX5_set_X5_found (c_found l D cs (xo := xo) (xr := xr) (xd := xd) (ta := ta) (tb := tb) (xi := xi) (aa := aa) (sa := sa) (lf := lf) (fg := fg) (x := 1) ) ⟨Nat.le_of_ble_eq_true rfl, Nat.le_of_ble_eq_true rfl⟩ ⟨rfl, rfl⟩ ⟨Nat.zero_le _, Nat.zero_le _⟩ rfl 0 rfl rfl rfl rfl (Nat.le_of_ble_eq_true rfl) [0] [(xo, .inr (5, [.ref xr, .ref xd, .ref ta, .ref tb, .ref xi, .ref aa, .ref sa, .int lf, .int 1])), (xr, .inl (cs 2, 8, .inr (.inr (.inr (.inr g))))), (ra, .inr (3, [.ref rp, .int (b2 sd), .int la, .int ln])), (rp, .inl (cs 0, 40, .inl rf))] rfl (by decide) (show [xo] = [xo] from rfl) (rfl) dX5_set_25 ?_
    refine V.sts (st' := [.int (-1000010 - 1)]) rfl ?_
    exact v_iret C E (by first | rfl | (simp only [c1, ↓reduceIte, Bool.false_eq_true, reduceCtorEq, Bool.and_true, Bool.true_and, Bool.and_false, Bool.false_and]; done) | (simp [c1]; done) | (simp_all [b2]; done)) (by first | rfl | (simp only [c1, ↓reduceIte, Bool.false_eq_true, reduceCtorEq, Bool.and_true, Bool.true_and, Bool.and_false, Bool.false_and]; done) | (simp [c1]; done) | (simp_all [b2]; done)) dX5_set_28
set_option maxHeartbeats 4000000 in
set_option maxRecDepth 100000 in
theorem c_setOut (l : Launch) (D : va_G) (cs : Nat → ClassId) {xo : Nat} {xr : Nat} {xd : Nat} {ta : Nat} {tb : Nat} {xi : Nat} {aa : Nat} {sa : Nat} {lf : Int32} {fg : Int32} {g : Nat → Option Nat} {x0 : Int32} {x : Int32} {y : Int32} (ho : x0 < 0 ∨ 8 ≤ x0) : CT l D (tz cs) yX5_set wsX5_set ({ frames := 2, cells := 0, slots := 0, locals := 44 }) [.ref xo, .int x0, .int x, .int y] [(xo, .inr (5, [.ref xr, .ref xd, .ref ta, .ref tb, .ref xi, .ref aa, .ref sa, .int lf, .int fg])), (xr, .inl (cs 2, 8, .inr (.inr (.inr (.inr g)))))] (some (.int (-1000001))) [(xo, .inr (5, [.ref xr, .ref xd, .ref ta, .ref tb, .ref xi, .ref aa, .ref sa, .int lf, .int fg])), (xr, .inl (cs 2, 8, .inr (.inr (.inr (.inr g)))))] := by
  refine CT.of kX5_set (Nat.le_of_ble_eq_true rfl) ?_
  intro p e s m below meth c A C E
  have C : VOk p s m _ c cX5_set 5 wsX5_set RX5 D (tz cs) A s.heap := C
  refine V.lvs (lv' := [(0, .ref xo), (1, .int x0), (2, .int x), (3, .int y)]) [0, 1, 2, 3] rfl ?_
  refine v_aload_n C 0 dX5_set_0 rfl ?_
  refine v_iload_n C 1 dX5_set_1 rfl ?_
  refine v_callV (qi := 0) C [.int x0] [] kX5_rowAt gX5_set_X5_rowAt (c_rowAtOut l D cs (xo := xo) (xr := xr) (xd := xd) (ta := ta) (tb := tb) (xi := xi) (aa := aa) (sa := sa) (lf := lf) (fg := fg) (g := g) (x := x0) (by first | assumption | omega)) ⟨Nat.le_of_ble_eq_true rfl, Nat.le_of_ble_eq_true rfl⟩ ⟨rfl, rfl⟩ ⟨Nat.zero_le _, Nat.zero_le _⟩ rfl 0 rfl rfl rfl rfl (Nat.le_of_ble_eq_true rfl) [0, 1] [(xo, .inr (5, [.ref xr, .ref xd, .ref ta, .ref tb, .ref xi, .ref aa, .ref sa, .int lf, .int fg])), (xr, .inl (cs 2, 8, .inr (.inr (.inr (.inr g)))))] rfl (by decide) (show [xo, xr] = [xo, xr] from rfl) (rfl) dX5_set_2 ?_
  refine V.sts (st' := [.null]) rfl ?_
  refine v_astoreN C [(0, .ref xo), (1, .int x0), (2, .int x), (3, .int y), (4, .null)] [1, 2, 3, 4, 0] dX5_set_5 (by decide) rfl ?_
  refine v_aloadN C 4 dX5_set_7 rfl ?_
  refine v_ifnonnullN C dX5_set_9 ?_
  refine v_ldc C (v := -1000001) (by decide +kernel) dX5_set_12 ?_
  exact v_iret C E (rfl) (by first | rfl | (simp [ho, ↓reduceIte]; done) | (simp_all [b2]; done)) dX5_set_14
theorem kX5_drop : KD yX5_drop wsX5_drop cX5_drop 3 (some .int) 1 := ⟨⟨_, rfl⟩, by decide, by decide +kernel, by decide +kernel, by decide +kernel⟩
theorem in_X5_drop_X3 : ∀ w ∈ wsX30, w ∈ wsX5_drop := by decide +kernel
theorem fn_X5_drop_76 : FLN RX5 wsX5_drop RX3 RX3 TX3 4 3 1 76 := ⟨⟨in_X5_drop_X3, rfl, by decide, rfl⟩, "TableShares", by decide +kernel⟩
theorem fn_X5_drop_97 : FLN RX5 wsX5_drop RX3 RX3 TX3 4 3 3 97 := ⟨⟨in_X5_drop_X3, rfl, by decide, rfl⟩, "TableShares", by decide +kernel⟩
set_option maxHeartbeats 4000000 in
set_option maxRecDepth 100000 in
theorem c_dropIn (l : Launch) (D : va_G) (cs : Nat → ClassId) {xo : Nat} {xr : Nat} {xd : Nat} {ta : Nat} {tb : Nat} {xi : Nat} {aa : Nat} {sa : Nat} {lf : Int32} {fg : Int32} {g : Nat → Option Nat} {j : Nat} {ra : Nat} {rp : Nat} {rf : Nat → Int32} {sd : Bool} {la : Int32} {ln : Int32} (hj : j < 8) (hg : g j = some ra) : CT l D (tz cs) yX5_drop wsX5_drop ({ frames := 1, cells := 0, slots := 0, locals := 21 }) [.ref xo, .int (nI j)] [(xo, .inr (5, [.ref xr, .ref xd, .ref ta, .ref tb, .ref xi, .ref aa, .ref sa, .int lf, .int fg])), (xr, .inl (cs 2, 8, .inr (.inr (.inr (.inr g))))), (ra, .inr (3, [.ref rp, .int (b2 sd), .int la, .int ln])), (rp, .inl (cs 0, 40, .inl rf))] (some (.int (if sd = false then -1000010 - 1 else ln))) [(xo, .inr (5, [.ref xr, .ref xd, .ref ta, .ref tb, .ref xi, .ref aa, .ref sa, .int lf, .int (if sd = false then 1 else 0)])), (xr, .inl (cs 2, 8, .inr (.inr (.inr (.inr g))))), (ra, .inr (3, [.ref rp, .int (b2 false), .int la, .int ln])), (rp, .inl (cs 0, 40, .inl rf))] := by
  refine CT.of kX5_drop (Nat.le_of_ble_eq_true rfl) ?_
  intro p e s m below meth c A C E
  have C : VOk p s m _ c cX5_drop 3 wsX5_drop RX5 D (tz cs) A s.heap := C
  refine V.lvs (lv' := [(0, .ref xo), (1, .int (nI j))]) [0, 1] rfl ?_
  refine v_aload_n C 0 dX5_drop_0 rfl ?_
  refine v_iload_n C 1 dX5_drop_1 rfl ?_
  refine v_callV (qi := 0) C [.int (nI j)] [] kX5_rowAt gX5_drop_X5_rowAt (c_rowAtIn l D cs (xo := xo) (xr := xr) (xd := xd) (ta := ta) (tb := tb) (xi := xi) (aa := aa) (sa := sa) (lf := lf) (fg := fg) (g := g) (j := j) (r := ra) (by first | assumption | omega) (by first | assumption | omega)) ⟨Nat.le_of_ble_eq_true rfl, Nat.le_of_ble_eq_true rfl⟩ ⟨rfl, rfl⟩ ⟨Nat.zero_le _, Nat.zero_le _⟩ rfl 0 rfl rfl rfl rfl (Nat.le_of_ble_eq_true rfl) [0, 1] [(xo, .inr (5, [.ref xr, .ref xd, .ref ta, .ref tb, .ref xi, .ref aa, .ref sa, .int lf, .int fg])), (xr, .inl (cs 2, 8, .inr (.inr (.inr (.inr g))))), (ra, .inr (3, [.ref rp, .int (b2 sd), .int la, .int ln])), (rp, .inl (cs 0, 40, .inl rf))] rfl (by decide) (show [xo, xr] = [xo, xr] from rfl) (rfl) dX5_drop_2 ?_
  refine V.sts (st' := [.ref ra]) rfl ?_
  refine v_astore_n C [(0, .ref xo), (1, .int (nI j)), (2, .ref ra)] [1, 2, 0] dX5_drop_5 (by decide) rfl ?_
  refine v_aload_n C 2 dX5_drop_6 rfl ?_
  refine v_ifnonnull C 13 dX5_drop_7 (by decide) ?_
  refine v_aload_n C 2 dX5_drop_13 rfl ?_
  refine v_getN C (v := .int (b2 sd)) fn_X5_drop_76 2 rfl rfl dX5_drop_14 ?_
  refine v_if_neB C 26 dX5_drop_17 (by decide) (fun c1 => ?_) (fun c1 => ?_)
  · skip
    refine v_aload_n C 2 dX5_drop_26 rfl ?_
    refine v_iconst C (v := 0) dX5_drop_27 (by decide) ?_
    refine v_putN C fn_X5_drop_76 fp_X3_1 2 rfl rfl rfl (Nat.le_of_ble_eq_true rfl) [(xo, .inr (5, [.ref xr, .ref xd, .ref ta, .ref tb, .ref xi, .ref aa, .ref sa, .int lf, .int fg])), (xr, .inl (cs 2, 8, .inr (.inr (.inr (.inr g))))), (ra, .inr (3, [.ref rp, .int 0, .int la, .int ln])), (rp, .inl (cs 0, 40, .inl rf))] rfl dX5_drop_28 ?_
    refine v_aload_n C 0 dX5_drop_31 rfl ?_
    refine v_aload_n C 2 dX5_drop_32 rfl ?_
    refine v_getN C (v := .int ln) fn_X5_drop_97 2 rfl rfl dX5_drop_33 ?_
    refine v_callV (qi := 0) C [.int ln] [] kX5_well gX5_drop_X5_well (c_well l D cs (xo := xo) (xr := xr) (xd := xd) (ta := ta) (tb := tb) (xi := xi) (aa := aa) (sa := sa) (lf := lf) (fg := fg) (x := ln) ) ⟨Nat.le_of_ble_eq_true rfl, Nat.le_of_ble_eq_true rfl⟩ ⟨rfl, rfl⟩ ⟨Nat.zero_le _, Nat.zero_le _⟩ rfl 0 rfl rfl rfl rfl (Nat.le_of_ble_eq_true rfl) [0] [(xo, .inr (5, [.ref xr, .ref xd, .ref ta, .ref tb, .ref xi, .ref aa, .ref sa, .int lf, .int 0])), (xr, .inl (cs 2, 8, .inr (.inr (.inr (.inr g))))), (ra, .inr (3, [.ref rp, .int 0, .int la, .int ln])), (rp, .inl (cs 0, 40, .inl rf))] rfl (by decide) (show [xo] = [xo] from rfl) (rfl) dX5_drop_36 ?_
    refine V.sts (st' := [.int ln]) rfl ?_
    exact v_iret C E (by first | rfl | (simp only [c1, ↓reduceIte, Bool.false_eq_true, reduceCtorEq, Bool.and_true, Bool.true_and, Bool.and_false, Bool.false_and]; done) | (simp [c1]; done) | (simp_all [b2]; done)) (by first | rfl | (simp only [c1, ↓reduceIte, Bool.false_eq_true, reduceCtorEq, Bool.and_true, Bool.true_and, Bool.and_false, Bool.false_and]; done) | (simp [c1]; done) | (simp_all [b2]; done)) dX5_drop_39
  · skip
    refine v_aload_n C 0 dX5_drop_20 rfl ?_
    refine v_iconst C (v := 1) dX5_drop_21 (by decide) ?_
    refine v_callV (qi := 0) C [.int 1] [] kX5_found gX5_drop_X5_found (c_found l D cs (xo := xo) (xr := xr) (xd := xd) (ta := ta) (tb := tb) (xi := xi) (aa := aa) (sa := sa) (lf := lf) (fg := fg) (x := 1) ) ⟨Nat.le_of_ble_eq_true rfl, Nat.le_of_ble_eq_true rfl⟩ ⟨rfl, rfl⟩ ⟨Nat.zero_le _, Nat.zero_le _⟩ rfl 0 rfl rfl rfl rfl (Nat.le_of_ble_eq_true rfl) [0] [(xo, .inr (5, [.ref xr, .ref xd, .ref ta, .ref tb, .ref xi, .ref aa, .ref sa, .int lf, .int 1])), (xr, .inl (cs 2, 8, .inr (.inr (.inr (.inr g))))), (ra, .inr (3, [.ref rp, .int (b2 sd), .int la, .int ln])), (rp, .inl (cs 0, 40, .inl rf))] rfl (by decide) (show [xo] = [xo] from rfl) (rfl) dX5_drop_22 ?_
    refine V.sts (st' := [.int (-1000010 - 1)]) rfl ?_
    exact v_iret C E (by first | rfl | (simp only [c1, ↓reduceIte, Bool.false_eq_true, reduceCtorEq, Bool.and_true, Bool.true_and, Bool.and_false, Bool.false_and]; done) | (simp [c1]; done) | (simp_all [b2]; done)) (by first | rfl | (simp only [c1, ↓reduceIte, Bool.false_eq_true, reduceCtorEq, Bool.and_true, Bool.true_and, Bool.and_false, Bool.false_and]; done) | (simp [c1]; done) | (simp_all [b2]; done)) dX5_drop_25
set_option maxHeartbeats 4000000 in
set_option maxRecDepth 100000 in
theorem c_dropOut (l : Launch) (D : va_G) (cs : Nat → ClassId) {xo : Nat} {xr : Nat} {xd : Nat} {ta : Nat} {tb : Nat} {xi : Nat} {aa : Nat} {sa : Nat} {lf : Int32} {fg : Int32} {g : Nat → Option Nat} {x0 : Int32} (ho : x0 < 0 ∨ 8 ≤ x0) : CT l D (tz cs) yX5_drop wsX5_drop ({ frames := 1, cells := 0, slots := 0, locals := 21 }) [.ref xo, .int x0] [(xo, .inr (5, [.ref xr, .ref xd, .ref ta, .ref tb, .ref xi, .ref aa, .ref sa, .int lf, .int fg])), (xr, .inl (cs 2, 8, .inr (.inr (.inr (.inr g)))))] (some (.int (-1000001))) [(xo, .inr (5, [.ref xr, .ref xd, .ref ta, .ref tb, .ref xi, .ref aa, .ref sa, .int lf, .int fg])), (xr, .inl (cs 2, 8, .inr (.inr (.inr (.inr g)))))] := by
  refine CT.of kX5_drop (Nat.le_of_ble_eq_true rfl) ?_
  intro p e s m below meth c A C E
  have C : VOk p s m _ c cX5_drop 3 wsX5_drop RX5 D (tz cs) A s.heap := C
  refine V.lvs (lv' := [(0, .ref xo), (1, .int x0)]) [0, 1] rfl ?_
  refine v_aload_n C 0 dX5_drop_0 rfl ?_
  refine v_iload_n C 1 dX5_drop_1 rfl ?_
  refine v_callV (qi := 0) C [.int x0] [] kX5_rowAt gX5_drop_X5_rowAt (c_rowAtOut l D cs (xo := xo) (xr := xr) (xd := xd) (ta := ta) (tb := tb) (xi := xi) (aa := aa) (sa := sa) (lf := lf) (fg := fg) (g := g) (x := x0) (by first | assumption | omega)) ⟨Nat.le_of_ble_eq_true rfl, Nat.le_of_ble_eq_true rfl⟩ ⟨rfl, rfl⟩ ⟨Nat.zero_le _, Nat.zero_le _⟩ rfl 0 rfl rfl rfl rfl (Nat.le_of_ble_eq_true rfl) [0, 1] [(xo, .inr (5, [.ref xr, .ref xd, .ref ta, .ref tb, .ref xi, .ref aa, .ref sa, .int lf, .int fg])), (xr, .inl (cs 2, 8, .inr (.inr (.inr (.inr g)))))] rfl (by decide) (show [xo, xr] = [xo, xr] from rfl) (rfl) dX5_drop_2 ?_
  refine V.sts (st' := [.null]) rfl ?_
  refine v_astore_nN C [(0, .ref xo), (1, .int x0), (2, .null)] [1, 2, 0] dX5_drop_5 (by decide) rfl ?_
  refine v_aload_nN C 2 dX5_drop_6 rfl ?_
  refine v_ifnonnullN C dX5_drop_7 ?_
  refine v_ldc C (v := -1000001) (by decide +kernel) dX5_drop_10 ?_
  exact v_iret C E (rfl) (by first | rfl | (simp [ho, ↓reduceIte]; done) | (simp_all [b2]; done)) dX5_drop_12
theorem kX5_copy : KD yX5_copy wsX5_copy cX5_copy 8 (some .int) 5 := ⟨⟨_, rfl⟩, by decide, by decide +kernel, by decide +kernel, by decide +kernel⟩
theorem in_X5_copy_X3 : ∀ w ∈ wsX30, w ∈ wsX5_copy := by decide +kernel
theorem fn_X5_copy_76 : FLN RX5 wsX5_copy RX3 RX3 TX3 4 3 1 76 := ⟨⟨in_X5_copy_X3, rfl, by decide, rfl⟩, "TableShares", by decide +kernel⟩
theorem fn_X5_copy_90 : FLN RX5 wsX5_copy RX3 RX3 TX3 4 3 2 90 := ⟨⟨in_X5_copy_X3, rfl, by decide, rfl⟩, "TableShares", by decide +kernel⟩
theorem nq_X5_copy_X3_holds : Cond.initialized yX3_holds.cls ∈ wsX5_copy ∧ Cond.instanceMethod yX3_holds ∈ wsX5_copy ∧ Cond.selects yX3_holds.cls yX3_holds yX3_holds ∈ wsX5_copy := ⟨by decide +kernel, by decide +kernel, by decide +kernel⟩
theorem nq_X5_copy_X3_takeFrom : Cond.initialized yX3_takeFrom.cls ∈ wsX5_copy ∧ Cond.instanceMethod yX3_takeFrom ∈ wsX5_copy ∧ Cond.selects yX3_takeFrom.cls yX3_takeFrom yX3_takeFrom ∈ wsX5_copy := ⟨by decide +kernel, by decide +kernel, by decide +kernel⟩
set_option maxHeartbeats 4000000 in
set_option maxRecDepth 100000 in
theorem c_copyTwo (l : Launch) (D : va_G) (cs : Nat → ClassId) {xo : Nat} {xr : Nat} {xd : Nat} {ta : Nat} {tb : Nat} {xi : Nat} {aa : Nat} {sa : Nat} {lf : Int32} {fg : Int32} {g : Nat → Option Nat} {u : Nat} {v : Nat} {ra : Nat} {rp : Nat} {rb : Nat} {rq : Nat} {rf : Nat → Int32} {rg : Nat → Int32} {sd : Bool} {sd2 : Bool} {la : Int32} {la2 : Int32} {an : Nat} {bn : Nat} {i : Int32} {j : Int32} {q : Int32} (hu : u < 8) (hv : v < 8) (gu : g u = some ra) (gv : g v = some rb) (ha : an ≤ 40) (hb : bn ≤ 40) : CT l D (tz cs) yX5_copy wsX5_copy ({ frames := 2, cells := 0, slots := 0, locals := 64 }) [.ref xo, .int (nI u), .int i, .int (nI v), .int j, .int q] [(xo, .inr (5, [.ref xr, .ref xd, .ref ta, .ref tb, .ref xi, .ref aa, .ref sa, .int lf, .int fg])), (xr, .inl (cs 2, 8, .inr (.inr (.inr (.inr g))))), (ra, .inr (3, [.ref rp, .int (b2 sd), .int la, .int (nI an)])), (rp, .inl (cs 0, 40, .inl rf)), (rb, .inr (3, [.ref rq, .int (b2 sd2), .int la2, .int (nI bn)])), (rq, .inl (cs 0, 40, .inl rg))] (some (.int (if (sd && sd2) = false then -1000010 - 1 else if la = la2 then (if (hold (nI an) i q && hold (nI bn) j q) = true then q else -1000010 - 2) else -1000010 - 5))) [(xo, .inr (5, [.ref xr, .ref xd, .ref ta, .ref tb, .ref xi, .ref aa, .ref sa, .int lf, .int (if (sd && sd2) = false then 1 else if la = la2 then (if (hold (nI an) i q && hold (nI bn) j q) = true then 0 else 2) else 5)])), (xr, .inl (cs 2, 8, .inr (.inr (.inr (.inr g))))), (ra, .inr (3, [.ref rp, .int (b2 sd), .int la, .int (nI an)])), (rp, .inl (cs 0, 40, .inl rf)), (rb, .inr (3, [.ref rq, .int (b2 sd2), .int la2, .int (nI bn)])), (rq, .inl (cs 0, 40, .inl (if (sd && sd2) = false then rg else if la = la2 then (if (hold (nI an) i q && hold (nI bn) j q) = true then va_cpy rf rg (Int32.toNatClampNeg i) (Int32.toNatClampNeg j) (Int32.toNatClampNeg q) else rg) else rg)))] := by
  refine CT.of kX5_copy (Nat.le_of_ble_eq_true rfl) ?_
  intro p e s m below meth c A C E
  have C : VOk p s m _ c cX5_copy 8 wsX5_copy RX5 D (tz cs) A s.heap := C
  refine V.lvs (lv' := [(0, .ref xo), (1, .int (nI u)), (2, .int i), (3, .int (nI v)), (4, .int j), (5, .int q)]) [0, 1, 2, 3, 4, 5] rfl ?_
  refine v_aload_n C 0 dX5_copy_0 rfl ?_
  refine v_iload_n C 1 dX5_copy_1 rfl ?_
  refine v_callV (qi := 0) C [.int (nI u)] [] kX5_rowAt gX5_copy_X5_rowAt (c_rowAtIn l D cs (xo := xo) (xr := xr) (xd := xd) (ta := ta) (tb := tb) (xi := xi) (aa := aa) (sa := sa) (lf := lf) (fg := fg) (g := g) (j := u) (r := ra) (hu) (gu)) ⟨Nat.le_of_ble_eq_true rfl, Nat.le_of_ble_eq_true rfl⟩ ⟨rfl, rfl⟩ ⟨Nat.zero_le _, Nat.zero_le _⟩ rfl 0 rfl rfl rfl rfl (Nat.le_of_ble_eq_true rfl) [0, 1] [(xo, .inr (5, [.ref xr, .ref xd, .ref ta, .ref tb, .ref xi, .ref aa, .ref sa, .int lf, .int fg])), (xr, .inl (cs 2, 8, .inr (.inr (.inr (.inr g))))), (ra, .inr (3, [.ref rp, .int (b2 sd), .int la, .int (nI an)])), (rp, .inl (cs 0, 40, .inl rf)), (rb, .inr (3, [.ref rq, .int (b2 sd2), .int la2, .int (nI bn)])), (rq, .inl (cs 0, 40, .inl rg))] rfl (by decide) (show [xo, xr] = [xo, xr] from rfl) (rfl) dX5_copy_2 ?_
  refine V.sts (st' := [.ref ra]) rfl ?_
  refine v_astore C [(0, .ref xo), (1, .int (nI u)), (2, .int i), (3, .int (nI v)), (4, .int j), (5, .int q), (6, .ref ra)] [1, 2, 3, 4, 5, 6, 0] dX5_copy_5 (by decide) rfl ?_
  refine v_aload_n C 0 dX5_copy_7 rfl ?_
  refine v_iload_n C 3 dX5_copy_8 rfl ?_
  refine v_callV (qi := 0) C [.int (nI v)] [] kX5_rowAt gX5_copy_X5_rowAt (c_rowAtIn l D cs (xo := xo) (xr := xr) (xd := xd) (ta := ta) (tb := tb) (xi := xi) (aa := aa) (sa := sa) (lf := lf) (fg := fg) (g := g) (j := v) (r := rb) (hv) (gv)) ⟨Nat.le_of_ble_eq_true rfl, Nat.le_of_ble_eq_true rfl⟩ ⟨rfl, rfl⟩ ⟨Nat.zero_le _, Nat.zero_le _⟩ rfl 0 rfl rfl rfl rfl (Nat.le_of_ble_eq_true rfl) [0, 1] [(xo, .inr (5, [.ref xr, .ref xd, .ref ta, .ref tb, .ref xi, .ref aa, .ref sa, .int lf, .int fg])), (xr, .inl (cs 2, 8, .inr (.inr (.inr (.inr g))))), (ra, .inr (3, [.ref rp, .int (b2 sd), .int la, .int (nI an)])), (rp, .inl (cs 0, 40, .inl rf)), (rb, .inr (3, [.ref rq, .int (b2 sd2), .int la2, .int (nI bn)])), (rq, .inl (cs 0, 40, .inl rg))] rfl (by decide) (show [xo, xr] = [xo, xr] from rfl) (rfl) dX5_copy_9 ?_
  refine V.sts (st' := [.ref rb]) rfl ?_
  refine v_astore C [(0, .ref xo), (1, .int (nI u)), (2, .int i), (3, .int (nI v)), (4, .int j), (5, .int q), (6, .ref ra), (7, .ref rb)] [1, 2, 3, 4, 5, 6, 7, 0] dX5_copy_12 (by decide) rfl ?_
  refine v_aload C 6 dX5_copy_14 rfl ?_
  refine v_ifnull C dX5_copy_16 ?_
  refine v_aload C 7 dX5_copy_19 rfl ?_
  refine v_ifnonnull C 27 dX5_copy_21 (by decide) ?_
  refine v_aload C 6 dX5_copy_27 rfl ?_
  refine v_getN C (v := .int (b2 sd)) fn_X5_copy_76 2 rfl rfl dX5_copy_29 ?_
  refine v_if_eqB C 43 dX5_copy_32 (by decide) (fun c1 => ?_) (fun c1 => ?_)
  · skip
    refine v_aload_n C 0 dX5_copy_43 rfl ?_
    refine v_iconst C (v := 1) dX5_copy_44 (by decide) ?_
    refine v_callV (qi := 0) C [.int 1] [] kX5_found gX5_copy_X5_found (c_found l D cs (xo := xo) (xr := xr) (xd := xd) (ta := ta) (tb := tb) (xi := xi) (aa := aa) (sa := sa) (lf := lf) (fg := fg) (x := 1) ) ⟨Nat.le_of_ble_eq_true rfl, Nat.le_of_ble_eq_true rfl⟩ ⟨rfl, rfl⟩ ⟨Nat.zero_le _, Nat.zero_le _⟩ rfl 0 rfl rfl rfl rfl (Nat.le_of_ble_eq_true rfl) [0] [(xo, .inr (5, [.ref xr, .ref xd, .ref ta, .ref tb, .ref xi, .ref aa, .ref sa, .int lf, .int 1])), (xr, .inl (cs 2, 8, .inr (.inr (.inr (.inr g))))), (ra, .inr (3, [.ref rp, .int (b2 sd), .int la, .int (nI an)])), (rp, .inl (cs 0, 40, .inl rf)), (rb, .inr (3, [.ref rq, .int (b2 sd2), .int la2, .int (nI bn)])), (rq, .inl (cs 0, 40, .inl rg))] rfl (by decide) (show [xo] = [xo] from rfl) (rfl) dX5_copy_45 ?_
    refine V.sts (st' := [.int (-1000010 - 1)]) rfl ?_
    exact v_iret C E (by first | rfl | (simp only [c1, ↓reduceIte, Bool.false_eq_true, reduceCtorEq, Bool.and_true, Bool.true_and, Bool.and_false, Bool.false_and]; done) | (simp [c1]; done) | (simp_all [b2]; done)) (by first | rfl | (simp only [c1, ↓reduceIte, Bool.false_eq_true, reduceCtorEq, Bool.and_true, Bool.true_and, Bool.and_false, Bool.false_and]; done) | (simp [c1]; done) | (simp_all [b2]; done)) dX5_copy_48
  · skip
    refine v_aload C 7 dX5_copy_35 rfl ?_
    refine v_getN C (v := .int (b2 sd2)) fn_X5_copy_76 4 rfl rfl dX5_copy_37 ?_
    refine v_if_neB C 49 dX5_copy_40 (by decide) (fun c2 => ?_) (fun c2 => ?_)
    · skip
      refine v_aload C 6 dX5_copy_49 rfl ?_
      refine v_getN C (v := .int la) fn_X5_copy_90 2 rfl rfl dX5_copy_51 ?_
      refine v_aload C 7 dX5_copy_54 rfl ?_
      refine v_getN C (v := .int la2) fn_X5_copy_90 4 rfl rfl dX5_copy_56 ?_
      refine v_icmp_eq C 68 dX5_copy_59 (by decide) (fun c3 => ?_) (fun c3 => ?_)
      · skip
        refine v_aload C 6 dX5_copy_68 rfl ?_
        refine v_iload_n C 2 dX5_copy_70 rfl ?_
        refine v_iload C 5 dX5_copy_71 rfl ?_
        refine v_callVN (qi := 0) C [.int i, .int q] [] kX3_holds gX5_copy_X3_holds_n80 (host := "TableShares") (by decide +kernel) nq_X5_copy_X3_holds (c_holds l D cs (ra := ra) (rp := rp) (sd := sd) (la := la) (ln := (nI an)) (i := i) (q := q) ) ⟨Nat.le_of_ble_eq_true rfl, Nat.le_of_ble_eq_true rfl⟩ ⟨rfl, rfl⟩ ⟨Nat.zero_le _, Nat.zero_le _⟩ rfl 2 rfl rfl rfl rfl (Nat.le_of_ble_eq_true rfl) [2] [(xo, .inr (5, [.ref xr, .ref xd, .ref ta, .ref tb, .ref xi, .ref aa, .ref sa, .int lf, .int fg])), (xr, .inl (cs 2, 8, .inr (.inr (.inr (.inr g))))), (ra, .inr (3, [.ref rp, .int (b2 sd), .int la, .int (nI an)])), (rp, .inl (cs 0, 40, .inl rf)), (rb, .inr (3, [.ref rq, .int (b2 sd2), .int la2, .int (nI bn)])), (rq, .inl (cs 0, 40, .inl rg))] rfl (by decide) (show [ra] = [ra] from rfl) (rfl) dX5_copy_73 ?_
        refine V.sts (st' := [.int (b2 (hold (nI an) i q))]) rfl ?_
        refine v_if_eqB C 91 dX5_copy_76 (by decide) (fun c4 => ?_) (fun c4 => ?_)
        · skip
          refine v_aload_n C 0 dX5_copy_91 rfl ?_
          refine v_iconst C (v := 2) dX5_copy_92 (by decide) ?_
          refine v_callV (qi := 0) C [.int 2] [] kX5_found gX5_copy_X5_found (c_found l D cs (xo := xo) (xr := xr) (xd := xd) (ta := ta) (tb := tb) (xi := xi) (aa := aa) (sa := sa) (lf := lf) (fg := fg) (x := 2) ) ⟨Nat.le_of_ble_eq_true rfl, Nat.le_of_ble_eq_true rfl⟩ ⟨rfl, rfl⟩ ⟨Nat.zero_le _, Nat.zero_le _⟩ rfl 0 rfl rfl rfl rfl (Nat.le_of_ble_eq_true rfl) [0] [(xo, .inr (5, [.ref xr, .ref xd, .ref ta, .ref tb, .ref xi, .ref aa, .ref sa, .int lf, .int 2])), (xr, .inl (cs 2, 8, .inr (.inr (.inr (.inr g))))), (ra, .inr (3, [.ref rp, .int (b2 sd), .int la, .int (nI an)])), (rp, .inl (cs 0, 40, .inl rf)), (rb, .inr (3, [.ref rq, .int (b2 sd2), .int la2, .int (nI bn)])), (rq, .inl (cs 0, 40, .inl rg))] rfl (by decide) (show [xo] = [xo] from rfl) (rfl) dX5_copy_93 ?_
          refine V.sts (st' := [.int (-1000010 - 2)]) rfl ?_
          exact v_iret C E (by first | rfl | (simp only [c1, c2, c3, c4, ↓reduceIte, Bool.false_eq_true, reduceCtorEq, Bool.and_true, Bool.true_and, Bool.and_false, Bool.false_and]; done) | (simp [c1, c2, c3, c4]; done) | (simp_all [b2]; done)) (by first | rfl | (simp only [c1, c2, c3, c4, ↓reduceIte, Bool.false_eq_true, reduceCtorEq, Bool.and_true, Bool.true_and, Bool.and_false, Bool.false_and]; done) | (simp [c1, c2, c3, c4]; done) | (simp_all [b2]; done)) dX5_copy_96
        · skip
          refine v_aload C 7 dX5_copy_79 rfl ?_
          refine v_iload C 4 dX5_copy_81 rfl ?_
          refine v_iload C 5 dX5_copy_83 rfl ?_
          refine v_callVN (qi := 0) C [.int j, .int q] [] kX3_holds gX5_copy_X3_holds_n80 (host := "TableShares") (by decide +kernel) nq_X5_copy_X3_holds (c_holds l D cs (ra := rb) (rp := rq) (sd := sd2) (la := la2) (ln := (nI bn)) (i := j) (q := q) ) ⟨Nat.le_of_ble_eq_true rfl, Nat.le_of_ble_eq_true rfl⟩ ⟨rfl, rfl⟩ ⟨Nat.zero_le _, Nat.zero_le _⟩ rfl 4 rfl rfl rfl rfl (Nat.le_of_ble_eq_true rfl) [4] [(xo, .inr (5, [.ref xr, .ref xd, .ref ta, .ref tb, .ref xi, .ref aa, .ref sa, .int lf, .int fg])), (xr, .inl (cs 2, 8, .inr (.inr (.inr (.inr g))))), (ra, .inr (3, [.ref rp, .int (b2 sd), .int la, .int (nI an)])), (rp, .inl (cs 0, 40, .inl rf)), (rb, .inr (3, [.ref rq, .int (b2 sd2), .int la2, .int (nI bn)])), (rq, .inl (cs 0, 40, .inl rg))] rfl (by decide) (show [rb] = [rb] from rfl) (rfl) dX5_copy_85 ?_
          refine V.sts (st' := [.int (b2 (hold (nI bn) j q))]) rfl ?_
          refine v_if_neB C 97 dX5_copy_88 (by decide) (fun c5 => ?_) (fun c5 => ?_)
          · skip
            refine v_aload C 7 dX5_copy_97 rfl ?_
            refine v_aload C 6 dX5_copy_99 rfl ?_
            refine v_iload_n C 2 dX5_copy_101 rfl ?_
            refine v_iload C 4 dX5_copy_102 rfl ?_
            refine v_iload C 5 dX5_copy_104 rfl ?_
            refine v_callVN (qi := 0) C [.ref ra, .int i, .int j, .int q] [] kX3_takeFrom gX5_copy_X3_takeFrom_n93 (host := "TableShares") (by decide +kernel) nq_X5_copy_X3_takeFrom (c_takeFrom l D cs (ra := rb) (rp := rq) (rb := ra) (rq := rp) (rf := rg) (rg := rf) (sd := sd2) (sd2 := sd) (la := la2) (ln := (nI bn)) (la2 := la) (ln2 := (nI an)) (i := i) (j := j) (q := q) (by assumption) (by assumption) (by first | exact hold_le ha (by assumption) | exact hold_le hb (by assumption)) (by first | exact hold_le hb (by assumption) | exact hold_le ha (by assumption))) ⟨Nat.le_of_ble_eq_true rfl, Nat.le_of_ble_eq_true rfl⟩ ⟨rfl, rfl⟩ ⟨Nat.zero_le _, Nat.zero_le _⟩ rfl 4 rfl rfl rfl rfl (Nat.le_of_ble_eq_true rfl) [4, 5, 2, 3] [(xo, .inr (5, [.ref xr, .ref xd, .ref ta, .ref tb, .ref xi, .ref aa, .ref sa, .int lf, .int fg])), (xr, .inl (cs 2, 8, .inr (.inr (.inr (.inr g))))), (ra, .inr (3, [.ref rp, .int (b2 sd), .int la, .int (nI an)])), (rp, .inl (cs 0, 40, .inl rf)), (rb, .inr (3, [.ref rq, .int (b2 sd2), .int la2, .int (nI bn)])), (rq, .inl (cs 0, 40, .inl (va_cpy rf rg (Int32.toNatClampNeg i) (Int32.toNatClampNeg j) (Int32.toNatClampNeg q))))] rfl (by decide) (show [rb, rq, ra, rp] = [rb, rq, ra, rp] from rfl) (rfl) dX5_copy_106 ?_
            refine V.sts (st' := []) rfl ?_
            refine v_aload_n C 0 dX5_copy_109 rfl ?_
            refine v_iload C 5 dX5_copy_110 rfl ?_
            refine v_callV (qi := 0) C [.int q] [] kX5_well gX5_copy_X5_well (c_well l D cs (xo := xo) (xr := xr) (xd := xd) (ta := ta) (tb := tb) (xi := xi) (aa := aa) (sa := sa) (lf := lf) (fg := fg) (x := q) ) ⟨Nat.le_of_ble_eq_true rfl, Nat.le_of_ble_eq_true rfl⟩ ⟨rfl, rfl⟩ ⟨Nat.zero_le _, Nat.zero_le _⟩ rfl 0 rfl rfl rfl rfl (Nat.le_of_ble_eq_true rfl) [0] [(xo, .inr (5, [.ref xr, .ref xd, .ref ta, .ref tb, .ref xi, .ref aa, .ref sa, .int lf, .int 0])), (xr, .inl (cs 2, 8, .inr (.inr (.inr (.inr g))))), (ra, .inr (3, [.ref rp, .int (b2 sd), .int la, .int (nI an)])), (rp, .inl (cs 0, 40, .inl rf)), (rb, .inr (3, [.ref rq, .int (b2 sd2), .int la2, .int (nI bn)])), (rq, .inl (cs 0, 40, .inl (va_cpy rf rg (Int32.toNatClampNeg i) (Int32.toNatClampNeg j) (Int32.toNatClampNeg q))))] rfl (by decide) (show [xo] = [xo] from rfl) (rfl) dX5_copy_112 ?_
            refine V.sts (st' := [.int q]) rfl ?_
            exact v_iret C E (by first | rfl | (simp only [c1, c2, c3, c4, c5, ↓reduceIte, Bool.false_eq_true, reduceCtorEq, Bool.and_true, Bool.true_and, Bool.and_false, Bool.false_and]; done) | (simp [c1, c2, c3, c4, c5]; done) | (simp_all [b2]; done)) (by first | rfl | (simp only [c1, c2, c3, c4, c5, ↓reduceIte, Bool.false_eq_true, reduceCtorEq, Bool.and_true, Bool.true_and, Bool.and_false, Bool.false_and]; done) | (simp [c1, c2, c3, c4, c5]; done) | (simp_all [b2]; done)) dX5_copy_115
          · skip
            refine v_aload_n C 0 dX5_copy_91 rfl ?_
            refine v_iconst C (v := 2) dX5_copy_92 (by decide) ?_
            refine v_callV (qi := 0) C [.int 2] [] kX5_found gX5_copy_X5_found (c_found l D cs (xo := xo) (xr := xr) (xd := xd) (ta := ta) (tb := tb) (xi := xi) (aa := aa) (sa := sa) (lf := lf) (fg := fg) (x := 2) ) ⟨Nat.le_of_ble_eq_true rfl, Nat.le_of_ble_eq_true rfl⟩ ⟨rfl, rfl⟩ ⟨Nat.zero_le _, Nat.zero_le _⟩ rfl 0 rfl rfl rfl rfl (Nat.le_of_ble_eq_true rfl) [0] [(xo, .inr (5, [.ref xr, .ref xd, .ref ta, .ref tb, .ref xi, .ref aa, .ref sa, .int lf, .int 2])), (xr, .inl (cs 2, 8, .inr (.inr (.inr (.inr g))))), (ra, .inr (3, [.ref rp, .int (b2 sd), .int la, .int (nI an)])), (rp, .inl (cs 0, 40, .inl rf)), (rb, .inr (3, [.ref rq, .int (b2 sd2), .int la2, .int (nI bn)])), (rq, .inl (cs 0, 40, .inl rg))] rfl (by decide) (show [xo] = [xo] from rfl) (rfl) dX5_copy_93 ?_
            refine V.sts (st' := [.int (-1000010 - 2)]) rfl ?_
            exact v_iret C E (by first | rfl | (simp only [c1, c2, c3, c4, c5, ↓reduceIte, Bool.false_eq_true, reduceCtorEq, Bool.and_true, Bool.true_and, Bool.and_false, Bool.false_and]; done) | (simp [c1, c2, c3, c4, c5]; done) | (simp_all [b2]; done)) (by first | rfl | (simp only [c1, c2, c3, c4, c5, ↓reduceIte, Bool.false_eq_true, reduceCtorEq, Bool.and_true, Bool.true_and, Bool.and_false, Bool.false_and]; done) | (simp [c1, c2, c3, c4, c5]; done) | (simp_all [b2]; done)) dX5_copy_96
      · skip
        refine v_aload_n C 0 dX5_copy_62 rfl ?_
        refine v_iconst C (v := 5) dX5_copy_63 (by decide) ?_
        refine v_callV (qi := 0) C [.int 5] [] kX5_found gX5_copy_X5_found (c_found l D cs (xo := xo) (xr := xr) (xd := xd) (ta := ta) (tb := tb) (xi := xi) (aa := aa) (sa := sa) (lf := lf) (fg := fg) (x := 5) ) ⟨Nat.le_of_ble_eq_true rfl, Nat.le_of_ble_eq_true rfl⟩ ⟨rfl, rfl⟩ ⟨Nat.zero_le _, Nat.zero_le _⟩ rfl 0 rfl rfl rfl rfl (Nat.le_of_ble_eq_true rfl) [0] [(xo, .inr (5, [.ref xr, .ref xd, .ref ta, .ref tb, .ref xi, .ref aa, .ref sa, .int lf, .int 5])), (xr, .inl (cs 2, 8, .inr (.inr (.inr (.inr g))))), (ra, .inr (3, [.ref rp, .int (b2 sd), .int la, .int (nI an)])), (rp, .inl (cs 0, 40, .inl rf)), (rb, .inr (3, [.ref rq, .int (b2 sd2), .int la2, .int (nI bn)])), (rq, .inl (cs 0, 40, .inl rg))] rfl (by decide) (show [xo] = [xo] from rfl) (rfl) dX5_copy_64 ?_
        refine V.sts (st' := [.int (-1000010 - 5)]) rfl ?_
        exact v_iret C E (by first | rfl | (simp only [c1, c2, c3, ↓reduceIte, Bool.false_eq_true, reduceCtorEq, Bool.and_true, Bool.true_and, Bool.and_false, Bool.false_and]; done) | (simp [c1, c2, c3]; done) | (simp_all [b2]; done)) (by first | rfl | (simp only [c1, c2, c3, ↓reduceIte, Bool.false_eq_true, reduceCtorEq, Bool.and_true, Bool.true_and, Bool.and_false, Bool.false_and]; done) | (simp [c1, c2, c3]; done) | (simp_all [b2]; done)) dX5_copy_67
    · skip
      refine v_aload_n C 0 dX5_copy_43 rfl ?_
      refine v_iconst C (v := 1) dX5_copy_44 (by decide) ?_
      refine v_callV (qi := 0) C [.int 1] [] kX5_found gX5_copy_X5_found (c_found l D cs (xo := xo) (xr := xr) (xd := xd) (ta := ta) (tb := tb) (xi := xi) (aa := aa) (sa := sa) (lf := lf) (fg := fg) (x := 1) ) ⟨Nat.le_of_ble_eq_true rfl, Nat.le_of_ble_eq_true rfl⟩ ⟨rfl, rfl⟩ ⟨Nat.zero_le _, Nat.zero_le _⟩ rfl 0 rfl rfl rfl rfl (Nat.le_of_ble_eq_true rfl) [0] [(xo, .inr (5, [.ref xr, .ref xd, .ref ta, .ref tb, .ref xi, .ref aa, .ref sa, .int lf, .int 1])), (xr, .inl (cs 2, 8, .inr (.inr (.inr (.inr g))))), (ra, .inr (3, [.ref rp, .int (b2 sd), .int la, .int (nI an)])), (rp, .inl (cs 0, 40, .inl rf)), (rb, .inr (3, [.ref rq, .int (b2 sd2), .int la2, .int (nI bn)])), (rq, .inl (cs 0, 40, .inl rg))] rfl (by decide) (show [xo] = [xo] from rfl) (rfl) dX5_copy_45 ?_
      refine V.sts (st' := [.int (-1000010 - 1)]) rfl ?_
      exact v_iret C E (by first | rfl | (simp only [c1, c2, ↓reduceIte, Bool.false_eq_true, reduceCtorEq, Bool.and_true, Bool.true_and, Bool.and_false, Bool.false_and]; done) | (simp [c1, c2]; done) | (simp_all [b2]; done)) (by first | rfl | (simp only [c1, c2, ↓reduceIte, Bool.false_eq_true, reduceCtorEq, Bool.and_true, Bool.true_and, Bool.and_false, Bool.false_and]; done) | (simp [c1, c2]; done) | (simp_all [b2]; done)) dX5_copy_48
set_option maxHeartbeats 4000000 in
set_option maxRecDepth 100000 in
theorem c_copySame (l : Launch) (D : va_G) (cs : Nat → ClassId) {xo : Nat} {xr : Nat} {xd : Nat} {ta : Nat} {tb : Nat} {xi : Nat} {aa : Nat} {sa : Nat} {lf : Int32} {fg : Int32} {g : Nat → Option Nat} {u : Nat} {ra : Nat} {rp : Nat} {rf : Nat → Int32} {sd : Bool} {la : Int32} {an : Nat} {i : Int32} {j : Int32} {q : Int32} (hu : u < 8) (gu : g u = some ra) (ha : an ≤ 40) : CT l D (tz cs) yX5_copy wsX5_copy ({ frames := 2, cells := 0, slots := 0, locals := 64 }) [.ref xo, .int (nI u), .int i, .int (nI u), .int j, .int q] [(xo, .inr (5, [.ref xr, .ref xd, .ref ta, .ref tb, .ref xi, .ref aa, .ref sa, .int lf, .int fg])), (xr, .inl (cs 2, 8, .inr (.inr (.inr (.inr g))))), (ra, .inr (3, [.ref rp, .int (b2 sd), .int la, .int (nI an)])), (rp, .inl (cs 0, 40, .inl rf))] (some (.int (if sd = false then -1000010 - 1 else if (hold (nI an) i q && hold (nI an) j q) = true then q else -1000010 - 2))) [(xo, .inr (5, [.ref xr, .ref xd, .ref ta, .ref tb, .ref xi, .ref aa, .ref sa, .int lf, .int (if sd = false then 1 else if (hold (nI an) i q && hold (nI an) j q) = true then 0 else 2)])), (xr, .inl (cs 2, 8, .inr (.inr (.inr (.inr g))))), (ra, .inr (3, [.ref rp, .int (b2 sd), .int la, .int (nI an)])), (rp, .inl (cs 0, 40, .inl (if sd = false then rf else if (hold (nI an) i q && hold (nI an) j q) = true then va_cpy rf rf (Int32.toNatClampNeg i) (Int32.toNatClampNeg j) (Int32.toNatClampNeg q) else rf)))] := by
  refine CT.of kX5_copy (Nat.le_of_ble_eq_true rfl) ?_
  intro p e s m below meth c A C E
  have C : VOk p s m _ c cX5_copy 8 wsX5_copy RX5 D (tz cs) A s.heap := C
  refine V.lvs (lv' := [(0, .ref xo), (1, .int (nI u)), (2, .int i), (3, .int (nI u)), (4, .int j), (5, .int q)]) [0, 1, 2, 3, 4, 5] rfl ?_
  refine v_aload_n C 0 dX5_copy_0 rfl ?_
  refine v_iload_n C 1 dX5_copy_1 rfl ?_
  refine v_callV (qi := 0) C [.int (nI u)] [] kX5_rowAt gX5_copy_X5_rowAt (c_rowAtIn l D cs (xo := xo) (xr := xr) (xd := xd) (ta := ta) (tb := tb) (xi := xi) (aa := aa) (sa := sa) (lf := lf) (fg := fg) (g := g) (j := u) (r := ra) (hu) (gu)) ⟨Nat.le_of_ble_eq_true rfl, Nat.le_of_ble_eq_true rfl⟩ ⟨rfl, rfl⟩ ⟨Nat.zero_le _, Nat.zero_le _⟩ rfl 0 rfl rfl rfl rfl (Nat.le_of_ble_eq_true rfl) [0, 1] [(xo, .inr (5, [.ref xr, .ref xd, .ref ta, .ref tb, .ref xi, .ref aa, .ref sa, .int lf, .int fg])), (xr, .inl (cs 2, 8, .inr (.inr (.inr (.inr g))))), (ra, .inr (3, [.ref rp, .int (b2 sd), .int la, .int (nI an)])), (rp, .inl (cs 0, 40, .inl rf))] rfl (by decide) (show [xo, xr] = [xo, xr] from rfl) (rfl) dX5_copy_2 ?_
  refine V.sts (st' := [.ref ra]) rfl ?_
  refine v_astore C [(0, .ref xo), (1, .int (nI u)), (2, .int i), (3, .int (nI u)), (4, .int j), (5, .int q), (6, .ref ra)] [1, 2, 3, 4, 5, 6, 0] dX5_copy_5 (by decide) rfl ?_
  refine v_aload_n C 0 dX5_copy_7 rfl ?_
  refine v_iload_n C 3 dX5_copy_8 rfl ?_
  refine v_callV (qi := 0) C [.int (nI u)] [] kX5_rowAt gX5_copy_X5_rowAt (c_rowAtIn l D cs (xo := xo) (xr := xr) (xd := xd) (ta := ta) (tb := tb) (xi := xi) (aa := aa) (sa := sa) (lf := lf) (fg := fg) (g := g) (j := u) (r := ra) (hu) (gu)) ⟨Nat.le_of_ble_eq_true rfl, Nat.le_of_ble_eq_true rfl⟩ ⟨rfl, rfl⟩ ⟨Nat.zero_le _, Nat.zero_le _⟩ rfl 0 rfl rfl rfl rfl (Nat.le_of_ble_eq_true rfl) [0, 1] [(xo, .inr (5, [.ref xr, .ref xd, .ref ta, .ref tb, .ref xi, .ref aa, .ref sa, .int lf, .int fg])), (xr, .inl (cs 2, 8, .inr (.inr (.inr (.inr g))))), (ra, .inr (3, [.ref rp, .int (b2 sd), .int la, .int (nI an)])), (rp, .inl (cs 0, 40, .inl rf))] rfl (by decide) (show [xo, xr] = [xo, xr] from rfl) (rfl) dX5_copy_9 ?_
  refine V.sts (st' := [.ref ra]) rfl ?_
  refine v_astore C [(0, .ref xo), (1, .int (nI u)), (2, .int i), (3, .int (nI u)), (4, .int j), (5, .int q), (6, .ref ra), (7, .ref ra)] [1, 2, 3, 4, 5, 6, 7, 0] dX5_copy_12 (by decide) rfl ?_
  refine v_aload C 6 dX5_copy_14 rfl ?_
  refine v_ifnull C dX5_copy_16 ?_
  refine v_aload C 7 dX5_copy_19 rfl ?_
  refine v_ifnonnull C 27 dX5_copy_21 (by decide) ?_
  refine v_aload C 6 dX5_copy_27 rfl ?_
  refine v_getN C (v := .int (b2 sd)) fn_X5_copy_76 2 rfl rfl dX5_copy_29 ?_
  refine v_if_eqB C 43 dX5_copy_32 (by decide) (fun c1 => ?_) (fun c1 => ?_)
  · skip
    refine v_aload_n C 0 dX5_copy_43 rfl ?_
    refine v_iconst C (v := 1) dX5_copy_44 (by decide) ?_
    refine v_callV (qi := 0) C [.int 1] [] kX5_found gX5_copy_X5_found (c_found l D cs (xo := xo) (xr := xr) (xd := xd) (ta := ta) (tb := tb) (xi := xi) (aa := aa) (sa := sa) (lf := lf) (fg := fg) (x := 1) ) ⟨Nat.le_of_ble_eq_true rfl, Nat.le_of_ble_eq_true rfl⟩ ⟨rfl, rfl⟩ ⟨Nat.zero_le _, Nat.zero_le _⟩ rfl 0 rfl rfl rfl rfl (Nat.le_of_ble_eq_true rfl) [0] [(xo, .inr (5, [.ref xr, .ref xd, .ref ta, .ref tb, .ref xi, .ref aa, .ref sa, .int lf, .int 1])), (xr, .inl (cs 2, 8, .inr (.inr (.inr (.inr g))))), (ra, .inr (3, [.ref rp, .int (b2 sd), .int la, .int (nI an)])), (rp, .inl (cs 0, 40, .inl rf))] rfl (by decide) (show [xo] = [xo] from rfl) (rfl) dX5_copy_45 ?_
    refine V.sts (st' := [.int (-1000010 - 1)]) rfl ?_
    exact v_iret C E (by first | rfl | (simp only [c1, ↓reduceIte, Bool.false_eq_true, reduceCtorEq, Bool.and_true, Bool.true_and, Bool.and_false, Bool.false_and]; done) | (simp [c1]; done) | (simp_all [b2]; done)) (by first | rfl | (simp only [c1, ↓reduceIte, Bool.false_eq_true, reduceCtorEq, Bool.and_true, Bool.true_and, Bool.and_false, Bool.false_and]; done) | (simp [c1]; done) | (simp_all [b2]; done)) dX5_copy_48
  · skip
    refine v_aload C 7 dX5_copy_35 rfl ?_
    refine v_getN C (v := .int (b2 sd)) fn_X5_copy_76 2 rfl rfl dX5_copy_37 ?_
    refine v_if_neB C 49 dX5_copy_40 (by decide) (fun c2 => ?_) (fun c2 => ?_)
    · skip
      refine v_aload C 6 dX5_copy_49 rfl ?_
      refine v_getN C (v := .int la) fn_X5_copy_90 2 rfl rfl dX5_copy_51 ?_
      refine v_aload C 7 dX5_copy_54 rfl ?_
      refine v_getN C (v := .int la) fn_X5_copy_90 2 rfl rfl dX5_copy_56 ?_
      refine v_icmp_eq C 68 dX5_copy_59 (by decide) (fun c3 => ?_) (fun c3 => ?_)
      · skip
        refine v_aload C 6 dX5_copy_68 rfl ?_
        refine v_iload_n C 2 dX5_copy_70 rfl ?_
        refine v_iload C 5 dX5_copy_71 rfl ?_
        refine v_callVN (qi := 0) C [.int i, .int q] [] kX3_holds gX5_copy_X3_holds_n80 (host := "TableShares") (by decide +kernel) nq_X5_copy_X3_holds (c_holds l D cs (ra := ra) (rp := rp) (sd := sd) (la := la) (ln := (nI an)) (i := i) (q := q) ) ⟨Nat.le_of_ble_eq_true rfl, Nat.le_of_ble_eq_true rfl⟩ ⟨rfl, rfl⟩ ⟨Nat.zero_le _, Nat.zero_le _⟩ rfl 2 rfl rfl rfl rfl (Nat.le_of_ble_eq_true rfl) [2] [(xo, .inr (5, [.ref xr, .ref xd, .ref ta, .ref tb, .ref xi, .ref aa, .ref sa, .int lf, .int fg])), (xr, .inl (cs 2, 8, .inr (.inr (.inr (.inr g))))), (ra, .inr (3, [.ref rp, .int (b2 sd), .int la, .int (nI an)])), (rp, .inl (cs 0, 40, .inl rf))] rfl (by decide) (show [ra] = [ra] from rfl) (rfl) dX5_copy_73 ?_
        refine V.sts (st' := [.int (b2 (hold (nI an) i q))]) rfl ?_
        refine v_if_eqB C 91 dX5_copy_76 (by decide) (fun c4 => ?_) (fun c4 => ?_)
        · skip
          refine v_aload_n C 0 dX5_copy_91 rfl ?_
          refine v_iconst C (v := 2) dX5_copy_92 (by decide) ?_
          refine v_callV (qi := 0) C [.int 2] [] kX5_found gX5_copy_X5_found (c_found l D cs (xo := xo) (xr := xr) (xd := xd) (ta := ta) (tb := tb) (xi := xi) (aa := aa) (sa := sa) (lf := lf) (fg := fg) (x := 2) ) ⟨Nat.le_of_ble_eq_true rfl, Nat.le_of_ble_eq_true rfl⟩ ⟨rfl, rfl⟩ ⟨Nat.zero_le _, Nat.zero_le _⟩ rfl 0 rfl rfl rfl rfl (Nat.le_of_ble_eq_true rfl) [0] [(xo, .inr (5, [.ref xr, .ref xd, .ref ta, .ref tb, .ref xi, .ref aa, .ref sa, .int lf, .int 2])), (xr, .inl (cs 2, 8, .inr (.inr (.inr (.inr g))))), (ra, .inr (3, [.ref rp, .int (b2 sd), .int la, .int (nI an)])), (rp, .inl (cs 0, 40, .inl rf))] rfl (by decide) (show [xo] = [xo] from rfl) (rfl) dX5_copy_93 ?_
          refine V.sts (st' := [.int (-1000010 - 2)]) rfl ?_
          exact v_iret C E (by first | rfl | (simp only [c1, c2, c3, c4, ↓reduceIte, Bool.false_eq_true, reduceCtorEq, Bool.and_true, Bool.true_and, Bool.and_false, Bool.false_and]; done) | (simp [c1, c2, c3, c4]; done) | (simp_all [b2]; done)) (by first | rfl | (simp only [c1, c2, c3, c4, ↓reduceIte, Bool.false_eq_true, reduceCtorEq, Bool.and_true, Bool.true_and, Bool.and_false, Bool.false_and]; done) | (simp [c1, c2, c3, c4]; done) | (simp_all [b2]; done)) dX5_copy_96
        · skip
          refine v_aload C 7 dX5_copy_79 rfl ?_
          refine v_iload C 4 dX5_copy_81 rfl ?_
          refine v_iload C 5 dX5_copy_83 rfl ?_
          refine v_callVN (qi := 0) C [.int j, .int q] [] kX3_holds gX5_copy_X3_holds_n80 (host := "TableShares") (by decide +kernel) nq_X5_copy_X3_holds (c_holds l D cs (ra := ra) (rp := rp) (sd := sd) (la := la) (ln := (nI an)) (i := j) (q := q) ) ⟨Nat.le_of_ble_eq_true rfl, Nat.le_of_ble_eq_true rfl⟩ ⟨rfl, rfl⟩ ⟨Nat.zero_le _, Nat.zero_le _⟩ rfl 2 rfl rfl rfl rfl (Nat.le_of_ble_eq_true rfl) [2] [(xo, .inr (5, [.ref xr, .ref xd, .ref ta, .ref tb, .ref xi, .ref aa, .ref sa, .int lf, .int fg])), (xr, .inl (cs 2, 8, .inr (.inr (.inr (.inr g))))), (ra, .inr (3, [.ref rp, .int (b2 sd), .int la, .int (nI an)])), (rp, .inl (cs 0, 40, .inl rf))] rfl (by decide) (show [ra] = [ra] from rfl) (rfl) dX5_copy_85 ?_
          refine V.sts (st' := [.int (b2 (hold (nI an) j q))]) rfl ?_
          refine v_if_neB C 97 dX5_copy_88 (by decide) (fun c5 => ?_) (fun c5 => ?_)
          · skip
            refine v_aload C 7 dX5_copy_97 rfl ?_
            refine v_aload C 6 dX5_copy_99 rfl ?_
            refine v_iload_n C 2 dX5_copy_101 rfl ?_
            refine v_iload C 4 dX5_copy_102 rfl ?_
            refine v_iload C 5 dX5_copy_104 rfl ?_
            refine v_callVN (qi := 0) C [.ref ra, .int i, .int j, .int q] [] kX3_takeFrom gX5_copy_X3_takeFrom_n93 (host := "TableShares") (by decide +kernel) nq_X5_copy_X3_takeFrom (c_takeSelf l D cs (ra := ra) (rp := rp) (rf := rf) (sd := sd) (la := la) (ln := (nI an)) (i := i) (j := j) (q := q) (by assumption) (by assumption) (hold_le ha (by assumption)) (hold_le ha (by assumption))) ⟨Nat.le_of_ble_eq_true rfl, Nat.le_of_ble_eq_true rfl⟩ ⟨rfl, rfl⟩ ⟨Nat.zero_le _, Nat.zero_le _⟩ rfl 2 rfl rfl rfl rfl (Nat.le_of_ble_eq_true rfl) [2, 3] [(xo, .inr (5, [.ref xr, .ref xd, .ref ta, .ref tb, .ref xi, .ref aa, .ref sa, .int lf, .int fg])), (xr, .inl (cs 2, 8, .inr (.inr (.inr (.inr g))))), (ra, .inr (3, [.ref rp, .int (b2 sd), .int la, .int (nI an)])), (rp, .inl (cs 0, 40, .inl (va_cpy rf rf (Int32.toNatClampNeg i) (Int32.toNatClampNeg j) (Int32.toNatClampNeg q))))] rfl (by decide) (show [ra, rp] = [ra, rp] from rfl) (rfl) dX5_copy_106 ?_
            refine V.sts (st' := []) rfl ?_
            refine v_aload_n C 0 dX5_copy_109 rfl ?_
            refine v_iload C 5 dX5_copy_110 rfl ?_
            refine v_callV (qi := 0) C [.int q] [] kX5_well gX5_copy_X5_well (c_well l D cs (xo := xo) (xr := xr) (xd := xd) (ta := ta) (tb := tb) (xi := xi) (aa := aa) (sa := sa) (lf := lf) (fg := fg) (x := q) ) ⟨Nat.le_of_ble_eq_true rfl, Nat.le_of_ble_eq_true rfl⟩ ⟨rfl, rfl⟩ ⟨Nat.zero_le _, Nat.zero_le _⟩ rfl 0 rfl rfl rfl rfl (Nat.le_of_ble_eq_true rfl) [0] [(xo, .inr (5, [.ref xr, .ref xd, .ref ta, .ref tb, .ref xi, .ref aa, .ref sa, .int lf, .int 0])), (xr, .inl (cs 2, 8, .inr (.inr (.inr (.inr g))))), (ra, .inr (3, [.ref rp, .int (b2 sd), .int la, .int (nI an)])), (rp, .inl (cs 0, 40, .inl (va_cpy rf rf (Int32.toNatClampNeg i) (Int32.toNatClampNeg j) (Int32.toNatClampNeg q))))] rfl (by decide) (show [xo] = [xo] from rfl) (rfl) dX5_copy_112 ?_
            refine V.sts (st' := [.int q]) rfl ?_
            exact v_iret C E (by first | rfl | (simp only [c1, c2, c3, c4, c5, ↓reduceIte, Bool.false_eq_true, reduceCtorEq, Bool.and_true, Bool.true_and, Bool.and_false, Bool.false_and]; done) | (simp [c1, c2, c3, c4, c5]; done) | (simp_all [b2]; done)) (by first | rfl | (simp only [c1, c2, c3, c4, c5, ↓reduceIte, Bool.false_eq_true, reduceCtorEq, Bool.and_true, Bool.true_and, Bool.and_false, Bool.false_and]; done) | (simp [c1, c2, c3, c4, c5]; done) | (simp_all [b2]; done)) dX5_copy_115
          · skip
            refine v_aload_n C 0 dX5_copy_91 rfl ?_
            refine v_iconst C (v := 2) dX5_copy_92 (by decide) ?_
            refine v_callV (qi := 0) C [.int 2] [] kX5_found gX5_copy_X5_found (c_found l D cs (xo := xo) (xr := xr) (xd := xd) (ta := ta) (tb := tb) (xi := xi) (aa := aa) (sa := sa) (lf := lf) (fg := fg) (x := 2) ) ⟨Nat.le_of_ble_eq_true rfl, Nat.le_of_ble_eq_true rfl⟩ ⟨rfl, rfl⟩ ⟨Nat.zero_le _, Nat.zero_le _⟩ rfl 0 rfl rfl rfl rfl (Nat.le_of_ble_eq_true rfl) [0] [(xo, .inr (5, [.ref xr, .ref xd, .ref ta, .ref tb, .ref xi, .ref aa, .ref sa, .int lf, .int 2])), (xr, .inl (cs 2, 8, .inr (.inr (.inr (.inr g))))), (ra, .inr (3, [.ref rp, .int (b2 sd), .int la, .int (nI an)])), (rp, .inl (cs 0, 40, .inl rf))] rfl (by decide) (show [xo] = [xo] from rfl) (rfl) dX5_copy_93 ?_
            refine V.sts (st' := [.int (-1000010 - 2)]) rfl ?_
            exact v_iret C E (by first | rfl | (simp only [c1, c2, c3, c4, c5, ↓reduceIte, Bool.false_eq_true, reduceCtorEq, Bool.and_true, Bool.true_and, Bool.and_false, Bool.false_and]; done) | (simp [c1, c2, c3, c4, c5]; done) | (simp_all [b2]; done)) (by first | rfl | (simp only [c1, c2, c3, c4, c5, ↓reduceIte, Bool.false_eq_true, reduceCtorEq, Bool.and_true, Bool.true_and, Bool.and_false, Bool.false_and]; done) | (simp [c1, c2, c3, c4, c5]; done) | (simp_all [b2]; done)) dX5_copy_96
      · exact absurd c3 (fun z => z rfl)
    · exact absurd (c1.symm.trans c2) (by decide)
set_option maxHeartbeats 4000000 in
set_option maxRecDepth 100000 in
theorem c_copyOut1 (l : Launch) (D : va_G) (cs : Nat → ClassId) {xo : Nat} {xr : Nat} {xd : Nat} {ta : Nat} {tb : Nat} {xi : Nat} {aa : Nat} {sa : Nat} {lf : Int32} {fg : Int32} {g : Nat → Option Nat} {x0 : Int32} {x1 : Int32} {i : Int32} {j : Int32} {q : Int32} (ho : x0 < 0 ∨ 8 ≤ x0) (ho2 : x1 < 0 ∨ 8 ≤ x1) : CT l D (tz cs) yX5_copy wsX5_copy ({ frames := 2, cells := 0, slots := 0, locals := 64 }) [.ref xo, .int x0, .int i, .int x1, .int j, .int q] [(xo, .inr (5, [.ref xr, .ref xd, .ref ta, .ref tb, .ref xi, .ref aa, .ref sa, .int lf, .int fg])), (xr, .inl (cs 2, 8, .inr (.inr (.inr (.inr g)))))] (some (.int (-1000001))) [(xo, .inr (5, [.ref xr, .ref xd, .ref ta, .ref tb, .ref xi, .ref aa, .ref sa, .int lf, .int fg])), (xr, .inl (cs 2, 8, .inr (.inr (.inr (.inr g)))))] := by
  refine CT.of kX5_copy (Nat.le_of_ble_eq_true rfl) ?_
  intro p e s m below meth c A C E
  have C : VOk p s m _ c cX5_copy 8 wsX5_copy RX5 D (tz cs) A s.heap := C
  refine V.lvs (lv' := [(0, .ref xo), (1, .int x0), (2, .int i), (3, .int x1), (4, .int j), (5, .int q)]) [0, 1, 2, 3, 4, 5] rfl ?_
  refine v_aload_n C 0 dX5_copy_0 rfl ?_
  refine v_iload_n C 1 dX5_copy_1 rfl ?_
  refine v_callV (qi := 0) C [.int x0] [] kX5_rowAt gX5_copy_X5_rowAt (c_rowAtOut l D cs (xo := xo) (xr := xr) (xd := xd) (ta := ta) (tb := tb) (xi := xi) (aa := aa) (sa := sa) (lf := lf) (fg := fg) (g := g) (x := x0) (by first | assumption | omega)) ⟨Nat.le_of_ble_eq_true rfl, Nat.le_of_ble_eq_true rfl⟩ ⟨rfl, rfl⟩ ⟨Nat.zero_le _, Nat.zero_le _⟩ rfl 0 rfl rfl rfl rfl (Nat.le_of_ble_eq_true rfl) [0, 1] [(xo, .inr (5, [.ref xr, .ref xd, .ref ta, .ref tb, .ref xi, .ref aa, .ref sa, .int lf, .int fg])), (xr, .inl (cs 2, 8, .inr (.inr (.inr (.inr g)))))] rfl (by decide) (show [xo, xr] = [xo, xr] from rfl) (rfl) dX5_copy_2 ?_
  refine V.sts (st' := [.null]) rfl ?_
  refine v_astoreN C [(0, .ref xo), (1, .int x0), (2, .int i), (3, .int x1), (4, .int j), (5, .int q), (6, .null)] [1, 2, 3, 4, 5, 6, 0] dX5_copy_5 (by decide) rfl ?_
  refine v_aload_n C 0 dX5_copy_7 rfl ?_
  refine v_iload_n C 3 dX5_copy_8 rfl ?_
  refine v_callV (qi := 0) C [.int x1] [] kX5_rowAt gX5_copy_X5_rowAt (c_rowAtOut l D cs (xo := xo) (xr := xr) (xd := xd) (ta := ta) (tb := tb) (xi := xi) (aa := aa) (sa := sa) (lf := lf) (fg := fg) (g := g) (x := x1) (ho2)) ⟨Nat.le_of_ble_eq_true rfl, Nat.le_of_ble_eq_true rfl⟩ ⟨rfl, rfl⟩ ⟨Nat.zero_le _, Nat.zero_le _⟩ rfl 0 rfl rfl rfl rfl (Nat.le_of_ble_eq_true rfl) [0, 1] [(xo, .inr (5, [.ref xr, .ref xd, .ref ta, .ref tb, .ref xi, .ref aa, .ref sa, .int lf, .int fg])), (xr, .inl (cs 2, 8, .inr (.inr (.inr (.inr g)))))] rfl (by decide) (show [xo, xr] = [xo, xr] from rfl) (rfl) dX5_copy_9 ?_
  refine V.sts (st' := [.null]) rfl ?_
  refine v_astoreN C [(0, .ref xo), (1, .int x0), (2, .int i), (3, .int x1), (4, .int j), (5, .int q), (6, .null), (7, .null)] [1, 2, 3, 4, 5, 6, 7, 0] dX5_copy_12 (by decide) rfl ?_
  refine v_aloadN C 6 dX5_copy_14 rfl ?_
  refine v_ifnullN C 24 dX5_copy_16 (by decide) ?_
  refine v_ldc C (v := -1000001) (by decide +kernel) dX5_copy_24 ?_
  exact v_iret C E (rfl) (by first | rfl | (simp [ho, ho2, ↓reduceIte]; done) | (simp_all [b2]; done)) dX5_copy_26
set_option maxHeartbeats 4000000 in
set_option maxRecDepth 100000 in
theorem c_copyOut2 (l : Launch) (D : va_G) (cs : Nat → ClassId) {xo : Nat} {xr : Nat} {xd : Nat} {ta : Nat} {tb : Nat} {xi : Nat} {aa : Nat} {sa : Nat} {lf : Int32} {fg : Int32} {g : Nat → Option Nat} {x1 : Int32} {i : Int32} {j : Int32} {q : Int32} {u : Nat} {ra : Nat} (hu : u < 8) (gu : g u = some ra) (ho2 : x1 < 0 ∨ 8 ≤ x1) : CT l D (tz cs) yX5_copy wsX5_copy ({ frames := 2, cells := 0, slots := 0, locals := 64 }) [.ref xo, .int (nI u), .int i, .int x1, .int j, .int q] [(xo, .inr (5, [.ref xr, .ref xd, .ref ta, .ref tb, .ref xi, .ref aa, .ref sa, .int lf, .int fg])), (xr, .inl (cs 2, 8, .inr (.inr (.inr (.inr g)))))] (some (.int (-1000001))) [(xo, .inr (5, [.ref xr, .ref xd, .ref ta, .ref tb, .ref xi, .ref aa, .ref sa, .int lf, .int fg])), (xr, .inl (cs 2, 8, .inr (.inr (.inr (.inr g)))))] := by
  refine CT.of kX5_copy (Nat.le_of_ble_eq_true rfl) ?_
  intro p e s m below meth c A C E
  have C : VOk p s m _ c cX5_copy 8 wsX5_copy RX5 D (tz cs) A s.heap := C
  refine V.lvs (lv' := [(0, .ref xo), (1, .int (nI u)), (2, .int i), (3, .int x1), (4, .int j), (5, .int q)]) [0, 1, 2, 3, 4, 5] rfl ?_
  refine v_aload_n C 0 dX5_copy_0 rfl ?_
  refine v_iload_n C 1 dX5_copy_1 rfl ?_
  refine v_callV (qi := 0) C [.int (nI u)] [] kX5_rowAt gX5_copy_X5_rowAt (c_rowAtIn l D cs (xo := xo) (xr := xr) (xd := xd) (ta := ta) (tb := tb) (xi := xi) (aa := aa) (sa := sa) (lf := lf) (fg := fg) (g := g) (j := u) (r := ra) (hu) (gu)) ⟨Nat.le_of_ble_eq_true rfl, Nat.le_of_ble_eq_true rfl⟩ ⟨rfl, rfl⟩ ⟨Nat.zero_le _, Nat.zero_le _⟩ rfl 0 rfl rfl rfl rfl (Nat.le_of_ble_eq_true rfl) [0, 1] [(xo, .inr (5, [.ref xr, .ref xd, .ref ta, .ref tb, .ref xi, .ref aa, .ref sa, .int lf, .int fg])), (xr, .inl (cs 2, 8, .inr (.inr (.inr (.inr g)))))] rfl (by decide) (show [xo, xr] = [xo, xr] from rfl) (rfl) dX5_copy_2 ?_
  refine V.sts (st' := [.ref ra]) rfl ?_
  refine v_astore C [(0, .ref xo), (1, .int (nI u)), (2, .int i), (3, .int x1), (4, .int j), (5, .int q), (6, .ref ra)] [1, 2, 3, 4, 5, 6, 0] dX5_copy_5 (by decide) rfl ?_
  refine v_aload_n C 0 dX5_copy_7 rfl ?_
  refine v_iload_n C 3 dX5_copy_8 rfl ?_
  refine v_callV (qi := 0) C [.int x1] [] kX5_rowAt gX5_copy_X5_rowAt (c_rowAtOut l D cs (xo := xo) (xr := xr) (xd := xd) (ta := ta) (tb := tb) (xi := xi) (aa := aa) (sa := sa) (lf := lf) (fg := fg) (g := g) (x := x1) (ho2)) ⟨Nat.le_of_ble_eq_true rfl, Nat.le_of_ble_eq_true rfl⟩ ⟨rfl, rfl⟩ ⟨Nat.zero_le _, Nat.zero_le _⟩ rfl 0 rfl rfl rfl rfl (Nat.le_of_ble_eq_true rfl) [0, 1] [(xo, .inr (5, [.ref xr, .ref xd, .ref ta, .ref tb, .ref xi, .ref aa, .ref sa, .int lf, .int fg])), (xr, .inl (cs 2, 8, .inr (.inr (.inr (.inr g)))))] rfl (by decide) (show [xo, xr] = [xo, xr] from rfl) (rfl) dX5_copy_9 ?_
  refine V.sts (st' := [.null]) rfl ?_
  refine v_astoreN C [(0, .ref xo), (1, .int (nI u)), (2, .int i), (3, .int x1), (4, .int j), (5, .int q), (6, .ref ra), (7, .null)] [1, 2, 3, 4, 5, 6, 7, 0] dX5_copy_12 (by decide) rfl ?_
  refine v_aload C 6 dX5_copy_14 rfl ?_
  refine v_ifnull C dX5_copy_16 ?_
  refine v_aloadN C 7 dX5_copy_19 rfl ?_
  refine v_ifnonnullN C dX5_copy_21 ?_
  refine v_ldc C (v := -1000001) (by decide +kernel) dX5_copy_24 ?_
  exact v_iret C E (rfl) (by first | rfl | (simp [hu, gu, ho2, ↓reduceIte]; done) | (simp_all [b2]; done)) dX5_copy_26
set_option maxHeartbeats 4000000 in
set_option maxRecDepth 100000 in
theorem c_copyOut3 (l : Launch) (D : va_G) (cs : Nat → ClassId) {xo : Nat} {xr : Nat} {xd : Nat} {ta : Nat} {tb : Nat} {xi : Nat} {aa : Nat} {sa : Nat} {lf : Int32} {fg : Int32} {g : Nat → Option Nat} {x0 : Int32} {i : Int32} {j : Int32} {q : Int32} {v : Nat} {rb : Nat} (hv : v < 8) (gv : g v = some rb) (ho : x0 < 0 ∨ 8 ≤ x0) : CT l D (tz cs) yX5_copy wsX5_copy ({ frames := 2, cells := 0, slots := 0, locals := 64 }) [.ref xo, .int x0, .int i, .int (nI v), .int j, .int q] [(xo, .inr (5, [.ref xr, .ref xd, .ref ta, .ref tb, .ref xi, .ref aa, .ref sa, .int lf, .int fg])), (xr, .inl (cs 2, 8, .inr (.inr (.inr (.inr g)))))] (some (.int (-1000001))) [(xo, .inr (5, [.ref xr, .ref xd, .ref ta, .ref tb, .ref xi, .ref aa, .ref sa, .int lf, .int fg])), (xr, .inl (cs 2, 8, .inr (.inr (.inr (.inr g)))))] := by
  refine CT.of kX5_copy (Nat.le_of_ble_eq_true rfl) ?_
  intro p e s m below meth c A C E
  have C : VOk p s m _ c cX5_copy 8 wsX5_copy RX5 D (tz cs) A s.heap := C
  refine V.lvs (lv' := [(0, .ref xo), (1, .int x0), (2, .int i), (3, .int (nI v)), (4, .int j), (5, .int q)]) [0, 1, 2, 3, 4, 5] rfl ?_
  refine v_aload_n C 0 dX5_copy_0 rfl ?_
  refine v_iload_n C 1 dX5_copy_1 rfl ?_
  refine v_callV (qi := 0) C [.int x0] [] kX5_rowAt gX5_copy_X5_rowAt (c_rowAtOut l D cs (xo := xo) (xr := xr) (xd := xd) (ta := ta) (tb := tb) (xi := xi) (aa := aa) (sa := sa) (lf := lf) (fg := fg) (g := g) (x := x0) (ho)) ⟨Nat.le_of_ble_eq_true rfl, Nat.le_of_ble_eq_true rfl⟩ ⟨rfl, rfl⟩ ⟨Nat.zero_le _, Nat.zero_le _⟩ rfl 0 rfl rfl rfl rfl (Nat.le_of_ble_eq_true rfl) [0, 1] [(xo, .inr (5, [.ref xr, .ref xd, .ref ta, .ref tb, .ref xi, .ref aa, .ref sa, .int lf, .int fg])), (xr, .inl (cs 2, 8, .inr (.inr (.inr (.inr g)))))] rfl (by decide) (show [xo, xr] = [xo, xr] from rfl) (rfl) dX5_copy_2 ?_
  refine V.sts (st' := [.null]) rfl ?_
  refine v_astoreN C [(0, .ref xo), (1, .int x0), (2, .int i), (3, .int (nI v)), (4, .int j), (5, .int q), (6, .null)] [1, 2, 3, 4, 5, 6, 0] dX5_copy_5 (by decide) rfl ?_
  refine v_aload_n C 0 dX5_copy_7 rfl ?_
  refine v_iload_n C 3 dX5_copy_8 rfl ?_
  refine v_callV (qi := 0) C [.int (nI v)] [] kX5_rowAt gX5_copy_X5_rowAt (c_rowAtIn l D cs (xo := xo) (xr := xr) (xd := xd) (ta := ta) (tb := tb) (xi := xi) (aa := aa) (sa := sa) (lf := lf) (fg := fg) (g := g) (j := v) (r := rb) (hv) (gv)) ⟨Nat.le_of_ble_eq_true rfl, Nat.le_of_ble_eq_true rfl⟩ ⟨rfl, rfl⟩ ⟨Nat.zero_le _, Nat.zero_le _⟩ rfl 0 rfl rfl rfl rfl (Nat.le_of_ble_eq_true rfl) [0, 1] [(xo, .inr (5, [.ref xr, .ref xd, .ref ta, .ref tb, .ref xi, .ref aa, .ref sa, .int lf, .int fg])), (xr, .inl (cs 2, 8, .inr (.inr (.inr (.inr g)))))] rfl (by decide) (show [xo, xr] = [xo, xr] from rfl) (rfl) dX5_copy_9 ?_
  refine V.sts (st' := [.ref rb]) rfl ?_
  refine v_astore C [(0, .ref xo), (1, .int x0), (2, .int i), (3, .int (nI v)), (4, .int j), (5, .int q), (6, .null), (7, .ref rb)] [1, 2, 3, 4, 5, 6, 7, 0] dX5_copy_12 (by decide) rfl ?_
  refine v_aloadN C 6 dX5_copy_14 rfl ?_
  refine v_ifnullN C 24 dX5_copy_16 (by decide) ?_
  refine v_ldc C (v := -1000001) (by decide +kernel) dX5_copy_24 ?_
  exact v_iret C E (rfl) (by first | rfl | (simp [hv, gv, ho, ↓reduceIte]; done) | (simp_all [b2]; done)) dX5_copy_26
