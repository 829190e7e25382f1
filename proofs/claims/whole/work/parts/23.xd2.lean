theorem kX5_feed : KD yX5_feed wsX5_feed cX5_feed 2 (some .int) 1 := ⟨⟨_, rfl⟩, by decide, by decide +kernel, by decide +kernel, by decide +kernel⟩
theorem in_X5_feed_X5 : ∀ w ∈ wsX50, w ∈ wsX5_feed := by decide +kernel
theorem fl_X5_feed_19 : FL RX5 wsX5_feed RX5 RX5 TX5 9 5 1 19 := ⟨⟨in_X5_feed_X5, rfl, by decide, rfl⟩, by decide +kernel⟩
theorem in_X5_feed_X2 : ∀ w ∈ wsX20, w ∈ wsX5_feed := by decide +kernel
theorem fn_X5_feed_100 : FLN RX5 wsX5_feed RX2 RX2 TX2 6 2 1 100 := ⟨⟨in_X5_feed_X2, rfl, by decide, rfl⟩, "TableShares", by decide +kernel⟩
theorem nq_X5_feed_X2_append : Cond.initialized yX2_append.cls ∈ wsX5_feed ∧ Cond.instanceMethod yX2_append ∈ wsX5_feed ∧ Cond.selects yX2_append.cls yX2_append yX2_append ∈ wsX5_feed := ⟨by decide +kernel, by decide +kernel, by decide +kernel⟩
set_option maxHeartbeats 4000000 in
set_option maxRecDepth 100000 in
theorem c_feed (l : Launch) (D : va_G) (cs : Nat → ClassId) {xo : Nat} {xr : Nat} {xd : Nat} {ta : Nat} {tb : Nat} {xi : Nat} {aa : Nat} {sa : Nat} {lf : Int32} {fg : Int32} {xt : Nat} {f : Nat → Int32} {len : Nat} {pl : Int32} {nx : Int32} {so : Int32} {va : Int32} {x : Int32} (hlen : len ≤ 120) : CT l D (tz cs) yX5_feed wsX5_feed ({ frames := 2, cells := 0, slots := 0, locals := 43 }) [.ref xo, .int x] [(xo, .inr (5, [.ref xr, .ref xd, .ref ta, .ref tb, .ref xi, .ref aa, .ref sa, .int lf, .int fg])), (xd, .inr (2, [.ref xt, .int (nI len), .int pl, .int nx, .int so, .int va])), (xt, .inl (cs 0, 120, .inl f))] (some (.int (if x < 0 then -1000001 else if 255 < x then -1000001 else if 120 ≤ len then -1000003 else nI (len + 1)))) [(xo, .inr (5, [.ref xr, .ref xd, .ref ta, .ref tb, .ref xi, .ref aa, .ref sa, .int lf, .int fg])), (xd, .inr (2, [.ref xt, .int (nI (if x < 0 then len else if 255 < x then len else if 120 ≤ len then len else len + 1)), .int pl, .int nx, .int so, .int va])), (xt, .inl (cs 0, 120, .inl (if x < 0 then f else if 255 < x then f else if 120 ≤ len then f else upd f len x)))] := by
  refine CT.of kX5_feed (Nat.le_of_ble_eq_true rfl) ?_
  intro p e s m below meth c A C E
  have C : VOk p s m _ c cX5_feed 2 wsX5_feed RX5 D (tz cs) A s.heap := C
  refine V.lvs (lv' := [(0, .ref xo), (1, .int x)]) [0, 1] rfl ?_
  refine v_iload_n C 1 dX5_feed_0 rfl ?_
  refine v_if_lt C 11 dX5_feed_1 (by decide) (fun c1 => ?_) (fun c1 => ?_)
  · skip
    refine v_ldc C (v := -1000001) (by decide +kernel) dX5_feed_11 ?_
    exact v_iret C E (by first | rfl | (simp only [c1, Int32.not_le.mpr c1, ↓reduceIte, Bool.false_eq_true, reduceCtorEq, Bool.and_true, Bool.true_and, Bool.and_false, Bool.false_and]; done) | (simp [c1, Int32.not_le.mpr c1]; done) | (simp_all [b2]; done)) (by first | rfl | (simp only [c1, Int32.not_le.mpr c1, ↓reduceIte, Bool.false_eq_true, reduceCtorEq, Bool.and_true, Bool.true_and, Bool.and_false, Bool.false_and]; done) | (simp [c1, Int32.not_le.mpr c1]; done) | (simp_all [b2]; done)) dX5_feed_13
  · skip
    refine v_iload_n C 1 dX5_feed_4 rfl ?_
    refine v_sipush C (v := 255) dX5_feed_5 (by decide) ?_
    refine v_icmp_le C 14 dX5_feed_8 (by decide) (fun c2 => ?_) (fun c2 => ?_)
    · skip
      refine v_aload_n C 0 dX5_feed_14 rfl ?_
      refine v_get C (v := .ref xd) fl_X5_feed_19 0 rfl rfl dX5_feed_15 ?_
      refine v_getN C (v := .int (nI len)) fn_X5_feed_100 1 rfl rfl dX5_feed_18 ?_
      refine v_bipush C (v := 120) dX5_feed_21 (by decide) ?_
      refine v_icmp_lt C 29 dX5_feed_23 (by decide) (fun c3 => ?_) (fun c3 => ?_)
      · skip
        have hlt : len < 120 := lt_nI (a := len) (b := 120) c3 (by omega) (by decide)
        refine v_aload_n C 0 dX5_feed_29 rfl ?_
        refine v_get C (v := .ref xd) fl_X5_feed_19 0 rfl rfl dX5_feed_30 ?_
        refine v_iload_n C 1 dX5_feed_33 rfl ?_
        refine v_callVN (qi := 0) C [.int x] [] kX2_append gX5_feed_X2_append_n102 (host := "TableShares") (by decide +kernel) nq_X5_feed_X2_append (c_append l D cs (xd := xd) (xt := xt) (f := f) (len := len) (pl := pl) (nx := nx) (so := so) (va := va) (x := x) (hlt)) ⟨Nat.le_of_ble_eq_true rfl, Nat.le_of_ble_eq_true rfl⟩ ⟨rfl, rfl⟩ ⟨Nat.zero_le _, Nat.zero_le _⟩ rfl 1 rfl rfl rfl rfl (Nat.le_of_ble_eq_true rfl) [1, 2] [(xo, .inr (5, [.ref xr, .ref xd, .ref ta, .ref tb, .ref xi, .ref aa, .ref sa, .int lf, .int fg])), (xd, .inr (2, [.ref xt, .int (nI (len + 1)), .int pl, .int nx, .int so, .int va])), (xt, .inl (cs 0, 120, .inl (upd f len x)))] rfl (by decide) (show [xd, xt] = [xd, xt] from rfl) (rfl) dX5_feed_34 ?_
        refine V.sts (st' := []) rfl ?_
        refine v_aload_n C 0 dX5_feed_37 rfl ?_
        refine v_get C (v := .ref xd) fl_X5_feed_19 0 rfl rfl dX5_feed_38 ?_
        refine v_getN C (v := .int (nI (len + 1))) fn_X5_feed_100 1 rfl rfl dX5_feed_41 ?_
        exact v_iret C E (by first | rfl | (simp only [c1, Int32.not_lt.mp c1, c2, Int32.not_lt.mpr c2, Nat.not_le.mpr hlt, ↓reduceIte, Bool.false_eq_true, reduceCtorEq, Bool.and_true, Bool.true_and, Bool.and_false, Bool.false_and]; done) | (simp [c1, Int32.not_lt.mp c1, c2, Int32.not_lt.mpr c2, Nat.not_le.mpr hlt]; done) | (simp_all [b2]; done)) (by first | rfl | (simp only [c1, Int32.not_lt.mp c1, c2, Int32.not_lt.mpr c2, Nat.not_le.mpr hlt, ↓reduceIte, Bool.false_eq_true, reduceCtorEq, Bool.and_true, Bool.true_and, Bool.and_false, Bool.false_and]; done) | (simp [c1, Int32.not_lt.mp c1, c2, Int32.not_lt.mpr c2, Nat.not_le.mpr hlt]; done) | (simp_all [b2]; done)) dX5_feed_44
      · skip
        have hge : 120 ≤ len := nlt_nI (a := len) (b := 120) c3 (by omega) (by decide)
        refine v_ldc C (v := -1000003) (by decide +kernel) dX5_feed_26 ?_
        exact v_iret C E (by first | rfl | (simp only [c1, Int32.not_lt.mp c1, c2, Int32.not_lt.mpr c2, hge, ↓reduceIte, Bool.false_eq_true, reduceCtorEq, Bool.and_true, Bool.true_and, Bool.and_false, Bool.false_and]; done) | (simp [c1, Int32.not_lt.mp c1, c2, Int32.not_lt.mpr c2, hge]; done) | (simp_all [b2]; done)) (by first | rfl | (simp only [c1, Int32.not_lt.mp c1, c2, Int32.not_lt.mpr c2, hge, ↓reduceIte, Bool.false_eq_true, reduceCtorEq, Bool.and_true, Bool.true_and, Bool.and_false, Bool.false_and]; done) | (simp [c1, Int32.not_lt.mp c1, c2, Int32.not_lt.mpr c2, hge]; done) | (simp_all [b2]; done)) dX5_feed_28
    · skip
      refine v_ldc C (v := -1000001) (by decide +kernel) dX5_feed_11 ?_
      exact v_iret C E (by first | rfl | (simp only [c1, Int32.not_lt.mp c1, c2, Int32.not_le.mp c2, ↓reduceIte, Bool.false_eq_true, reduceCtorEq, Bool.and_true, Bool.true_and, Bool.and_false, Bool.false_and]; done) | (simp [c1, Int32.not_lt.mp c1, c2, Int32.not_le.mp c2]; done) | (simp_all [b2]; done)) (by first | rfl | (simp only [c1, Int32.not_lt.mp c1, c2, Int32.not_le.mp c2, ↓reduceIte, Bool.false_eq_true, reduceCtorEq, Bool.and_true, Bool.true_and, Bool.and_false, Bool.false_and]; done) | (simp [c1, Int32.not_lt.mp c1, c2, Int32.not_le.mp c2]; done) | (simp_all [b2]; done)) dX5_feed_13
theorem kX5_fault : KD yX5_fault wsX5_fault cX5_fault 1 (some .int) 0 := ⟨⟨_, rfl⟩, by decide, by decide +kernel, by decide +kernel, by decide +kernel⟩
theorem in_X5_fault_X5 : ∀ w ∈ wsX50, w ∈ wsX5_fault := by decide +kernel
theorem fl_X5_fault_53 : FL RX5 wsX5_fault RX5 RX5 TX5 9 5 7 53 := ⟨⟨in_X5_fault_X5, rfl, by decide, rfl⟩, by decide +kernel⟩
set_option maxHeartbeats 4000000 in
set_option maxRecDepth 100000 in
theorem c_fault (l : Launch) (D : va_G) (cs : Nat → ClassId) {xo : Nat} {xr : Nat} {xd : Nat} {ta : Nat} {tb : Nat} {xi : Nat} {aa : Nat} {sa : Nat} {lf : Int32} {fg : Int32} : CT l D (tz cs) yX5_fault wsX5_fault ({ frames := 0, cells := 0, slots := 0, locals := 0 }) [.ref xo] [(xo, .inr (5, [.ref xr, .ref xd, .ref ta, .ref tb, .ref xi, .ref aa, .ref sa, .int lf, .int fg]))] (some (.int lf)) [(xo, .inr (5, [.ref xr, .ref xd, .ref ta, .ref tb, .ref xi, .ref aa, .ref sa, .int lf, .int fg]))] := by
  refine CT.of kX5_fault (Nat.le_of_ble_eq_true rfl) ?_
  intro p e s m below meth c A C E
  have C : VOk p s m _ c cX5_fault 1 wsX5_fault RX5 D (tz cs) A s.heap := C
  refine V.lvs (lv' := [(0, .ref xo)]) [0] rfl ?_
  refine v_aload_n C 0 dX5_fault_0 rfl ?_
  refine v_get C (v := .int lf) fl_X5_fault_53 0 rfl rfl dX5_fault_1 ?_
  exact v_iret C E (rfl) (by first | rfl | (simp [↓reduceIte]; done) | (simp_all [b2]; done)) dX5_fault_4
theorem kX5_status : KD yX5_status wsX5_status cX5_status 1 (some .int) 0 := ⟨⟨_, rfl⟩, by decide, by decide +kernel, by decide +kernel, by decide +kernel⟩
theorem in_X5_status_X5 : ∀ w ∈ wsX50, w ∈ wsX5_status := by decide +kernel
theorem fl_X5_status_57 : FL RX5 wsX5_status RX5 RX5 TX5 9 5 8 57 := ⟨⟨in_X5_status_X5, rfl, by decide, rfl⟩, by decide +kernel⟩
set_option maxHeartbeats 4000000 in
set_option maxRecDepth 100000 in
theorem c_status (l : Launch) (D : va_G) (cs : Nat → ClassId) {xo : Nat} {xr : Nat} {xd : Nat} {ta : Nat} {tb : Nat} {xi : Nat} {aa : Nat} {sa : Nat} {lf : Int32} {fg : Int32} : CT l D (tz cs) yX5_status wsX5_status ({ frames := 0, cells := 0, slots := 0, locals := 0 }) [.ref xo] [(xo, .inr (5, [.ref xr, .ref xd, .ref ta, .ref tb, .ref xi, .ref aa, .ref sa, .int lf, .int fg]))] (some (.int fg)) [(xo, .inr (5, [.ref xr, .ref xd, .ref ta, .ref tb, .ref xi, .ref aa, .ref sa, .int lf, .int fg]))] := by
  refine CT.of kX5_status (Nat.le_of_ble_eq_true rfl) ?_
  intro p e s m below meth c A C E
  have C : VOk p s m _ c cX5_status 1 wsX5_status RX5 D (tz cs) A s.heap := C
  refine V.lvs (lv' := [(0, .ref xo)]) [0] rfl ?_
  refine v_aload_n C 0 dX5_status_0 rfl ?_
  refine v_get C (v := .int fg) fl_X5_status_57 0 rfl rfl dX5_status_1 ?_
  exact v_iret C E (rfl) (by first | rfl | (simp [↓reduceIte]; done) | (simp_all [b2]; done)) dX5_status_4
