theorem kX6_row : KD yX6_row wsX6_row cX6_row 5 (some .int) 3 := ⟨⟨_, rfl⟩, by decide, by decide +kernel, by decide +kernel, by decide +kernel⟩
theorem in_X6_row_X6 : ∀ w ∈ wsX60, w ∈ wsX6_row := by decide +kernel
theorem fl_X6_row_7 : FL RX6 wsX6_row RX6 RX6 TX6 22 6 0 7 := ⟨⟨in_X6_row_X6, rfl, by decide, rfl⟩, by decide +kernel⟩
theorem fl_X6_row_13 : FL RX6 wsX6_row RX6 RX6 TX6 22 6 1 13 := ⟨⟨in_X6_row_X6, rfl, by decide, rfl⟩, by decide +kernel⟩
theorem fl_X6_row_16 : FL RX6 wsX6_row RX6 RX6 TX6 22 6 2 16 := ⟨⟨in_X6_row_X6, rfl, by decide, rfl⟩, by decide +kernel⟩
set_option maxHeartbeats 4000000 in
set_option maxRecDepth 100000 in
theorem c_mrowIn (l : Launch) (D : va_G) (cs : Nat → ClassId) {mo : Nat} {ml : Nat} {mz : Nat} {mi : Nat} {mt : Nat} {mv : Nat} {mp : Nat} {md : Nat} {mc : Nat} {mk : Nat} {mq : Nat} {mr : Nat} {su : Int32} {it : Bool} {nby : Int32} {lt : Int32} {pl : Int32} {tok : Int32} {va : Int32} {be : Int32} {wr : Int32} {am : Int32} {td : Int32} {laf : Nat → Int32} {szf : Nat → Int32} {itf : Nat → Int32} {j : Nat} {x : Int32} {y : Int32} (hj : j < 8) : CT l D (tz cs) yX6_row wsX6_row ({ frames := 2, cells := 0, slots := 0, locals := 45 }) [.ref mo, .int (nI j), .int x, .int y] [(mo, .inr (6, [.ref ml, .ref mz, .ref mi, .int su, .int (b2 it), .ref mt, .ref mv, .ref mp, .int nby, .int lt, .int pl, .int tok, .int va, .int be, .int wr, .ref md, .ref mc, .int am, .ref mk, .ref mq, .ref mr, .int td])), (ml, .inl (cs 0, 8, .inl laf)), (mz, .inl (cs 0, 8, .inl szf)), (mi, .inl (cs 0, 320, .inl itf))] (some (.int (if inI x 0 2 = true then (if y ≤ 40 then (if 0 ≤ y then y else -1000010 - 4) else -1000001) else -1000001))) [(mo, .inr (6, [.ref ml, .ref mz, .ref mi, .int (if inI x 0 2 = true then (if y ≤ 40 then (if 0 ≤ y then 0 else 4) else su) else su), .int (b2 it), .ref mt, .ref mv, .ref mp, .int nby, .int lt, .int pl, .int tok, .int va, .int be, .int wr, .ref md, .ref mc, .int am, .ref mk, .ref mq, .ref mr, .int td])), (ml, .inl (cs 0, 8, .inl (if inI x 0 2 = true then (if y ≤ 40 then (if 0 ≤ y then upd laf j x else laf) else laf) else laf))), (mz, .inl (cs 0, 8, .inl (if inI x 0 2 = true then (if y ≤ 40 then (if 0 ≤ y then upd szf j y else szf) else szf) else szf))), (mi, .inl (cs 0, 320, .inl (if inI x 0 2 = true then (if y ≤ 40 then (if 0 ≤ y then zr2 itf (40 * j) 40 else itf) else itf) else itf)))] := by
  refine CT.of kX6_row (Nat.le_of_ble_eq_true rfl) ?_
  intro p e s m below meth c A C E
  have C : VOk p s m _ c cX6_row 5 wsX6_row RX6 D (tz cs) A s.heap := C
  refine V.lvs (lv' := [(0, .ref mo), (1, .int (nI j)), (2, .int x), (3, .int y)]) [0, 1, 2, 3] rfl ?_
  refine v_iload_n C 1 dX6_row_0 rfl ?_
  refine v_callS C [.int (nI j)] [] kX6_isRow gX6_row_X6_isRow (c_isRow l D cs (x := (nI j)) ) ⟨Nat.le_of_ble_eq_true rfl, Nat.le_of_ble_eq_true rfl⟩ ⟨rfl, rfl⟩ ⟨Nat.zero_le _, Nat.zero_le _⟩ rfl rfl (Nat.le_of_ble_eq_true rfl) [] [(mo, .inr (6, [.ref ml, .ref mz, .ref mi, .int su, .int (b2 it), .ref mt, .ref mv, .ref mp, .int nby, .int lt, .int pl, .int tok, .int va, .int be, .int wr, .ref md, .ref mc, .int am, .ref mk, .ref mq, .ref mr, .int td])), (ml, .inl (cs 0, 8, .inl laf)), (mz, .inl (cs 0, 8, .inl szf)), (mi, .inl (cs 0, 320, .inl itf))] rfl (by decide) rfl (rfl) dX6_row_1 ?_
  refine V.sts (st' := [.int (b2 (inB 8 (nI j)))]) rfl ?_
  refine v_if_eqB C 25 dX6_row_4 (by decide) (fun c1 => ?_) (fun c1 => ?_)
  · exact absurd ((inB_in (n := 8) (by decide) hj).symm.trans c1) (by decide)
  · skip
    refine v_iload_n C 2 dX6_row_7 rfl ?_
    refine v_i2l C dX6_row_8 ?_
    refine v_lconst C (v := 0) dX6_row_9 (by decide) ?_
    refine v_ldc2 C (v := 2) (by decide +kernel) dX6_row_10 ?_
    refine v_callS C [.long (Int32.toInt64 x), .long 0, .long 2] [] kX6_in gX6_row_X6_in (c_inI l D cs (x := x) (a := 0) (b := 2) (lo := 0) (hi := 2) (by decide) (by decide)) ⟨Nat.le_of_ble_eq_true rfl, Nat.le_of_ble_eq_true rfl⟩ ⟨rfl, rfl⟩ ⟨Nat.zero_le _, Nat.zero_le _⟩ rfl rfl (Nat.le_of_ble_eq_true rfl) [] [(mo, .inr (6, [.ref ml, .ref mz, .ref mi, .int su, .int (b2 it), .ref mt, .ref mv, .ref mp, .int nby, .int lt, .int pl, .int tok, .int va, .int be, .int wr, .ref md, .ref mc, .int am, .ref mk, .ref mq, .ref mr, .int td])), (ml, .inl (cs 0, 8, .inl laf)), (mz, .inl (cs 0, 8, .inl szf)), (mi, .inl (cs 0, 320, .inl itf))] rfl (by decide) rfl (rfl) dX6_row_13 ?_
    refine V.sts (st' := [.int (b2 (inI x 0 2))]) rfl ?_
    refine v_if_eqB C 25 dX6_row_16 (by decide) (fun c2 => ?_) (fun c2 => ?_)
    · skip
      refine v_ldc C (v := -1000001) (by decide +kernel) dX6_row_25 ?_
      exact v_iret C E (by first | rfl | (simp only [c1, c2, ↓reduceIte, Bool.false_eq_true, reduceCtorEq, Bool.and_true, Bool.true_and, Bool.and_false, Bool.false_and]; done) | (simp [c1, c2]; done) | (simp_all [b2]; done)) (by first | rfl | (simp only [c1, c2, ↓reduceIte, Bool.false_eq_true, reduceCtorEq, Bool.and_true, Bool.true_and, Bool.and_false, Bool.false_and]; done) | (simp [c1, c2]; done) | (simp_all [b2]; done)) dX6_row_27
    · skip
      refine v_iload_n C 3 dX6_row_19 rfl ?_
      refine v_bipush C (v := 40) dX6_row_20 (by decide) ?_
      refine v_icmp_le C 28 dX6_row_22 (by decide) (fun c3 => ?_) (fun c3 => ?_)
      · skip
        refine v_iload_n C 3 dX6_row_28 rfl ?_
        refine v_if_ge C 38 dX6_row_29 (by decide) (fun c4 => ?_) (fun c4 => ?_)
        · skip
          refine v_aload_n C 0 dX6_row_38 rfl ?_
          refine v_get C (v := .ref ml) fl_X6_row_7 0 rfl rfl dX6_row_39 ?_
          refine v_iload_n C 1 dX6_row_42 rfl ?_
          refine v_iload_n C 2 dX6_row_43 rfl ?_
          refine v_iast C 1 0 rfl rfl (vp_in_nI (by omega) (by omega)) [(mo, .inr (6, [.ref ml, .ref mz, .ref mi, .int su, .int (b2 it), .ref mt, .ref mv, .ref mp, .int nby, .int lt, .int pl, .int tok, .int va, .int be, .int wr, .ref md, .ref mc, .int am, .ref mk, .ref mq, .ref mr, .int td])), (ml, .inl (cs 0, 8, .inl (upd laf j x))), (mz, .inl (cs 0, 8, .inl szf)), (mi, .inl (cs 0, 320, .inl itf))] (by rw [nI_clamp (by omega)]; rfl) dX6_row_44 ?_
          refine v_aload_n C 0 dX6_row_45 rfl ?_
          refine v_get C (v := .ref mz) fl_X6_row_13 0 rfl rfl dX6_row_46 ?_
          refine v_iload_n C 1 dX6_row_49 rfl ?_
          refine v_iload_n C 3 dX6_row_50 rfl ?_
          refine v_iast C 2 0 rfl rfl (vp_in_nI (by omega) (by omega)) [(mo, .inr (6, [.ref ml, .ref mz, .ref mi, .int su, .int (b2 it), .ref mt, .ref mv, .ref mp, .int nby, .int lt, .int pl, .int tok, .int va, .int be, .int wr, .ref md, .ref mc, .int am, .ref mk, .ref mq, .ref mr, .int td])), (ml, .inl (cs 0, 8, .inl (upd laf j x))), (mz, .inl (cs 0, 8, .inl (upd szf j y))), (mi, .inl (cs 0, 320, .inl itf))] (by rw [nI_clamp (by omega)]; rfl) dX6_row_51 ?_
          refine v_iconst C (v := 0) dX6_row_52 (by decide) ?_
          refine v_istore C [(0, .ref mo), (1, .int (nI j)), (2, .int x), (3, .int y), (4, .int 0)] [1, 2, 3, 4, 0] dX6_row_53 (by decide) rfl ?_
          have L55 : ∀ (n : Nat) (i : Nat) (y0 : Int32) (y1 : Nat → Int32), y0 = (nI i) → y1 = zr2 itf (40 * j) i → (i ≤ 40) → (40 - i) < n → V p l e ({ frames := 2, cells := 0, slots := 0, locals := 45 }) s m (List.toArray [.ref mo, .int (nI j), .int x, .int y]) below meth c 0 0 (MQ below (vq_Q (some (.int (if inI x 0 2 = true then (if y ≤ 40 then (if 0 ≤ y then y else -1000010 - 4) else -1000001) else -1000001))) D [(mo, .inr (6, [.ref ml, .ref mz, .ref mi, .int (if inI x 0 2 = true then (if y ≤ 40 then (if 0 ≤ y then 0 else 4) else su) else su), .int (b2 it), .ref mt, .ref mv, .ref mp, .int nby, .int lt, .int pl, .int tok, .int va, .int be, .int wr, .ref md, .ref mc, .int am, .ref mk, .ref mq, .ref mr, .int td])), (ml, .inl (cs 0, 8, .inl (if inI x 0 2 = true then (if y ≤ 40 then (if 0 ≤ y then upd laf j x else laf) else laf) else laf))), (mz, .inl (cs 0, 8, .inl (if inI x 0 2 = true then (if y ≤ 40 then (if 0 ≤ y then upd szf j y else szf) else szf) else szf))), (mi, .inl (cs 0, 320, .inl (if inI x 0 2 = true then (if y ≤ 40 then (if 0 ≤ y then zr2 itf (40 * j) 40 else itf) else itf) else itf)))] [(mo, .inr (6, [.ref ml, .ref mz, .ref mi, .int su, .int (b2 it), .ref mt, .ref mv, .ref mp, .int nby, .int lt, .int pl, .int tok, .int va, .int be, .int wr, .ref md, .ref mc, .int am, .ref mk, .ref mq, .ref mr, .int td])), (ml, .inl (cs 0, 8, .inl laf)), (mz, .inl (cs 0, 8, .inl szf)), (mi, .inl (cs 0, 320, .inl itf))] s.heap.size) (List.toArray [.ref mo, .int (nI j), .int x, .int y]) s 0 0 (va_A [(mo, .inr (6, [.ref ml, .ref mz, .ref mi, .int su, .int (b2 it), .ref mt, .ref mv, .ref mp, .int nby, .int lt, .int pl, .int tok, .int va, .int be, .int wr, .ref md, .ref mc, .int am, .ref mk, .ref mq, .ref mr, .int td])), (ml, .inl (cs 0, 8, .inl laf)), (mz, .inl (cs 0, 8, .inl szf)), (mi, .inl (cs 0, 320, .inl itf))] s.heap.size)) 5 D A s.heap 55 [(0, .ref mo), (1, .int (nI j)), (2, .int x), (3, .int y), (4, .int y0)] [] [(mo, .inr (6, [.ref ml, .ref mz, .ref mi, .int su, .int (b2 it), .ref mt, .ref mv, .ref mp, .int nby, .int lt, .int pl, .int tok, .int va, .int be, .int wr, .ref md, .ref mc, .int am, .ref mk, .ref mq, .ref mr, .int td])), (ml, .inl (cs 0, 8, .inl (upd laf j x))), (mz, .inl (cs 0, 8, .inl (upd szf j y))), (mi, .inl (cs 0, 320, .inl y1))] := by
            intro n
            induction n with
            | zero =>
              intros; omega
            | succ n ih55 =>
              intro i y0 y1 ey0 ey1 hi hn
              subst ey0
              subst ey1
              refine v_iload C 4 dX6_row_55 rfl ?_
              refine v_bipush C (v := 40) dX6_row_57 (by decide) ?_
              refine v_icmp_ge C 81 dX6_row_59 (by decide) (fun c5 => ?_) (fun c5 => ?_)
              · skip
                have hge : 40 ≤ i := le_nI (a := 40) (b := i) c5 (by omega) (by omega)
                have h40 : i = 40 := by omega
                refine v_aload_n C 0 dX6_row_81 rfl ?_
                refine v_iload_n C 3 dX6_row_82 rfl ?_
                refine v_callV (qi := 0) C [.int y] [] kX6_well gX6_row_X6_well (c_mwell l D cs (mo := mo) (ml := ml) (mz := mz) (mi := mi) (mt := mt) (mv := mv) (mp := mp) (md := md) (mc := mc) (mk := mk) (mq := mq) (mr := mr) (su := su) (it := it) (nby := nby) (lt := lt) (pl := pl) (tok := tok) (va := va) (be := be) (wr := wr) (am := am) (td := td) (x := y) ) ⟨Nat.le_of_ble_eq_true rfl, Nat.le_of_ble_eq_true rfl⟩ ⟨rfl, rfl⟩ ⟨Nat.zero_le _, Nat.zero_le _⟩ rfl 0 rfl rfl rfl rfl (Nat.le_of_ble_eq_true rfl) [0] [(mo, .inr (6, [.ref ml, .ref mz, .ref mi, .int 0, .int (b2 it), .ref mt, .ref mv, .ref mp, .int nby, .int lt, .int pl, .int tok, .int va, .int be, .int wr, .ref md, .ref mc, .int am, .ref mk, .ref mq, .ref mr, .int td])), (ml, .inl (cs 0, 8, .inl (upd laf j x))), (mz, .inl (cs 0, 8, .inl (upd szf j y))), (mi, .inl (cs 0, 320, .inl (zr2 itf (40 * j) i)))] rfl (by decide) (show [mo] = [mo] from rfl) (rfl) dX6_row_83 ?_
                refine V.sts (st' := [.int y]) rfl ?_
                exact v_iret C E (by first | rfl | (simp only [c1, c2, c3, Int32.not_lt.mpr c3, c4, Int32.not_lt.mpr c4, c5, Int32.not_lt.mpr c5, h40, ↓reduceIte, Bool.false_eq_true, reduceCtorEq, Bool.and_true, Bool.true_and, Bool.and_false, Bool.false_and]; done) | (simp [c1, c2, c3, Int32.not_lt.mpr c3, c4, Int32.not_lt.mpr c4, c5, Int32.not_lt.mpr c5, h40]; done) | (simp_all [b2]; done)) (by first | rfl | (simp only [c1, c2, c3, Int32.not_lt.mpr c3, c4, Int32.not_lt.mpr c4, c5, Int32.not_lt.mpr c5, h40, ↓reduceIte, Bool.false_eq_true, reduceCtorEq, Bool.and_true, Bool.true_and, Bool.and_false, Bool.false_and]; done) | (simp [c1, c2, c3, Int32.not_lt.mpr c3, c4, Int32.not_lt.mpr c4, c5, Int32.not_lt.mpr c5, h40]; done) | (simp_all [b2]; done)) dX6_row_86
              · skip
                have hlt : i < 40 := nle_nI (b := i) (a := 40) c5 (by omega) (by omega)
                refine v_aload_n C 0 dX6_row_62 rfl ?_
                refine v_get C (v := .ref mi) fl_X6_row_16 0 rfl rfl dX6_row_63 ?_
                refine v_bipush C (v := 40) dX6_row_66 (by decide) ?_
                refine v_iload_n C 1 dX6_row_68 rfl ?_
                refine v_imul C dX6_row_69 ?_
                refine v_iload C 4 dX6_row_70 rfl ?_
                refine v_iadd C dX6_row_72 ?_
                refine V.topr (y := nI (40 * j + i)) (ix40 _ _) ?_
                refine v_iconst C (v := 0) dX6_row_73 (by decide) ?_
                refine v_iast C 3 0 rfl rfl (vp_in_nI (by omega) (by omega)) [(mo, .inr (6, [.ref ml, .ref mz, .ref mi, .int su, .int (b2 it), .ref mt, .ref mv, .ref mp, .int nby, .int lt, .int pl, .int tok, .int va, .int be, .int wr, .ref md, .ref mc, .int am, .ref mk, .ref mq, .ref mr, .int td])), (ml, .inl (cs 0, 8, .inl (upd laf j x))), (mz, .inl (cs 0, 8, .inl (upd szf j y))), (mi, .inl (cs 0, 320, .inl (upd (zr2 itf (40 * j) i) (40 * j + i) 0)))] (by rw [nI_clamp (by omega)]; rfl) dX6_row_74 ?_
                refine v_iinc C (k := 4) (nI (i + 1)) [(0, .ref mo), (1, .int (nI j)), (2, .int x), (3, .int y), (4, .int (nI (i + 1)))] [1, 2, 3, 4, 0] dX6_row_75 rfl (nI_inc _) (by decide) rfl ?_
                refine v_goto C 55 dX6_row_78 (by decide) ?_
                exact ih55 (i + 1) _ _ (rfl) (zr2_s _ _ _) (by first | assumption | omega) (by omega)
          exact L55 _ 0 _ _ (rfl) (zr2_0 _ _) (by first | assumption | omega) (Nat.lt_succ_self _)
        · skip
          refine v_aload_n C 0 dX6_row_32 rfl ?_
          refine v_iconst C (v := 4) dX6_row_33 (by decide) ?_
          refine v_callV (qi := 0) C [.int 4] [] kX6_find gX6_row_X6_find (c_find l D cs (mo := mo) (ml := ml) (mz := mz) (mi := mi) (mt := mt) (mv := mv) (mp := mp) (md := md) (mc := mc) (mk := mk) (mq := mq) (mr := mr) (su := su) (it := it) (nby := nby) (lt := lt) (pl := pl) (tok := tok) (va := va) (be := be) (wr := wr) (am := am) (td := td) (x := 4) ) ⟨Nat.le_of_ble_eq_true rfl, Nat.le_of_ble_eq_true rfl⟩ ⟨rfl, rfl⟩ ⟨Nat.zero_le _, Nat.zero_le _⟩ rfl 0 rfl rfl rfl rfl (Nat.le_of_ble_eq_true rfl) [0] [(mo, .inr (6, [.ref ml, .ref mz, .ref mi, .int 4, .int (b2 it), .ref mt, .ref mv, .ref mp, .int nby, .int lt, .int pl, .int tok, .int va, .int be, .int wr, .ref md, .ref mc, .int am, .ref mk, .ref mq, .ref mr, .int td])), (ml, .inl (cs 0, 8, .inl laf)), (mz, .inl (cs 0, 8, .inl szf)), (mi, .inl (cs 0, 320, .inl itf))] rfl (by decide) (show [mo] = [mo] from rfl) (rfl) dX6_row_34 ?_
          refine V.sts (st' := [.int (-1000010 - 4)]) rfl ?_
          exact v_iret C E (by first | rfl | (simp only [c1, c2, c3, Int32.not_lt.mpr c3, c4, Int32.not_le.mp c4, ↓reduceIte, Bool.false_eq_true, reduceCtorEq, Bool.and_true, Bool.true_and, Bool.and_false, Bool.false_and]; done) | (simp [c1, c2, c3, Int32.not_lt.mpr c3, c4, Int32.not_le.mp c4]; done) | (simp_all [b2]; done)) (by first | rfl | (simp only [c1, c2, c3, Int32.not_lt.mpr c3, c4, Int32.not_le.mp c4, ↓reduceIte, Bool.false_eq_true, reduceCtorEq, Bool.and_true, Bool.true_and, Bool.and_false, Bool.false_and]; done) | (simp [c1, c2, c3, Int32.not_lt.mpr c3, c4, Int32.not_le.mp c4]; done) | (simp_all [b2]; done)) dX6_row_37
      · skip
        refine v_ldc C (v := -1000001) (by decide +kernel) dX6_row_25 ?_
        exact v_iret C E (by first | rfl | (simp only [c1, c2, c3, Int32.not_le.mp c3, ↓reduceIte, Bool.false_eq_true, reduceCtorEq, Bool.and_true, Bool.true_and, Bool.and_false, Bool.false_and]; done) | (simp [c1, c2, c3, Int32.not_le.mp c3]; done) | (simp_all [b2]; done)) (by first | rfl | (simp only [c1, c2, c3, Int32.not_le.mp c3, ↓reduceIte, Bool.false_eq_true, reduceCtorEq, Bool.and_true, Bool.true_and, Bool.and_false, Bool.false_and]; done) | (simp [c1, c2, c3, Int32.not_le.mp c3]; done) | (simp_all [b2]; done)) dX6_row_27
set_option maxHeartbeats 4000000 in
set_option maxRecDepth 100000 in
theorem c_mrowOut (l : Launch) (D : va_G) (cs : Nat → ClassId) {mo : Nat} {ml : Nat} {mz : Nat} {mi : Nat} {mt : Nat} {mv : Nat} {mp : Nat} {md : Nat} {mc : Nat} {mk : Nat} {mq : Nat} {mr : Nat} {su : Int32} {it : Bool} {nby : Int32} {lt : Int32} {pl : Int32} {tok : Int32} {va : Int32} {be : Int32} {wr : Int32} {am : Int32} {td : Int32} {x0 : Int32} {x : Int32} {y : Int32} (ho : inB 8 x0 = false) : CT l D (tz cs) yX6_row wsX6_row ({ frames := 2, cells := 0, slots := 0, locals := 45 }) [.ref mo, .int x0, .int x, .int y] [(mo, .inr (6, [.ref ml, .ref mz, .ref mi, .int su, .int (b2 it), .ref mt, .ref mv, .ref mp, .int nby, .int lt, .int pl, .int tok, .int va, .int be, .int wr, .ref md, .ref mc, .int am, .ref mk, .ref mq, .ref mr, .int td]))] (some (.int (-1000001))) [(mo, .inr (6, [.ref ml, .ref mz, .ref mi, .int su, .int (b2 it), .ref mt, .ref mv, .ref mp, .int nby, .int lt, .int pl, .int tok, .int va, .int be, .int wr, .ref md, .ref mc, .int am, .ref mk, .ref mq, .ref mr, .int td]))] := by
  refine CT.of kX6_row (Nat.le_of_ble_eq_true rfl) ?_
  intro p e s m below meth c A C E
  have C : VOk p s m _ c cX6_row 5 wsX6_row RX6 D (tz cs) A s.heap := C
  refine V.lvs (lv' := [(0, .ref mo), (1, .int x0), (2, .int x), (3, .int y)]) [0, 1, 2, 3] rfl ?_
  refine v_iload_n C 1 dX6_row_0 rfl ?_
  refine v_callS C [.int x0] [] kX6_isRow gX6_row_X6_isRow (c_isRow l D cs (x := x0) ) ⟨Nat.le_of_ble_eq_true rfl, Nat.le_of_ble_eq_true rfl⟩ ⟨rfl, rfl⟩ ⟨Nat.zero_le _, Nat.zero_le _⟩ rfl rfl (Nat.le_of_ble_eq_true rfl) [] [(mo, .inr (6, [.ref ml, .ref mz, .ref mi, .int su, .int (b2 it), .ref mt, .ref mv, .ref mp, .int nby, .int lt, .int pl, .int tok, .int va, .int be, .int wr, .ref md, .ref mc, .int am, .ref mk, .ref mq, .ref mr, .int td]))] rfl (by decide) rfl (rfl) dX6_row_1 ?_
  refine V.sts (st' := [.int (b2 (inB 8 x0))]) rfl ?_
  refine v_if_eqB C 25 dX6_row_4 (by decide) (fun c1 => ?_) (fun c1 => ?_)
  · skip
    refine v_ldc C (v := -1000001) (by decide +kernel) dX6_row_25 ?_
    exact v_iret C E (rfl) (by first | rfl | (simp [ho, c1, ↓reduceIte]; done) | (simp_all [b2]; done)) dX6_row_27
  · exact absurd (ho.symm.trans c1) (by decide)
theorem kX6_set : KD yX6_set wsX6_set cX6_set 4 (some .int) 3 := ⟨⟨_, rfl⟩, by decide, by decide +kernel, by decide +kernel, by decide +kernel⟩
set_option maxHeartbeats 4000000 in
set_option maxRecDepth 100000 in
theorem c_msetOut (l : Launch) (D : va_G) (cs : Nat → ClassId) {mo : Nat} {ml : Nat} {mz : Nat} {mi : Nat} {mt : Nat} {mv : Nat} {mp : Nat} {md : Nat} {mc : Nat} {mk : Nat} {mq : Nat} {mr : Nat} {su : Int32} {it : Bool} {nby : Int32} {lt : Int32} {pl : Int32} {tok : Int32} {va : Int32} {be : Int32} {wr : Int32} {am : Int32} {td : Int32} {x0 : Int32} {x : Int32} {y : Int32} (ho : inB 8 x0 = false) : CT l D (tz cs) yX6_set wsX6_set ({ frames := 2, cells := 0, slots := 0, locals := 45 }) [.ref mo, .int x0, .int x, .int y] [(mo, .inr (6, [.ref ml, .ref mz, .ref mi, .int su, .int (b2 it), .ref mt, .ref mv, .ref mp, .int nby, .int lt, .int pl, .int tok, .int va, .int be, .int wr, .ref md, .ref mc, .int am, .ref mk, .ref mq, .ref mr, .int td]))] (some (.int (-1000001))) [(mo, .inr (6, [.ref ml, .ref mz, .ref mi, .int su, .int (b2 it), .ref mt, .ref mv, .ref mp, .int nby, .int lt, .int pl, .int tok, .int va, .int be, .int wr, .ref md, .ref mc, .int am, .ref mk, .ref mq, .ref mr, .int td]))] := by
  refine CT.of kX6_set (Nat.le_of_ble_eq_true rfl) ?_
  intro p e s m below meth c A C E
  have C : VOk p s m _ c cX6_set 4 wsX6_set RX6 D (tz cs) A s.heap := C
  refine V.lvs (lv' := [(0, .ref mo), (1, .int x0), (2, .int x), (3, .int y)]) [0, 1, 2, 3] rfl ?_
  refine v_iload_n C 1 dX6_set_0 rfl ?_
  refine v_callS C [.int x0] [] kX6_isRow gX6_set_X6_isRow (c_isRow l D cs (x := x0) ) ⟨Nat.le_of_ble_eq_true rfl, Nat.le_of_ble_eq_true rfl⟩ ⟨rfl, rfl⟩ ⟨Nat.zero_le _, Nat.zero_le _⟩ rfl rfl (Nat.le_of_ble_eq_true rfl) [] [(mo, .inr (6, [.ref ml, .ref mz, .ref mi, .int su, .int (b2 it), .ref mt, .ref mv, .ref mp, .int nby, .int lt, .int pl, .int tok, .int va, .int be, .int wr, .ref md, .ref mc, .int am, .ref mk, .ref mq, .ref mr, .int td]))] rfl (by decide) rfl (rfl) dX6_set_1 ?_
  refine V.sts (st' := [.int (b2 (inB 8 x0))]) rfl ?_
  refine v_if_neB C 10 dX6_set_4 (by decide) (fun c1 => ?_) (fun c1 => ?_)
  · exact absurd (ho.symm.trans c1) (by decide)
  · skip
    refine v_ldc C (v := -1000001) (by decide +kernel) dX6_set_7 ?_
    exact v_iret C E (rfl) (by first | rfl | (simp [ho, c1, ↓reduceIte]; done) | (simp_all [b2]; done)) dX6_set_9
theorem kX6_drop : KD yX6_drop wsX6_drop cX6_drop 3 (some .int) 1 := ⟨⟨_, rfl⟩, by decide, by decide +kernel, by decide +kernel, by decide +kernel⟩
set_option maxHeartbeats 4000000 in
set_option maxRecDepth 100000 in
theorem c_mdropOut (l : Launch) (D : va_G) (cs : Nat → ClassId) {mo : Nat} {ml : Nat} {mz : Nat} {mi : Nat} {mt : Nat} {mv : Nat} {mp : Nat} {md : Nat} {mc : Nat} {mk : Nat} {mq : Nat} {mr : Nat} {su : Int32} {it : Bool} {nby : Int32} {lt : Int32} {pl : Int32} {tok : Int32} {va : Int32} {be : Int32} {wr : Int32} {am : Int32} {td : Int32} {x0 : Int32} (ho : inB 8 x0 = false) : CT l D (tz cs) yX6_drop wsX6_drop ({ frames := 2, cells := 0, slots := 0, locals := 45 }) [.ref mo, .int x0] [(mo, .inr (6, [.ref ml, .ref mz, .ref mi, .int su, .int (b2 it), .ref mt, .ref mv, .ref mp, .int nby, .int lt, .int pl, .int tok, .int va, .int be, .int wr, .ref md, .ref mc, .int am, .ref mk, .ref mq, .ref mr, .int td]))] (some (.int (-1000001))) [(mo, .inr (6, [.ref ml, .ref mz, .ref mi, .int su, .int (b2 it), .ref mt, .ref mv, .ref mp, .int nby, .int lt, .int pl, .int tok, .int va, .int be, .int wr, .ref md, .ref mc, .int am, .ref mk, .ref mq, .ref mr, .int td]))] := by
  refine CT.of kX6_drop (Nat.le_of_ble_eq_true rfl) ?_
  intro p e s m below meth c A C E
  have C : VOk p s m _ c cX6_drop 3 wsX6_drop RX6 D (tz cs) A s.heap := C
  refine V.lvs (lv' := [(0, .ref mo), (1, .int x0)]) [0, 1] rfl ?_
  refine v_iload_n C 1 dX6_drop_0 rfl ?_
  refine v_callS C [.int x0] [] kX6_isRow gX6_drop_X6_isRow (c_isRow l D cs (x := x0) ) ⟨Nat.le_of_ble_eq_true rfl, Nat.le_of_ble_eq_true rfl⟩ ⟨rfl, rfl⟩ ⟨Nat.zero_le _, Nat.zero_le _⟩ rfl rfl (Nat.le_of_ble_eq_true rfl) [] [(mo, .inr (6, [.ref ml, .ref mz, .ref mi, .int su, .int (b2 it), .ref mt, .ref mv, .ref mp, .int nby, .int lt, .int pl, .int tok, .int va, .int be, .int wr, .ref md, .ref mc, .int am, .ref mk, .ref mq, .ref mr, .int td]))] rfl (by decide) rfl (rfl) dX6_drop_1 ?_
  refine V.sts (st' := [.int (b2 (inB 8 x0))]) rfl ?_
  refine v_if_neB C 10 dX6_drop_4 (by decide) (fun c1 => ?_) (fun c1 => ?_)
  · exact absurd (ho.symm.trans c1) (by decide)
  · skip
    refine v_ldc C (v := -1000001) (by decide +kernel) dX6_drop_7 ?_
    exact v_iret C E (rfl) (by first | rfl | (simp [ho, c1, ↓reduceIte]; done) | (simp_all [b2]; done)) dX6_drop_9
theorem in_X6_set_X6 : ∀ w ∈ wsX60, w ∈ wsX6_set := by decide +kernel
theorem fl_X6_set_13 : FL RX6 wsX6_set RX6 RX6 TX6 22 6 1 13 := ⟨⟨in_X6_set_X6, rfl, by decide, rfl⟩, by decide +kernel⟩
set_option maxHeartbeats 4000000 in
set_option maxRecDepth 100000 in
theorem c_msetNo (l : Launch) (D : va_G) (cs : Nat → ClassId) {mo : Nat} {ml : Nat} {mz : Nat} {mi : Nat} {mt : Nat} {mv : Nat} {mp : Nat} {md : Nat} {mc : Nat} {mk : Nat} {mq : Nat} {mr : Nat} {su : Int32} {it : Bool} {nby : Int32} {lt : Int32} {pl : Int32} {tok : Int32} {va : Int32} {be : Int32} {wr : Int32} {am : Int32} {td : Int32} {laf : Nat → Int32} {szf : Nat → Int32} {itf : Nat → Int32} {j : Nat} {x : Int32} {y : Int32} (hj : j < 8) (hno : szf j < 0 ∨ inI x 0 (szf j - 1) = false) : CT l D (tz cs) yX6_set wsX6_set ({ frames := 2, cells := 0, slots := 0, locals := 45 }) [.ref mo, .int (nI j), .int x, .int y] [(mo, .inr (6, [.ref ml, .ref mz, .ref mi, .int su, .int (b2 it), .ref mt, .ref mv, .ref mp, .int nby, .int lt, .int pl, .int tok, .int va, .int be, .int wr, .ref md, .ref mc, .int am, .ref mk, .ref mq, .ref mr, .int td])), (ml, .inl (cs 0, 8, .inl laf)), (mz, .inl (cs 0, 8, .inl szf)), (mi, .inl (cs 0, 320, .inl itf))] (some (.int (if szf j < 0 then -1000010 - 1 else -1000010 - 2))) [(mo, .inr (6, [.ref ml, .ref mz, .ref mi, .int (if szf j < 0 then 1 else 2), .int (b2 it), .ref mt, .ref mv, .ref mp, .int nby, .int lt, .int pl, .int tok, .int va, .int be, .int wr, .ref md, .ref mc, .int am, .ref mk, .ref mq, .ref mr, .int td])), (ml, .inl (cs 0, 8, .inl laf)), (mz, .inl (cs 0, 8, .inl szf)), (mi, .inl (cs 0, 320, .inl itf))] := by
  refine CT.of kX6_set (Nat.le_of_ble_eq_true rfl) ?_
  intro p e s m below meth c A C E
  have C : VOk p s m _ c cX6_set 4 wsX6_set RX6 D (tz cs) A s.heap := C
  refine V.lvs (lv' := [(0, .ref mo), (1, .int (nI j)), (2, .int x), (3, .int y)]) [0, 1, 2, 3] rfl ?_
  refine v_iload_n C 1 dX6_set_0 rfl ?_
  refine v_callS C [.int (nI j)] [] kX6_isRow gX6_set_X6_isRow (c_isRow l D cs (x := (nI j)) ) ⟨Nat.le_of_ble_eq_true rfl, Nat.le_of_ble_eq_true rfl⟩ ⟨rfl, rfl⟩ ⟨Nat.zero_le _, Nat.zero_le _⟩ rfl rfl (Nat.le_of_ble_eq_true rfl) [] [(mo, .inr (6, [.ref ml, .ref mz, .ref mi, .int su, .int (b2 it), .ref mt, .ref mv, .ref mp, .int nby, .int lt, .int pl, .int tok, .int va, .int be, .int wr, .ref md, .ref mc, .int am, .ref mk, .ref mq, .ref mr, .int td])), (ml, .inl (cs 0, 8, .inl laf)), (mz, .inl (cs 0, 8, .inl szf)), (mi, .inl (cs 0, 320, .inl itf))] rfl (by decide) rfl (rfl) dX6_set_1 ?_
  refine V.sts (st' := [.int (b2 (inB 8 (nI j)))]) rfl ?_
  refine v_if_neB C 10 dX6_set_4 (by decide) (fun c1 => ?_) (fun c1 => ?_)
  · skip
    refine v_aload_n C 0 dX6_set_10 rfl ?_
    refine v_get C (v := .ref mz) fl_X6_set_13 0 rfl rfl dX6_set_11 ?_
    refine v_iload_n C 1 dX6_set_14 rfl ?_
    refine v_iald C 2 0 rfl rfl (szf j) (by rw [nI_clamp (by omega)]) (vp_in_nI (by omega) (by omega)) dX6_set_15 ?_
    refine v_if_ge C 25 dX6_set_16 (by decide) (fun c2 => ?_) (fun c2 => ?_)
    · skip
      refine v_iload_n C 2 dX6_set_25 rfl ?_
      refine v_i2l C dX6_set_26 ?_
      refine v_lconst C (v := 0) dX6_set_27 (by decide) ?_
      refine v_aload_n C 0 dX6_set_28 rfl ?_
      refine v_get C (v := .ref mz) fl_X6_set_13 0 rfl rfl dX6_set_29 ?_
      refine v_iload_n C 1 dX6_set_32 rfl ?_
      refine v_iald C 2 0 rfl rfl (szf j) (by rw [nI_clamp (by omega)]) (vp_in_nI (by omega) (by omega)) dX6_set_33 ?_
      refine v_iconst C (v := 1) dX6_set_34 (by decide) ?_
      refine v_isub C dX6_set_35 ?_
      refine v_i2l C dX6_set_36 ?_
      refine v_callS C [.long (Int32.toInt64 x), .long 0, .long (Int32.toInt64 ((szf j) - 1))] [] kX6_in gX6_set_X6_in (c_inI l D cs (x := x) (a := 0) (b := ((szf j) - 1)) (lo := 0) (hi := (Int32.toInt64 ((szf j) - 1))) (by decide) (rfl)) ⟨Nat.le_of_ble_eq_true rfl, Nat.le_of_ble_eq_true rfl⟩ ⟨rfl, rfl⟩ ⟨Nat.zero_le _, Nat.zero_le _⟩ rfl rfl (Nat.le_of_ble_eq_true rfl) [] [(mo, .inr (6, [.ref ml, .ref mz, .ref mi, .int su, .int (b2 it), .ref mt, .ref mv, .ref mp, .int nby, .int lt, .int pl, .int tok, .int va, .int be, .int wr, .ref md, .ref mc, .int am, .ref mk, .ref mq, .ref mr, .int td])), (ml, .inl (cs 0, 8, .inl laf)), (mz, .inl (cs 0, 8, .inl szf)), (mi, .inl (cs 0, 320, .inl itf))] rfl (by decide) rfl (rfl) dX6_set_37 ?_
      refine V.sts (st' := [.int (b2 (inI x 0 ((szf j) - 1)))]) rfl ?_
      refine v_if_neB C 49 dX6_set_40 (by decide) (fun c3 => ?_) (fun c3 => ?_)
      · exact hno.elim (fun q => absurd q (Int32.not_lt.mpr c2)) (fun q => absurd (q.symm.trans c3) (by decide))
      · skip
        refine v_aload_n C 0 dX6_set_43 rfl ?_
        refine v_iconst C (v := 2) dX6_set_44 (by decide) ?_
        refine v_callV (qi := 0) C [.int 2] [] kX6_find gX6_set_X6_find (c_find l D cs (mo := mo) (ml := ml) (mz := mz) (mi := mi) (mt := mt) (mv := mv) (mp := mp) (md := md) (mc := mc) (mk := mk) (mq := mq) (mr := mr) (su := su) (it := it) (nby := nby) (lt := lt) (pl := pl) (tok := tok) (va := va) (be := be) (wr := wr) (am := am) (td := td) (x := 2) ) ⟨Nat.le_of_ble_eq_true rfl, Nat.le_of_ble_eq_true rfl⟩ ⟨rfl, rfl⟩ ⟨Nat.zero_le _, Nat.zero_le _⟩ rfl 0 rfl rfl rfl rfl (Nat.le_of_ble_eq_true rfl) [0] [(mo, .inr (6, [.ref ml, .ref mz, .ref mi, .int 2, .int (b2 it), .ref mt, .ref mv, .ref mp, .int nby, .int lt, .int pl, .int tok, .int va, .int be, .int wr, .ref md, .ref mc, .int am, .ref mk, .ref mq, .ref mr, .int td])), (ml, .inl (cs 0, 8, .inl laf)), (mz, .inl (cs 0, 8, .inl szf)), (mi, .inl (cs 0, 320, .inl itf))] rfl (by decide) (show [mo] = [mo] from rfl) (rfl) dX6_set_45 ?_
        refine V.sts (st' := [.int (-1000010 - 2)]) rfl ?_
        exact v_iret C E (by first | rfl | (simp only [c1, c2, Int32.not_lt.mpr c2, c3, ↓reduceIte, Bool.false_eq_true, reduceCtorEq, Bool.and_true, Bool.true_and, Bool.and_false, Bool.false_and]; done) | (simp [c1, c2, Int32.not_lt.mpr c2, c3]; done) | (simp_all [b2]; done)) (by first | rfl | (simp only [c1, c2, Int32.not_lt.mpr c2, c3, ↓reduceIte, Bool.false_eq_true, reduceCtorEq, Bool.and_true, Bool.true_and, Bool.and_false, Bool.false_and]; done) | (simp [c1, c2, Int32.not_lt.mpr c2, c3]; done) | (simp_all [b2]; done)) dX6_set_48
    · skip
      refine v_aload_n C 0 dX6_set_19 rfl ?_
      refine v_iconst C (v := 1) dX6_set_20 (by decide) ?_
      refine v_callV (qi := 0) C [.int 1] [] kX6_find gX6_set_X6_find (c_find l D cs (mo := mo) (ml := ml) (mz := mz) (mi := mi) (mt := mt) (mv := mv) (mp := mp) (md := md) (mc := mc) (mk := mk) (mq := mq) (mr := mr) (su := su) (it := it) (nby := nby) (lt := lt) (pl := pl) (tok := tok) (va := va) (be := be) (wr := wr) (am := am) (td := td) (x := 1) ) ⟨Nat.le_of_ble_eq_true rfl, Nat.le_of_ble_eq_true rfl⟩ ⟨rfl, rfl⟩ ⟨Nat.zero_le _, Nat.zero_le _⟩ rfl 0 rfl rfl rfl rfl (Nat.le_of_ble_eq_true rfl) [0] [(mo, .inr (6, [.ref ml, .ref mz, .ref mi, .int 1, .int (b2 it), .ref mt, .ref mv, .ref mp, .int nby, .int lt, .int pl, .int tok, .int va, .int be, .int wr, .ref md, .ref mc, .int am, .ref mk, .ref mq, .ref mr, .int td])), (ml, .inl (cs 0, 8, .inl laf)), (mz, .inl (cs 0, 8, .inl szf)), (mi, .inl (cs 0, 320, .inl itf))] rfl (by decide) (show [mo] = [mo] from rfl) (rfl) dX6_set_21 ?_
      refine V.sts (st' := [.int (-1000010 - 1)]) rfl ?_
      exact v_iret C E (by first | rfl | (simp only [c1, c2, Int32.not_le.mp c2, ↓reduceIte, Bool.false_eq_true, reduceCtorEq, Bool.and_true, Bool.true_and, Bool.and_false, Bool.false_and]; done) | (simp [c1, c2, Int32.not_le.mp c2]; done) | (simp_all [b2]; done)) (by first | rfl | (simp only [c1, c2, Int32.not_le.mp c2, ↓reduceIte, Bool.false_eq_true, reduceCtorEq, Bool.and_true, Bool.true_and, Bool.and_false, Bool.false_and]; done) | (simp [c1, c2, Int32.not_le.mp c2]; done) | (simp_all [b2]; done)) dX6_set_24
  · exact absurd ((inB_in (n := 8) (by decide) hj).symm.trans c1) (by decide)
theorem fl_X6_set_16 : FL RX6 wsX6_set RX6 RX6 TX6 22 6 2 16 := ⟨⟨in_X6_set_X6, rfl, by decide, rfl⟩, by decide +kernel⟩
theorem fl_X6_set_7 : FL RX6 wsX6_set RX6 RX6 TX6 22 6 0 7 := ⟨⟨in_X6_set_X6, rfl, by decide, rfl⟩, by decide +kernel⟩
set_option maxHeartbeats 4000000 in
set_option maxRecDepth 100000 in
theorem c_msetOk (l : Launch) (D : va_G) (cs : Nat → ClassId) {mo : Nat} {ml : Nat} {mz : Nat} {mi : Nat} {mt : Nat} {mv : Nat} {mp : Nat} {md : Nat} {mc : Nat} {mk : Nat} {mq : Nat} {mr : Nat} {su : Int32} {it : Bool} {nby : Int32} {lt : Int32} {pl : Int32} {tok : Int32} {va : Int32} {be : Int32} {wr : Int32} {am : Int32} {td : Int32} {laf : Nat → Int32} {szf : Nat → Int32} {itf : Nat → Int32} {j : Nat} {sn : Nat} {q : Nat} {y : Int32} (hj : j < 8) (hs : szf j = nI sn) (hsn : sn ≤ 40) (hq : q < sn) : CT l D (tz cs) yX6_set wsX6_set ({ frames := 2, cells := 0, slots := 0, locals := 45 }) [.ref mo, .int (nI j), .int (nI q), .int y] [(mo, .inr (6, [.ref ml, .ref mz, .ref mi, .int su, .int (b2 it), .ref mt, .ref mv, .ref mp, .int nby, .int lt, .int pl, .int tok, .int va, .int be, .int wr, .ref md, .ref mc, .int am, .ref mk, .ref mq, .ref mr, .int td])), (ml, .inl (cs 0, 8, .inl laf)), (mz, .inl (cs 0, 8, .inl szf)), (mi, .inl (cs 0, 320, .inl itf))] (some (.int (asL (laf j) y))) [(mo, .inr (6, [.ref ml, .ref mz, .ref mi, .int 0, .int (b2 it), .ref mt, .ref mv, .ref mp, .int nby, .int lt, .int pl, .int tok, .int va, .int be, .int wr, .ref md, .ref mc, .int am, .ref mk, .ref mq, .ref mr, .int td])), (ml, .inl (cs 0, 8, .inl laf)), (mz, .inl (cs 0, 8, .inl szf)), (mi, .inl (cs 0, 320, .inl (upd itf (40 * j + q) (asL (laf j) y))))] := by
  refine CT.of kX6_set (Nat.le_of_ble_eq_true rfl) ?_
  intro p e s m below meth c A C E
  have C : VOk p s m _ c cX6_set 4 wsX6_set RX6 D (tz cs) A s.heap := C
  refine V.lvs (lv' := [(0, .ref mo), (1, .int (nI j)), (2, .int (nI q)), (3, .int y)]) [0, 1, 2, 3] rfl ?_
  refine v_iload_n C 1 dX6_set_0 rfl ?_
  refine v_callS C [.int (nI j)] [] kX6_isRow gX6_set_X6_isRow (c_isRow l D cs (x := (nI j)) ) ⟨Nat.le_of_ble_eq_true rfl, Nat.le_of_ble_eq_true rfl⟩ ⟨rfl, rfl⟩ ⟨Nat.zero_le _, Nat.zero_le _⟩ rfl rfl (Nat.le_of_ble_eq_true rfl) [] [(mo, .inr (6, [.ref ml, .ref mz, .ref mi, .int su, .int (b2 it), .ref mt, .ref mv, .ref mp, .int nby, .int lt, .int pl, .int tok, .int va, .int be, .int wr, .ref md, .ref mc, .int am, .ref mk, .ref mq, .ref mr, .int td])), (ml, .inl (cs 0, 8, .inl laf)), (mz, .inl (cs 0, 8, .inl szf)), (mi, .inl (cs 0, 320, .inl itf))] rfl (by decide) rfl (rfl) dX6_set_1 ?_
  refine V.sts (st' := [.int (b2 (inB 8 (nI j)))]) rfl ?_
  refine v_if_neB C 10 dX6_set_4 (by decide) (fun c1 => ?_) (fun c1 => ?_)
  · skip
    refine v_aload_n C 0 dX6_set_10 rfl ?_
    refine v_get C (v := .ref mz) fl_X6_set_13 0 rfl rfl dX6_set_11 ?_
    refine v_iload_n C 1 dX6_set_14 rfl ?_
    refine v_iald C 2 0 rfl rfl (szf j) (by rw [nI_clamp (by omega)]) (vp_in_nI (by omega) (by omega)) dX6_set_15 ?_
    refine v_if_ge C 25 dX6_set_16 (by decide) (fun c2 => ?_) (fun c2 => ?_)
    · skip
      refine v_iload_n C 2 dX6_set_25 rfl ?_
      refine v_i2l C dX6_set_26 ?_
      refine v_lconst C (v := 0) dX6_set_27 (by decide) ?_
      refine v_aload_n C 0 dX6_set_28 rfl ?_
      refine v_get C (v := .ref mz) fl_X6_set_13 0 rfl rfl dX6_set_29 ?_
      refine v_iload_n C 1 dX6_set_32 rfl ?_
      refine v_iald C 2 0 rfl rfl (szf j) (by rw [nI_clamp (by omega)]) (vp_in_nI (by omega) (by omega)) dX6_set_33 ?_
      refine v_iconst C (v := 1) dX6_set_34 (by decide) ?_
      refine v_isub C dX6_set_35 ?_
      refine v_i2l C dX6_set_36 ?_
      refine v_callS C [.long (Int32.toInt64 (nI q)), .long 0, .long (Int32.toInt64 ((szf j) - 1))] [] kX6_in gX6_set_X6_in (c_inI l D cs (x := (nI q)) (a := 0) (b := ((szf j) - 1)) (lo := 0) (hi := (Int32.toInt64 ((szf j) - 1))) (by decide) (rfl)) ⟨Nat.le_of_ble_eq_true rfl, Nat.le_of_ble_eq_true rfl⟩ ⟨rfl, rfl⟩ ⟨Nat.zero_le _, Nat.zero_le _⟩ rfl rfl (Nat.le_of_ble_eq_true rfl) [] [(mo, .inr (6, [.ref ml, .ref mz, .ref mi, .int su, .int (b2 it), .ref mt, .ref mv, .ref mp, .int nby, .int lt, .int pl, .int tok, .int va, .int be, .int wr, .ref md, .ref mc, .int am, .ref mk, .ref mq, .ref mr, .int td])), (ml, .inl (cs 0, 8, .inl laf)), (mz, .inl (cs 0, 8, .inl szf)), (mi, .inl (cs 0, 320, .inl itf))] rfl (by decide) rfl (rfl) dX6_set_37 ?_
      refine V.sts (st' := [.int (b2 (inI (nI q) 0 ((szf j) - 1)))]) rfl ?_
      refine v_if_neB C 49 dX6_set_40 (by decide) (fun c3 => ?_) (fun c3 => ?_)
      · skip
        refine v_aload_n C 0 dX6_set_49 rfl ?_
        refine v_get C (v := .ref mi) fl_X6_set_16 0 rfl rfl dX6_set_50 ?_
        refine v_bipush C (v := 40) dX6_set_53 (by decide) ?_
        refine v_iload_n C 1 dX6_set_55 rfl ?_
        refine v_imul C dX6_set_56 ?_
        refine v_iload_n C 2 dX6_set_57 rfl ?_
        refine v_iadd C dX6_set_58 ?_
        refine V.topr (y := nI (40 * j + q)) (ix40 _ _) ?_
        refine v_aload_n C 0 dX6_set_59 rfl ?_
        refine v_get C (v := .ref ml) fl_X6_set_7 0 rfl rfl dX6_set_60 ?_
        refine v_iload_n C 1 dX6_set_63 rfl ?_
        refine v_iald C 1 0 rfl rfl (laf j) (by rw [nI_clamp (by omega)]) (vp_in_nI (by omega) (by omega)) dX6_set_64 ?_
        refine v_iload_n C 3 dX6_set_65 rfl ?_
        refine v_callS C [.int (laf j), .int y] [.int (nI (40 * j + q)), .ref mi] kX6_asLane gX6_set_X6_asLane (c_asLane l D cs (la := laf j) (v := y) ) ⟨Nat.le_of_ble_eq_true rfl, Nat.le_of_ble_eq_true rfl⟩ ⟨rfl, rfl⟩ ⟨Nat.zero_le _, Nat.zero_le _⟩ rfl rfl (Nat.le_of_ble_eq_true rfl) [] [(mo, .inr (6, [.ref ml, .ref mz, .ref mi, .int su, .int (b2 it), .ref mt, .ref mv, .ref mp, .int nby, .int lt, .int pl, .int tok, .int va, .int be, .int wr, .ref md, .ref mc, .int am, .ref mk, .ref mq, .ref mr, .int td])), (ml, .inl (cs 0, 8, .inl laf)), (mz, .inl (cs 0, 8, .inl szf)), (mi, .inl (cs 0, 320, .inl itf))] rfl (by decide) rfl (rfl) dX6_set_66 ?_
        refine V.sts (st' := [.int (asL (laf j) y), .int (nI (40 * j + q)), .ref mi]) rfl ?_
        refine v_iast C 3 0 rfl rfl (vp_in_nI (by omega) (by omega)) [(mo, .inr (6, [.ref ml, .ref mz, .ref mi, .int su, .int (b2 it), .ref mt, .ref mv, .ref mp, .int nby, .int lt, .int pl, .int tok, .int va, .int be, .int wr, .ref md, .ref mc, .int am, .ref mk, .ref mq, .ref mr, .int td])), (ml, .inl (cs 0, 8, .inl laf)), (mz, .inl (cs 0, 8, .inl szf)), (mi, .inl (cs 0, 320, .inl (upd itf (40 * j + q) (asL (laf j) y))))] (by rw [nI_clamp (by omega)]; rfl) dX6_set_69 ?_
        refine v_aload_n C 0 dX6_set_70 rfl ?_
        refine v_aload_n C 0 dX6_set_71 rfl ?_
        refine v_get C (v := .ref mi) fl_X6_set_16 0 rfl rfl dX6_set_72 ?_
        refine v_bipush C (v := 40) dX6_set_75 (by decide) ?_
        refine v_iload_n C 1 dX6_set_77 rfl ?_
        refine v_imul C dX6_set_78 ?_
        refine v_iload_n C 2 dX6_set_79 rfl ?_
        refine v_iadd C dX6_set_80 ?_
        refine V.topr (y := nI (40 * j + q)) (ix40 _ _) ?_
        refine v_iald C 3 0 rfl rfl (asL (laf j) y) (by rw [nI_clamp (by omega)]; exact pk_us) (vp_in_nI (by omega) (by omega)) dX6_set_81 ?_
        refine v_callV (qi := 0) C [.int (asL (laf j) y)] [] kX6_well gX6_set_X6_well (c_mwell l D cs (mo := mo) (ml := ml) (mz := mz) (mi := mi) (mt := mt) (mv := mv) (mp := mp) (md := md) (mc := mc) (mk := mk) (mq := mq) (mr := mr) (su := su) (it := it) (nby := nby) (lt := lt) (pl := pl) (tok := tok) (va := va) (be := be) (wr := wr) (am := am) (td := td) (x := asL (laf j) y) ) ⟨Nat.le_of_ble_eq_true rfl, Nat.le_of_ble_eq_true rfl⟩ ⟨rfl, rfl⟩ ⟨Nat.zero_le _, Nat.zero_le _⟩ rfl 0 rfl rfl rfl rfl (Nat.le_of_ble_eq_true rfl) [0] [(mo, .inr (6, [.ref ml, .ref mz, .ref mi, .int 0, .int (b2 it), .ref mt, .ref mv, .ref mp, .int nby, .int lt, .int pl, .int tok, .int va, .int be, .int wr, .ref md, .ref mc, .int am, .ref mk, .ref mq, .ref mr, .int td])), (ml, .inl (cs 0, 8, .inl laf)), (mz, .inl (cs 0, 8, .inl szf)), (mi, .inl (cs 0, 320, .inl (upd itf (40 * j + q) (asL (laf j) y))))] rfl (by decide) (show [mo] = [mo] from rfl) (rfl) dX6_set_82 ?_
        refine V.sts (st' := [.int (asL (laf j) y)]) rfl ?_
        exact v_iret C E (rfl) (rfl) dX6_set_85
      · exact absurd c3 (by rw [hs, inI_0 (by omega), inB_in (by omega) hq]; decide)
    · exact absurd (by rw [hs]; exact nI_pos' (by omega)) c2
  · exact absurd ((inB_in (n := 8) (by decide) hj).symm.trans c1) (by decide)
theorem in_X6_drop_X6 : ∀ w ∈ wsX60, w ∈ wsX6_drop := by decide +kernel
theorem fl_X6_drop_13 : FL RX6 wsX6_drop RX6 RX6 TX6 22 6 1 13 := ⟨⟨in_X6_drop_X6, rfl, by decide, rfl⟩, by decide +kernel⟩
set_option maxHeartbeats 4000000 in
set_option maxRecDepth 100000 in
theorem c_mdropIn (l : Launch) (D : va_G) (cs : Nat → ClassId) {mo : Nat} {ml : Nat} {mz : Nat} {mi : Nat} {mt : Nat} {mv : Nat} {mp : Nat} {md : Nat} {mc : Nat} {mk : Nat} {mq : Nat} {mr : Nat} {su : Int32} {it : Bool} {nby : Int32} {lt : Int32} {pl : Int32} {tok : Int32} {va : Int32} {be : Int32} {wr : Int32} {am : Int32} {td : Int32} {laf : Nat → Int32} {szf : Nat → Int32} {itf : Nat → Int32} {j : Nat} (hj : j < 8) : CT l D (tz cs) yX6_drop wsX6_drop ({ frames := 2, cells := 0, slots := 0, locals := 45 }) [.ref mo, .int (nI j)] [(mo, .inr (6, [.ref ml, .ref mz, .ref mi, .int su, .int (b2 it), .ref mt, .ref mv, .ref mp, .int nby, .int lt, .int pl, .int tok, .int va, .int be, .int wr, .ref md, .ref mc, .int am, .ref mk, .ref mq, .ref mr, .int td])), (ml, .inl (cs 0, 8, .inl laf)), (mz, .inl (cs 0, 8, .inl szf)), (mi, .inl (cs 0, 320, .inl itf))] (some (.int (if szf j < 0 then -1000010 - 1 else szf j))) [(mo, .inr (6, [.ref ml, .ref mz, .ref mi, .int (if szf j < 0 then 1 else 0), .int (b2 it), .ref mt, .ref mv, .ref mp, .int nby, .int lt, .int pl, .int tok, .int va, .int be, .int wr, .ref md, .ref mc, .int am, .ref mk, .ref mq, .ref mr, .int td])), (ml, .inl (cs 0, 8, .inl laf)), (mz, .inl (cs 0, 8, .inl (if szf j < 0 then szf else upd szf j (-1)))), (mi, .inl (cs 0, 320, .inl itf))] := by
  refine CT.of kX6_drop (Nat.le_of_ble_eq_true rfl) ?_
  intro p e s m below meth c A C E
  have C : VOk p s m _ c cX6_drop 3 wsX6_drop RX6 D (tz cs) A s.heap := C
  refine V.lvs (lv' := [(0, .ref mo), (1, .int (nI j))]) [0, 1] rfl ?_
  refine v_iload_n C 1 dX6_drop_0 rfl ?_
  refine v_callS C [.int (nI j)] [] kX6_isRow gX6_drop_X6_isRow (c_isRow l D cs (x := (nI j)) ) ⟨Nat.le_of_ble_eq_true rfl, Nat.le_of_ble_eq_true rfl⟩ ⟨rfl, rfl⟩ ⟨Nat.zero_le _, Nat.zero_le _⟩ rfl rfl (Nat.le_of_ble_eq_true rfl) [] [(mo, .inr (6, [.ref ml, .ref mz, .ref mi, .int su, .int (b2 it), .ref mt, .ref mv, .ref mp, .int nby, .int lt, .int pl, .int tok, .int va, .int be, .int wr, .ref md, .ref mc, .int am, .ref mk, .ref mq, .ref mr, .int td])), (ml, .inl (cs 0, 8, .inl laf)), (mz, .inl (cs 0, 8, .inl szf)), (mi, .inl (cs 0, 320, .inl itf))] rfl (by decide) rfl (rfl) dX6_drop_1 ?_
  refine V.sts (st' := [.int (b2 (inB 8 (nI j)))]) rfl ?_
  refine v_if_neB C 10 dX6_drop_4 (by decide) (fun c1 => ?_) (fun c1 => ?_)
  · skip
    refine v_aload_n C 0 dX6_drop_10 rfl ?_
    refine v_get C (v := .ref mz) fl_X6_drop_13 0 rfl rfl dX6_drop_11 ?_
    refine v_iload_n C 1 dX6_drop_14 rfl ?_
    refine v_iald C 2 0 rfl rfl (szf j) (by rw [nI_clamp (by omega)]) (vp_in_nI (by omega) (by omega)) dX6_drop_15 ?_
    refine v_if_ge C 25 dX6_drop_16 (by decide) (fun c2 => ?_) (fun c2 => ?_)
    · skip
      refine v_aload_n C 0 dX6_drop_25 rfl ?_
      refine v_get C (v := .ref mz) fl_X6_drop_13 0 rfl rfl dX6_drop_26 ?_
      refine v_iload_n C 1 dX6_drop_29 rfl ?_
      refine v_iald C 2 0 rfl rfl (szf j) (by rw [nI_clamp (by omega)]) (vp_in_nI (by omega) (by omega)) dX6_drop_30 ?_
      refine v_istore_n C [(0, .ref mo), (1, .int (nI j)), (2, .int (szf j))] [1, 2, 0] dX6_drop_31 (by decide) rfl ?_
      refine v_aload_n C 0 dX6_drop_32 rfl ?_
      refine v_get C (v := .ref mz) fl_X6_drop_13 0 rfl rfl dX6_drop_33 ?_
      refine v_iload_n C 1 dX6_drop_36 rfl ?_
      refine v_iconst C (v := -1) dX6_drop_37 (by decide) ?_
      refine v_iast C 2 0 rfl rfl (vp_in_nI (by omega) (by omega)) [(mo, .inr (6, [.ref ml, .ref mz, .ref mi, .int su, .int (b2 it), .ref mt, .ref mv, .ref mp, .int nby, .int lt, .int pl, .int tok, .int va, .int be, .int wr, .ref md, .ref mc, .int am, .ref mk, .ref mq, .ref mr, .int td])), (ml, .inl (cs 0, 8, .inl laf)), (mz, .inl (cs 0, 8, .inl (upd szf j (-1)))), (mi, .inl (cs 0, 320, .inl itf))] (by rw [nI_clamp (by omega)]; rfl) dX6_drop_38 ?_
      refine v_aload_n C 0 dX6_drop_39 rfl ?_
      refine v_iload_n C 2 dX6_drop_40 rfl ?_
      refine v_callV (qi := 0) C [.int (szf j)] [] kX6_well gX6_drop_X6_well (c_mwell l D cs (mo := mo) (ml := ml) (mz := mz) (mi := mi) (mt := mt) (mv := mv) (mp := mp) (md := md) (mc := mc) (mk := mk) (mq := mq) (mr := mr) (su := su) (it := it) (nby := nby) (lt := lt) (pl := pl) (tok := tok) (va := va) (be := be) (wr := wr) (am := am) (td := td) (x := szf j) ) ⟨Nat.le_of_ble_eq_true rfl, Nat.le_of_ble_eq_true rfl⟩ ⟨rfl, rfl⟩ ⟨Nat.zero_le _, Nat.zero_le _⟩ rfl 0 rfl rfl rfl rfl (Nat.le_of_ble_eq_true rfl) [0] [(mo, .inr (6, [.ref ml, .ref mz, .ref mi, .int 0, .int (b2 it), .ref mt, .ref mv, .ref mp, .int nby, .int lt, .int pl, .int tok, .int va, .int be, .int wr, .ref md, .ref mc, .int am, .ref mk, .ref mq, .ref mr, .int td])), (ml, .inl (cs 0, 8, .inl laf)), (mz, .inl (cs 0, 8, .inl (upd szf j (-1)))), (mi, .inl (cs 0, 320, .inl itf))] rfl (by decide) (show [mo] = [mo] from rfl) (rfl) dX6_drop_41 ?_
      refine V.sts (st' := [.int (szf j)]) rfl ?_
      exact v_iret C E (by first | rfl | (simp only [c1, c2, Int32.not_lt.mpr c2, ↓reduceIte, Bool.false_eq_true, reduceCtorEq, Bool.and_true, Bool.true_and, Bool.and_false, Bool.false_and]; done) | (simp [c1, c2, Int32.not_lt.mpr c2]; done) | (simp_all [b2]; done)) (by first | rfl | (simp only [c1, c2, Int32.not_lt.mpr c2, ↓reduceIte, Bool.false_eq_true, reduceCtorEq, Bool.and_true, Bool.true_and, Bool.and_false, Bool.false_and]; done) | (simp [c1, c2, Int32.not_lt.mpr c2]; done) | (simp_all [b2]; done)) dX6_drop_44
    · skip
      refine v_aload_n C 0 dX6_drop_19 rfl ?_
      refine v_iconst C (v := 1) dX6_drop_20 (by decide) ?_
      refine v_callV (qi := 0) C [.int 1] [] kX6_find gX6_drop_X6_find (c_find l D cs (mo := mo) (ml := ml) (mz := mz) (mi := mi) (mt := mt) (mv := mv) (mp := mp) (md := md) (mc := mc) (mk := mk) (mq := mq) (mr := mr) (su := su) (it := it) (nby := nby) (lt := lt) (pl := pl) (tok := tok) (va := va) (be := be) (wr := wr) (am := am) (td := td) (x := 1) ) ⟨Nat.le_of_ble_eq_true rfl, Nat.le_of_ble_eq_true rfl⟩ ⟨rfl, rfl⟩ ⟨Nat.zero_le _, Nat.zero_le _⟩ rfl 0 rfl rfl rfl rfl (Nat.le_of_ble_eq_true rfl) [0] [(mo, .inr (6, [.ref ml, .ref mz, .ref mi, .int 1, .int (b2 it), .ref mt, .ref mv, .ref mp, .int nby, .int lt, .int pl, .int tok, .int va, .int be, .int wr, .ref md, .ref mc, .int am, .ref mk, .ref mq, .ref mr, .int td])), (ml, .inl (cs 0, 8, .inl laf)), (mz, .inl (cs 0, 8, .inl szf)), (mi, .inl (cs 0, 320, .inl itf))] rfl (by decide) (show [mo] = [mo] from rfl) (rfl) dX6_drop_21 ?_
      refine V.sts (st' := [.int (-1000010 - 1)]) rfl ?_
      exact v_iret C E (by first | rfl | (simp only [c1, c2, Int32.not_le.mp c2, ↓reduceIte, Bool.false_eq_true, reduceCtorEq, Bool.and_true, Bool.true_and, Bool.and_false, Bool.false_and]; done) | (simp [c1, c2, Int32.not_le.mp c2]; done) | (simp_all [b2]; done)) (by first | rfl | (simp only [c1, c2, Int32.not_le.mp c2, ↓reduceIte, Bool.false_eq_true, reduceCtorEq, Bool.and_true, Bool.true_and, Bool.and_false, Bool.false_and]; done) | (simp [c1, c2, Int32.not_le.mp c2]; done) | (simp_all [b2]; done)) dX6_drop_24
  · exact absurd ((inB_in (n := 8) (by decide) hj).symm.trans c1) (by decide)
theorem kX6_copy : KD yX6_copy wsX6_copy cX6_copy 7 (some .int) 5 := ⟨⟨_, rfl⟩, by decide, by decide +kernel, by decide +kernel, by decide +kernel⟩
set_option maxHeartbeats 4000000 in
set_option maxRecDepth 100000 in
theorem c_mcopyOut (l : Launch) (D : va_G) (cs : Nat → ClassId) {mo : Nat} {ml : Nat} {mz : Nat} {mi : Nat} {mt : Nat} {mv : Nat} {mp : Nat} {md : Nat} {mc : Nat} {mk : Nat} {mq : Nat} {mr : Nat} {su : Int32} {it : Bool} {nby : Int32} {lt : Int32} {pl : Int32} {tok : Int32} {va : Int32} {be : Int32} {wr : Int32} {am : Int32} {td : Int32} {x0 : Int32} {x1 : Int32} {i : Int32} {j : Int32} {q : Int32} (ho : inB 8 x0 = false ∨ inB 8 x1 = false) : CT l D (tz cs) yX6_copy wsX6_copy ({ frames := 2, cells := 0, slots := 0, locals := 45 }) [.ref mo, .int x0, .int i, .int x1, .int j, .int q] [(mo, .inr (6, [.ref ml, .ref mz, .ref mi, .int su, .int (b2 it), .ref mt, .ref mv, .ref mp, .int nby, .int lt, .int pl, .int tok, .int va, .int be, .int wr, .ref md, .ref mc, .int am, .ref mk, .ref mq, .ref mr, .int td]))] (some (.int (-1000001))) [(mo, .inr (6, [.ref ml, .ref mz, .ref mi, .int su, .int (b2 it), .ref mt, .ref mv, .ref mp, .int nby, .int lt, .int pl, .int tok, .int va, .int be, .int wr, .ref md, .ref mc, .int am, .ref mk, .ref mq, .ref mr, .int td]))] := by
  refine CT.of kX6_copy (Nat.le_of_ble_eq_true rfl) ?_
  intro p e s m below meth c A C E
  have C : VOk p s m _ c cX6_copy 7 wsX6_copy RX6 D (tz cs) A s.heap := C
  refine V.lvs (lv' := [(0, .ref mo), (1, .int x0), (2, .int i), (3, .int x1), (4, .int j), (5, .int q)]) [0, 1, 2, 3, 4, 5] rfl ?_
  refine v_iload_n C 1 dX6_copy_0 rfl ?_
  refine v_callS C [.int x0] [] kX6_isRow gX6_copy_X6_isRow (c_isRow l D cs (x := x0) ) ⟨Nat.le_of_ble_eq_true rfl, Nat.le_of_ble_eq_true rfl⟩ ⟨rfl, rfl⟩ ⟨Nat.zero_le _, Nat.zero_le _⟩ rfl rfl (Nat.le_of_ble_eq_true rfl) [] [(mo, .inr (6, [.ref ml, .ref mz, .ref mi, .int su, .int (b2 it), .ref mt, .ref mv, .ref mp, .int nby, .int lt, .int pl, .int tok, .int va, .int be, .int wr, .ref md, .ref mc, .int am, .ref mk, .ref mq, .ref mr, .int td]))] rfl (by decide) rfl (rfl) dX6_copy_1 ?_
  refine V.sts (st' := [.int (b2 (inB 8 x0))]) rfl ?_
  refine v_if_eqB C 14 dX6_copy_4 (by decide) (fun c1 => ?_) (fun c1 => ?_)
  · skip
    refine v_ldc C (v := -1000001) (by decide +kernel) dX6_copy_14 ?_
    exact v_iret C E (rfl) (by first | rfl | (simp [ho, c1, ↓reduceIte]; done) | (simp_all [b2]; done)) dX6_copy_16
  · skip
    refine v_iload_n C 3 dX6_copy_7 rfl ?_
    refine v_callS C [.int x1] [] kX6_isRow gX6_copy_X6_isRow (c_isRow l D cs (x := x1) ) ⟨Nat.le_of_ble_eq_true rfl, Nat.le_of_ble_eq_true rfl⟩ ⟨rfl, rfl⟩ ⟨Nat.zero_le _, Nat.zero_le _⟩ rfl rfl (Nat.le_of_ble_eq_true rfl) [] [(mo, .inr (6, [.ref ml, .ref mz, .ref mi, .int su, .int (b2 it), .ref mt, .ref mv, .ref mp, .int nby, .int lt, .int pl, .int tok, .int va, .int be, .int wr, .ref md, .ref mc, .int am, .ref mk, .ref mq, .ref mr, .int td]))] rfl (by decide) rfl (rfl) dX6_copy_8 ?_
    refine V.sts (st' := [.int (b2 (inB 8 x1))]) rfl ?_
    refine v_if_neB C 17 dX6_copy_11 (by decide) (fun c2 => ?_) (fun c2 => ?_)
    · exact ho.elim (fun q => absurd (q.symm.trans c1) (by decide)) (fun q => absurd (q.symm.trans c2) (by decide))
    · skip
      refine v_ldc C (v := -1000001) (by decide +kernel) dX6_copy_14 ?_
      exact v_iret C E (rfl) (by first | rfl | (simp [ho, c1, c2, ↓reduceIte]; done) | (simp_all [b2]; done)) dX6_copy_16
theorem in_X6_copy_X6 : ∀ w ∈ wsX60, w ∈ wsX6_copy := by decide +kernel
theorem fl_X6_copy_13 : FL RX6 wsX6_copy RX6 RX6 TX6 22 6 1 13 := ⟨⟨in_X6_copy_X6, rfl, by decide, rfl⟩, by decide +kernel⟩
theorem fl_X6_copy_7 : FL RX6 wsX6_copy RX6 RX6 TX6 22 6 0 7 := ⟨⟨in_X6_copy_X6, rfl, by decide, rfl⟩, by decide +kernel⟩
set_option maxHeartbeats 4000000 in
set_option maxRecDepth 100000 in
theorem c_mcopyNo (l : Launch) (D : va_G) (cs : Nat → ClassId) {mo : Nat} {ml : Nat} {mz : Nat} {mi : Nat} {mt : Nat} {mv : Nat} {mp : Nat} {md : Nat} {mc : Nat} {mk : Nat} {mq : Nat} {mr : Nat} {su : Int32} {it : Bool} {nby : Int32} {lt : Int32} {pl : Int32} {tok : Int32} {va : Int32} {be : Int32} {wr : Int32} {am : Int32} {td : Int32} {laf : Nat → Int32} {szf : Nat → Int32} {itf : Nat → Int32} {u : Nat} {v : Nat} {i : Int32} {j : Int32} {q : Int32} (hu : u < 8) (hv : v < 8) (hno : szf u < 0 ∨ szf v < 0 ∨ ¬ laf u = laf v ∨ q < 0 ∨ inL i.toInt64 0 ((szf u).toInt64 - q.toInt64) = false ∨ inL j.toInt64 0 ((szf v).toInt64 - q.toInt64) = false) : CT l D (tz cs) yX6_copy wsX6_copy ({ frames := 2, cells := 0, slots := 0, locals := 45 }) [.ref mo, .int (nI u), .int i, .int (nI v), .int j, .int q] [(mo, .inr (6, [.ref ml, .ref mz, .ref mi, .int su, .int (b2 it), .ref mt, .ref mv, .ref mp, .int nby, .int lt, .int pl, .int tok, .int va, .int be, .int wr, .ref md, .ref mc, .int am, .ref mk, .ref mq, .ref mr, .int td])), (ml, .inl (cs 0, 8, .inl laf)), (mz, .inl (cs 0, 8, .inl szf)), (mi, .inl (cs 0, 320, .inl itf))] (some (.int (if szf u < 0 then -1000010 - 1 else if szf v < 0 then -1000010 - 1 else if laf u = laf v then (-1000010 - 2) else -1000010 - 5))) [(mo, .inr (6, [.ref ml, .ref mz, .ref mi, .int (if szf u < 0 then 1 else if szf v < 0 then 1 else if laf u = laf v then (2) else 5), .int (b2 it), .ref mt, .ref mv, .ref mp, .int nby, .int lt, .int pl, .int tok, .int va, .int be, .int wr, .ref md, .ref mc, .int am, .ref mk, .ref mq, .ref mr, .int td])), (ml, .inl (cs 0, 8, .inl laf)), (mz, .inl (cs 0, 8, .inl szf)), (mi, .inl (cs 0, 320, .inl itf))] := by
  refine CT.of kX6_copy (Nat.le_of_ble_eq_true rfl) ?_
  intro p e s m below meth c A C E
  have C : VOk p s m _ c cX6_copy 7 wsX6_copy RX6 D (tz cs) A s.heap := C
  refine V.lvs (lv' := [(0, .ref mo), (1, .int (nI u)), (2, .int i), (3, .int (nI v)), (4, .int j), (5, .int q)]) [0, 1, 2, 3, 4, 5] rfl ?_
  refine v_iload_n C 1 dX6_copy_0 rfl ?_
  refine v_callS C [.int (nI u)] [] kX6_isRow gX6_copy_X6_isRow (c_isRow l D cs (x := (nI u)) ) ⟨Nat.le_of_ble_eq_true rfl, Nat.le_of_ble_eq_true rfl⟩ ⟨rfl, rfl⟩ ⟨Nat.zero_le _, Nat.zero_le _⟩ rfl rfl (Nat.le_of_ble_eq_true rfl) [] [(mo, .inr (6, [.ref ml, .ref mz, .ref mi, .int su, .int (b2 it), .ref mt, .ref mv, .ref mp, .int nby, .int lt, .int pl, .int tok, .int va, .int be, .int wr, .ref md, .ref mc, .int am, .ref mk, .ref mq, .ref mr, .int td])), (ml, .inl (cs 0, 8, .inl laf)), (mz, .inl (cs 0, 8, .inl szf)), (mi, .inl (cs 0, 320, .inl itf))] rfl (by decide) rfl (rfl) dX6_copy_1 ?_
  refine V.sts (st' := [.int (b2 (inB 8 (nI u)))]) rfl ?_
  refine v_if_eqB C 14 dX6_copy_4 (by decide) (fun c1 => ?_) (fun c1 => ?_)
  · exact absurd ((inB_in (n := 8) (by decide) hu).symm.trans c1) (by decide)
  · skip
    refine v_iload_n C 3 dX6_copy_7 rfl ?_
    refine v_callS C [.int (nI v)] [] kX6_isRow gX6_copy_X6_isRow (c_isRow l D cs (x := (nI v)) ) ⟨Nat.le_of_ble_eq_true rfl, Nat.le_of_ble_eq_true rfl⟩ ⟨rfl, rfl⟩ ⟨Nat.zero_le _, Nat.zero_le _⟩ rfl rfl (Nat.le_of_ble_eq_true rfl) [] [(mo, .inr (6, [.ref ml, .ref mz, .ref mi, .int su, .int (b2 it), .ref mt, .ref mv, .ref mp, .int nby, .int lt, .int pl, .int tok, .int va, .int be, .int wr, .ref md, .ref mc, .int am, .ref mk, .ref mq, .ref mr, .int td])), (ml, .inl (cs 0, 8, .inl laf)), (mz, .inl (cs 0, 8, .inl szf)), (mi, .inl (cs 0, 320, .inl itf))] rfl (by decide) rfl (rfl) dX6_copy_8 ?_
    refine V.sts (st' := [.int (b2 (inB 8 (nI v)))]) rfl ?_
    refine v_if_neB C 17 dX6_copy_11 (by decide) (fun c2 => ?_) (fun c2 => ?_)
    · skip
      refine v_aload_n C 0 dX6_copy_17 rfl ?_
      refine v_get C (v := .ref mz) fl_X6_copy_13 0 rfl rfl dX6_copy_18 ?_
      refine v_iload_n C 1 dX6_copy_21 rfl ?_
      refine v_iald C 2 0 rfl rfl (szf u) (by rw [nI_clamp (by omega)]) (vp_in_nI (by omega) (by omega)) dX6_copy_22 ?_
      refine v_if_lt C 35 dX6_copy_23 (by decide) (fun c3 => ?_) (fun c3 => ?_)
      · skip
        refine v_aload_n C 0 dX6_copy_35 rfl ?_
        refine v_iconst C (v := 1) dX6_copy_36 (by decide) ?_
        refine v_callV (qi := 0) C [.int 1] [] kX6_find gX6_copy_X6_find (c_find l D cs (mo := mo) (ml := ml) (mz := mz) (mi := mi) (mt := mt) (mv := mv) (mp := mp) (md := md) (mc := mc) (mk := mk) (mq := mq) (mr := mr) (su := su) (it := it) (nby := nby) (lt := lt) (pl := pl) (tok := tok) (va := va) (be := be) (wr := wr) (am := am) (td := td) (x := 1) ) ⟨Nat.le_of_ble_eq_true rfl, Nat.le_of_ble_eq_true rfl⟩ ⟨rfl, rfl⟩ ⟨Nat.zero_le _, Nat.zero_le _⟩ rfl 0 rfl rfl rfl rfl (Nat.le_of_ble_eq_true rfl) [0] [(mo, .inr (6, [.ref ml, .ref mz, .ref mi, .int 1, .int (b2 it), .ref mt, .ref mv, .ref mp, .int nby, .int lt, .int pl, .int tok, .int va, .int be, .int wr, .ref md, .ref mc, .int am, .ref mk, .ref mq, .ref mr, .int td])), (ml, .inl (cs 0, 8, .inl laf)), (mz, .inl (cs 0, 8, .inl szf)), (mi, .inl (cs 0, 320, .inl itf))] rfl (by decide) (show [mo] = [mo] from rfl) (rfl) dX6_copy_37 ?_
        refine V.sts (st' := [.int (-1000010 - 1)]) rfl ?_
        exact v_iret C E (by first | rfl | (simp only [c1, c2, c3, Int32.not_le.mpr c3, ↓reduceIte, Bool.false_eq_true, reduceCtorEq, Bool.and_true, Bool.true_and, Bool.and_false, Bool.false_and]; done) | (simp [c1, c2, c3, Int32.not_le.mpr c3]; done) | (simp_all [b2]; done)) (by first | rfl | (simp only [c1, c2, c3, Int32.not_le.mpr c3, ↓reduceIte, Bool.false_eq_true, reduceCtorEq, Bool.and_true, Bool.true_and, Bool.and_false, Bool.false_and]; done) | (simp [c1, c2, c3, Int32.not_le.mpr c3]; done) | (simp_all [b2]; done)) dX6_copy_40
      · skip
        refine v_aload_n C 0 dX6_copy_26 rfl ?_
        refine v_get C (v := .ref mz) fl_X6_copy_13 0 rfl rfl dX6_copy_27 ?_
        refine v_iload_n C 3 dX6_copy_30 rfl ?_
        refine v_iald C 2 0 rfl rfl (szf v) (by rw [nI_clamp (by omega)]) (vp_in_nI (by omega) (by omega)) dX6_copy_31 ?_
        refine v_if_ge C 41 dX6_copy_32 (by decide) (fun c4 => ?_) (fun c4 => ?_)
        · skip
          refine v_aload_n C 0 dX6_copy_41 rfl ?_
          refine v_get C (v := .ref ml) fl_X6_copy_7 0 rfl rfl dX6_copy_42 ?_
          refine v_iload_n C 1 dX6_copy_45 rfl ?_
          refine v_iald C 1 0 rfl rfl (laf u) (by rw [nI_clamp (by omega)]) (vp_in_nI (by omega) (by omega)) dX6_copy_46 ?_
          refine v_aload_n C 0 dX6_copy_47 rfl ?_
          refine v_get C (v := .ref ml) fl_X6_copy_7 0 rfl rfl dX6_copy_48 ?_
          refine v_iload_n C 3 dX6_copy_51 rfl ?_
          refine v_iald C 1 0 rfl rfl (laf v) (by rw [nI_clamp (by omega)]) (vp_in_nI (by omega) (by omega)) dX6_copy_52 ?_
          refine v_icmp_eq C 62 dX6_copy_53 (by decide) (fun c5 => ?_) (fun c5 => ?_)
          · skip
            refine v_iload C 5 dX6_copy_62 rfl ?_
            refine v_if_lt C 108 dX6_copy_64 (by decide) (fun c6 => ?_) (fun c6 => ?_)
            · skip
              refine v_aload_n C 0 dX6_copy_108 rfl ?_
              refine v_iconst C (v := 2) dX6_copy_109 (by decide) ?_
              refine v_callV (qi := 0) C [.int 2] [] kX6_find gX6_copy_X6_find (c_find l D cs (mo := mo) (ml := ml) (mz := mz) (mi := mi) (mt := mt) (mv := mv) (mp := mp) (md := md) (mc := mc) (mk := mk) (mq := mq) (mr := mr) (su := su) (it := it) (nby := nby) (lt := lt) (pl := pl) (tok := tok) (va := va) (be := be) (wr := wr) (am := am) (td := td) (x := 2) ) ⟨Nat.le_of_ble_eq_true rfl, Nat.le_of_ble_eq_true rfl⟩ ⟨rfl, rfl⟩ ⟨Nat.zero_le _, Nat.zero_le _⟩ rfl 0 rfl rfl rfl rfl (Nat.le_of_ble_eq_true rfl) [0] [(mo, .inr (6, [.ref ml, .ref mz, .ref mi, .int 2, .int (b2 it), .ref mt, .ref mv, .ref mp, .int nby, .int lt, .int pl, .int tok, .int va, .int be, .int wr, .ref md, .ref mc, .int am, .ref mk, .ref mq, .ref mr, .int td])), (ml, .inl (cs 0, 8, .inl laf)), (mz, .inl (cs 0, 8, .inl szf)), (mi, .inl (cs 0, 320, .inl itf))] rfl (by decide) (show [mo] = [mo] from rfl) (rfl) dX6_copy_110 ?_
              refine V.sts (st' := [.int (-1000010 - 2)]) rfl ?_
              exact v_iret C E (by first | rfl | (simp only [c1, c2, c3, Int32.not_lt.mp c3, c4, Int32.not_lt.mpr c4, c5, c6, Int32.not_le.mpr c6, ↓reduceIte, Bool.false_eq_true, reduceCtorEq, Bool.and_true, Bool.true_and, Bool.and_false, Bool.false_and]; done) | (simp [c1, c2, c3, Int32.not_lt.mp c3, c4, Int32.not_lt.mpr c4, c5, c6, Int32.not_le.mpr c6]; done) | (simp_all [b2]; done)) (by first | rfl | (simp only [c1, c2, c3, Int32.not_lt.mp c3, c4, Int32.not_lt.mpr c4, c5, c6, Int32.not_le.mpr c6, ↓reduceIte, Bool.false_eq_true, reduceCtorEq, Bool.and_true, Bool.true_and, Bool.and_false, Bool.false_and]; done) | (simp [c1, c2, c3, Int32.not_lt.mp c3, c4, Int32.not_lt.mpr c4, c5, c6, Int32.not_le.mpr c6]; done) | (simp_all [b2]; done)) dX6_copy_113
            · skip
              refine v_iload_n C 2 dX6_copy_67 rfl ?_
              refine v_i2l C dX6_copy_68 ?_
              refine v_lconst C (v := 0) dX6_copy_69 (by decide) ?_
              refine v_aload_n C 0 dX6_copy_70 rfl ?_
              refine v_get C (v := .ref mz) fl_X6_copy_13 0 rfl rfl dX6_copy_71 ?_
              refine v_iload_n C 1 dX6_copy_74 rfl ?_
              refine v_iald C 2 0 rfl rfl (szf u) (by rw [nI_clamp (by omega)]) (vp_in_nI (by omega) (by omega)) dX6_copy_75 ?_
              refine v_i2l C dX6_copy_76 ?_
              refine v_iload C 5 dX6_copy_77 rfl ?_
              refine v_i2l C dX6_copy_79 ?_
              refine v_lsub C dX6_copy_80 ?_
              refine v_callS C [.long (Int32.toInt64 i), .long 0, .long ((Int32.toInt64 (szf u)) - (Int32.toInt64 q))] [] kX6_in gX6_copy_X6_in (c_inL l D cs (v := (Int32.toInt64 i)) (lo := 0) (hi := ((Int32.toInt64 (szf u)) - (Int32.toInt64 q))) ) ⟨Nat.le_of_ble_eq_true rfl, Nat.le_of_ble_eq_true rfl⟩ ⟨rfl, rfl⟩ ⟨Nat.zero_le _, Nat.zero_le _⟩ rfl rfl (Nat.le_of_ble_eq_true rfl) [] [(mo, .inr (6, [.ref ml, .ref mz, .ref mi, .int su, .int (b2 it), .ref mt, .ref mv, .ref mp, .int nby, .int lt, .int pl, .int tok, .int va, .int be, .int wr, .ref md, .ref mc, .int am, .ref mk, .ref mq, .ref mr, .int td])), (ml, .inl (cs 0, 8, .inl laf)), (mz, .inl (cs 0, 8, .inl szf)), (mi, .inl (cs 0, 320, .inl itf))] rfl (by decide) rfl (rfl) dX6_copy_81 ?_
              refine V.sts (st' := [.int (b2 (inL (Int32.toInt64 i) 0 ((Int32.toInt64 (szf u)) - (Int32.toInt64 q))))]) rfl ?_
              refine v_if_eqB C 108 dX6_copy_84 (by decide) (fun c7 => ?_) (fun c7 => ?_)
              · skip
                refine v_aload_n C 0 dX6_copy_108 rfl ?_
                refine v_iconst C (v := 2) dX6_copy_109 (by decide) ?_
                refine v_callV (qi := 0) C [.int 2] [] kX6_find gX6_copy_X6_find (c_find l D cs (mo := mo) (ml := ml) (mz := mz) (mi := mi) (mt := mt) (mv := mv) (mp := mp) (md := md) (mc := mc) (mk := mk) (mq := mq) (mr := mr) (su := su) (it := it) (nby := nby) (lt := lt) (pl := pl) (tok := tok) (va := va) (be := be) (wr := wr) (am := am) (td := td) (x := 2) ) ⟨Nat.le_of_ble_eq_true rfl, Nat.le_of_ble_eq_true rfl⟩ ⟨rfl, rfl⟩ ⟨Nat.zero_le _, Nat.zero_le _⟩ rfl 0 rfl rfl rfl rfl (Nat.le_of_ble_eq_true rfl) [0] [(mo, .inr (6, [.ref ml, .ref mz, .ref mi, .int 2, .int (b2 it), .ref mt, .ref mv, .ref mp, .int nby, .int lt, .int pl, .int tok, .int va, .int be, .int wr, .ref md, .ref mc, .int am, .ref mk, .ref mq, .ref mr, .int td])), (ml, .inl (cs 0, 8, .inl laf)), (mz, .inl (cs 0, 8, .inl szf)), (mi, .inl (cs 0, 320, .inl itf))] rfl (by decide) (show [mo] = [mo] from rfl) (rfl) dX6_copy_110 ?_
                refine V.sts (st' := [.int (-1000010 - 2)]) rfl ?_
                exact v_iret C E (by first | rfl | (simp only [c1, c2, c3, Int32.not_lt.mp c3, c4, Int32.not_lt.mpr c4, c5, c6, Int32.not_lt.mp c6, c7, ↓reduceIte, Bool.false_eq_true, reduceCtorEq, Bool.and_true, Bool.true_and, Bool.and_false, Bool.false_and]; done) | (simp [c1, c2, c3, Int32.not_lt.mp c3, c4, Int32.not_lt.mpr c4, c5, c6, Int32.not_lt.mp c6, c7]; done) | (simp_all [b2]; done)) (by first | rfl | (simp only [c1, c2, c3, Int32.not_lt.mp c3, c4, Int32.not_lt.mpr c4, c5, c6, Int32.not_lt.mp c6, c7, ↓reduceIte, Bool.false_eq_true, reduceCtorEq, Bool.and_true, Bool.true_and, Bool.and_false, Bool.false_and]; done) | (simp [c1, c2, c3, Int32.not_lt.mp c3, c4, Int32.not_lt.mpr c4, c5, c6, Int32.not_lt.mp c6, c7]; done) | (simp_all [b2]; done)) dX6_copy_113
              · skip
                refine v_iload C 4 dX6_copy_87 rfl ?_
                refine v_i2l C dX6_copy_89 ?_
                refine v_lconst C (v := 0) dX6_copy_90 (by decide) ?_
                refine v_aload_n C 0 dX6_copy_91 rfl ?_
                refine v_get C (v := .ref mz) fl_X6_copy_13 0 rfl rfl dX6_copy_92 ?_
                refine v_iload_n C 3 dX6_copy_95 rfl ?_
                refine v_iald C 2 0 rfl rfl (szf v) (by rw [nI_clamp (by omega)]) (vp_in_nI (by omega) (by omega)) dX6_copy_96 ?_
                refine v_i2l C dX6_copy_97 ?_
                refine v_iload C 5 dX6_copy_98 rfl ?_
                refine v_i2l C dX6_copy_100 ?_
                refine v_lsub C dX6_copy_101 ?_
                refine v_callS C [.long (Int32.toInt64 j), .long 0, .long ((Int32.toInt64 (szf v)) - (Int32.toInt64 q))] [] kX6_in gX6_copy_X6_in (c_inL l D cs (v := (Int32.toInt64 j)) (lo := 0) (hi := ((Int32.toInt64 (szf v)) - (Int32.toInt64 q))) ) ⟨Nat.le_of_ble_eq_true rfl, Nat.le_of_ble_eq_true rfl⟩ ⟨rfl, rfl⟩ ⟨Nat.zero_le _, Nat.zero_le _⟩ rfl rfl (Nat.le_of_ble_eq_true rfl) [] [(mo, .inr (6, [.ref ml, .ref mz, .ref mi, .int su, .int (b2 it), .ref mt, .ref mv, .ref mp, .int nby, .int lt, .int pl, .int tok, .int va, .int be, .int wr, .ref md, .ref mc, .int am, .ref mk, .ref mq, .ref mr, .int td])), (ml, .inl (cs 0, 8, .inl laf)), (mz, .inl (cs 0, 8, .inl szf)), (mi, .inl (cs 0, 320, .inl itf))] rfl (by decide) rfl (rfl) dX6_copy_102 ?_
                refine V.sts (st' := [.int (b2 (inL (Int32.toInt64 j) 0 ((Int32.toInt64 (szf v)) - (Int32.toInt64 q))))]) rfl ?_
                refine v_if_neB C 114 dX6_copy_105 (by decide) (fun c8 => ?_) (fun c8 => ?_)
                · exfalso; rcases hno with z | z | z | z | z | z; exact c3 z; exact absurd z (Int32.not_lt.mpr c4); exact z c5; exact c6 z; exact absurd (z.symm.trans c7) (by decide); exact absurd (z.symm.trans c8) (by decide)
                · skip
                  refine v_aload_n C 0 dX6_copy_108 rfl ?_
                  refine v_iconst C (v := 2) dX6_copy_109 (by decide) ?_
                  refine v_callV (qi := 0) C [.int 2] [] kX6_find gX6_copy_X6_find (c_find l D cs (mo := mo) (ml := ml) (mz := mz) (mi := mi) (mt := mt) (mv := mv) (mp := mp) (md := md) (mc := mc) (mk := mk) (mq := mq) (mr := mr) (su := su) (it := it) (nby := nby) (lt := lt) (pl := pl) (tok := tok) (va := va) (be := be) (wr := wr) (am := am) (td := td) (x := 2) ) ⟨Nat.le_of_ble_eq_true rfl, Nat.le_of_ble_eq_true rfl⟩ ⟨rfl, rfl⟩ ⟨Nat.zero_le _, Nat.zero_le _⟩ rfl 0 rfl rfl rfl rfl (Nat.le_of_ble_eq_true rfl) [0] [(mo, .inr (6, [.ref ml, .ref mz, .ref mi, .int 2, .int (b2 it), .ref mt, .ref mv, .ref mp, .int nby, .int lt, .int pl, .int tok, .int va, .int be, .int wr, .ref md, .ref mc, .int am, .ref mk, .ref mq, .ref mr, .int td])), (ml, .inl (cs 0, 8, .inl laf)), (mz, .inl (cs 0, 8, .inl szf)), (mi, .inl (cs 0, 320, .inl itf))] rfl (by decide) (show [mo] = [mo] from rfl) (rfl) dX6_copy_110 ?_
                  refine V.sts (st' := [.int (-1000010 - 2)]) rfl ?_
                  exact v_iret C E (by first | rfl | (simp only [c1, c2, c3, Int32.not_lt.mp c3, c4, Int32.not_lt.mpr c4, c5, c6, Int32.not_lt.mp c6, c7, c8, ↓reduceIte, Bool.false_eq_true, reduceCtorEq, Bool.and_true, Bool.true_and, Bool.and_false, Bool.false_and]; done) | (simp [c1, c2, c3, Int32.not_lt.mp c3, c4, Int32.not_lt.mpr c4, c5, c6, Int32.not_lt.mp c6, c7, c8]; done) | (simp_all [b2]; done)) (by first | rfl | (simp only [c1, c2, c3, Int32.not_lt.mp c3, c4, Int32.not_lt.mpr c4, c5, c6, Int32.not_lt.mp c6, c7, c8, ↓reduceIte, Bool.false_eq_true, reduceCtorEq, Bool.and_true, Bool.true_and, Bool.and_false, Bool.false_and]; done) | (simp [c1, c2, c3, Int32.not_lt.mp c3, c4, Int32.not_lt.mpr c4, c5, c6, Int32.not_lt.mp c6, c7, c8]; done) | (simp_all [b2]; done)) dX6_copy_113
          · skip
            refine v_aload_n C 0 dX6_copy_56 rfl ?_
            refine v_iconst C (v := 5) dX6_copy_57 (by decide) ?_
            refine v_callV (qi := 0) C [.int 5] [] kX6_find gX6_copy_X6_find (c_find l D cs (mo := mo) (ml := ml) (mz := mz) (mi := mi) (mt := mt) (mv := mv) (mp := mp) (md := md) (mc := mc) (mk := mk) (mq := mq) (mr := mr) (su := su) (it := it) (nby := nby) (lt := lt) (pl := pl) (tok := tok) (va := va) (be := be) (wr := wr) (am := am) (td := td) (x := 5) ) ⟨Nat.le_of_ble_eq_true rfl, Nat.le_of_ble_eq_true rfl⟩ ⟨rfl, rfl⟩ ⟨Nat.zero_le _, Nat.zero_le _⟩ rfl 0 rfl rfl rfl rfl (Nat.le_of_ble_eq_true rfl) [0] [(mo, .inr (6, [.ref ml, .ref mz, .ref mi, .int 5, .int (b2 it), .ref mt, .ref mv, .ref mp, .int nby, .int lt, .int pl, .int tok, .int va, .int be, .int wr, .ref md, .ref mc, .int am, .ref mk, .ref mq, .ref mr, .int td])), (ml, .inl (cs 0, 8, .inl laf)), (mz, .inl (cs 0, 8, .inl szf)), (mi, .inl (cs 0, 320, .inl itf))] rfl (by decide) (show [mo] = [mo] from rfl) (rfl) dX6_copy_58 ?_
            refine V.sts (st' := [.int (-1000010 - 5)]) rfl ?_
            exact v_iret C E (by first | rfl | (simp only [c1, c2, c3, Int32.not_lt.mp c3, c4, Int32.not_lt.mpr c4, c5, ↓reduceIte, Bool.false_eq_true, reduceCtorEq, Bool.and_true, Bool.true_and, Bool.and_false, Bool.false_and]; done) | (simp [c1, c2, c3, Int32.not_lt.mp c3, c4, Int32.not_lt.mpr c4, c5]; done) | (simp_all [b2]; done)) (by first | rfl | (simp only [c1, c2, c3, Int32.not_lt.mp c3, c4, Int32.not_lt.mpr c4, c5, ↓reduceIte, Bool.false_eq_true, reduceCtorEq, Bool.and_true, Bool.true_and, Bool.and_false, Bool.false_and]; done) | (simp [c1, c2, c3, Int32.not_lt.mp c3, c4, Int32.not_lt.mpr c4, c5]; done) | (simp_all [b2]; done)) dX6_copy_61
        · skip
          refine v_aload_n C 0 dX6_copy_35 rfl ?_
          refine v_iconst C (v := 1) dX6_copy_36 (by decide) ?_
          refine v_callV (qi := 0) C [.int 1] [] kX6_find gX6_copy_X6_find (c_find l D cs (mo := mo) (ml := ml) (mz := mz) (mi := mi) (mt := mt) (mv := mv) (mp := mp) (md := md) (mc := mc) (mk := mk) (mq := mq) (mr := mr) (su := su) (it := it) (nby := nby) (lt := lt) (pl := pl) (tok := tok) (va := va) (be := be) (wr := wr) (am := am) (td := td) (x := 1) ) ⟨Nat.le_of_ble_eq_true rfl, Nat.le_of_ble_eq_true rfl⟩ ⟨rfl, rfl⟩ ⟨Nat.zero_le _, Nat.zero_le _⟩ rfl 0 rfl rfl rfl rfl (Nat.le_of_ble_eq_true rfl) [0] [(mo, .inr (6, [.ref ml, .ref mz, .ref mi, .int 1, .int (b2 it), .ref mt, .ref mv, .ref mp, .int nby, .int lt, .int pl, .int tok, .int va, .int be, .int wr, .ref md, .ref mc, .int am, .ref mk, .ref mq, .ref mr, .int td])), (ml, .inl (cs 0, 8, .inl laf)), (mz, .inl (cs 0, 8, .inl szf)), (mi, .inl (cs 0, 320, .inl itf))] rfl (by decide) (show [mo] = [mo] from rfl) (rfl) dX6_copy_37 ?_
          refine V.sts (st' := [.int (-1000010 - 1)]) rfl ?_
          exact v_iret C E (by first | rfl | (simp only [c1, c2, c3, Int32.not_lt.mp c3, c4, Int32.not_le.mp c4, ↓reduceIte, Bool.false_eq_true, reduceCtorEq, Bool.and_true, Bool.true_and, Bool.and_false, Bool.false_and]; done) | (simp [c1, c2, c3, Int32.not_lt.mp c3, c4, Int32.not_le.mp c4]; done) | (simp_all [b2]; done)) (by first | rfl | (simp only [c1, c2, c3, Int32.not_lt.mp c3, c4, Int32.not_le.mp c4, ↓reduceIte, Bool.false_eq_true, reduceCtorEq, Bool.and_true, Bool.true_and, Bool.and_false, Bool.false_and]; done) | (simp [c1, c2, c3, Int32.not_lt.mp c3, c4, Int32.not_le.mp c4]; done) | (simp_all [b2]; done)) dX6_copy_40
    · exact absurd ((inB_in (n := 8) (by decide) hv).symm.trans c2) (by decide)
theorem fl_X6_copy_16 : FL RX6 wsX6_copy RX6 RX6 TX6 22 6 2 16 := ⟨⟨in_X6_copy_X6, rfl, by decide, rfl⟩, by decide +kernel⟩
theorem fl_X6_copy_22 : FL RX6 wsX6_copy RX6 RX6 TX6 22 6 6 22 := ⟨⟨in_X6_copy_X6, rfl, by decide, rfl⟩, by decide +kernel⟩
set_option maxHeartbeats 4000000 in
set_option maxRecDepth 100000 in
theorem c_mcopyOk (l : Launch) (D : va_G) (cs : Nat → ClassId) {mo : Nat} {ml : Nat} {mz : Nat} {mi : Nat} {mt : Nat} {mv : Nat} {mp : Nat} {md : Nat} {mc : Nat} {mk : Nat} {mq : Nat} {mr : Nat} {su : Int32} {it : Bool} {nby : Int32} {lt : Int32} {pl : Int32} {tok : Int32} {va : Int32} {be : Int32} {wr : Int32} {am : Int32} {td : Int32} {laf : Nat → Int32} {szf : Nat → Int32} {itf : Nat → Int32} {mvf : Nat → Int32} {u : Nat} {v : Nat} {an : Nat} {bn : Nat} {x : Nat} {y : Nat} {z : Nat} (hu : u < 8) (hv : v < 8) (hla : laf u = laf v) (hsu : szf u = nI an) (hsv : szf v = nI bn) (han : an ≤ 40) (hbn : bn ≤ 40) (hx : x + z ≤ an) (hy : y + z ≤ bn) : CT l D (tz cs) yX6_copy wsX6_copy ({ frames := 2, cells := 0, slots := 0, locals := 45 }) [.ref mo, .int (nI u), .int (nI x), .int (nI v), .int (nI y), .int (nI z)] [(mo, .inr (6, [.ref ml, .ref mz, .ref mi, .int su, .int (b2 it), .ref mt, .ref mv, .ref mp, .int nby, .int lt, .int pl, .int tok, .int va, .int be, .int wr, .ref md, .ref mc, .int am, .ref mk, .ref mq, .ref mr, .int td])), (ml, .inl (cs 0, 8, .inl laf)), (mz, .inl (cs 0, 8, .inl szf)), (mi, .inl (cs 0, 320, .inl itf)), (mv, .inl (cs 0, 40, .inl mvf))] (some (.int (nI z))) [(mo, .inr (6, [.ref ml, .ref mz, .ref mi, .int 0, .int (b2 it), .ref mt, .ref mv, .ref mp, .int nby, .int lt, .int pl, .int tok, .int va, .int be, .int wr, .ref md, .ref mc, .int am, .ref mk, .ref mq, .ref mr, .int td])), (ml, .inl (cs 0, 8, .inl laf)), (mz, .inl (cs 0, 8, .inl szf)), (mi, .inl (cs 0, 320, .inl (mvF itf itf (40 * v + y) (40 * u + x) z))), (mv, .inl (cs 0, 40, .inl (mvF mvf itf 0 (40 * u + x) z)))] := by
  refine CT.of kX6_copy (Nat.le_of_ble_eq_true rfl) ?_
  intro p e s m below meth c A C E
  have C : VOk p s m _ c cX6_copy 7 wsX6_copy RX6 D (tz cs) A s.heap := C
  refine V.lvs (lv' := [(0, .ref mo), (1, .int (nI u)), (2, .int (nI x)), (3, .int (nI v)), (4, .int (nI y)), (5, .int (nI z))]) [0, 1, 2, 3, 4, 5] rfl ?_
  refine v_iload_n C 1 dX6_copy_0 rfl ?_
  refine v_callS C [.int (nI u)] [] kX6_isRow gX6_copy_X6_isRow (c_isRow l D cs (x := (nI u)) ) ⟨Nat.le_of_ble_eq_true rfl, Nat.le_of_ble_eq_true rfl⟩ ⟨rfl, rfl⟩ ⟨Nat.zero_le _, Nat.zero_le _⟩ rfl rfl (Nat.le_of_ble_eq_true rfl) [] [(mo, .inr (6, [.ref ml, .ref mz, .ref mi, .int su, .int (b2 it), .ref mt, .ref mv, .ref mp, .int nby, .int lt, .int pl, .int tok, .int va, .int be, .int wr, .ref md, .ref mc, .int am, .ref mk, .ref mq, .ref mr, .int td])), (ml, .inl (cs 0, 8, .inl laf)), (mz, .inl (cs 0, 8, .inl szf)), (mi, .inl (cs 0, 320, .inl itf)), (mv, .inl (cs 0, 40, .inl mvf))] rfl (by decide) rfl (rfl) dX6_copy_1 ?_
  refine V.sts (st' := [.int (b2 (inB 8 (nI u)))]) rfl ?_
  refine v_if_eqB C 14 dX6_copy_4 (by decide) (fun c1 => ?_) (fun c1 => ?_)
  · exact absurd ((inB_in (n := 8) (by decide) hu).symm.trans c1) (by decide)
  · skip
    refine v_iload_n C 3 dX6_copy_7 rfl ?_
    refine v_callS C [.int (nI v)] [] kX6_isRow gX6_copy_X6_isRow (c_isRow l D cs (x := (nI v)) ) ⟨Nat.le_of_ble_eq_true rfl, Nat.le_of_ble_eq_true rfl⟩ ⟨rfl, rfl⟩ ⟨Nat.zero_le _, Nat.zero_le _⟩ rfl rfl (Nat.le_of_ble_eq_true rfl) [] [(mo, .inr (6, [.ref ml, .ref mz, .ref mi, .int su, .int (b2 it), .ref mt, .ref mv, .ref mp, .int nby, .int lt, .int pl, .int tok, .int va, .int be, .int wr, .ref md, .ref mc, .int am, .ref mk, .ref mq, .ref mr, .int td])), (ml, .inl (cs 0, 8, .inl laf)), (mz, .inl (cs 0, 8, .inl szf)), (mi, .inl (cs 0, 320, .inl itf)), (mv, .inl (cs 0, 40, .inl mvf))] rfl (by decide) rfl (rfl) dX6_copy_8 ?_
    refine V.sts (st' := [.int (b2 (inB 8 (nI v)))]) rfl ?_
    refine v_if_neB C 17 dX6_copy_11 (by decide) (fun c2 => ?_) (fun c2 => ?_)
    · skip
      refine v_aload_n C 0 dX6_copy_17 rfl ?_
      refine v_get C (v := .ref mz) fl_X6_copy_13 0 rfl rfl dX6_copy_18 ?_
      refine v_iload_n C 1 dX6_copy_21 rfl ?_
      refine v_iald C 2 0 rfl rfl (szf u) (by rw [nI_clamp (by omega)]) (vp_in_nI (by omega) (by omega)) dX6_copy_22 ?_
      refine v_if_lt C 35 dX6_copy_23 (by decide) (fun c3 => ?_) (fun c3 => ?_)
      · exact absurd c3 (by rw [hsu]; exact nI_pos (by omega))
      · skip
        refine v_aload_n C 0 dX6_copy_26 rfl ?_
        refine v_get C (v := .ref mz) fl_X6_copy_13 0 rfl rfl dX6_copy_27 ?_
        refine v_iload_n C 3 dX6_copy_30 rfl ?_
        refine v_iald C 2 0 rfl rfl (szf v) (by rw [nI_clamp (by omega)]) (vp_in_nI (by omega) (by omega)) dX6_copy_31 ?_
        refine v_if_ge C 41 dX6_copy_32 (by decide) (fun c4 => ?_) (fun c4 => ?_)
        · skip
          refine v_aload_n C 0 dX6_copy_41 rfl ?_
          refine v_get C (v := .ref ml) fl_X6_copy_7 0 rfl rfl dX6_copy_42 ?_
          refine v_iload_n C 1 dX6_copy_45 rfl ?_
          refine v_iald C 1 0 rfl rfl (laf u) (by rw [nI_clamp (by omega)]) (vp_in_nI (by omega) (by omega)) dX6_copy_46 ?_
          refine v_aload_n C 0 dX6_copy_47 rfl ?_
          refine v_get C (v := .ref ml) fl_X6_copy_7 0 rfl rfl dX6_copy_48 ?_
          refine v_iload_n C 3 dX6_copy_51 rfl ?_
          refine v_iald C 1 0 rfl rfl (laf v) (by rw [nI_clamp (by omega)]) (vp_in_nI (by omega) (by omega)) dX6_copy_52 ?_
          refine v_icmp_eq C 62 dX6_copy_53 (by decide) (fun c5 => ?_) (fun c5 => ?_)
          · skip
            refine v_iload C 5 dX6_copy_62 rfl ?_
            refine v_if_lt C 108 dX6_copy_64 (by decide) (fun c6 => ?_) (fun c6 => ?_)
            · exact absurd c6 (nI_pos (by omega))
            · skip
              refine v_iload_n C 2 dX6_copy_67 rfl ?_
              refine v_i2l C dX6_copy_68 ?_
              refine v_lconst C (v := 0) dX6_copy_69 (by decide) ?_
              refine v_aload_n C 0 dX6_copy_70 rfl ?_
              refine v_get C (v := .ref mz) fl_X6_copy_13 0 rfl rfl dX6_copy_71 ?_
              refine v_iload_n C 1 dX6_copy_74 rfl ?_
              refine v_iald C 2 0 rfl rfl (szf u) (by rw [nI_clamp (by omega)]) (vp_in_nI (by omega) (by omega)) dX6_copy_75 ?_
              refine v_i2l C dX6_copy_76 ?_
              refine v_iload C 5 dX6_copy_77 rfl ?_
              refine v_i2l C dX6_copy_79 ?_
              refine v_lsub C dX6_copy_80 ?_
              refine v_callS C [.long (Int32.toInt64 (nI x)), .long 0, .long ((Int32.toInt64 (szf u)) - (Int32.toInt64 (nI z)))] [] kX6_in gX6_copy_X6_in (c_inL l D cs (v := (Int32.toInt64 (nI x))) (lo := 0) (hi := ((Int32.toInt64 (szf u)) - (Int32.toInt64 (nI z)))) ) ⟨Nat.le_of_ble_eq_true rfl, Nat.le_of_ble_eq_true rfl⟩ ⟨rfl, rfl⟩ ⟨Nat.zero_le _, Nat.zero_le _⟩ rfl rfl (Nat.le_of_ble_eq_true rfl) [] [(mo, .inr (6, [.ref ml, .ref mz, .ref mi, .int su, .int (b2 it), .ref mt, .ref mv, .ref mp, .int nby, .int lt, .int pl, .int tok, .int va, .int be, .int wr, .ref md, .ref mc, .int am, .ref mk, .ref mq, .ref mr, .int td])), (ml, .inl (cs 0, 8, .inl laf)), (mz, .inl (cs 0, 8, .inl szf)), (mi, .inl (cs 0, 320, .inl itf)), (mv, .inl (cs 0, 40, .inl mvf))] rfl (by decide) rfl (rfl) dX6_copy_81 ?_
              refine V.sts (st' := [.int (b2 (inL (Int32.toInt64 (nI x)) 0 ((Int32.toInt64 (szf u)) - (Int32.toInt64 (nI z)))))]) rfl ?_
              refine v_if_eqB C 108 dX6_copy_84 (by decide) (fun c7 => ?_) (fun c7 => ?_)
              · exact absurd c7 (by rw [hsu, inL_hold han (nI_pos (by omega)), hold_in han hx]; decide)
              · skip
                refine v_iload C 4 dX6_copy_87 rfl ?_
                refine v_i2l C dX6_copy_89 ?_
                refine v_lconst C (v := 0) dX6_copy_90 (by decide) ?_
                refine v_aload_n C 0 dX6_copy_91 rfl ?_
                refine v_get C (v := .ref mz) fl_X6_copy_13 0 rfl rfl dX6_copy_92 ?_
                refine v_iload_n C 3 dX6_copy_95 rfl ?_
                refine v_iald C 2 0 rfl rfl (szf v) (by rw [nI_clamp (by omega)]) (vp_in_nI (by omega) (by omega)) dX6_copy_96 ?_
                refine v_i2l C dX6_copy_97 ?_
                refine v_iload C 5 dX6_copy_98 rfl ?_
                refine v_i2l C dX6_copy_100 ?_
                refine v_lsub C dX6_copy_101 ?_
                refine v_callS C [.long (Int32.toInt64 (nI y)), .long 0, .long ((Int32.toInt64 (szf v)) - (Int32.toInt64 (nI z)))] [] kX6_in gX6_copy_X6_in (c_inL l D cs (v := (Int32.toInt64 (nI y))) (lo := 0) (hi := ((Int32.toInt64 (szf v)) - (Int32.toInt64 (nI z)))) ) ⟨Nat.le_of_ble_eq_true rfl, Nat.le_of_ble_eq_true rfl⟩ ⟨rfl, rfl⟩ ⟨Nat.zero_le _, Nat.zero_le _⟩ rfl rfl (Nat.le_of_ble_eq_true rfl) [] [(mo, .inr (6, [.ref ml, .ref mz, .ref mi, .int su, .int (b2 it), .ref mt, .ref mv, .ref mp, .int nby, .int lt, .int pl, .int tok, .int va, .int be, .int wr, .ref md, .ref mc, .int am, .ref mk, .ref mq, .ref mr, .int td])), (ml, .inl (cs 0, 8, .inl laf)), (mz, .inl (cs 0, 8, .inl szf)), (mi, .inl (cs 0, 320, .inl itf)), (mv, .inl (cs 0, 40, .inl mvf))] rfl (by decide) rfl (rfl) dX6_copy_102 ?_
                refine V.sts (st' := [.int (b2 (inL (Int32.toInt64 (nI y)) 0 ((Int32.toInt64 (szf v)) - (Int32.toInt64 (nI z)))))]) rfl ?_
                refine v_if_neB C 114 dX6_copy_105 (by decide) (fun c8 => ?_) (fun c8 => ?_)
                · skip
                  refine v_iconst C (v := 0) dX6_copy_114 (by decide) ?_
                  refine v_istore C [(0, .ref mo), (1, .int (nI u)), (2, .int (nI x)), (3, .int (nI v)), (4, .int (nI y)), (5, .int (nI z)), (6, .int 0)] [1, 2, 3, 4, 5, 6, 0] dX6_copy_115 (by decide) rfl ?_
                  have L117 : ∀ (n : Nat) (i : Nat) (y0 : Int32) (y1 : Nat → Int32), y0 = (nI i) → y1 = mvF mvf itf 0 (40 * u + x) i → (i ≤ z) → (z - i) < n → V p l e ({ frames := 2, cells := 0, slots := 0, locals := 45 }) s m (List.toArray [.ref mo, .int (nI u), .int (nI x), .int (nI v), .int (nI y), .int (nI z)]) below meth c 0 0 (MQ below (vq_Q (some (.int (nI z))) D [(mo, .inr (6, [.ref ml, .ref mz, .ref mi, .int 0, .int (b2 it), .ref mt, .ref mv, .ref mp, .int nby, .int lt, .int pl, .int tok, .int va, .int be, .int wr, .ref md, .ref mc, .int am, .ref mk, .ref mq, .ref mr, .int td])), (ml, .inl (cs 0, 8, .inl laf)), (mz, .inl (cs 0, 8, .inl szf)), (mi, .inl (cs 0, 320, .inl (mvF itf itf (40 * v + y) (40 * u + x) z))), (mv, .inl (cs 0, 40, .inl (mvF mvf itf 0 (40 * u + x) z)))] [(mo, .inr (6, [.ref ml, .ref mz, .ref mi, .int su, .int (b2 it), .ref mt, .ref mv, .ref mp, .int nby, .int lt, .int pl, .int tok, .int va, .int be, .int wr, .ref md, .ref mc, .int am, .ref mk, .ref mq, .ref mr, .int td])), (ml, .inl (cs 0, 8, .inl laf)), (mz, .inl (cs 0, 8, .inl szf)), (mi, .inl (cs 0, 320, .inl itf)), (mv, .inl (cs 0, 40, .inl mvf))] s.heap.size) (List.toArray [.ref mo, .int (nI u), .int (nI x), .int (nI v), .int (nI y), .int (nI z)]) s 0 0 (va_A [(mo, .inr (6, [.ref ml, .ref mz, .ref mi, .int su, .int (b2 it), .ref mt, .ref mv, .ref mp, .int nby, .int lt, .int pl, .int tok, .int va, .int be, .int wr, .ref md, .ref mc, .int am, .ref mk, .ref mq, .ref mr, .int td])), (ml, .inl (cs 0, 8, .inl laf)), (mz, .inl (cs 0, 8, .inl szf)), (mi, .inl (cs 0, 320, .inl itf)), (mv, .inl (cs 0, 40, .inl mvf))] s.heap.size)) 7 D A s.heap 117 [(0, .ref mo), (1, .int (nI u)), (2, .int (nI x)), (3, .int (nI v)), (4, .int (nI y)), (5, .int (nI z)), (6, .int y0)] [] [(mo, .inr (6, [.ref ml, .ref mz, .ref mi, .int su, .int (b2 it), .ref mt, .ref mv, .ref mp, .int nby, .int lt, .int pl, .int tok, .int va, .int be, .int wr, .ref md, .ref mc, .int am, .ref mk, .ref mq, .ref mr, .int td])), (ml, .inl (cs 0, 8, .inl laf)), (mz, .inl (cs 0, 8, .inl szf)), (mi, .inl (cs 0, 320, .inl itf)), (mv, .inl (cs 0, 40, .inl y1))] := by
                    intro n
                    induction n with
                    | zero =>
                      intros; omega
                    | succ n ih117 =>
                      intro i y0 y1 ey0 ey1 hi hn
                      subst ey0
                      subst ey1
                      refine v_iload C 6 dX6_copy_117 rfl ?_
                      refine v_iload C 5 dX6_copy_119 rfl ?_
                      refine v_icmp_ge C 151 dX6_copy_121 (by decide) (fun c9 => ?_) (fun c9 => ?_)
                      · skip
                        have hge : z ≤ i := le_nI c9 (by omega) (by omega)
                        refine v_iconst C (v := 0) dX6_copy_151 (by decide) ?_
                        refine v_istore C [(0, .ref mo), (1, .int (nI u)), (2, .int (nI x)), (3, .int (nI v)), (4, .int (nI y)), (5, .int (nI z)), (6, .int 0)] [1, 2, 3, 4, 5, 6, 0] dX6_copy_152 (by decide) rfl ?_
                        have L154 : ∀ (n : Nat) (k : Nat) (y0 : Int32) (y1 : Nat → Int32) (y2 : Nat → Int32), y0 = (nI k) → y1 = mvF itf itf (40 * v + y) (40 * u + x) k → y2 = mvF mvf itf 0 (40 * u + x) z → (k ≤ z) → (z - k) < n → V p l e ({ frames := 2, cells := 0, slots := 0, locals := 45 }) s m (List.toArray [.ref mo, .int (nI u), .int (nI x), .int (nI v), .int (nI y), .int (nI z)]) below meth c 0 0 (MQ below (vq_Q (some (.int (nI z))) D [(mo, .inr (6, [.ref ml, .ref mz, .ref mi, .int 0, .int (b2 it), .ref mt, .ref mv, .ref mp, .int nby, .int lt, .int pl, .int tok, .int va, .int be, .int wr, .ref md, .ref mc, .int am, .ref mk, .ref mq, .ref mr, .int td])), (ml, .inl (cs 0, 8, .inl laf)), (mz, .inl (cs 0, 8, .inl szf)), (mi, .inl (cs 0, 320, .inl (mvF itf itf (40 * v + y) (40 * u + x) z))), (mv, .inl (cs 0, 40, .inl (mvF mvf itf 0 (40 * u + x) z)))] [(mo, .inr (6, [.ref ml, .ref mz, .ref mi, .int su, .int (b2 it), .ref mt, .ref mv, .ref mp, .int nby, .int lt, .int pl, .int tok, .int va, .int be, .int wr, .ref md, .ref mc, .int am, .ref mk, .ref mq, .ref mr, .int td])), (ml, .inl (cs 0, 8, .inl laf)), (mz, .inl (cs 0, 8, .inl szf)), (mi, .inl (cs 0, 320, .inl itf)), (mv, .inl (cs 0, 40, .inl mvf))] s.heap.size) (List.toArray [.ref mo, .int (nI u), .int (nI x), .int (nI v), .int (nI y), .int (nI z)]) s 0 0 (va_A [(mo, .inr (6, [.ref ml, .ref mz, .ref mi, .int su, .int (b2 it), .ref mt, .ref mv, .ref mp, .int nby, .int lt, .int pl, .int tok, .int va, .int be, .int wr, .ref md, .ref mc, .int am, .ref mk, .ref mq, .ref mr, .int td])), (ml, .inl (cs 0, 8, .inl laf)), (mz, .inl (cs 0, 8, .inl szf)), (mi, .inl (cs 0, 320, .inl itf)), (mv, .inl (cs 0, 40, .inl mvf))] s.heap.size)) 7 D A s.heap 154 [(0, .ref mo), (1, .int (nI u)), (2, .int (nI x)), (3, .int (nI v)), (4, .int (nI y)), (5, .int (nI z)), (6, .int y0)] [] [(mo, .inr (6, [.ref ml, .ref mz, .ref mi, .int su, .int (b2 it), .ref mt, .ref mv, .ref mp, .int nby, .int lt, .int pl, .int tok, .int va, .int be, .int wr, .ref md, .ref mc, .int am, .ref mk, .ref mq, .ref mr, .int td])), (ml, .inl (cs 0, 8, .inl laf)), (mz, .inl (cs 0, 8, .inl szf)), (mi, .inl (cs 0, 320, .inl y1)), (mv, .inl (cs 0, 40, .inl y2))] := by
                          intro n
                          induction n with
                          | zero =>
                            intros; omega
                          | succ n ih154 =>
                            intro k y0 y1 y2 ey0 ey1 ey2 hk hn
                            subst ey0
                            subst ey1
                            subst ey2
                            refine v_iload C 6 dX6_copy_154 rfl ?_
                            refine v_iload C 5 dX6_copy_156 rfl ?_
                            refine v_icmp_ge C 189 dX6_copy_158 (by decide) (fun c10 => ?_) (fun c10 => ?_)
                            · skip
                              have hgek : z ≤ k := le_nI c10 (by omega) (by omega)
                              refine v_aload_n C 0 dX6_copy_189 rfl ?_
                              refine v_iload C 5 dX6_copy_190 rfl ?_
                              refine v_callV (qi := 0) C [.int (nI z)] [] kX6_well gX6_copy_X6_well (c_mwell l D cs (mo := mo) (ml := ml) (mz := mz) (mi := mi) (mt := mt) (mv := mv) (mp := mp) (md := md) (mc := mc) (mk := mk) (mq := mq) (mr := mr) (su := su) (it := it) (nby := nby) (lt := lt) (pl := pl) (tok := tok) (va := va) (be := be) (wr := wr) (am := am) (td := td) (x := (nI z)) ) ⟨Nat.le_of_ble_eq_true rfl, Nat.le_of_ble_eq_true rfl⟩ ⟨rfl, rfl⟩ ⟨Nat.zero_le _, Nat.zero_le _⟩ rfl 0 rfl rfl rfl rfl (Nat.le_of_ble_eq_true rfl) [0] [(mo, .inr (6, [.ref ml, .ref mz, .ref mi, .int 0, .int (b2 it), .ref mt, .ref mv, .ref mp, .int nby, .int lt, .int pl, .int tok, .int va, .int be, .int wr, .ref md, .ref mc, .int am, .ref mk, .ref mq, .ref mr, .int td])), (ml, .inl (cs 0, 8, .inl laf)), (mz, .inl (cs 0, 8, .inl szf)), (mi, .inl (cs 0, 320, .inl (mvF itf itf (40 * v + y) (40 * u + x) k))), (mv, .inl (cs 0, 40, .inl (mvF mvf itf 0 (40 * u + x) z)))] rfl (by decide) (show [mo] = [mo] from rfl) (rfl) dX6_copy_192 ?_
                              refine V.sts (st' := [.int (nI z)]) rfl ?_
                              exact v_iret C E (by rw [show k = z by omega]) (by first | rfl | (simp [hu, hv, hla, hsu, hsv, han, hbn, hx, hy, c1, c2, c3, c4, c5, c6, c7, c8, hi, c9, hk, c10, ↓reduceIte]; done) | (simp_all [b2]; done)) dX6_copy_195
                            · skip
                              have hltk : k < z := nle_nI c10 (by omega) (by omega)
                              refine v_aload_n C 0 dX6_copy_161 rfl ?_
                              refine v_get C (v := .ref mi) fl_X6_copy_16 0 rfl rfl dX6_copy_162 ?_
                              refine v_bipush C (v := 40) dX6_copy_165 (by decide) ?_
                              refine v_iload_n C 3 dX6_copy_167 rfl ?_
                              refine v_imul C dX6_copy_168 ?_
                              refine v_iload C 4 dX6_copy_169 rfl ?_
                              refine v_iadd C dX6_copy_171 ?_
                              refine V.topr (y := nI (40 * v + y)) (ix40 _ _) ?_
                              refine v_iload C 6 dX6_copy_172 rfl ?_
                              refine v_iadd C dX6_copy_174 ?_
                              refine V.topr (y := nI (40 * v + y + k)) (nI_add _ _) ?_
                              refine v_aload_n C 0 dX6_copy_175 rfl ?_
                              refine v_get C (v := .ref mv) fl_X6_copy_22 0 rfl rfl dX6_copy_176 ?_
                              refine v_iload C 6 dX6_copy_179 rfl ?_
                              refine v_iald C 4 0 rfl rfl ((mvF mvf itf 0 (40 * u + x) z) k) (by rw [nI_clamp (by omega)]) (vp_in_nI (by omega) (by omega)) dX6_copy_181 ?_
                              refine v_iast C 3 0 rfl rfl (vp_in_nI (by omega) (by omega)) [(mo, .inr (6, [.ref ml, .ref mz, .ref mi, .int su, .int (b2 it), .ref mt, .ref mv, .ref mp, .int nby, .int lt, .int pl, .int tok, .int va, .int be, .int wr, .ref md, .ref mc, .int am, .ref mk, .ref mq, .ref mr, .int td])), (ml, .inl (cs 0, 8, .inl laf)), (mz, .inl (cs 0, 8, .inl szf)), (mi, .inl (cs 0, 320, .inl (upd (mvF itf itf (40 * v + y) (40 * u + x) k) (40 * v + y + k) ((mvF mvf itf 0 (40 * u + x) z) k)))), (mv, .inl (cs 0, 40, .inl (mvF mvf itf 0 (40 * u + x) z)))] (by rw [nI_clamp (by omega)]; rfl) dX6_copy_182 ?_
                              refine v_iinc C (k := 6) (nI (k + 1)) [(0, .ref mo), (1, .int (nI u)), (2, .int (nI x)), (3, .int (nI v)), (4, .int (nI y)), (5, .int (nI z)), (6, .int (nI (k + 1)))] [1, 2, 3, 4, 5, 6, 0] dX6_copy_183 rfl (nI_inc _) (by decide) rfl ?_
                              refine v_goto C 154 dX6_copy_186 (by decide) ?_
                              exact ih154 (k + 1) _ _ _ (rfl) (by rw [show mvF mvf itf 0 (40 * u + x) z k = itf (40 * u + x + k) from by rw [mvF, if_pos (by omega)]; rfl]; exact mvF_s itf itf (40 * v + y) (40 * u + x) k) (rfl) (by first | assumption | omega) (by omega)
                        exact L154 _ 0 _ _ _ (rfl) (mvF_0 _ _ _ _) (by rw [show i = z by omega]) (by first | assumption | omega) (Nat.lt_succ_self _)
                      · skip
                        have hlt : i < z := nle_nI c9 (by omega) (by omega)
                        refine v_aload_n C 0 dX6_copy_124 rfl ?_
                        refine v_get C (v := .ref mv) fl_X6_copy_22 0 rfl rfl dX6_copy_125 ?_
                        refine v_iload C 6 dX6_copy_128 rfl ?_
                        refine v_aload_n C 0 dX6_copy_130 rfl ?_
                        refine v_get C (v := .ref mi) fl_X6_copy_16 0 rfl rfl dX6_copy_131 ?_
                        refine v_bipush C (v := 40) dX6_copy_134 (by decide) ?_
                        refine v_iload_n C 1 dX6_copy_136 rfl ?_
                        refine v_imul C dX6_copy_137 ?_
                        refine v_iload_n C 2 dX6_copy_138 rfl ?_
                        refine v_iadd C dX6_copy_139 ?_
                        refine V.topr (y := nI (40 * u + x)) (ix40 _ _) ?_
                        refine v_iload C 6 dX6_copy_140 rfl ?_
                        refine v_iadd C dX6_copy_142 ?_
                        refine V.topr (y := nI (40 * u + x + i)) (nI_add _ _) ?_
                        refine v_iald C 3 0 rfl rfl (itf (40 * u + x + i)) (by rw [nI_clamp (by omega)]) (vp_in_nI (by omega) (by omega)) dX6_copy_143 ?_
                        refine v_iast C 4 0 rfl rfl (vp_in_nI (by omega) (by omega)) [(mo, .inr (6, [.ref ml, .ref mz, .ref mi, .int su, .int (b2 it), .ref mt, .ref mv, .ref mp, .int nby, .int lt, .int pl, .int tok, .int va, .int be, .int wr, .ref md, .ref mc, .int am, .ref mk, .ref mq, .ref mr, .int td])), (ml, .inl (cs 0, 8, .inl laf)), (mz, .inl (cs 0, 8, .inl szf)), (mi, .inl (cs 0, 320, .inl itf)), (mv, .inl (cs 0, 40, .inl (upd (mvF mvf itf 0 (40 * u + x) i) i (itf (40 * u + x + i)))))] (by rw [nI_clamp (by omega)]; rfl) dX6_copy_144 ?_
                        refine v_iinc C (k := 6) (nI (i + 1)) [(0, .ref mo), (1, .int (nI u)), (2, .int (nI x)), (3, .int (nI v)), (4, .int (nI y)), (5, .int (nI z)), (6, .int (nI (i + 1)))] [1, 2, 3, 4, 5, 6, 0] dX6_copy_145 rfl (nI_inc _) (by decide) rfl ?_
                        refine v_goto C 117 dX6_copy_148 (by decide) ?_
                        exact ih117 (i + 1) _ _ (rfl) (by have h9 := mvF_s mvf itf 0 (40 * u + x) i; rw [Nat.zero_add] at h9; exact h9) (by first | assumption | omega) (by omega)
                  exact L117 _ 0 _ _ (rfl) (mvF_0 _ _ _ _) (by first | assumption | omega) (Nat.lt_succ_self _)
                · exact absurd c8 (by rw [hsv, inL_hold hbn (nI_pos (by omega)), hold_in hbn hy]; decide)
          · exact absurd hla c5
        · exact absurd (by rw [hsv]; exact nI_pos' (by omega)) c4
    · exact absurd ((inB_in (n := 8) (by decide) hv).symm.trans c2) (by decide)
theorem kX6_feed : KD yX6_feed wsX6_feed cX6_feed 2 (some .int) 1 := ⟨⟨_, rfl⟩, by decide, by decide +kernel, by decide +kernel, by decide +kernel⟩
theorem in_X6_feed_X6 : ∀ w ∈ wsX60, w ∈ wsX6_feed := by decide +kernel
theorem fl_X6_feed_75 : FL RX6 wsX6_feed RX6 RX6 TX6 22 6 8 75 := ⟨⟨in_X6_feed_X6, rfl, by decide, rfl⟩, by decide +kernel⟩
theorem fl_X6_feed_25 : FL RX6 wsX6_feed RX6 RX6 TX6 22 6 7 25 := ⟨⟨in_X6_feed_X6, rfl, by decide, rfl⟩, by decide +kernel⟩
theorem fp_X6_8 : FP TX6 22 8 tyX6 .int := ⟨tyX6_ok, nmX6, rfl, by decide +kernel⟩
set_option maxHeartbeats 4000000 in
set_option maxRecDepth 100000 in
theorem c_mfeed (l : Launch) (D : va_G) (cs : Nat → ClassId) {mo : Nat} {ml : Nat} {mz : Nat} {mi : Nat} {mt : Nat} {mv : Nat} {mp : Nat} {md : Nat} {mc : Nat} {mk : Nat} {mq : Nat} {mr : Nat} {su : Int32} {it : Bool} {lt : Int32} {pl : Int32} {tok : Int32} {va : Int32} {be : Int32} {wr : Int32} {am : Int32} {td : Int32} {f : Nat → Int32} {len : Nat} {x : Int32} (hlen : len ≤ 120) : CT l D (tz cs) yX6_feed wsX6_feed ({ frames := 1, cells := 0, slots := 0, locals := 25 }) [.ref mo, .int x] [(mo, .inr (6, [.ref ml, .ref mz, .ref mi, .int su, .int (b2 it), .ref mt, .ref mv, .ref mp, .int (nI len), .int lt, .int pl, .int tok, .int va, .int be, .int wr, .ref md, .ref mc, .int am, .ref mk, .ref mq, .ref mr, .int td])), (mp, .inl (cs 0, 120, .inl f))] (some (.int (if inI x 0 255 = true then (if len = 120 then -1000003 else nI (len + 1)) else -1000001))) [(mo, .inr (6, [.ref ml, .ref mz, .ref mi, .int su, .int (b2 it), .ref mt, .ref mv, .ref mp, .int (nI (if inI x 0 255 = true then (if len = 120 then len else len + 1) else len)), .int lt, .int pl, .int tok, .int va, .int be, .int wr, .ref md, .ref mc, .int am, .ref mk, .ref mq, .ref mr, .int td])), (mp, .inl (cs 0, 120, .inl (if inI x 0 255 = true then (if len = 120 then f else upd f len x) else f)))] := by
  refine CT.of kX6_feed (Nat.le_of_ble_eq_true rfl) ?_
  intro p e s m below meth c A C E
  have C : VOk p s m _ c cX6_feed 2 wsX6_feed RX6 D (tz cs) A s.heap := C
  refine V.lvs (lv' := [(0, .ref mo), (1, .int x)]) [0, 1] rfl ?_
  refine v_iload_n C 1 dX6_feed_0 rfl ?_
  refine v_i2l C dX6_feed_1 ?_
  refine v_lconst C (v := 0) dX6_feed_2 (by decide) ?_
  refine v_ldc2 C (v := 255) (by decide +kernel) dX6_feed_3 ?_
  refine v_callS C [.long (Int32.toInt64 x), .long 0, .long 255] [] kX6_in gX6_feed_X6_in (c_inI l D cs (x := x) (a := 0) (b := 255) (lo := 0) (hi := 255) (by decide) (by decide)) ⟨Nat.le_of_ble_eq_true rfl, Nat.le_of_ble_eq_true rfl⟩ ⟨rfl, rfl⟩ ⟨Nat.zero_le _, Nat.zero_le _⟩ rfl rfl (Nat.le_of_ble_eq_true rfl) [] [(mo, .inr (6, [.ref ml, .ref mz, .ref mi, .int su, .int (b2 it), .ref mt, .ref mv, .ref mp, .int (nI len), .int lt, .int pl, .int tok, .int va, .int be, .int wr, .ref md, .ref mc, .int am, .ref mk, .ref mq, .ref mr, .int td])), (mp, .inl (cs 0, 120, .inl f))] rfl (by decide) rfl (rfl) dX6_feed_6 ?_
  refine V.sts (st' := [.int (b2 (inI x 0 255))]) rfl ?_
  refine v_if_neB C 15 dX6_feed_9 (by decide) (fun c1 => ?_) (fun c1 => ?_)
  · skip
    refine v_aload_n C 0 dX6_feed_15 rfl ?_
    refine v_get C (v := .int (nI len)) fl_X6_feed_75 0 rfl rfl dX6_feed_16 ?_
    refine v_bipush C (v := 120) dX6_feed_19 (by decide) ?_
    refine v_icmp_ne C 27 dX6_feed_21 (by decide) (fun c2 => ?_) (fun c2 => ?_)
    · skip
      have h120 : ¬ len = 120 := fun z => c2 (by rw [z]; rfl)
      have hlt : len < 120 := by omega
      refine v_aload_n C 0 dX6_feed_27 rfl ?_
      refine v_get C (v := .ref mp) fl_X6_feed_25 0 rfl rfl dX6_feed_28 ?_
      refine v_aload_n C 0 dX6_feed_31 rfl ?_
      refine v_get C (v := .int (nI len)) fl_X6_feed_75 0 rfl rfl dX6_feed_32 ?_
      refine v_iload_n C 1 dX6_feed_35 rfl ?_
      refine v_iast C 1 0 rfl rfl (vp_in_nI (by omega) (by omega)) [(mo, .inr (6, [.ref ml, .ref mz, .ref mi, .int su, .int (b2 it), .ref mt, .ref mv, .ref mp, .int (nI len), .int lt, .int pl, .int tok, .int va, .int be, .int wr, .ref md, .ref mc, .int am, .ref mk, .ref mq, .ref mr, .int td])), (mp, .inl (cs 0, 120, .inl (upd f len x)))] (by rw [nI_clamp (by omega)]; rfl) dX6_feed_36 ?_
      refine v_aload_n C 0 dX6_feed_37 rfl ?_
      refine v_dup C dX6_feed_38 rfl ?_
      refine v_get C (v := .int (nI len)) fl_X6_feed_75 0 rfl rfl dX6_feed_39 ?_
      refine v_iconst C (v := 1) dX6_feed_42 (by decide) ?_
      refine v_iadd C dX6_feed_43 ?_
      refine v_put C fl_X6_feed_75 fp_X6_8 0 rfl rfl rfl (Nat.le_of_ble_eq_true rfl) [(mo, .inr (6, [.ref ml, .ref mz, .ref mi, .int su, .int (b2 it), .ref mt, .ref mv, .ref mp, .int ((nI len) + 1), .int lt, .int pl, .int tok, .int va, .int be, .int wr, .ref md, .ref mc, .int am, .ref mk, .ref mq, .ref mr, .int td])), (mp, .inl (cs 0, 120, .inl (upd f len x)))] rfl dX6_feed_44 ?_
      refine v_aload_n C 0 dX6_feed_47 rfl ?_
      refine v_get C (v := .int ((nI len) + 1)) fl_X6_feed_75 0 rfl rfl dX6_feed_48 ?_
      exact v_iret C E (by first | rfl | (simp only [c1, h120, nI_1, ↓reduceIte, Bool.false_eq_true, reduceCtorEq, Bool.and_true, Bool.true_and, Bool.and_false, Bool.false_and]; done) | (simp [c1, h120, nI_1]; done) | (simp_all [b2]; done)) (by first | rfl | (simp only [c1, h120, nI_1, ↓reduceIte, Bool.false_eq_true, reduceCtorEq, Bool.and_true, Bool.true_and, Bool.and_false, Bool.false_and]; done) | (simp [c1, h120, nI_1]; done) | (simp_all [b2]; done)) dX6_feed_51
    · skip
      have h120 : len = 120 := eq_nI (a := len) (b := 120) c2 (by omega) (by decide)
      refine v_ldc C (v := -1000003) (by decide +kernel) dX6_feed_24 ?_
      exact v_iret C E (by first | rfl | (simp only [c1, h120, ↓reduceIte, Bool.false_eq_true, reduceCtorEq, Bool.and_true, Bool.true_and, Bool.and_false, Bool.false_and]; done) | (simp [c1, h120]; done) | (simp_all [b2]; done)) (by first | rfl | (simp only [c1, h120, ↓reduceIte, Bool.false_eq_true, reduceCtorEq, Bool.and_true, Bool.true_and, Bool.and_false, Bool.false_and]; done) | (simp [c1, h120]; done) | (simp_all [b2]; done)) dX6_feed_26
  · skip
    refine v_ldc C (v := -1000001) (by decide +kernel) dX6_feed_12 ?_
    exact v_iret C E (by first | rfl | (simp only [c1, ↓reduceIte, Bool.false_eq_true, reduceCtorEq, Bool.and_true, Bool.true_and, Bool.and_false, Bool.false_and]; done) | (simp [c1]; done) | (simp_all [b2]; done)) (by first | rfl | (simp only [c1, ↓reduceIte, Bool.false_eq_true, reduceCtorEq, Bool.and_true, Bool.true_and, Bool.and_false, Bool.false_and]; done) | (simp [c1]; done) | (simp_all [b2]; done)) dX6_feed_14
