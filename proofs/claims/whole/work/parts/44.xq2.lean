theorem kX6_table : KD yX6_table wsX6_table cX6_table 3 (some .int) 0 := ⟨⟨_, rfl⟩, by decide, by decide +kernel, by decide +kernel, by decide +kernel⟩
theorem in_X6_table_X6 : ∀ w ∈ wsX60, w ∈ wsX6_table := by decide +kernel
theorem fl_X6_table_75 : FL RX6 wsX6_table RX6 RX6 TX6 22 6 8 75 := ⟨⟨in_X6_table_X6, rfl, by decide, rfl⟩, by decide +kernel⟩
theorem fl_X6_table_99 : FL RX6 wsX6_table RX6 RX6 TX6 22 6 14 99 := ⟨⟨in_X6_table_X6, rfl, by decide, rfl⟩, by decide +kernel⟩
theorem fl_X6_table_125 : FL RX6 wsX6_table RX6 RX6 TX6 22 6 9 125 := ⟨⟨in_X6_table_X6, rfl, by decide, rfl⟩, by decide +kernel⟩
theorem fp_X6_9 : FP TX6 22 9 tyX6 .int := ⟨tyX6_ok, nmX6, rfl, by decide +kernel⟩
theorem fl_X6_table_82 : FL RX6 wsX6_table RX6 RX6 TX6 22 6 13 82 := ⟨⟨in_X6_table_X6, rfl, by decide, rfl⟩, by decide +kernel⟩
set_option maxHeartbeats 4000000 in
set_option maxRecDepth 100000 in
theorem c_mtableBad (l : Launch) (D : va_G) (cs : Nat → ClassId) {mo : Nat} {ml : Nat} {mz : Nat} {mi : Nat} {mt : Nat} {mv : Nat} {mp : Nat} {md : Nat} {mc : Nat} {mk : Nat} {mq : Nat} {mr : Nat} {su : Int32} {it : Bool} {lt : Int32} {pl : Int32} {tok : Int32} {va : Int32} {be : Int32} {wr : Int32} {am : Int32} {td : Int32} {f : Nat → Int32} {len : Nat} {d : Nat → Int32} {tf : Nat → Int32} (hlen : len ≤ 120) (h0 : ¬ lmR f len = 0) : CT l D (tz cs) yX6_table wsX6_table ({ frames := 6, cells := 0, slots := 0, locals := 134 }) [.ref mo] [(mo, .inr (6, [.ref ml, .ref mz, .ref mi, .int su, .int (b2 it), .ref mt, .ref mv, .ref mp, .int (nI len), .int lt, .int pl, .int tok, .int va, .int be, .int wr, .ref md, .ref mc, .int am, .ref mk, .ref mq, .ref mr, .int td])), (mp, .inl (cs 0, 120, .inl f)), (md, .inl (cs 0, 29, .inl d)), (mt, .inl (cs 0, 29, .inl tf))] (some (.int (-1000100 - nI (lmP f len)))) [(mo, .inr (6, [.ref ml, .ref mz, .ref mi, .int su, .int (b2 it), .ref mt, .ref mv, .ref mp, .int 0, .int (lmR f len), .int (nI (tkN f len (lmP f len))), .int (mtk f len (lmP f len)), .int (mva f len (lmP f len)), .int (nI (lmP f len)), .int (lmR f len), .ref md, .ref mc, .int am, .ref mk, .ref mq, .ref mr, .int td])), (mp, .inl (cs 0, 120, .inl f)), (md, .inl (cs 0, 29, .inl (lmD f len d))), (mt, .inl (cs 0, 29, .inl tf))] := by
  refine CT.of kX6_table (Nat.le_of_ble_eq_true rfl) ?_
  intro p e s m below meth c A C E
  have C : VOk p s m _ c cX6_table 3 wsX6_table RX6 D (tz cs) A s.heap := C
  refine V.lvs (lv' := [(0, .ref mo)]) [0] rfl ?_
  refine v_aload_n C 0 dX6_table_0 rfl ?_
  refine v_callV (qi := 0) C [] [] kX6_readTable gX6_table_X6_readTable (c_readTableBad l D cs (mo := mo) (ml := ml) (mz := mz) (mi := mi) (mt := mt) (mv := mv) (mp := mp) (md := md) (mc := mc) (mk := mk) (mq := mq) (mr := mr) (su := su) (it := it) (lt := lt) (pl := pl) (tok := tok) (va := va) (be := be) (wr := wr) (am := am) (td := td) (f := f) (len := len) (d := d) (by first | assumption | omega) (by first | assumption | omega)) ⟨Nat.le_of_ble_eq_true rfl, Nat.le_of_ble_eq_true rfl⟩ ⟨rfl, rfl⟩ ⟨Nat.zero_le _, Nat.zero_le _⟩ rfl 0 rfl rfl rfl rfl (Nat.le_of_ble_eq_true rfl) [0, 1, 2] [(mo, .inr (6, [.ref ml, .ref mz, .ref mi, .int su, .int (b2 it), .ref mt, .ref mv, .ref mp, .int (nI len), .int lt, .int (nI (tkN f len (lmP f len))), .int (mtk f len (lmP f len)), .int (mva f len (lmP f len)), .int (nI (lmP f len)), .int (lmR f len), .ref md, .ref mc, .int am, .ref mk, .ref mq, .ref mr, .int td])), (mp, .inl (cs 0, 120, .inl f)), (md, .inl (cs 0, 29, .inl (lmD f len d))), (mt, .inl (cs 0, 29, .inl tf))] rfl (by decide) (show [mo, mp, md] = [mo, mp, md] from rfl) (rfl) dX6_table_1 ?_
  refine V.sts (st' := [.int (b2 false)]) rfl ?_
  refine v_istore_n C [(0, .ref mo), (1, .int (b2 false))] [1, 0] dX6_table_4 (by decide) rfl ?_
  refine v_aload_n C 0 dX6_table_5 rfl ?_
  refine v_iconst C (v := 0) dX6_table_6 (by decide) ?_
  refine v_put C fl_X6_table_75 fp_X6_8 0 rfl rfl rfl (Nat.le_of_ble_eq_true rfl) [(mo, .inr (6, [.ref ml, .ref mz, .ref mi, .int su, .int (b2 it), .ref mt, .ref mv, .ref mp, .int 0, .int lt, .int (nI (tkN f len (lmP f len))), .int (mtk f len (lmP f len)), .int (mva f len (lmP f len)), .int (nI (lmP f len)), .int (lmR f len), .ref md, .ref mc, .int am, .ref mk, .ref mq, .ref mr, .int td])), (mp, .inl (cs 0, 120, .inl f)), (md, .inl (cs 0, 29, .inl (lmD f len d))), (mt, .inl (cs 0, 29, .inl tf))] rfl dX6_table_7 ?_
  refine v_iload_n C 1 dX6_table_10 rfl ?_
  refine v_if_neB C 30 dX6_table_11 (by decide) (fun c1 => ?_) (fun c1 => ?_)
  · exact absurd c1 (by decide)
  · skip
    refine v_aload_n C 0 dX6_table_14 rfl ?_
    refine v_aload_n C 0 dX6_table_15 rfl ?_
    refine v_get C (v := .int (lmR f len)) fl_X6_table_99 0 rfl rfl dX6_table_16 ?_
    refine v_put C fl_X6_table_125 fp_X6_9 0 rfl rfl rfl (Nat.le_of_ble_eq_true rfl) [(mo, .inr (6, [.ref ml, .ref mz, .ref mi, .int su, .int (b2 it), .ref mt, .ref mv, .ref mp, .int 0, .int (lmR f len), .int (nI (tkN f len (lmP f len))), .int (mtk f len (lmP f len)), .int (mva f len (lmP f len)), .int (nI (lmP f len)), .int (lmR f len), .ref md, .ref mc, .int am, .ref mk, .ref mq, .ref mr, .int td])), (mp, .inl (cs 0, 120, .inl f)), (md, .inl (cs 0, 29, .inl (lmD f len d))), (mt, .inl (cs 0, 29, .inl tf))] rfl dX6_table_19 ?_
    refine v_ldc C (v := -1000100) (by decide +kernel) dX6_table_22 ?_
    refine v_aload_n C 0 dX6_table_24 rfl ?_
    refine v_get C (v := .int (nI (lmP f len))) fl_X6_table_82 0 rfl rfl dX6_table_25 ?_
    refine v_isub C dX6_table_28 ?_
    exact v_iret C E (rfl) (by first | rfl | (simp [hlen, h0, c1, ↓reduceIte]; done) | (simp_all [b2]; done)) dX6_table_29
set_option maxHeartbeats 4000000 in
set_option maxRecDepth 100000 in
theorem c_mtableBad2 (l : Launch) (D : va_G) (cs : Nat → ClassId) {mo : Nat} {ml : Nat} {mz : Nat} {mi : Nat} {mt : Nat} {mv : Nat} {mp : Nat} {md : Nat} {mc : Nat} {mk : Nat} {mq : Nat} {mr : Nat} {su : Int32} {it : Bool} {lt : Int32} {pl : Int32} {tok : Int32} {va : Int32} {be : Int32} {wr : Int32} {am : Int32} {td : Int32} {f : Nat → Int32} {len : Nat} {d : Nat → Int32} {tf : Nat → Int32} (hlen : len ≤ 120) (h0 : lmR f len = 0) (h1 : ¬ (mdX f len d).1 = 0) : CT l D (tz cs) yX6_table wsX6_table ({ frames := 6, cells := 0, slots := 0, locals := 134 }) [.ref mo] [(mo, .inr (6, [.ref ml, .ref mz, .ref mi, .int su, .int (b2 it), .ref mt, .ref mv, .ref mp, .int (nI len), .int lt, .int pl, .int tok, .int va, .int be, .int wr, .ref md, .ref mc, .int am, .ref mk, .ref mq, .ref mr, .int td])), (mp, .inl (cs 0, 120, .inl f)), (md, .inl (cs 0, 29, .inl d)), (mt, .inl (cs 0, 29, .inl tf))] (some (.int (-1000100 - nI (mdX f len d).2.1))) [(mo, .inr (6, [.ref ml, .ref mz, .ref mi, .int su, .int (b2 it), .ref mt, .ref mv, .ref mp, .int 0, .int ((mdX f len d).1), .int (nI (tkN f len ((mdX f len d).2.1))), .int (mtk f len ((mdX f len d).2.1)), .int (mva f len ((mdX f len d).2.1)), .int (nI ((mdX f len d).2.1)), .int ((mdX f len d).1), .ref md, .ref mc, .int am, .ref mk, .ref mq, .ref mr, .int td])), (mp, .inl (cs 0, 120, .inl f)), (md, .inl (cs 0, 29, .inl ((mdX f len d).2.2))), (mt, .inl (cs 0, 29, .inl tf))] := by
  refine CT.of kX6_table (Nat.le_of_ble_eq_true rfl) ?_
  intro p e s m below meth c A C E
  have C : VOk p s m _ c cX6_table 3 wsX6_table RX6 D (tz cs) A s.heap := C
  refine V.lvs (lv' := [(0, .ref mo)]) [0] rfl ?_
  refine v_aload_n C 0 dX6_table_0 rfl ?_
  refine v_callV (qi := 0) C [] [] kX6_readTable gX6_table_X6_readTable (c_readTableOk l D cs (mo := mo) (ml := ml) (mz := mz) (mi := mi) (mt := mt) (mv := mv) (mp := mp) (md := md) (mc := mc) (mk := mk) (mq := mq) (mr := mr) (su := su) (it := it) (lt := lt) (pl := pl) (tok := tok) (va := va) (be := be) (wr := wr) (am := am) (td := td) (f := f) (len := len) (d := d) (by first | assumption | omega) (by first | assumption | omega)) ⟨Nat.le_of_ble_eq_true rfl, Nat.le_of_ble_eq_true rfl⟩ ⟨rfl, rfl⟩ ⟨Nat.zero_le _, Nat.zero_le _⟩ rfl 0 rfl rfl rfl rfl (Nat.le_of_ble_eq_true rfl) [0, 1, 2] [(mo, .inr (6, [.ref ml, .ref mz, .ref mi, .int su, .int (b2 it), .ref mt, .ref mv, .ref mp, .int (nI len), .int lt, .int (nI (tkN f len ((mdX f len d).2.1))), .int (mtk f len ((mdX f len d).2.1)), .int (mva f len ((mdX f len d).2.1)), .int (nI ((mdX f len d).2.1)), .int (if (mdX f len d).1 = 0 then wr else (mdX f len d).1), .ref md, .ref mc, .int am, .ref mk, .ref mq, .ref mr, .int td])), (mp, .inl (cs 0, 120, .inl f)), (md, .inl (cs 0, 29, .inl ((mdX f len d).2.2))), (mt, .inl (cs 0, 29, .inl tf))] rfl (by decide) (show [mo, mp, md] = [mo, mp, md] from rfl) (rfl) dX6_table_1 ?_
  refine V.sts (st' := [.int (b2 (decide ((mdX f len d).1 = 0)))]) rfl ?_
  refine v_istore_n C [(0, .ref mo), (1, .int (b2 (decide ((mdX f len d).1 = 0))))] [1, 0] dX6_table_4 (by decide) rfl ?_
  refine v_aload_n C 0 dX6_table_5 rfl ?_
  refine v_iconst C (v := 0) dX6_table_6 (by decide) ?_
  refine v_put C fl_X6_table_75 fp_X6_8 0 rfl rfl rfl (Nat.le_of_ble_eq_true rfl) [(mo, .inr (6, [.ref ml, .ref mz, .ref mi, .int su, .int (b2 it), .ref mt, .ref mv, .ref mp, .int 0, .int lt, .int (nI (tkN f len ((mdX f len d).2.1))), .int (mtk f len ((mdX f len d).2.1)), .int (mva f len ((mdX f len d).2.1)), .int (nI ((mdX f len d).2.1)), .int (if (mdX f len d).1 = 0 then wr else (mdX f len d).1), .ref md, .ref mc, .int am, .ref mk, .ref mq, .ref mr, .int td])), (mp, .inl (cs 0, 120, .inl f)), (md, .inl (cs 0, 29, .inl ((mdX f len d).2.2))), (mt, .inl (cs 0, 29, .inl tf))] rfl dX6_table_7 ?_
  refine v_iload_n C 1 dX6_table_10 rfl ?_
  refine v_if_neB C 30 dX6_table_11 (by decide) (fun c1 => ?_) (fun c1 => ?_)
  · exact absurd (of_decide_eq_true c1) h1
  · skip
    refine v_aload_n C 0 dX6_table_14 rfl ?_
    refine v_aload_n C 0 dX6_table_15 rfl ?_
    refine v_get C (v := .int (if (mdX f len d).1 = 0 then wr else (mdX f len d).1)) fl_X6_table_99 0 rfl rfl dX6_table_16 ?_
    refine v_put C fl_X6_table_125 fp_X6_9 0 rfl rfl rfl (Nat.le_of_ble_eq_true rfl) [(mo, .inr (6, [.ref ml, .ref mz, .ref mi, .int su, .int (b2 it), .ref mt, .ref mv, .ref mp, .int 0, .int (if (mdX f len d).1 = 0 then wr else (mdX f len d).1), .int (nI (tkN f len ((mdX f len d).2.1))), .int (mtk f len ((mdX f len d).2.1)), .int (mva f len ((mdX f len d).2.1)), .int (nI ((mdX f len d).2.1)), .int (if (mdX f len d).1 = 0 then wr else (mdX f len d).1), .ref md, .ref mc, .int am, .ref mk, .ref mq, .ref mr, .int td])), (mp, .inl (cs 0, 120, .inl f)), (md, .inl (cs 0, 29, .inl ((mdX f len d).2.2))), (mt, .inl (cs 0, 29, .inl tf))] rfl dX6_table_19 ?_
    refine v_ldc C (v := -1000100) (by decide +kernel) dX6_table_22 ?_
    refine v_aload_n C 0 dX6_table_24 rfl ?_
    refine v_get C (v := .int (nI ((mdX f len d).2.1))) fl_X6_table_82 0 rfl rfl dX6_table_25 ?_
    refine v_isub C dX6_table_28 ?_
    exact v_iret C E (by rw [if_neg h1]) (by first | rfl | (simp [hlen, h0, h1, c1, ↓reduceIte]; done) | (simp_all [b2]; done)) dX6_table_29
theorem fl_X6_table_129 : FL RX6 wsX6_table RX6 RX6 TX6 22 6 4 129 := ⟨⟨in_X6_table_X6, rfl, by decide, rfl⟩, by decide +kernel⟩
theorem fp_X6_4 : FP TX6 22 4 tyX6 .boolean := ⟨tyX6_ok, nmX6, rfl, by decide +kernel⟩
theorem fl_X6_table_133 : FL RX6 wsX6_table RX6 RX6 TX6 22 6 17 133 := ⟨⟨in_X6_table_X6, rfl, by decide, rfl⟩, by decide +kernel⟩
theorem fl_X6_table_19 : FL RX6 wsX6_table RX6 RX6 TX6 22 6 5 19 := ⟨⟨in_X6_table_X6, rfl, by decide, rfl⟩, by decide +kernel⟩
theorem fl_X6_table_28 : FL RX6 wsX6_table RX6 RX6 TX6 22 6 15 28 := ⟨⟨in_X6_table_X6, rfl, by decide, rfl⟩, by decide +kernel⟩
set_option maxHeartbeats 4000000 in
set_option maxRecDepth 100000 in
theorem c_mtableOk (l : Launch) (D : va_G) (cs : Nat → ClassId) {mo : Nat} {ml : Nat} {mz : Nat} {mi : Nat} {mt : Nat} {mv : Nat} {mp : Nat} {md : Nat} {mc : Nat} {mk : Nat} {mq : Nat} {mr : Nat} {su : Int32} {it : Bool} {lt : Int32} {pl : Int32} {tok : Int32} {va : Int32} {be : Int32} {wr : Int32} {am : Int32} {td : Int32} {f : Nat → Int32} {len : Nat} {d : Nat → Int32} {tf : Nat → Int32} (hlen : len ≤ 120) (h0 : lmR f len = 0) (h1 : (mdX f len d).1 = 0) : CT l D (tz cs) yX6_table wsX6_table ({ frames := 6, cells := 0, slots := 0, locals := 134 }) [.ref mo] [(mo, .inr (6, [.ref ml, .ref mz, .ref mi, .int su, .int (b2 it), .ref mt, .ref mv, .ref mp, .int (nI len), .int lt, .int pl, .int tok, .int va, .int be, .int wr, .ref md, .ref mc, .int am, .ref mk, .ref mq, .ref mr, .int td])), (mp, .inl (cs 0, 120, .inl f)), (md, .inl (cs 0, 29, .inl d)), (mt, .inl (cs 0, 29, .inl tf))] (some (.int (cpF tf (mdX f len d).2.2 29 1))) [(mo, .inr (6, [.ref ml, .ref mz, .ref mi, .int su, .int (b2 true), .ref mt, .ref mv, .ref mp, .int 0, .int lt, .int (nI (tkN f len ((mdX f len d).2.1))), .int (mtk f len ((mdX f len d).2.1)), .int (mva f len ((mdX f len d).2.1)), .int (nI ((mdX f len d).2.1)), .int wr, .ref md, .ref mc, .int 0, .ref mk, .ref mq, .ref mr, .int td])), (mp, .inl (cs 0, 120, .inl f)), (md, .inl (cs 0, 29, .inl ((mdX f len d).2.2))), (mt, .inl (cs 0, 29, .inl (cpF tf (mdX f len d).2.2 29)))] := by
  refine CT.of kX6_table (Nat.le_of_ble_eq_true rfl) ?_
  intro p e s m below meth c A C E
  have C : VOk p s m _ c cX6_table 3 wsX6_table RX6 D (tz cs) A s.heap := C
  refine V.lvs (lv' := [(0, .ref mo)]) [0] rfl ?_
  refine v_aload_n C 0 dX6_table_0 rfl ?_
  refine v_callV (qi := 0) C [] [] kX6_readTable gX6_table_X6_readTable (c_readTableOk l D cs (mo := mo) (ml := ml) (mz := mz) (mi := mi) (mt := mt) (mv := mv) (mp := mp) (md := md) (mc := mc) (mk := mk) (mq := mq) (mr := mr) (su := su) (it := it) (lt := lt) (pl := pl) (tok := tok) (va := va) (be := be) (wr := wr) (am := am) (td := td) (f := f) (len := len) (d := d) (by first | assumption | omega) (by first | assumption | omega)) ⟨Nat.le_of_ble_eq_true rfl, Nat.le_of_ble_eq_true rfl⟩ ⟨rfl, rfl⟩ ⟨Nat.zero_le _, Nat.zero_le _⟩ rfl 0 rfl rfl rfl rfl (Nat.le_of_ble_eq_true rfl) [0, 1, 2] [(mo, .inr (6, [.ref ml, .ref mz, .ref mi, .int su, .int (b2 it), .ref mt, .ref mv, .ref mp, .int (nI len), .int lt, .int (nI (tkN f len ((mdX f len d).2.1))), .int (mtk f len ((mdX f len d).2.1)), .int (mva f len ((mdX f len d).2.1)), .int (nI ((mdX f len d).2.1)), .int (if (mdX f len d).1 = 0 then wr else (mdX f len d).1), .ref md, .ref mc, .int am, .ref mk, .ref mq, .ref mr, .int td])), (mp, .inl (cs 0, 120, .inl f)), (md, .inl (cs 0, 29, .inl ((mdX f len d).2.2))), (mt, .inl (cs 0, 29, .inl tf))] rfl (by decide) (show [mo, mp, md] = [mo, mp, md] from rfl) (rfl) dX6_table_1 ?_
  refine V.sts (st' := [.int (b2 (decide ((mdX f len d).1 = 0)))]) rfl ?_
  refine v_istore_n C [(0, .ref mo), (1, .int (b2 (decide ((mdX f len d).1 = 0))))] [1, 0] dX6_table_4 (by decide) rfl ?_
  refine v_aload_n C 0 dX6_table_5 rfl ?_
  refine v_iconst C (v := 0) dX6_table_6 (by decide) ?_
  refine v_put C fl_X6_table_75 fp_X6_8 0 rfl rfl rfl (Nat.le_of_ble_eq_true rfl) [(mo, .inr (6, [.ref ml, .ref mz, .ref mi, .int su, .int (b2 it), .ref mt, .ref mv, .ref mp, .int 0, .int lt, .int (nI (tkN f len ((mdX f len d).2.1))), .int (mtk f len ((mdX f len d).2.1)), .int (mva f len ((mdX f len d).2.1)), .int (nI ((mdX f len d).2.1)), .int (if (mdX f len d).1 = 0 then wr else (mdX f len d).1), .ref md, .ref mc, .int am, .ref mk, .ref mq, .ref mr, .int td])), (mp, .inl (cs 0, 120, .inl f)), (md, .inl (cs 0, 29, .inl ((mdX f len d).2.2))), (mt, .inl (cs 0, 29, .inl tf))] rfl dX6_table_7 ?_
  refine v_iload_n C 1 dX6_table_10 rfl ?_
  refine v_if_neB C 30 dX6_table_11 (by decide) (fun c1 => ?_) (fun c1 => ?_)
  · skip
    refine V.wss (ws' := [(mo, .inr (6, [.ref ml, .ref mz, .ref mi, .int su, .int (b2 it), .ref mt, .ref mv, .ref mp, .int 0, .int lt, .int (nI (tkN f len ((mdX f len d).2.1))), .int (mtk f len ((mdX f len d).2.1)), .int (mva f len ((mdX f len d).2.1)), .int (nI ((mdX f len d).2.1)), .int wr, .ref md, .ref mc, .int am, .ref mk, .ref mq, .ref mr, .int td])), (mp, .inl (cs 0, 120, .inl f)), (md, .inl (cs 0, 29, .inl ((mdX f len d).2.2))), (mt, .inl (cs 0, 29, .inl tf))]) (by rw [if_pos h1]) ?_
    refine v_iconst C (v := 0) dX6_table_30 (by decide) ?_
    refine v_istore_n C [(0, .ref mo), (1, .int (b2 (decide ((mdX f len d).1 = 0)))), (2, .int 0)] [1, 2, 0] dX6_table_31 (by decide) rfl ?_
    have L32 : ∀ (n : Nat) (i : Nat) (y0 : Int32) (y1 : Nat → Int32), y0 = (nI i) → y1 = cpF tf (mdX f len d).2.2 i → (i ≤ 29) → (29 - i) < n → V p l e ({ frames := 6, cells := 0, slots := 0, locals := 134 }) s m (List.toArray [.ref mo]) below meth c 0 0 (MQ below (vq_Q (some (.int (cpF tf (mdX f len d).2.2 29 1))) D [(mo, .inr (6, [.ref ml, .ref mz, .ref mi, .int su, .int (b2 true), .ref mt, .ref mv, .ref mp, .int 0, .int lt, .int (nI (tkN f len ((mdX f len d).2.1))), .int (mtk f len ((mdX f len d).2.1)), .int (mva f len ((mdX f len d).2.1)), .int (nI ((mdX f len d).2.1)), .int wr, .ref md, .ref mc, .int 0, .ref mk, .ref mq, .ref mr, .int td])), (mp, .inl (cs 0, 120, .inl f)), (md, .inl (cs 0, 29, .inl ((mdX f len d).2.2))), (mt, .inl (cs 0, 29, .inl (cpF tf (mdX f len d).2.2 29)))] [(mo, .inr (6, [.ref ml, .ref mz, .ref mi, .int su, .int (b2 it), .ref mt, .ref mv, .ref mp, .int (nI len), .int lt, .int pl, .int tok, .int va, .int be, .int wr, .ref md, .ref mc, .int am, .ref mk, .ref mq, .ref mr, .int td])), (mp, .inl (cs 0, 120, .inl f)), (md, .inl (cs 0, 29, .inl d)), (mt, .inl (cs 0, 29, .inl tf))] s.heap.size) (List.toArray [.ref mo]) s 0 0 (va_A [(mo, .inr (6, [.ref ml, .ref mz, .ref mi, .int su, .int (b2 it), .ref mt, .ref mv, .ref mp, .int (nI len), .int lt, .int pl, .int tok, .int va, .int be, .int wr, .ref md, .ref mc, .int am, .ref mk, .ref mq, .ref mr, .int td])), (mp, .inl (cs 0, 120, .inl f)), (md, .inl (cs 0, 29, .inl d)), (mt, .inl (cs 0, 29, .inl tf))] s.heap.size)) 3 D A s.heap 32 [(0, .ref mo), (1, .int (b2 (decide ((mdX f len d).1 = 0)))), (2, .int y0)] [] [(mo, .inr (6, [.ref ml, .ref mz, .ref mi, .int su, .int (b2 it), .ref mt, .ref mv, .ref mp, .int 0, .int lt, .int (nI (tkN f len ((mdX f len d).2.1))), .int (mtk f len ((mdX f len d).2.1)), .int (mva f len ((mdX f len d).2.1)), .int (nI ((mdX f len d).2.1)), .int wr, .ref md, .ref mc, .int am, .ref mk, .ref mq, .ref mr, .int td])), (mp, .inl (cs 0, 120, .inl f)), (md, .inl (cs 0, 29, .inl ((mdX f len d).2.2))), (mt, .inl (cs 0, 29, .inl y1))] := by
      intro n
      induction n with
      | zero =>
        intros; omega
      | succ n ih32 =>
        intro i y0 y1 ey0 ey1 hi hn
        subst ey0
        subst ey1
        refine v_iload_n C 2 dX6_table_32 rfl ?_
        refine v_bipush C (v := 29) dX6_table_33 (by decide) ?_
        refine v_icmp_ge C 56 dX6_table_35 (by decide) (fun c2 => ?_) (fun c2 => ?_)
        · skip
          have hge : 29 ≤ i := le_nI (a := 29) (b := i) c2 (by omega) (by omega)
          have hsub : i = 29 := by omega
          subst hsub
          refine v_aload_n C 0 dX6_table_56 rfl ?_
          refine v_iconst C (v := 1) dX6_table_57 (by decide) ?_
          refine v_put C fl_X6_table_129 fp_X6_4 0 rfl rfl rfl (Nat.le_of_ble_eq_true rfl) [(mo, .inr (6, [.ref ml, .ref mz, .ref mi, .int su, .int 1, .ref mt, .ref mv, .ref mp, .int 0, .int lt, .int (nI (tkN f len ((mdX f len d).2.1))), .int (mtk f len ((mdX f len d).2.1)), .int (mva f len ((mdX f len d).2.1)), .int (nI ((mdX f len d).2.1)), .int wr, .ref md, .ref mc, .int am, .ref mk, .ref mq, .ref mr, .int td])), (mp, .inl (cs 0, 120, .inl f)), (md, .inl (cs 0, 29, .inl ((mdX f len d).2.2))), (mt, .inl (cs 0, 29, .inl (cpF tf (mdX f len d).2.2 29)))] rfl dX6_table_58 ?_
          refine v_aload_n C 0 dX6_table_61 rfl ?_
          refine v_iconst C (v := 0) dX6_table_62 (by decide) ?_
          refine v_put C fl_X6_table_133 fp_X6_17 0 rfl rfl rfl (Nat.le_of_ble_eq_true rfl) [(mo, .inr (6, [.ref ml, .ref mz, .ref mi, .int su, .int 1, .ref mt, .ref mv, .ref mp, .int 0, .int lt, .int (nI (tkN f len ((mdX f len d).2.1))), .int (mtk f len ((mdX f len d).2.1)), .int (mva f len ((mdX f len d).2.1)), .int (nI ((mdX f len d).2.1)), .int wr, .ref md, .ref mc, .int 0, .ref mk, .ref mq, .ref mr, .int td])), (mp, .inl (cs 0, 120, .inl f)), (md, .inl (cs 0, 29, .inl ((mdX f len d).2.2))), (mt, .inl (cs 0, 29, .inl (cpF tf (mdX f len d).2.2 29)))] rfl dX6_table_63 ?_
          refine v_aload_n C 0 dX6_table_66 rfl ?_
          refine v_get C (v := .ref mt) fl_X6_table_19 0 rfl rfl dX6_table_67 ?_
          refine v_iconst C (v := 1) dX6_table_70 (by decide) ?_
          refine v_iald C 3 0 rfl rfl ((cpF tf (mdX f len d).2.2 29) 1) (rfl) (vp_in_nI (n := 1) (N := 29) (by decide) (by decide)) dX6_table_71 ?_
          exact v_iret C E (rfl) (by first | rfl | (simp [hlen, h0, h1, c1, hi, c2, ↓reduceIte]; done) | (simp_all [b2]; done)) dX6_table_72
        · skip
          have hlt : i < 29 := nle_nI (b := i) (a := 29) c2 (by omega) (by omega)
          refine v_aload_n C 0 dX6_table_38 rfl ?_
          refine v_get C (v := .ref mt) fl_X6_table_19 0 rfl rfl dX6_table_39 ?_
          refine v_iload_n C 2 dX6_table_42 rfl ?_
          refine v_aload_n C 0 dX6_table_43 rfl ?_
          refine v_get C (v := .ref md) fl_X6_table_28 0 rfl rfl dX6_table_44 ?_
          refine v_iload_n C 2 dX6_table_47 rfl ?_
          refine v_iald C 2 0 rfl rfl (((mdX f len d).2.2) i) (by rw [nI_clamp (by omega)]) (vp_in_nI (by omega) (by omega)) dX6_table_48 ?_
          refine v_iast C 3 0 rfl rfl (vp_in_nI (by omega) (by omega)) [(mo, .inr (6, [.ref ml, .ref mz, .ref mi, .int su, .int (b2 it), .ref mt, .ref mv, .ref mp, .int 0, .int lt, .int (nI (tkN f len ((mdX f len d).2.1))), .int (mtk f len ((mdX f len d).2.1)), .int (mva f len ((mdX f len d).2.1)), .int (nI ((mdX f len d).2.1)), .int wr, .ref md, .ref mc, .int am, .ref mk, .ref mq, .ref mr, .int td])), (mp, .inl (cs 0, 120, .inl f)), (md, .inl (cs 0, 29, .inl ((mdX f len d).2.2))), (mt, .inl (cs 0, 29, .inl (upd (cpF tf (mdX f len d).2.2 i) i (((mdX f len d).2.2) i))))] (by rw [nI_clamp (by omega)]; rfl) dX6_table_49 ?_
          refine v_iinc C (k := 2) (nI (i + 1)) [(0, .ref mo), (1, .int (b2 (decide ((mdX f len d).1 = 0)))), (2, .int (nI (i + 1)))] [1, 2, 0] dX6_table_50 rfl (nI_inc _) (by decide) rfl ?_
          refine v_goto C 32 dX6_table_53 (by decide) ?_
          exact ih32 (i + 1) _ _ (rfl) (cpF_s _ _ _) (by first | assumption | omega) (by omega)
    exact L32 _ 0 _ _ (rfl) (cpF_0 _ _) (by first | assumption | omega) (Nat.lt_succ_self _)
  · exact absurd h1 (of_decide_eq_false c1)
