theorem kX6_begin : KD yX6_begin wsX6_begin cX6_begin 2 none 1 := ⟨⟨_, rfl⟩, by decide, by decide +kernel, by decide +kernel, by decide +kernel⟩
theorem in_X6_begin_X6 : ∀ w ∈ wsX60, w ∈ wsX6_begin := by decide +kernel
theorem fl_X6_begin_204 : FL RX6 wsX6_begin RX6 RX6 TX6 22 6 21 204 := ⟨⟨in_X6_begin_X6, rfl, by decide, rfl⟩, by decide +kernel⟩
theorem fl_X6_begin_41 : FL RX6 wsX6_begin RX6 RX6 TX6 22 6 20 41 := ⟨⟨in_X6_begin_X6, rfl, by decide, rfl⟩, by decide +kernel⟩
theorem fp_X6_21 : FP TX6 22 21 tyX6 .int := ⟨tyX6_ok, nmX6, rfl, by decide +kernel⟩
set_option maxHeartbeats 4000000 in
set_option maxRecDepth 100000 in
theorem c_mbegin (l : Launch) (D : va_G) (cs : Nat → ClassId) {mo : Nat} {ml : Nat} {mz : Nat} {mi : Nat} {mt : Nat} {mv : Nat} {mp : Nat} {md : Nat} {mc : Nat} {mk : Nat} {mq : Nat} {mr : Nat} {su : Int32} {it : Bool} {nby : Int32} {lt : Int32} {pl : Int32} {tok : Int32} {va : Int32} {be : Int32} {wr : Int32} {am : Int32} {bf : Nat → Int32} {lf : Nat} {x : Int32} (hl : lf < 16) : CT l D (tz cs) yX6_begin wsX6_begin ({ frames := 0, cells := 0, slots := 0, locals := 0 }) [.ref mo, .int x] [(mo, .inr (6, [.ref ml, .ref mz, .ref mi, .int su, .int (b2 it), .ref mt, .ref mv, .ref mp, .int nby, .int lt, .int pl, .int tok, .int va, .int be, .int wr, .ref md, .ref mc, .int am, .ref mk, .ref mq, .ref mr, .int (nI lf)])), (mr, .inl (cs 0, 16, .inl bf))] none [(mo, .inr (6, [.ref ml, .ref mz, .ref mi, .int su, .int (b2 it), .ref mt, .ref mv, .ref mp, .int nby, .int lt, .int pl, .int tok, .int va, .int be, .int wr, .ref md, .ref mc, .int am, .ref mk, .ref mq, .ref mr, .int (nI (lf + 1))])), (mr, .inl (cs 0, 16, .inl (upd bf lf x)))] := by
  refine CT.of kX6_begin (Nat.le_of_ble_eq_true rfl) ?_
  intro p e s m below meth c A C E
  have C : VOk p s m _ c cX6_begin 2 wsX6_begin RX6 D (tz cs) A s.heap := C
  refine V.lvs (lv' := [(0, .ref mo), (1, .int x)]) [0, 1] rfl ?_
  refine v_aload_n C 0 dX6_begin_0 rfl ?_
  refine v_get C (v := .int (nI lf)) fl_X6_begin_204 0 rfl rfl dX6_begin_1 ?_
  refine v_bipush C (v := 16) dX6_begin_4 (by decide) ?_
  refine v_icmp_ge C 29 dX6_begin_6 (by decide) (fun c1 => ?_) (fun c1 => ?_)
  · exact absurd c1 (nI_ge (a := lf) (b := 16) hl (by decide))
  · skip
    refine v_aload_n C 0 dX6_begin_9 rfl ?_
    refine v_get C (v := .ref mr) fl_X6_begin_41 0 rfl rfl dX6_begin_10 ?_
    refine v_aload_n C 0 dX6_begin_13 rfl ?_
    refine v_get C (v := .int (nI lf)) fl_X6_begin_204 0 rfl rfl dX6_begin_14 ?_
    refine v_iload_n C 1 dX6_begin_17 rfl ?_
    refine v_iast C 1 0 rfl rfl (vp_in_nI (by omega) (by omega)) [(mo, .inr (6, [.ref ml, .ref mz, .ref mi, .int su, .int (b2 it), .ref mt, .ref mv, .ref mp, .int nby, .int lt, .int pl, .int tok, .int va, .int be, .int wr, .ref md, .ref mc, .int am, .ref mk, .ref mq, .ref mr, .int (nI lf)])), (mr, .inl (cs 0, 16, .inl (upd bf lf x)))] (by rw [nI_clamp (by omega)]; rfl) dX6_begin_18 ?_
    refine v_aload_n C 0 dX6_begin_19 rfl ?_
    refine v_dup C dX6_begin_20 rfl ?_
    refine v_get C (v := .int (nI lf)) fl_X6_begin_204 0 rfl rfl dX6_begin_21 ?_
    refine v_iconst C (v := 1) dX6_begin_24 (by decide) ?_
    refine v_iadd C dX6_begin_25 ?_
    refine v_put C fl_X6_begin_204 fp_X6_21 0 rfl rfl rfl (Nat.le_of_ble_eq_true rfl) [(mo, .inr (6, [.ref ml, .ref mz, .ref mi, .int su, .int (b2 it), .ref mt, .ref mv, .ref mp, .int nby, .int lt, .int pl, .int tok, .int va, .int be, .int wr, .ref md, .ref mc, .int am, .ref mk, .ref mq, .ref mr, .int ((nI lf) + 1)])), (mr, .inl (cs 0, 16, .inl (upd bf lf x)))] rfl dX6_begin_26 ?_
    exact v_vret C E (by rw [nI_1]) dX6_begin_29
theorem kX6_lent : KD yX6_lent wsX6_lent cX6_lent 3 (some .int) 2 := ⟨⟨_, rfl⟩, by decide, by decide +kernel, by decide +kernel, by decide +kernel⟩
theorem in_X6_lent_X6 : ∀ w ∈ wsX60, w ∈ wsX6_lent := by decide +kernel
theorem fl_X6_lent_19 : FL RX6 wsX6_lent RX6 RX6 TX6 22 6 5 19 := ⟨⟨in_X6_lent_X6, rfl, by decide, rfl⟩, by decide +kernel⟩
set_option maxHeartbeats 4000000 in
set_option maxRecDepth 100000 in
theorem c_mlent (l : Launch) (D : va_G) (cs : Nat → ClassId) {mo : Nat} {ml : Nat} {mz : Nat} {mi : Nat} {mt : Nat} {mv : Nat} {mp : Nat} {md : Nat} {mc : Nat} {mk : Nat} {mq : Nat} {mr : Nat} {su : Int32} {it : Bool} {nby : Int32} {lt : Int32} {pl : Int32} {tok : Int32} {va : Int32} {be : Int32} {wr : Int32} {am : Int32} {tf : Nat → Int32} {bf : Nat → Int32} {lf : Nat} {t : Nat} {x : Int32} (hl : lf + 1 ≤ 16) (ht : t < 8) : CT l D (tz cs) yX6_lent wsX6_lent ({ frames := 1, cells := 0, slots := 0, locals := 21 }) [.ref mo, .int (nI t), .int x] [(mo, .inr (6, [.ref ml, .ref mz, .ref mi, .int su, .int (b2 it), .ref mt, .ref mv, .ref mp, .int nby, .int lt, .int pl, .int tok, .int va, .int be, .int wr, .ref md, .ref mc, .int am, .ref mk, .ref mq, .ref mr, .int (nI lf)])), (mt, .inl (cs 0, 29, .inl tf)), (mr, .inl (cs 0, 16, .inl bf))] (some (.int (if x = 10 then tf (21 + t) else nI t))) [(mo, .inr (6, [.ref ml, .ref mz, .ref mi, .int su, .int (b2 it), .ref mt, .ref mv, .ref mp, .int nby, .int lt, .int pl, .int tok, .int va, .int be, .int wr, .ref md, .ref mc, .int am, .ref mk, .ref mq, .ref mr, .int (nI (lf + 1))])), (mt, .inl (cs 0, 29, .inl tf)), (mr, .inl (cs 0, 16, .inl (upd bf lf x)))] := by
  refine CT.of kX6_lent (Nat.le_of_ble_eq_true rfl) ?_
  intro p e s m below meth c A C E
  have C : VOk p s m _ c cX6_lent 3 wsX6_lent RX6 D (tz cs) A s.heap := C
  refine V.lvs (lv' := [(0, .ref mo), (1, .int (nI t)), (2, .int x)]) [0, 1, 2] rfl ?_
  refine v_aload_n C 0 dX6_lent_0 rfl ?_
  refine v_iload_n C 2 dX6_lent_1 rfl ?_
  refine v_callV (qi := 0) C [.int x] [] kX6_begin gX6_lent_X6_begin (c_mbegin l D cs (mo := mo) (ml := ml) (mz := mz) (mi := mi) (mt := mt) (mv := mv) (mp := mp) (md := md) (mc := mc) (mk := mk) (mq := mq) (mr := mr) (su := su) (it := it) (nby := nby) (lt := lt) (pl := pl) (tok := tok) (va := va) (be := be) (wr := wr) (am := am) (bf := bf) (lf := lf) (x := x) (by omega)) ⟨Nat.le_of_ble_eq_true rfl, Nat.le_of_ble_eq_true rfl⟩ ⟨rfl, rfl⟩ ⟨Nat.zero_le _, Nat.zero_le _⟩ rfl 0 rfl rfl rfl rfl (Nat.le_of_ble_eq_true rfl) [0, 2] [(mo, .inr (6, [.ref ml, .ref mz, .ref mi, .int su, .int (b2 it), .ref mt, .ref mv, .ref mp, .int nby, .int lt, .int pl, .int tok, .int va, .int be, .int wr, .ref md, .ref mc, .int am, .ref mk, .ref mq, .ref mr, .int (nI (lf + 1))])), (mt, .inl (cs 0, 29, .inl tf)), (mr, .inl (cs 0, 16, .inl (upd bf lf x)))] rfl (by decide) (show [mo, mr] = [mo, mr] from rfl) (rfl) dX6_lent_2 ?_
  refine V.sts (st' := []) rfl ?_
  refine v_iload_n C 2 dX6_lent_5 rfl ?_
  refine v_bipush C (v := 10) dX6_lent_6 (by decide) ?_
  refine v_icmp_ne C 23 dX6_lent_8 (by decide) (fun c1 => ?_) (fun c1 => ?_)
  · skip
    refine v_iload_n C 1 dX6_lent_23 rfl ?_
    exact v_iret C E (rfl) (by first | rfl | (simp [hl, ht, c1, ↓reduceIte]; done) | (simp_all [b2]; done)) dX6_lent_24
  · skip
    refine v_aload_n C 0 dX6_lent_11 rfl ?_
    refine v_get C (v := .ref mt) fl_X6_lent_19 0 rfl rfl dX6_lent_12 ?_
    refine v_bipush C (v := 21) dX6_lent_15 (by decide) ?_
    refine v_iload_n C 1 dX6_lent_17 rfl ?_
    refine v_iadd C dX6_lent_18 ?_
    refine V.topr (y := nI (21 + t)) (nI_add 21 t) ?_
    refine v_iald C 1 0 rfl rfl (tf (21 + t)) (by rw [nI_clamp (by omega)]) (vp_in_nI (by omega) (by omega)) dX6_lent_19 ?_
    refine v_goto C 24 dX6_lent_20 (by decide) ?_
    exact v_iret C E (rfl) (by first | rfl | (simp [hl, ht, c1, ↓reduceIte]; done) | (simp_all [b2]; done)) dX6_lent_24
theorem kX6_allMark : KD yX6_allMark wsX6_allMark cX6_allMark 2 (some .int) 1 := ⟨⟨_, rfl⟩, by decide, by decide +kernel, by decide +kernel, by decide +kernel⟩
theorem in_X6_allMark_X6 : ∀ w ∈ wsX60, w ∈ wsX6_allMark := by decide +kernel
theorem fl_X6_allMark_19 : FL RX6 wsX6_allMark RX6 RX6 TX6 22 6 5 19 := ⟨⟨in_X6_allMark_X6, rfl, by decide, rfl⟩, by decide +kernel⟩
set_option maxHeartbeats 4000000 in
set_option maxRecDepth 100000 in
theorem c_mallMark (l : Launch) (D : va_G) (cs : Nat → ClassId) {mo : Nat} {ml : Nat} {mz : Nat} {mi : Nat} {mt : Nat} {mv : Nat} {mp : Nat} {md : Nat} {mc : Nat} {mk : Nat} {mq : Nat} {mr : Nat} {su : Int32} {it : Bool} {nby : Int32} {lt : Int32} {pl : Int32} {tok : Int32} {va : Int32} {be : Int32} {wr : Int32} {am : Int32} {tf : Nat → Int32} {bf : Nat → Int32} {lf : Nat} {t : Nat} (hl : lf + 2 ≤ 16) (ht : t < 8) (hS : ∀ t, s64 (tf (13 + t))) : CT l D (tz cs) yX6_allMark wsX6_allMark ({ frames := 2, cells := 0, slots := 0, locals := 43 }) [.ref mo, .int (nI t)] [(mo, .inr (6, [.ref ml, .ref mz, .ref mi, .int su, .int (b2 it), .ref mt, .ref mv, .ref mp, .int nby, .int lt, .int pl, .int tok, .int va, .int be, .int wr, .ref md, .ref mc, .int am, .ref mk, .ref mq, .ref mr, .int (nI lf)])), (mt, .inl (cs 0, 29, .inl tf)), (mr, .inl (cs 0, 16, .inl bf))] (some (.int (nI t + pcI (tf (13 + t) &&& thI (tf 0) (tf 4))))) [(mo, .inr (6, [.ref ml, .ref mz, .ref mi, .int su, .int (b2 it), .ref mt, .ref mv, .ref mp, .int nby, .int lt, .int pl, .int tok, .int va, .int be, .int wr, .ref md, .ref mc, .int am, .ref mk, .ref mq, .ref mr, .int (nI (lf + 2))])), (mt, .inl (cs 0, 29, .inl tf)), (mr, .inl (cs 0, 16, .inl (putL bf lf [21, 20])))] := by
  refine CT.of kX6_allMark (Nat.le_of_ble_eq_true rfl) ?_
  intro p e s m below meth c A C E
  have C : VOk p s m _ c cX6_allMark 2 wsX6_allMark RX6 D (tz cs) A s.heap := C
  refine V.lvs (lv' := [(0, .ref mo), (1, .int (nI t))]) [0, 1] rfl ?_
  refine v_aload_n C 0 dX6_allMark_0 rfl ?_
  refine v_bipush C (v := 21) dX6_allMark_1 (by decide) ?_
  refine v_callV (qi := 0) C [.int 21] [] kX6_begin gX6_allMark_X6_begin (c_mbegin l D cs (mo := mo) (ml := ml) (mz := mz) (mi := mi) (mt := mt) (mv := mv) (mp := mp) (md := md) (mc := mc) (mk := mk) (mq := mq) (mr := mr) (su := su) (it := it) (nby := nby) (lt := lt) (pl := pl) (tok := tok) (va := va) (be := be) (wr := wr) (am := am) (bf := bf) (lf := lf) (x := 21) (by omega)) ⟨Nat.le_of_ble_eq_true rfl, Nat.le_of_ble_eq_true rfl⟩ ⟨rfl, rfl⟩ ⟨Nat.zero_le _, Nat.zero_le _⟩ rfl 0 rfl rfl rfl rfl (Nat.le_of_ble_eq_true rfl) [0, 2] [(mo, .inr (6, [.ref ml, .ref mz, .ref mi, .int su, .int (b2 it), .ref mt, .ref mv, .ref mp, .int nby, .int lt, .int pl, .int tok, .int va, .int be, .int wr, .ref md, .ref mc, .int am, .ref mk, .ref mq, .ref mr, .int (nI (lf + 1))])), (mt, .inl (cs 0, 29, .inl tf)), (mr, .inl (cs 0, 16, .inl (upd bf lf 21)))] rfl (by decide) (show [mo, mr] = [mo, mr] from rfl) (rfl) dX6_allMark_3 ?_
  refine V.sts (st' := []) rfl ?_
  refine v_aload_n C 0 dX6_allMark_6 rfl ?_
  refine v_iload_n C 1 dX6_allMark_7 rfl ?_
  refine v_bipush C (v := 20) dX6_allMark_8 (by decide) ?_
  refine v_callV (qi := 0) C [.int (nI t), .int 20] [] kX6_lent gX6_allMark_X6_lent (c_mlent l D cs (mo := mo) (ml := ml) (mz := mz) (mi := mi) (mt := mt) (mv := mv) (mp := mp) (md := md) (mc := mc) (mk := mk) (mq := mq) (mr := mr) (su := su) (it := it) (nby := nby) (lt := lt) (pl := pl) (tok := tok) (va := va) (be := be) (wr := wr) (am := am) (tf := tf) (bf := upd bf lf 21) (lf := (lf + 1)) (t := t) (x := 20) (by omega) (by first | assumption | omega)) ⟨Nat.le_of_ble_eq_true rfl, Nat.le_of_ble_eq_true rfl⟩ ⟨rfl, rfl⟩ ⟨Nat.zero_le _, Nat.zero_le _⟩ rfl 0 rfl rfl rfl rfl (Nat.le_of_ble_eq_true rfl) [0, 1, 2] [(mo, .inr (6, [.ref ml, .ref mz, .ref mi, .int su, .int (b2 it), .ref mt, .ref mv, .ref mp, .int nby, .int lt, .int pl, .int tok, .int va, .int be, .int wr, .ref md, .ref mc, .int am, .ref mk, .ref mq, .ref mr, .int (nI ((lf + 1) + 1))])), (mt, .inl (cs 0, 29, .inl tf)), (mr, .inl (cs 0, 16, .inl (upd (upd bf lf 21) (lf + 1) 20)))] rfl (by decide) (show [mo, mt, mr] = [mo, mt, mr] from rfl) (rfl) dX6_allMark_10 ?_
  refine V.sts (st' := [.int (if 20 = 10 then tf (21 + t) else nI t)]) rfl ?_
  refine v_aload_n C 0 dX6_allMark_13 rfl ?_
  refine v_get C (v := .ref mt) fl_X6_allMark_19 0 rfl rfl dX6_allMark_14 ?_
  refine v_bipush C (v := 13) dX6_allMark_17 (by decide) ?_
  refine v_iload_n C 1 dX6_allMark_19 rfl ?_
  refine v_iadd C dX6_allMark_20 ?_
  refine V.topr (y := nI (13 + t)) (nI_add 13 t) ?_
  refine v_iald C 1 0 rfl rfl (tf (13 + t)) (by rw [nI_clamp (by omega)]) (vp_in_nI (by omega) (by omega)) dX6_allMark_21 ?_
  refine v_aload_n C 0 dX6_allMark_22 rfl ?_
  refine v_callV (qi := 0) C [] [.int (tf (13 + t)), .int (if 20 = 10 then tf (21 + t) else nI t)] kX6_here gX6_allMark_X6_here (c_mhere l D cs (mo := mo) (ml := ml) (mz := mz) (mi := mi) (mt := mt) (mv := mv) (mp := mp) (md := md) (mc := mc) (mk := mk) (mq := mq) (mr := mr) (su := su) (it := it) (nby := nby) (lt := lt) (pl := pl) (tok := tok) (va := va) (be := be) (wr := wr) (am := am) (td := (nI ((lf + 1) + 1))) (tf := tf) ) ⟨Nat.le_of_ble_eq_true rfl, Nat.le_of_ble_eq_true rfl⟩ ⟨rfl, rfl⟩ ⟨Nat.zero_le _, Nat.zero_le _⟩ rfl 0 rfl rfl rfl rfl (Nat.le_of_ble_eq_true rfl) [0, 1] [(mo, .inr (6, [.ref ml, .ref mz, .ref mi, .int su, .int (b2 it), .ref mt, .ref mv, .ref mp, .int nby, .int lt, .int pl, .int tok, .int va, .int be, .int wr, .ref md, .ref mc, .int am, .ref mk, .ref mq, .ref mr, .int (nI ((lf + 1) + 1))])), (mt, .inl (cs 0, 29, .inl tf)), (mr, .inl (cs 0, 16, .inl (upd (upd bf lf 21) (lf + 1) 20)))] rfl (by decide) (show [mo, mt] = [mo, mt] from rfl) (rfl) dX6_allMark_23 ?_
  refine V.sts (st' := [.int (thI (tf 0) (tf 4)), .int (tf (13 + t)), .int (if 20 = 10 then tf (21 + t) else nI t)]) rfl ?_
  refine v_iand C dX6_allMark_26 ?_
  refine v_callS C [.int ((tf (13 + t)) &&& (thI (tf 0) (tf 4)))] [.int (if 20 = 10 then tf (21 + t) else nI t)] kX6_ones gX6_allMark_X6_ones (c_ones l D cs (x := ((tf (13 + t)) &&& (thI (tf 0) (tf 4)))) (s64_and (hS t))) ⟨Nat.le_of_ble_eq_true rfl, Nat.le_of_ble_eq_true rfl⟩ ⟨rfl, rfl⟩ ⟨Nat.zero_le _, Nat.zero_le _⟩ rfl rfl (Nat.le_of_ble_eq_true rfl) [] [(mo, .inr (6, [.ref ml, .ref mz, .ref mi, .int su, .int (b2 it), .ref mt, .ref mv, .ref mp, .int nby, .int lt, .int pl, .int tok, .int va, .int be, .int wr, .ref md, .ref mc, .int am, .ref mk, .ref mq, .ref mr, .int (nI ((lf + 1) + 1))])), (mt, .inl (cs 0, 29, .inl tf)), (mr, .inl (cs 0, 16, .inl (upd (upd bf lf 21) (lf + 1) 20)))] rfl (by decide) rfl (rfl) dX6_allMark_27 ?_
  refine V.sts (st' := [.int (pcI ((tf (13 + t)) &&& (thI (tf 0) (tf 4)))), .int (if 20 = 10 then tf (21 + t) else nI t)]) rfl ?_
  refine v_iadd C dX6_allMark_30 ?_
  exact v_iret C E (rfl) (by first | rfl | (simp [hl, ht, hS, ↓reduceIte]; done) | (simp_all [b2]; done)) dX6_allMark_31
theorem kX6_anySize : KD yX6_anySize wsX6_anySize cX6_anySize 2 (some .int) 1 := ⟨⟨_, rfl⟩, by decide, by decide +kernel, by decide +kernel, by decide +kernel⟩
set_option maxHeartbeats 4000000 in
set_option maxRecDepth 100000 in
theorem c_manySize (l : Launch) (D : va_G) (cs : Nat → ClassId) {mo : Nat} {ml : Nat} {mz : Nat} {mi : Nat} {mt : Nat} {mv : Nat} {mp : Nat} {md : Nat} {mc : Nat} {mk : Nat} {mq : Nat} {mr : Nat} {su : Int32} {it : Bool} {nby : Int32} {lt : Int32} {pl : Int32} {tok : Int32} {va : Int32} {be : Int32} {wr : Int32} {am : Int32} {tf : Nat → Int32} {bf : Nat → Int32} {lf : Nat} {t : Nat} (hl : lf + 2 ≤ 16) (ht : t < 8) : CT l D (tz cs) yX6_anySize wsX6_anySize ({ frames := 2, cells := 0, slots := 0, locals := 43 }) [.ref mo, .int (nI t)] [(mo, .inr (6, [.ref ml, .ref mz, .ref mi, .int su, .int (b2 it), .ref mt, .ref mv, .ref mp, .int nby, .int lt, .int pl, .int tok, .int va, .int be, .int wr, .ref md, .ref mc, .int am, .ref mk, .ref mq, .ref mr, .int (nI lf)])), (mt, .inl (cs 0, 29, .inl tf)), (mr, .inl (cs 0, 16, .inl bf))] (some (.int (tf (21 + t) - 100))) [(mo, .inr (6, [.ref ml, .ref mz, .ref mi, .int su, .int (b2 it), .ref mt, .ref mv, .ref mp, .int nby, .int lt, .int pl, .int tok, .int va, .int be, .int wr, .ref md, .ref mc, .int am, .ref mk, .ref mq, .ref mr, .int (nI (lf + 2))])), (mt, .inl (cs 0, 29, .inl tf)), (mr, .inl (cs 0, 16, .inl (putL bf lf [13, 10])))] := by
  refine CT.of kX6_anySize (Nat.le_of_ble_eq_true rfl) ?_
  intro p e s m below meth c A C E
  have C : VOk p s m _ c cX6_anySize 2 wsX6_anySize RX6 D (tz cs) A s.heap := C
  refine V.lvs (lv' := [(0, .ref mo), (1, .int (nI t))]) [0, 1] rfl ?_
  refine v_aload_n C 0 dX6_anySize_0 rfl ?_
  refine v_bipush C (v := 13) dX6_anySize_1 (by decide) ?_
  refine v_callV (qi := 0) C [.int 13] [] kX6_begin gX6_anySize_X6_begin (c_mbegin l D cs (mo := mo) (ml := ml) (mz := mz) (mi := mi) (mt := mt) (mv := mv) (mp := mp) (md := md) (mc := mc) (mk := mk) (mq := mq) (mr := mr) (su := su) (it := it) (nby := nby) (lt := lt) (pl := pl) (tok := tok) (va := va) (be := be) (wr := wr) (am := am) (bf := bf) (lf := lf) (x := 13) (by omega)) ⟨Nat.le_of_ble_eq_true rfl, Nat.le_of_ble_eq_true rfl⟩ ⟨rfl, rfl⟩ ⟨Nat.zero_le _, Nat.zero_le _⟩ rfl 0 rfl rfl rfl rfl (Nat.le_of_ble_eq_true rfl) [0, 2] [(mo, .inr (6, [.ref ml, .ref mz, .ref mi, .int su, .int (b2 it), .ref mt, .ref mv, .ref mp, .int nby, .int lt, .int pl, .int tok, .int va, .int be, .int wr, .ref md, .ref mc, .int am, .ref mk, .ref mq, .ref mr, .int (nI (lf + 1))])), (mt, .inl (cs 0, 29, .inl tf)), (mr, .inl (cs 0, 16, .inl (upd bf lf 13)))] rfl (by decide) (show [mo, mr] = [mo, mr] from rfl) (rfl) dX6_anySize_3 ?_
  refine V.sts (st' := []) rfl ?_
  refine v_aload_n C 0 dX6_anySize_6 rfl ?_
  refine v_iload_n C 1 dX6_anySize_7 rfl ?_
  refine v_bipush C (v := 10) dX6_anySize_8 (by decide) ?_
  refine v_callV (qi := 0) C [.int (nI t), .int 10] [] kX6_lent gX6_anySize_X6_lent (c_mlent l D cs (mo := mo) (ml := ml) (mz := mz) (mi := mi) (mt := mt) (mv := mv) (mp := mp) (md := md) (mc := mc) (mk := mk) (mq := mq) (mr := mr) (su := su) (it := it) (nby := nby) (lt := lt) (pl := pl) (tok := tok) (va := va) (be := be) (wr := wr) (am := am) (tf := tf) (bf := upd bf lf 13) (lf := (lf + 1)) (t := t) (x := 10) (by omega) (by first | assumption | omega)) ⟨Nat.le_of_ble_eq_true rfl, Nat.le_of_ble_eq_true rfl⟩ ⟨rfl, rfl⟩ ⟨Nat.zero_le _, Nat.zero_le _⟩ rfl 0 rfl rfl rfl rfl (Nat.le_of_ble_eq_true rfl) [0, 1, 2] [(mo, .inr (6, [.ref ml, .ref mz, .ref mi, .int su, .int (b2 it), .ref mt, .ref mv, .ref mp, .int nby, .int lt, .int pl, .int tok, .int va, .int be, .int wr, .ref md, .ref mc, .int am, .ref mk, .ref mq, .ref mr, .int (nI ((lf + 1) + 1))])), (mt, .inl (cs 0, 29, .inl tf)), (mr, .inl (cs 0, 16, .inl (upd (upd bf lf 13) (lf + 1) 10)))] rfl (by decide) (show [mo, mt, mr] = [mo, mt, mr] from rfl) (rfl) dX6_anySize_10 ?_
  refine V.sts (st' := [.int (if 10 = 10 then tf (21 + t) else nI t)]) rfl ?_
  refine v_bipush C (v := 100) dX6_anySize_13 (by decide) ?_
  refine v_isub C dX6_anySize_15 ?_
  exact v_iret C E (rfl) (by first | rfl | (simp [hl, ht, ↓reduceIte]; done) | (simp_all [b2]; done)) dX6_anySize_16
theorem kX6_sizeOfAny : KD yX6_sizeOfAny wsX6_sizeOfAny cX6_sizeOfAny 2 (some .int) 1 := ⟨⟨_, rfl⟩, by decide, by decide +kernel, by decide +kernel, by decide +kernel⟩
theorem in_X6_sizeOfAny_X6 : ∀ w ∈ wsX60, w ∈ wsX6_sizeOfAny := by decide +kernel
theorem fl_X6_sizeOfAny_19 : FL RX6 wsX6_sizeOfAny RX6 RX6 TX6 22 6 5 19 := ⟨⟨in_X6_sizeOfAny_X6, rfl, by decide, rfl⟩, by decide +kernel⟩
set_option maxHeartbeats 4000000 in
set_option maxRecDepth 100000 in
theorem c_msizeOfAny (l : Launch) (D : va_G) (cs : Nat → ClassId) {mo : Nat} {ml : Nat} {mz : Nat} {mi : Nat} {mt : Nat} {mv : Nat} {mp : Nat} {md : Nat} {mc : Nat} {mk : Nat} {mq : Nat} {mr : Nat} {su : Int32} {it : Bool} {nby : Int32} {lt : Int32} {pl : Int32} {tok : Int32} {va : Int32} {be : Int32} {wr : Int32} {am : Int32} {tf : Nat → Int32} {bf : Nat → Int32} {lf : Nat} {t : Nat} (hl : lf + 3 ≤ 16) (ht : t < 8) : CT l D (tz cs) yX6_sizeOfAny wsX6_sizeOfAny ({ frames := 3, cells := 0, slots := 0, locals := 64 }) [.ref mo, .int (nI t)] [(mo, .inr (6, [.ref ml, .ref mz, .ref mi, .int su, .int (b2 it), .ref mt, .ref mv, .ref mp, .int nby, .int lt, .int pl, .int tok, .int va, .int be, .int wr, .ref md, .ref mc, .int am, .ref mk, .ref mq, .ref mr, .int (nI lf)])), (mt, .inl (cs 0, 29, .inl tf)), (mr, .inl (cs 0, 16, .inl bf))] (some (.int (syV (tf (5 + t)) (tf (21 + t))))) [(mo, .inr (6, [.ref ml, .ref mz, .ref mi, .int su, .int (b2 it), .ref mt, .ref mv, .ref mp, .int nby, .int lt, .int pl, .int tok, .int va, .int be, .int wr, .ref md, .ref mc, .int am, .ref mk, .ref mq, .ref mr, .int (nI (lf + (syT (tf (5 + t))).length))])), (mt, .inl (cs 0, 29, .inl tf)), (mr, .inl (cs 0, 16, .inl (putL bf lf (syT (tf (5 + t))))))] := by
  refine CT.of kX6_sizeOfAny (Nat.le_of_ble_eq_true rfl) ?_
  intro p e s m below meth c A C E
  have C : VOk p s m _ c cX6_sizeOfAny 2 wsX6_sizeOfAny RX6 D (tz cs) A s.heap := C
  refine V.lvs (lv' := [(0, .ref mo), (1, .int (nI t))]) [0, 1] rfl ?_
  refine v_aload_n C 0 dX6_sizeOfAny_0 rfl ?_
  refine v_get C (v := .ref mt) fl_X6_sizeOfAny_19 0 rfl rfl dX6_sizeOfAny_1 ?_
  refine v_iconst C (v := 5) dX6_sizeOfAny_4 (by decide) ?_
  refine v_iload_n C 1 dX6_sizeOfAny_5 rfl ?_
  refine v_iadd C dX6_sizeOfAny_6 ?_
  refine V.topr (y := nI (5 + t)) (nI_add 5 t) ?_
  refine v_iald C 1 0 rfl rfl (tf (5 + t)) (by rw [nI_clamp (by omega)]) (vp_in_nI (by omega) (by omega)) dX6_sizeOfAny_7 ?_
  refine v_iconst C (v := 5) dX6_sizeOfAny_8 (by decide) ?_
  refine v_icmp_ne C 26 dX6_sizeOfAny_9 (by decide) (fun c1 => ?_) (fun c1 => ?_)
  · skip
    refine v_aload_n C 0 dX6_sizeOfAny_26 rfl ?_
    refine v_iload_n C 1 dX6_sizeOfAny_27 rfl ?_
    refine v_callV (qi := 0) C [.int (nI t)] [] kX6_anySize gX6_sizeOfAny_X6_anySize (c_manySize l D cs (mo := mo) (ml := ml) (mz := mz) (mi := mi) (mt := mt) (mv := mv) (mp := mp) (md := md) (mc := mc) (mk := mk) (mq := mq) (mr := mr) (su := su) (it := it) (nby := nby) (lt := lt) (pl := pl) (tok := tok) (va := va) (be := be) (wr := wr) (am := am) (tf := tf) (bf := bf) (lf := lf) (t := t) (by omega) (by first | assumption | omega)) ⟨Nat.le_of_ble_eq_true rfl, Nat.le_of_ble_eq_true rfl⟩ ⟨rfl, rfl⟩ ⟨Nat.zero_le _, Nat.zero_le _⟩ rfl 0 rfl rfl rfl rfl (Nat.le_of_ble_eq_true rfl) [0, 1, 2] [(mo, .inr (6, [.ref ml, .ref mz, .ref mi, .int su, .int (b2 it), .ref mt, .ref mv, .ref mp, .int nby, .int lt, .int pl, .int tok, .int va, .int be, .int wr, .ref md, .ref mc, .int am, .ref mk, .ref mq, .ref mr, .int (nI (lf + 2))])), (mt, .inl (cs 0, 29, .inl tf)), (mr, .inl (cs 0, 16, .inl (putL bf lf [13, 10])))] rfl (by decide) (show [mo, mt, mr] = [mo, mt, mr] from rfl) (rfl) dX6_sizeOfAny_28 ?_
    refine V.sts (st' := [.int (tf (21 + t) - 100)]) rfl ?_
    exact v_iret C E (by first | rfl | (simp [*, putL, putL_app, maT, syT, saT, myT, Nat.add_assoc]; done) | (simp_all [putL, putL_app, maT, syT, saT, myT, Nat.add_assoc]; done)) (by first | rfl | (simp [syV, hl, ht, c1, ↓reduceIte]; done) | (simp_all [syV]; done)) dX6_sizeOfAny_31
  · skip
    refine v_aload_n C 0 dX6_sizeOfAny_12 rfl ?_
    refine v_bipush C (v := 14) dX6_sizeOfAny_13 (by decide) ?_
    refine v_callV (qi := 0) C [.int 14] [] kX6_begin gX6_sizeOfAny_X6_begin (c_mbegin l D cs (mo := mo) (ml := ml) (mz := mz) (mi := mi) (mt := mt) (mv := mv) (mp := mp) (md := md) (mc := mc) (mk := mk) (mq := mq) (mr := mr) (su := su) (it := it) (nby := nby) (lt := lt) (pl := pl) (tok := tok) (va := va) (be := be) (wr := wr) (am := am) (bf := bf) (lf := lf) (x := 14) (by omega)) ⟨Nat.le_of_ble_eq_true rfl, Nat.le_of_ble_eq_true rfl⟩ ⟨rfl, rfl⟩ ⟨Nat.zero_le _, Nat.zero_le _⟩ rfl 0 rfl rfl rfl rfl (Nat.le_of_ble_eq_true rfl) [0, 2] [(mo, .inr (6, [.ref ml, .ref mz, .ref mi, .int su, .int (b2 it), .ref mt, .ref mv, .ref mp, .int nby, .int lt, .int pl, .int tok, .int va, .int be, .int wr, .ref md, .ref mc, .int am, .ref mk, .ref mq, .ref mr, .int (nI (lf + 1))])), (mt, .inl (cs 0, 29, .inl tf)), (mr, .inl (cs 0, 16, .inl (upd bf lf 14)))] rfl (by decide) (show [mo, mr] = [mo, mr] from rfl) (rfl) dX6_sizeOfAny_15 ?_
    refine V.sts (st' := []) rfl ?_
    refine v_iconst C (v := 2) dX6_sizeOfAny_18 (by decide) ?_
    refine v_aload_n C 0 dX6_sizeOfAny_19 rfl ?_
    refine v_iload_n C 1 dX6_sizeOfAny_20 rfl ?_
    refine v_callV (qi := 0) C [.int (nI t)] [.int 2] kX6_anySize gX6_sizeOfAny_X6_anySize (c_manySize l D cs (mo := mo) (ml := ml) (mz := mz) (mi := mi) (mt := mt) (mv := mv) (mp := mp) (md := md) (mc := mc) (mk := mk) (mq := mq) (mr := mr) (su := su) (it := it) (nby := nby) (lt := lt) (pl := pl) (tok := tok) (va := va) (be := be) (wr := wr) (am := am) (tf := tf) (bf := upd bf lf 14) (lf := (lf + 1)) (t := t) (by omega) (by first | assumption | omega)) ⟨Nat.le_of_ble_eq_true rfl, Nat.le_of_ble_eq_true rfl⟩ ⟨rfl, rfl⟩ ⟨Nat.zero_le _, Nat.zero_le _⟩ rfl 0 rfl rfl rfl rfl (Nat.le_of_ble_eq_true rfl) [0, 1, 2] [(mo, .inr (6, [.ref ml, .ref mz, .ref mi, .int su, .int (b2 it), .ref mt, .ref mv, .ref mp, .int nby, .int lt, .int pl, .int tok, .int va, .int be, .int wr, .ref md, .ref mc, .int am, .ref mk, .ref mq, .ref mr, .int (nI ((lf + 1) + 2))])), (mt, .inl (cs 0, 29, .inl tf)), (mr, .inl (cs 0, 16, .inl (putL (upd bf lf 14) (lf + 1) [13, 10])))] rfl (by decide) (show [mo, mt, mr] = [mo, mt, mr] from rfl) (rfl) dX6_sizeOfAny_21 ?_
    refine V.sts (st' := [.int (tf (21 + t) - 100), .int 2]) rfl ?_
    refine v_imul C dX6_sizeOfAny_24 ?_
    exact v_iret C E (by first | rfl | (simp [*, putL, putL_app, maT, syT, saT, myT, Nat.add_assoc]; done) | (simp_all [putL, putL_app, maT, syT, saT, myT, Nat.add_assoc]; done)) (by first | rfl | (simp [syV, hl, ht, c1, ↓reduceIte]; done) | (simp_all [syV]; done)) dX6_sizeOfAny_25
theorem kX6_markOf : KD yX6_markOf wsX6_markOf cX6_markOf 4 (some .int) 1 := ⟨⟨_, rfl⟩, by decide, by decide +kernel, by decide +kernel, by decide +kernel⟩
theorem in_X6_markOf_X6 : ∀ w ∈ wsX60, w ∈ wsX6_markOf := by decide +kernel
theorem fl_X6_markOf_19 : FL RX6 wsX6_markOf RX6 RX6 TX6 22 6 5 19 := ⟨⟨in_X6_markOf_X6, rfl, by decide, rfl⟩, by decide +kernel⟩
set_option maxHeartbeats 4000000 in
set_option maxRecDepth 100000 in
theorem c_mmarkOf (l : Launch) (D : va_G) (cs : Nat → ClassId) {mo : Nat} {ml : Nat} {mz : Nat} {mi : Nat} {mt : Nat} {mv : Nat} {mp : Nat} {md : Nat} {mc : Nat} {mk : Nat} {mq : Nat} {mr : Nat} {su : Int32} {it : Bool} {nby : Int32} {lt : Int32} {pl : Int32} {tok : Int32} {va : Int32} {be : Int32} {wr : Int32} {am : Int32} {tf : Nat → Int32} {bf : Nat → Int32} {lf : Nat} {t : Nat} (hl : lf + 5 ≤ 16) (ht : t < 8) (hS : ∀ t, s64 (tf (13 + t))) (hk : kok (tf (5 + t))) : CT l D (tz cs) yX6_markOf wsX6_markOf ({ frames := 4, cells := 0, slots := 0, locals := 85 }) [.ref mo, .int (nI t)] [(mo, .inr (6, [.ref ml, .ref mz, .ref mi, .int su, .int (b2 it), .ref mt, .ref mv, .ref mp, .int nby, .int lt, .int pl, .int tok, .int va, .int be, .int wr, .ref md, .ref mc, .int am, .ref mk, .ref mq, .ref mr, .int (nI lf)])), (mt, .inl (cs 0, 29, .inl tf)), (mr, .inl (cs 0, 16, .inl bf))] (some (.int (askV (tf (5 + t)) (nI t) (tf (13 + t)) (tf (21 + t)) (thI (tf 0) (tf 4)) 1))) [(mo, .inr (6, [.ref ml, .ref mz, .ref mi, .int su, .int (b2 it), .ref mt, .ref mv, .ref mp, .int nby, .int lt, .int pl, .int tok, .int va, .int be, .int wr, .ref md, .ref mc, .int am, .ref mk, .ref mq, .ref mr, .int (nI (lf + (askT (tf (5 + t)) 1).length))])), (mt, .inl (cs 0, 29, .inl tf)), (mr, .inl (cs 0, 16, .inl (putL bf lf (askT (tf (5 + t)) 1))))] := by
  refine CT.of kX6_markOf (Nat.le_of_ble_eq_true rfl) ?_
  intro p e s m below meth c A C E
  have C : VOk p s m _ c cX6_markOf 4 wsX6_markOf RX6 D (tz cs) A s.heap := C
  refine V.lvs (lv' := [(0, .ref mo), (1, .int (nI t))]) [0, 1] rfl ?_
  refine v_aload_n C 0 dX6_markOf_0 rfl ?_
  refine v_get C (v := .ref mt) fl_X6_markOf_19 0 rfl rfl dX6_markOf_1 ?_
  refine v_iconst C (v := 5) dX6_markOf_4 (by decide) ?_
  refine v_iload_n C 1 dX6_markOf_5 rfl ?_
  refine v_iadd C dX6_markOf_6 ?_
  refine V.topr (y := nI (5 + t)) (nI_add 5 t) ?_
  refine v_iald C 1 0 rfl rfl (tf (5 + t)) (by rw [nI_clamp (by omega)]) (vp_in_nI (by omega) (by omega)) dX6_markOf_7 ?_
  refine v_istore_n C [(0, .ref mo), (1, .int (nI t)), (2, .int (tf (5 + t)))] [1, 2, 0] dX6_markOf_8 (by decide) rfl ?_
  refine v_iload_n C 2 dX6_markOf_9 rfl ?_
  refine v_iconst C (v := 2) dX6_markOf_10 (by decide) ?_
  refine v_icmp_ne C 28 dX6_markOf_11 (by decide) (fun c1 => ?_) (fun c1 => ?_)
  · skip
    refine v_iload_n C 2 dX6_markOf_28 rfl ?_
    refine v_iconst C (v := 3) dX6_markOf_29 (by decide) ?_
    refine v_icmp_ne C 49 dX6_markOf_30 (by decide) (fun c2 => ?_) (fun c2 => ?_)
    · skip
      refine v_iload_n C 2 dX6_markOf_49 rfl ?_
      refine v_iconst C (v := 1) dX6_markOf_50 (by decide) ?_
      refine v_icmp_ne C 60 dX6_markOf_51 (by decide) (fun c3 => ?_) (fun c3 => ?_)
      · skip
        refine v_aload_n C 0 dX6_markOf_60 rfl ?_
        refine v_bipush C (v := 23) dX6_markOf_61 (by decide) ?_
        refine v_callV (qi := 0) C [.int 23] [] kX6_begin gX6_markOf_X6_begin (c_mbegin l D cs (mo := mo) (ml := ml) (mz := mz) (mi := mi) (mt := mt) (mv := mv) (mp := mp) (md := md) (mc := mc) (mk := mk) (mq := mq) (mr := mr) (su := su) (it := it) (nby := nby) (lt := lt) (pl := pl) (tok := tok) (va := va) (be := be) (wr := wr) (am := am) (bf := bf) (lf := lf) (x := 23) (by omega)) ⟨Nat.le_of_ble_eq_true rfl, Nat.le_of_ble_eq_true rfl⟩ ⟨rfl, rfl⟩ ⟨Nat.zero_le _, Nat.zero_le _⟩ rfl 0 rfl rfl rfl rfl (Nat.le_of_ble_eq_true rfl) [0, 2] [(mo, .inr (6, [.ref ml, .ref mz, .ref mi, .int su, .int (b2 it), .ref mt, .ref mv, .ref mp, .int nby, .int lt, .int pl, .int tok, .int va, .int be, .int wr, .ref md, .ref mc, .int am, .ref mk, .ref mq, .ref mr, .int (nI (lf + 1))])), (mt, .inl (cs 0, 29, .inl tf)), (mr, .inl (cs 0, 16, .inl (upd bf lf 23)))] rfl (by decide) (show [mo, mr] = [mo, mr] from rfl) (rfl) dX6_markOf_63 ?_
        refine V.sts (st' := []) rfl ?_
        refine v_aload_n C 0 dX6_markOf_66 rfl ?_
        refine v_iload_n C 1 dX6_markOf_67 rfl ?_
        refine v_bipush C (v := 20) dX6_markOf_68 (by decide) ?_
        refine v_callV (qi := 0) C [.int (nI t), .int 20] [] kX6_lent gX6_markOf_X6_lent (c_mlent l D cs (mo := mo) (ml := ml) (mz := mz) (mi := mi) (mt := mt) (mv := mv) (mp := mp) (md := md) (mc := mc) (mk := mk) (mq := mq) (mr := mr) (su := su) (it := it) (nby := nby) (lt := lt) (pl := pl) (tok := tok) (va := va) (be := be) (wr := wr) (am := am) (tf := tf) (bf := upd bf lf 23) (lf := (lf + 1)) (t := t) (x := 20) (by omega) (by first | assumption | omega)) ⟨Nat.le_of_ble_eq_true rfl, Nat.le_of_ble_eq_true rfl⟩ ⟨rfl, rfl⟩ ⟨Nat.zero_le _, Nat.zero_le _⟩ rfl 0 rfl rfl rfl rfl (Nat.le_of_ble_eq_true rfl) [0, 1, 2] [(mo, .inr (6, [.ref ml, .ref mz, .ref mi, .int su, .int (b2 it), .ref mt, .ref mv, .ref mp, .int nby, .int lt, .int pl, .int tok, .int va, .int be, .int wr, .ref md, .ref mc, .int am, .ref mk, .ref mq, .ref mr, .int (nI ((lf + 1) + 1))])), (mt, .inl (cs 0, 29, .inl tf)), (mr, .inl (cs 0, 16, .inl (upd (upd bf lf 23) (lf + 1) 20)))] rfl (by decide) (show [mo, mt, mr] = [mo, mt, mr] from rfl) (rfl) dX6_markOf_70 ?_
        refine V.sts (st' := [.int (if 20 = 10 then tf (21 + t) else nI t)]) rfl ?_
        refine v_istore_n C [(0, .ref mo), (1, .int (nI t)), (2, .int (tf (5 + t))), (3, .int (if 20 = 10 then tf (21 + t) else nI t))] [1, 2, 3, 0] dX6_markOf_73 (by decide) rfl ?_
        refine v_iload_n C 3 dX6_markOf_74 rfl ?_
        refine v_aload_n C 0 dX6_markOf_75 rfl ?_
        refine v_iload_n C 1 dX6_markOf_76 rfl ?_
        refine v_callV (qi := 0) C [.int (nI t)] [.int (if 20 = 10 then tf (21 + t) else nI t)] kX6_sizeOfAny gX6_markOf_X6_sizeOfAny (c_msizeOfAny l D cs (mo := mo) (ml := ml) (mz := mz) (mi := mi) (mt := mt) (mv := mv) (mp := mp) (md := md) (mc := mc) (mk := mk) (mq := mq) (mr := mr) (su := su) (it := it) (nby := nby) (lt := lt) (pl := pl) (tok := tok) (va := va) (be := be) (wr := wr) (am := am) (tf := tf) (bf := upd (upd bf lf 23) (lf + 1) 20) (lf := ((lf + 1) + 1)) (t := t) (by omega) (by first | assumption | omega)) ⟨Nat.le_of_ble_eq_true rfl, Nat.le_of_ble_eq_true rfl⟩ ⟨rfl, rfl⟩ ⟨Nat.zero_le _, Nat.zero_le _⟩ rfl 0 rfl rfl rfl rfl (Nat.le_of_ble_eq_true rfl) [0, 1, 2] [(mo, .inr (6, [.ref ml, .ref mz, .ref mi, .int su, .int (b2 it), .ref mt, .ref mv, .ref mp, .int nby, .int lt, .int pl, .int tok, .int va, .int be, .int wr, .ref md, .ref mc, .int am, .ref mk, .ref mq, .ref mr, .int (nI (((lf + 1) + 1) + (syT (tf (5 + t))).length))])), (mt, .inl (cs 0, 29, .inl tf)), (mr, .inl (cs 0, 16, .inl (putL (upd (upd bf lf 23) (lf + 1) 20) ((lf + 1) + 1) (syT (tf (5 + t))))))] rfl (by decide) (show [mo, mt, mr] = [mo, mt, mr] from rfl) (rfl) dX6_markOf_77 ?_
        refine V.sts (st' := [.int (syV (tf (5 + t)) (tf (21 + t))), .int (if 20 = 10 then tf (21 + t) else nI t)]) rfl ?_
        refine v_isub C dX6_markOf_80 ?_
        exact v_iret C E (by rcases hk with h9 | h9 | h9 | h9 | h9 <;> first | (exfalso; simp_all; done) | (simp [h9, askT, askV, isAB, abvI, maT, maV, saT, saV, syT, syV, myT, myV, putL, putL_app, Nat.add_assoc]; done)) (by rcases hk with h9 | h9 | h9 | h9 | h9 <;> first | (exfalso; simp_all; done) | (simp [h9, askT, askV, isAB, abvI, maT, maV, saT, saV, syT, syV, myT, myV, putL, putL_app, Nat.add_assoc]; done)) dX6_markOf_81
      · skip
        refine v_aload_n C 0 dX6_markOf_54 rfl ?_
        refine v_iload_n C 1 dX6_markOf_55 rfl ?_
        refine v_callV (qi := 0) C [.int (nI t)] [] kX6_allMark gX6_markOf_X6_allMark (c_mallMark l D cs (mo := mo) (ml := ml) (mz := mz) (mi := mi) (mt := mt) (mv := mv) (mp := mp) (md := md) (mc := mc) (mk := mk) (mq := mq) (mr := mr) (su := su) (it := it) (nby := nby) (lt := lt) (pl := pl) (tok := tok) (va := va) (be := be) (wr := wr) (am := am) (tf := tf) (bf := bf) (lf := lf) (t := t) (by omega) (by first | assumption | omega) (by first | assumption | omega)) ⟨Nat.le_of_ble_eq_true rfl, Nat.le_of_ble_eq_true rfl⟩ ⟨rfl, rfl⟩ ⟨Nat.zero_le _, Nat.zero_le _⟩ rfl 0 rfl rfl rfl rfl (Nat.le_of_ble_eq_true rfl) [0, 1, 2] [(mo, .inr (6, [.ref ml, .ref mz, .ref mi, .int su, .int (b2 it), .ref mt, .ref mv, .ref mp, .int nby, .int lt, .int pl, .int tok, .int va, .int be, .int wr, .ref md, .ref mc, .int am, .ref mk, .ref mq, .ref mr, .int (nI (lf + 2))])), (mt, .inl (cs 0, 29, .inl tf)), (mr, .inl (cs 0, 16, .inl (putL bf lf [21, 20])))] rfl (by decide) (show [mo, mt, mr] = [mo, mt, mr] from rfl) (rfl) dX6_markOf_56 ?_
        refine V.sts (st' := [.int (nI t + pcI (tf (13 + t) &&& thI (tf 0) (tf 4)))]) rfl ?_
        exact v_iret C E (by rcases hk with h9 | h9 | h9 | h9 | h9 <;> first | (exfalso; simp_all; done) | (simp [h9, askT, askV, isAB, abvI, maT, maV, saT, saV, syT, syV, myT, myV, putL, putL_app, Nat.add_assoc]; done)) (by rcases hk with h9 | h9 | h9 | h9 | h9 <;> first | (exfalso; simp_all; done) | (simp [h9, askT, askV, isAB, abvI, maT, maV, saT, saV, syT, syV, myT, myV, putL, putL_app, Nat.add_assoc]; done)) dX6_markOf_59
    · skip
      refine v_aload_n C 0 dX6_markOf_33 rfl ?_
      refine v_bipush C (v := 22) dX6_markOf_34 (by decide) ?_
      refine v_callV (qi := 0) C [.int 22] [] kX6_begin gX6_markOf_X6_begin (c_mbegin l D cs (mo := mo) (ml := ml) (mz := mz) (mi := mi) (mt := mt) (mv := mv) (mp := mp) (md := md) (mc := mc) (mk := mk) (mq := mq) (mr := mr) (su := su) (it := it) (nby := nby) (lt := lt) (pl := pl) (tok := tok) (va := va) (be := be) (wr := wr) (am := am) (bf := bf) (lf := lf) (x := 22) (by omega)) ⟨Nat.le_of_ble_eq_true rfl, Nat.le_of_ble_eq_true rfl⟩ ⟨rfl, rfl⟩ ⟨Nat.zero_le _, Nat.zero_le _⟩ rfl 0 rfl rfl rfl rfl (Nat.le_of_ble_eq_true rfl) [0, 2] [(mo, .inr (6, [.ref ml, .ref mz, .ref mi, .int su, .int (b2 it), .ref mt, .ref mv, .ref mp, .int nby, .int lt, .int pl, .int tok, .int va, .int be, .int wr, .ref md, .ref mc, .int am, .ref mk, .ref mq, .ref mr, .int (nI (lf + 1))])), (mt, .inl (cs 0, 29, .inl tf)), (mr, .inl (cs 0, 16, .inl (upd bf lf 22)))] rfl (by decide) (show [mo, mr] = [mo, mr] from rfl) (rfl) dX6_markOf_36 ?_
      refine V.sts (st' := []) rfl ?_
      refine v_aload_n C 0 dX6_markOf_39 rfl ?_
      refine v_iload_n C 1 dX6_markOf_40 rfl ?_
      refine v_callV (qi := 0) C [.int (nI t)] [] kX6_allMark gX6_markOf_X6_allMark (c_mallMark l D cs (mo := mo) (ml := ml) (mz := mz) (mi := mi) (mt := mt) (mv := mv) (mp := mp) (md := md) (mc := mc) (mk := mk) (mq := mq) (mr := mr) (su := su) (it := it) (nby := nby) (lt := lt) (pl := pl) (tok := tok) (va := va) (be := be) (wr := wr) (am := am) (tf := tf) (bf := upd bf lf 22) (lf := (lf + 1)) (t := t) (by omega) (by first | assumption | omega) (by first | assumption | omega)) ⟨Nat.le_of_ble_eq_true rfl, Nat.le_of_ble_eq_true rfl⟩ ⟨rfl, rfl⟩ ⟨Nat.zero_le _, Nat.zero_le _⟩ rfl 0 rfl rfl rfl rfl (Nat.le_of_ble_eq_true rfl) [0, 1, 2] [(mo, .inr (6, [.ref ml, .ref mz, .ref mi, .int su, .int (b2 it), .ref mt, .ref mv, .ref mp, .int nby, .int lt, .int pl, .int tok, .int va, .int be, .int wr, .ref md, .ref mc, .int am, .ref mk, .ref mq, .ref mr, .int (nI ((lf + 1) + 2))])), (mt, .inl (cs 0, 29, .inl tf)), (mr, .inl (cs 0, 16, .inl (putL (upd bf lf 22) (lf + 1) [21, 20])))] rfl (by decide) (show [mo, mt, mr] = [mo, mt, mr] from rfl) (rfl) dX6_markOf_41 ?_
      refine V.sts (st' := [.int (nI t + pcI (tf (13 + t) &&& thI (tf 0) (tf 4)))]) rfl ?_
      refine v_sipush C (v := 1000) dX6_markOf_44 (by decide) ?_
      refine v_isub C dX6_markOf_47 ?_
      exact v_iret C E (by rcases hk with h9 | h9 | h9 | h9 | h9 <;> first | (exfalso; simp_all; done) | (simp [h9, askT, askV, isAB, abvI, maT, maV, saT, saV, syT, syV, myT, myV, putL, putL_app, Nat.add_assoc]; done)) (by rcases hk with h9 | h9 | h9 | h9 | h9 <;> first | (exfalso; simp_all; done) | (simp [h9, askT, askV, isAB, abvI, maT, maV, saT, saV, syT, syV, myT, myV, putL, putL_app, Nat.add_assoc]; done)) dX6_markOf_48
  · skip
    refine v_aload_n C 0 dX6_markOf_14 rfl ?_
    refine v_bipush C (v := 24) dX6_markOf_15 (by decide) ?_
    refine v_callV (qi := 0) C [.int 24] [] kX6_begin gX6_markOf_X6_begin (c_mbegin l D cs (mo := mo) (ml := ml) (mz := mz) (mi := mi) (mt := mt) (mv := mv) (mp := mp) (md := md) (mc := mc) (mk := mk) (mq := mq) (mr := mr) (su := su) (it := it) (nby := nby) (lt := lt) (pl := pl) (tok := tok) (va := va) (be := be) (wr := wr) (am := am) (bf := bf) (lf := lf) (x := 24) (by omega)) ⟨Nat.le_of_ble_eq_true rfl, Nat.le_of_ble_eq_true rfl⟩ ⟨rfl, rfl⟩ ⟨Nat.zero_le _, Nat.zero_le _⟩ rfl 0 rfl rfl rfl rfl (Nat.le_of_ble_eq_true rfl) [0, 2] [(mo, .inr (6, [.ref ml, .ref mz, .ref mi, .int su, .int (b2 it), .ref mt, .ref mv, .ref mp, .int nby, .int lt, .int pl, .int tok, .int va, .int be, .int wr, .ref md, .ref mc, .int am, .ref mk, .ref mq, .ref mr, .int (nI (lf + 1))])), (mt, .inl (cs 0, 29, .inl tf)), (mr, .inl (cs 0, 16, .inl (upd bf lf 24)))] rfl (by decide) (show [mo, mr] = [mo, mr] from rfl) (rfl) dX6_markOf_17 ?_
    refine V.sts (st' := []) rfl ?_
    refine v_iconst C (v := 2) dX6_markOf_20 (by decide) ?_
    refine v_aload_n C 0 dX6_markOf_21 rfl ?_
    refine v_iload_n C 1 dX6_markOf_22 rfl ?_
    refine v_callV (qi := 0) C [.int (nI t)] [.int 2] kX6_allMark gX6_markOf_X6_allMark (c_mallMark l D cs (mo := mo) (ml := ml) (mz := mz) (mi := mi) (mt := mt) (mv := mv) (mp := mp) (md := md) (mc := mc) (mk := mk) (mq := mq) (mr := mr) (su := su) (it := it) (nby := nby) (lt := lt) (pl := pl) (tok := tok) (va := va) (be := be) (wr := wr) (am := am) (tf := tf) (bf := upd bf lf 24) (lf := (lf + 1)) (t := t) (by omega) (by first | assumption | omega) (by first | assumption | omega)) ⟨Nat.le_of_ble_eq_true rfl, Nat.le_of_ble_eq_true rfl⟩ ⟨rfl, rfl⟩ ⟨Nat.zero_le _, Nat.zero_le _⟩ rfl 0 rfl rfl rfl rfl (Nat.le_of_ble_eq_true rfl) [0, 1, 2] [(mo, .inr (6, [.ref ml, .ref mz, .ref mi, .int su, .int (b2 it), .ref mt, .ref mv, .ref mp, .int nby, .int lt, .int pl, .int tok, .int va, .int be, .int wr, .ref md, .ref mc, .int am, .ref mk, .ref mq, .ref mr, .int (nI ((lf + 1) + 2))])), (mt, .inl (cs 0, 29, .inl tf)), (mr, .inl (cs 0, 16, .inl (putL (upd bf lf 24) (lf + 1) [21, 20])))] rfl (by decide) (show [mo, mt, mr] = [mo, mt, mr] from rfl) (rfl) dX6_markOf_23 ?_
    refine V.sts (st' := [.int (nI t + pcI (tf (13 + t) &&& thI (tf 0) (tf 4))), .int 2]) rfl ?_
    refine v_imul C dX6_markOf_26 ?_
    exact v_iret C E (by rcases hk with h9 | h9 | h9 | h9 | h9 <;> first | (exfalso; simp_all; done) | (simp [h9, askT, askV, isAB, abvI, maT, maV, saT, saV, syT, syV, myT, myV, putL, putL_app, Nat.add_assoc]; done)) (by rcases hk with h9 | h9 | h9 | h9 | h9 <;> first | (exfalso; simp_all; done) | (simp [h9, askT, askV, isAB, abvI, maT, maV, saT, saV, syT, syV, myT, myV, putL, putL_app, Nat.add_assoc]; done)) dX6_markOf_27
theorem kX6_allSize : KD yX6_allSize wsX6_allSize cX6_allSize 3 (some .int) 1 := ⟨⟨_, rfl⟩, by decide, by decide +kernel, by decide +kernel, by decide +kernel⟩
set_option maxHeartbeats 4000000 in
set_option maxRecDepth 100000 in
theorem c_mallSize (l : Launch) (D : va_G) (cs : Nat → ClassId) {mo : Nat} {ml : Nat} {mz : Nat} {mi : Nat} {mt : Nat} {mv : Nat} {mp : Nat} {md : Nat} {mc : Nat} {mk : Nat} {mq : Nat} {mr : Nat} {su : Int32} {it : Bool} {nby : Int32} {lt : Int32} {pl : Int32} {tok : Int32} {va : Int32} {be : Int32} {wr : Int32} {am : Int32} {tf : Nat → Int32} {bf : Nat → Int32} {lf : Nat} {t : Nat} (hl : lf + 7 ≤ 16) (ht : t < 8) (hS : ∀ t, s64 (tf (13 + t))) (hk : kok (tf (5 + t))) : CT l D (tz cs) yX6_allSize wsX6_allSize ({ frames := 5, cells := 0, slots := 0, locals := 108 }) [.ref mo, .int (nI t)] [(mo, .inr (6, [.ref ml, .ref mz, .ref mi, .int su, .int (b2 it), .ref mt, .ref mv, .ref mp, .int nby, .int lt, .int pl, .int tok, .int va, .int be, .int wr, .ref md, .ref mc, .int am, .ref mk, .ref mq, .ref mr, .int (nI lf)])), (mt, .inl (cs 0, 29, .inl tf)), (mr, .inl (cs 0, 16, .inl bf))] (some (.int (tf (21 + t) + askV (tf (5 + t)) (nI t) (tf (13 + t)) (tf (21 + t)) (thI (tf 0) (tf 4)) 1))) [(mo, .inr (6, [.ref ml, .ref mz, .ref mi, .int su, .int (b2 it), .ref mt, .ref mv, .ref mp, .int nby, .int lt, .int pl, .int tok, .int va, .int be, .int wr, .ref md, .ref mc, .int am, .ref mk, .ref mq, .ref mr, .int (nI (lf + 2 + (askT (tf (5 + t)) 1).length))])), (mt, .inl (cs 0, 29, .inl tf)), (mr, .inl (cs 0, 16, .inl (putL bf lf (11 :: 10 :: askT (tf (5 + t)) 1))))] := by
  refine CT.of kX6_allSize (Nat.le_of_ble_eq_true rfl) ?_
  intro p e s m below meth c A C E
  have C : VOk p s m _ c cX6_allSize 3 wsX6_allSize RX6 D (tz cs) A s.heap := C
  refine V.lvs (lv' := [(0, .ref mo), (1, .int (nI t))]) [0, 1] rfl ?_
  refine v_aload_n C 0 dX6_allSize_0 rfl ?_
  refine v_bipush C (v := 11) dX6_allSize_1 (by decide) ?_
  refine v_callV (qi := 0) C [.int 11] [] kX6_begin gX6_allSize_X6_begin (c_mbegin l D cs (mo := mo) (ml := ml) (mz := mz) (mi := mi) (mt := mt) (mv := mv) (mp := mp) (md := md) (mc := mc) (mk := mk) (mq := mq) (mr := mr) (su := su) (it := it) (nby := nby) (lt := lt) (pl := pl) (tok := tok) (va := va) (be := be) (wr := wr) (am := am) (bf := bf) (lf := lf) (x := 11) (by omega)) ⟨Nat.le_of_ble_eq_true rfl, Nat.le_of_ble_eq_true rfl⟩ ⟨rfl, rfl⟩ ⟨Nat.zero_le _, Nat.zero_le _⟩ rfl 0 rfl rfl rfl rfl (Nat.le_of_ble_eq_true rfl) [0, 2] [(mo, .inr (6, [.ref ml, .ref mz, .ref mi, .int su, .int (b2 it), .ref mt, .ref mv, .ref mp, .int nby, .int lt, .int pl, .int tok, .int va, .int be, .int wr, .ref md, .ref mc, .int am, .ref mk, .ref mq, .ref mr, .int (nI (lf + 1))])), (mt, .inl (cs 0, 29, .inl tf)), (mr, .inl (cs 0, 16, .inl (upd bf lf 11)))] rfl (by decide) (show [mo, mr] = [mo, mr] from rfl) (rfl) dX6_allSize_3 ?_
  refine V.sts (st' := []) rfl ?_
  refine v_aload_n C 0 dX6_allSize_6 rfl ?_
  refine v_iload_n C 1 dX6_allSize_7 rfl ?_
  refine v_bipush C (v := 10) dX6_allSize_8 (by decide) ?_
  refine v_callV (qi := 0) C [.int (nI t), .int 10] [] kX6_lent gX6_allSize_X6_lent (c_mlent l D cs (mo := mo) (ml := ml) (mz := mz) (mi := mi) (mt := mt) (mv := mv) (mp := mp) (md := md) (mc := mc) (mk := mk) (mq := mq) (mr := mr) (su := su) (it := it) (nby := nby) (lt := lt) (pl := pl) (tok := tok) (va := va) (be := be) (wr := wr) (am := am) (tf := tf) (bf := upd bf lf 11) (lf := (lf + 1)) (t := t) (x := 10) (by omega) (by first | assumption | omega)) ⟨Nat.le_of_ble_eq_true rfl, Nat.le_of_ble_eq_true rfl⟩ ⟨rfl, rfl⟩ ⟨Nat.zero_le _, Nat.zero_le _⟩ rfl 0 rfl rfl rfl rfl (Nat.le_of_ble_eq_true rfl) [0, 1, 2] [(mo, .inr (6, [.ref ml, .ref mz, .ref mi, .int su, .int (b2 it), .ref mt, .ref mv, .ref mp, .int nby, .int lt, .int pl, .int tok, .int va, .int be, .int wr, .ref md, .ref mc, .int am, .ref mk, .ref mq, .ref mr, .int (nI ((lf + 1) + 1))])), (mt, .inl (cs 0, 29, .inl tf)), (mr, .inl (cs 0, 16, .inl (upd (upd bf lf 11) (lf + 1) 10)))] rfl (by decide) (show [mo, mt, mr] = [mo, mt, mr] from rfl) (rfl) dX6_allSize_10 ?_
  refine V.sts (st' := [.int (if 10 = 10 then tf (21 + t) else nI t)]) rfl ?_
  refine v_istore_n C [(0, .ref mo), (1, .int (nI t)), (2, .int (if 10 = 10 then tf (21 + t) else nI t))] [1, 2, 0] dX6_allSize_13 (by decide) rfl ?_
  refine v_iload_n C 2 dX6_allSize_14 rfl ?_
  refine v_aload_n C 0 dX6_allSize_15 rfl ?_
  refine v_iload_n C 1 dX6_allSize_16 rfl ?_
  refine v_callV (qi := 0) C [.int (nI t)] [.int (if 10 = 10 then tf (21 + t) else nI t)] kX6_markOf gX6_allSize_X6_markOf (c_mmarkOf l D cs (mo := mo) (ml := ml) (mz := mz) (mi := mi) (mt := mt) (mv := mv) (mp := mp) (md := md) (mc := mc) (mk := mk) (mq := mq) (mr := mr) (su := su) (it := it) (nby := nby) (lt := lt) (pl := pl) (tok := tok) (va := va) (be := be) (wr := wr) (am := am) (tf := tf) (bf := upd (upd bf lf 11) (lf + 1) 10) (lf := ((lf + 1) + 1)) (t := t) (by omega) (by first | assumption | omega) (by first | assumption | omega) (by first | assumption | omega)) ⟨Nat.le_of_ble_eq_true rfl, Nat.le_of_ble_eq_true rfl⟩ ⟨rfl, rfl⟩ ⟨Nat.zero_le _, Nat.zero_le _⟩ rfl 0 rfl rfl rfl rfl (Nat.le_of_ble_eq_true rfl) [0, 1, 2] [(mo, .inr (6, [.ref ml, .ref mz, .ref mi, .int su, .int (b2 it), .ref mt, .ref mv, .ref mp, .int nby, .int lt, .int pl, .int tok, .int va, .int be, .int wr, .ref md, .ref mc, .int am, .ref mk, .ref mq, .ref mr, .int (nI (((lf + 1) + 1) + (askT (tf (5 + t)) 1).length))])), (mt, .inl (cs 0, 29, .inl tf)), (mr, .inl (cs 0, 16, .inl (putL (upd (upd bf lf 11) (lf + 1) 10) ((lf + 1) + 1) (askT (tf (5 + t)) 1))))] rfl (by decide) (show [mo, mt, mr] = [mo, mt, mr] from rfl) (rfl) dX6_allSize_17 ?_
  refine V.sts (st' := [.int (askV (tf (5 + t)) (nI t) (tf (13 + t)) (tf (21 + t)) (thI (tf 0) (tf 4)) 1), .int (if 10 = 10 then tf (21 + t) else nI t)]) rfl ?_
  refine v_iadd C dX6_allSize_20 ?_
  exact v_iret C E (rfl) (by first | rfl | (simp [hl, ht, hS, hk, ↓reduceIte]; done) | (simp_all [b2]; done)) dX6_allSize_21
theorem kX6_sizeOf : KD yX6_sizeOf wsX6_sizeOf cX6_sizeOf 3 (some .int) 1 := ⟨⟨_, rfl⟩, by decide, by decide +kernel, by decide +kernel, by decide +kernel⟩
theorem in_X6_sizeOf_X6 : ∀ w ∈ wsX60, w ∈ wsX6_sizeOf := by decide +kernel
theorem fl_X6_sizeOf_19 : FL RX6 wsX6_sizeOf RX6 RX6 TX6 22 6 5 19 := ⟨⟨in_X6_sizeOf_X6, rfl, by decide, rfl⟩, by decide +kernel⟩
set_option maxHeartbeats 4000000 in
set_option maxRecDepth 100000 in
theorem c_msizeOf (l : Launch) (D : va_G) (cs : Nat → ClassId) {mo : Nat} {ml : Nat} {mz : Nat} {mi : Nat} {mt : Nat} {mv : Nat} {mp : Nat} {md : Nat} {mc : Nat} {mk : Nat} {mq : Nat} {mr : Nat} {su : Int32} {it : Bool} {nby : Int32} {lt : Int32} {pl : Int32} {tok : Int32} {va : Int32} {be : Int32} {wr : Int32} {am : Int32} {tf : Nat → Int32} {bf : Nat → Int32} {lf : Nat} {t : Nat} (hl : lf + 8 ≤ 16) (ht : t < 8) (hS : ∀ t, s64 (tf (13 + t))) (hk : kok (tf (5 + t))) : CT l D (tz cs) yX6_sizeOf wsX6_sizeOf ({ frames := 6, cells := 0, slots := 0, locals := 130 }) [.ref mo, .int (nI t)] [(mo, .inr (6, [.ref ml, .ref mz, .ref mi, .int su, .int (b2 it), .ref mt, .ref mv, .ref mp, .int nby, .int lt, .int pl, .int tok, .int va, .int be, .int wr, .ref md, .ref mc, .int am, .ref mk, .ref mq, .ref mr, .int (nI lf)])), (mt, .inl (cs 0, 29, .inl tf)), (mr, .inl (cs 0, 16, .inl bf))] (some (.int (askV (tf (5 + t)) (nI t) (tf (13 + t)) (tf (21 + t)) (thI (tf 0) (tf 4)) 0))) [(mo, .inr (6, [.ref ml, .ref mz, .ref mi, .int su, .int (b2 it), .ref mt, .ref mv, .ref mp, .int nby, .int lt, .int pl, .int tok, .int va, .int be, .int wr, .ref md, .ref mc, .int am, .ref mk, .ref mq, .ref mr, .int (nI (lf + (askT (tf (5 + t)) 0).length))])), (mt, .inl (cs 0, 29, .inl tf)), (mr, .inl (cs 0, 16, .inl (putL bf lf (askT (tf (5 + t)) 0))))] := by
  refine CT.of kX6_sizeOf (Nat.le_of_ble_eq_true rfl) ?_
  intro p e s m below meth c A C E
  have C : VOk p s m _ c cX6_sizeOf 3 wsX6_sizeOf RX6 D (tz cs) A s.heap := C
  refine V.lvs (lv' := [(0, .ref mo), (1, .int (nI t))]) [0, 1] rfl ?_
  refine v_aload_n C 0 dX6_sizeOf_0 rfl ?_
  refine v_get C (v := .ref mt) fl_X6_sizeOf_19 0 rfl rfl dX6_sizeOf_1 ?_
  refine v_iconst C (v := 5) dX6_sizeOf_4 (by decide) ?_
  refine v_iload_n C 1 dX6_sizeOf_5 rfl ?_
  refine v_iadd C dX6_sizeOf_6 ?_
  refine V.topr (y := nI (5 + t)) (nI_add 5 t) ?_
  refine v_iald C 1 0 rfl rfl (tf (5 + t)) (by rw [nI_clamp (by omega)]) (vp_in_nI (by omega) (by omega)) dX6_sizeOf_7 ?_
  refine v_istore_n C [(0, .ref mo), (1, .int (nI t)), (2, .int (tf (5 + t)))] [1, 2, 0] dX6_sizeOf_8 (by decide) rfl ?_
  refine v_iload_n C 2 dX6_sizeOf_9 rfl ?_
  refine v_iconst C (v := 2) dX6_sizeOf_10 (by decide) ?_
  refine v_icmp_ne C 27 dX6_sizeOf_11 (by decide) (fun c1 => ?_) (fun c1 => ?_)
  · skip
    refine v_iload_n C 2 dX6_sizeOf_27 rfl ?_
    refine v_iconst C (v := 4) dX6_sizeOf_28 (by decide) ?_
    refine v_icmp_lt C 40 dX6_sizeOf_29 (by decide) (fun c2 => ?_) (fun c2 => ?_)
    · skip
      refine v_aload_n C 0 dX6_sizeOf_40 rfl ?_
      refine v_iload_n C 1 dX6_sizeOf_41 rfl ?_
      refine v_callV (qi := 0) C [.int (nI t)] [] kX6_allSize gX6_sizeOf_X6_allSize (c_mallSize l D cs (mo := mo) (ml := ml) (mz := mz) (mi := mi) (mt := mt) (mv := mv) (mp := mp) (md := md) (mc := mc) (mk := mk) (mq := mq) (mr := mr) (su := su) (it := it) (nby := nby) (lt := lt) (pl := pl) (tok := tok) (va := va) (be := be) (wr := wr) (am := am) (tf := tf) (bf := bf) (lf := lf) (t := t) (by omega) (by first | assumption | omega) (by first | assumption | omega) (by first | assumption | omega)) ⟨Nat.le_of_ble_eq_true rfl, Nat.le_of_ble_eq_true rfl⟩ ⟨rfl, rfl⟩ ⟨Nat.zero_le _, Nat.zero_le _⟩ rfl 0 rfl rfl rfl rfl (Nat.le_of_ble_eq_true rfl) [0, 1, 2] [(mo, .inr (6, [.ref ml, .ref mz, .ref mi, .int su, .int (b2 it), .ref mt, .ref mv, .ref mp, .int nby, .int lt, .int pl, .int tok, .int va, .int be, .int wr, .ref md, .ref mc, .int am, .ref mk, .ref mq, .ref mr, .int (nI (lf + 2 + (askT (tf (5 + t)) 1).length))])), (mt, .inl (cs 0, 29, .inl tf)), (mr, .inl (cs 0, 16, .inl (putL bf lf (11 :: 10 :: askT (tf (5 + t)) 1))))] rfl (by decide) (show [mo, mt, mr] = [mo, mt, mr] from rfl) (rfl) dX6_sizeOf_42 ?_
      refine V.sts (st' := [.int (tf (21 + t) + askV (tf (5 + t)) (nI t) (tf (13 + t)) (tf (21 + t)) (thI (tf 0) (tf 4)) 1)]) rfl ?_
      exact v_iret C E (by rcases hk with h9 | h9 | h9 | h9 | h9 <;> first | (exfalso; simp_all; done) | (simp [h9, askT, askV, isAB, abvI, maT, maV, saT, saV, syT, syV, myT, myV, putL, putL_app, Nat.add_assoc]; done)) (by rcases hk with h9 | h9 | h9 | h9 | h9 <;> first | (exfalso; simp_all; done) | (simp [h9, askT, askV, isAB, abvI, maT, maV, saT, saV, syT, syV, myT, myV, putL, putL_app, Nat.add_assoc]; done)) dX6_sizeOf_45
    · skip
      refine v_aload_n C 0 dX6_sizeOf_32 rfl ?_
      refine v_iload_n C 1 dX6_sizeOf_33 rfl ?_
      refine v_callV (qi := 0) C [.int (nI t)] [] kX6_sizeOfAny gX6_sizeOf_X6_sizeOfAny (c_msizeOfAny l D cs (mo := mo) (ml := ml) (mz := mz) (mi := mi) (mt := mt) (mv := mv) (mp := mp) (md := md) (mc := mc) (mk := mk) (mq := mq) (mr := mr) (su := su) (it := it) (nby := nby) (lt := lt) (pl := pl) (tok := tok) (va := va) (be := be) (wr := wr) (am := am) (tf := tf) (bf := bf) (lf := lf) (t := t) (by omega) (by first | assumption | omega)) ⟨Nat.le_of_ble_eq_true rfl, Nat.le_of_ble_eq_true rfl⟩ ⟨rfl, rfl⟩ ⟨Nat.zero_le _, Nat.zero_le _⟩ rfl 0 rfl rfl rfl rfl (Nat.le_of_ble_eq_true rfl) [0, 1, 2] [(mo, .inr (6, [.ref ml, .ref mz, .ref mi, .int su, .int (b2 it), .ref mt, .ref mv, .ref mp, .int nby, .int lt, .int pl, .int tok, .int va, .int be, .int wr, .ref md, .ref mc, .int am, .ref mk, .ref mq, .ref mr, .int (nI (lf + (syT (tf (5 + t))).length))])), (mt, .inl (cs 0, 29, .inl tf)), (mr, .inl (cs 0, 16, .inl (putL bf lf (syT (tf (5 + t))))))] rfl (by decide) (show [mo, mt, mr] = [mo, mt, mr] from rfl) (rfl) dX6_sizeOf_34 ?_
      refine V.sts (st' := [.int (syV (tf (5 + t)) (tf (21 + t)))]) rfl ?_
      refine v_goto C 45 dX6_sizeOf_37 (by decide) ?_
      exact v_iret C E (by rcases hk with h9 | h9 | h9 | h9 | h9 <;> first | (exfalso; simp_all; done) | (simp [h9, askT, askV, isAB, abvI, maT, maV, saT, saV, syT, syV, myT, myV, putL, putL_app, Nat.add_assoc]; done)) (by rcases hk with h9 | h9 | h9 | h9 | h9 <;> first | (exfalso; simp_all; done) | (simp [h9, askT, askV, isAB, abvI, maT, maV, saT, saV, syT, syV, myT, myV, putL, putL_app, Nat.add_assoc]; done)) dX6_sizeOf_45
  · skip
    refine v_aload_n C 0 dX6_sizeOf_14 rfl ?_
    refine v_bipush C (v := 12) dX6_sizeOf_15 (by decide) ?_
    refine v_callV (qi := 0) C [.int 12] [] kX6_begin gX6_sizeOf_X6_begin (c_mbegin l D cs (mo := mo) (ml := ml) (mz := mz) (mi := mi) (mt := mt) (mv := mv) (mp := mp) (md := md) (mc := mc) (mk := mk) (mq := mq) (mr := mr) (su := su) (it := it) (nby := nby) (lt := lt) (pl := pl) (tok := tok) (va := va) (be := be) (wr := wr) (am := am) (bf := bf) (lf := lf) (x := 12) (by omega)) ⟨Nat.le_of_ble_eq_true rfl, Nat.le_of_ble_eq_true rfl⟩ ⟨rfl, rfl⟩ ⟨Nat.zero_le _, Nat.zero_le _⟩ rfl 0 rfl rfl rfl rfl (Nat.le_of_ble_eq_true rfl) [0, 2] [(mo, .inr (6, [.ref ml, .ref mz, .ref mi, .int su, .int (b2 it), .ref mt, .ref mv, .ref mp, .int nby, .int lt, .int pl, .int tok, .int va, .int be, .int wr, .ref md, .ref mc, .int am, .ref mk, .ref mq, .ref mr, .int (nI (lf + 1))])), (mt, .inl (cs 0, 29, .inl tf)), (mr, .inl (cs 0, 16, .inl (upd bf lf 12)))] rfl (by decide) (show [mo, mr] = [mo, mr] from rfl) (rfl) dX6_sizeOf_17 ?_
    refine V.sts (st' := []) rfl ?_
    refine v_aload_n C 0 dX6_sizeOf_20 rfl ?_
    refine v_iload_n C 1 dX6_sizeOf_21 rfl ?_
    refine v_callV (qi := 0) C [.int (nI t)] [] kX6_allSize gX6_sizeOf_X6_allSize (c_mallSize l D cs (mo := mo) (ml := ml) (mz := mz) (mi := mi) (mt := mt) (mv := mv) (mp := mp) (md := md) (mc := mc) (mk := mk) (mq := mq) (mr := mr) (su := su) (it := it) (nby := nby) (lt := lt) (pl := pl) (tok := tok) (va := va) (be := be) (wr := wr) (am := am) (tf := tf) (bf := upd bf lf 12) (lf := (lf + 1)) (t := t) (by omega) (by first | assumption | omega) (by first | assumption | omega) (by first | assumption | omega)) ⟨Nat.le_of_ble_eq_true rfl, Nat.le_of_ble_eq_true rfl⟩ ⟨rfl, rfl⟩ ⟨Nat.zero_le _, Nat.zero_le _⟩ rfl 0 rfl rfl rfl rfl (Nat.le_of_ble_eq_true rfl) [0, 1, 2] [(mo, .inr (6, [.ref ml, .ref mz, .ref mi, .int su, .int (b2 it), .ref mt, .ref mv, .ref mp, .int nby, .int lt, .int pl, .int tok, .int va, .int be, .int wr, .ref md, .ref mc, .int am, .ref mk, .ref mq, .ref mr, .int (nI ((lf + 1) + 2 + (askT (tf (5 + t)) 1).length))])), (mt, .inl (cs 0, 29, .inl tf)), (mr, .inl (cs 0, 16, .inl (putL (upd bf lf 12) (lf + 1) (11 :: 10 :: askT (tf (5 + t)) 1))))] rfl (by decide) (show [mo, mt, mr] = [mo, mt, mr] from rfl) (rfl) dX6_sizeOf_22 ?_
    refine V.sts (st' := [.int (tf (21 + t) + askV (tf (5 + t)) (nI t) (tf (13 + t)) (tf (21 + t)) (thI (tf 0) (tf 4)) 1)]) rfl ?_
    refine v_ineg C dX6_sizeOf_25 ?_
    exact v_iret C E (by rcases hk with h9 | h9 | h9 | h9 | h9 <;> first | (exfalso; simp_all; done) | (simp [h9, askT, askV, isAB, abvI, maT, maV, saT, saV, syT, syV, myT, myV, putL, putL_app, Nat.add_assoc]; done)) (by rcases hk with h9 | h9 | h9 | h9 | h9 <;> first | (exfalso; simp_all; done) | (simp [h9, askT, askV, isAB, abvI, maT, maV, saT, saV, syT, syV, myT, myV, putL, putL_app, Nat.add_assoc]; done)) dX6_sizeOf_26
theorem kX6_ask : KD yX6_ask wsX6_ask cX6_ask 3 (some .int) 2 := ⟨⟨_, rfl⟩, by decide, by decide +kernel, by decide +kernel, by decide +kernel⟩
theorem in_X6_ask_X6 : ∀ w ∈ wsX60, w ∈ wsX6_ask := by decide +kernel
theorem fl_X6_ask_204 : FL RX6 wsX6_ask RX6 RX6 TX6 22 6 21 204 := ⟨⟨in_X6_ask_X6, rfl, by decide, rfl⟩, by decide +kernel⟩
set_option maxHeartbeats 4000000 in
set_option maxRecDepth 100000 in
theorem c_maskIn (l : Launch) (D : va_G) (cs : Nat → ClassId) {mo : Nat} {ml : Nat} {mz : Nat} {mi : Nat} {mt : Nat} {mv : Nat} {mp : Nat} {md : Nat} {mc : Nat} {mk : Nat} {mq : Nat} {mr : Nat} {su : Int32} {it : Bool} {nby : Int32} {lt : Int32} {pl : Int32} {tok : Int32} {va : Int32} {be : Int32} {wr : Int32} {am : Int32} {td : Int32} {tf : Nat → Int32} {bf : Nat → Int32} {tn : Nat} {t : Nat} {y : Int32} (hte : tf 1 = nI tn) (hti : tn ≤ 8) (hq : t < tn) (hS : ∀ t, s64 (tf (13 + t))) (hk : kok (tf (5 + t))) : CT l D (tz cs) yX6_ask wsX6_ask ({ frames := 7, cells := 0, slots := 0, locals := 152 }) [.ref mo, .int (nI t), .int y] [(mo, .inr (6, [.ref ml, .ref mz, .ref mi, .int su, .int (b2 it), .ref mt, .ref mv, .ref mp, .int nby, .int lt, .int pl, .int tok, .int va, .int be, .int wr, .ref md, .ref mc, .int am, .ref mk, .ref mq, .ref mr, .int td])), (mt, .inl (cs 0, 29, .inl tf)), (mr, .inl (cs 0, 16, .inl bf))] (some (.int (if zo y = true then askV (tf (5 + t)) (nI t) (tf (13 + t)) (tf (21 + t)) (thI (tf 0) (tf 4)) y else -1000001))) [(mo, .inr (6, [.ref ml, .ref mz, .ref mi, .int su, .int (b2 it), .ref mt, .ref mv, .ref mp, .int nby, .int lt, .int pl, .int tok, .int va, .int be, .int wr, .ref md, .ref mc, .int am, .ref mk, .ref mq, .ref mr, .int (if zo y = true then nI (askT (tf (5 + t)) y).length else td)])), (mt, .inl (cs 0, 29, .inl tf)), (mr, .inl (cs 0, 16, .inl (if zo y = true then putL bf 0 (askT (tf (5 + t)) y) else bf)))] := by
  refine CT.of kX6_ask (Nat.le_of_ble_eq_true rfl) ?_
  intro p e s m below meth c A C E
  have C : VOk p s m _ c cX6_ask 3 wsX6_ask RX6 D (tz cs) A s.heap := C
  refine V.lvs (lv' := [(0, .ref mo), (1, .int (nI t)), (2, .int y)]) [0, 1, 2] rfl ?_
  refine v_aload_n C 0 dX6_ask_0 rfl ?_
  refine v_iload_n C 1 dX6_ask_1 rfl ?_
  refine v_callV (qi := 0) C [.int (nI t)] [] kX6_isTie gX6_ask_X6_isTie (c_misTie l D cs (mo := mo) (ml := ml) (mz := mz) (mi := mi) (mt := mt) (mv := mv) (mp := mp) (md := md) (mc := mc) (mk := mk) (mq := mq) (mr := mr) (su := su) (it := it) (nby := nby) (lt := lt) (pl := pl) (tok := tok) (va := va) (be := be) (wr := wr) (am := am) (td := td) (tf := tf) (tn := tn) (x := (nI t)) (by first | assumption | omega) (by first | assumption | omega)) ⟨Nat.le_of_ble_eq_true rfl, Nat.le_of_ble_eq_true rfl⟩ ⟨rfl, rfl⟩ ⟨Nat.zero_le _, Nat.zero_le _⟩ rfl 0 rfl rfl rfl rfl (Nat.le_of_ble_eq_true rfl) [0, 1] [(mo, .inr (6, [.ref ml, .ref mz, .ref mi, .int su, .int (b2 it), .ref mt, .ref mv, .ref mp, .int nby, .int lt, .int pl, .int tok, .int va, .int be, .int wr, .ref md, .ref mc, .int am, .ref mk, .ref mq, .ref mr, .int td])), (mt, .inl (cs 0, 29, .inl tf)), (mr, .inl (cs 0, 16, .inl bf))] rfl (by decide) (show [mo, mt] = [mo, mt] from rfl) (rfl) dX6_ask_2 ?_
  refine V.sts (st' := [.int (b2 (inB (nI tn) (nI t)))]) rfl ?_
  refine v_if_eqB C 18 dX6_ask_5 (by decide) (fun c1 => ?_) (fun c1 => ?_)
  · exact absurd ((inB_in (by omega) hq).symm.trans c1) (by decide)
  · skip
    refine v_iload_n C 2 dX6_ask_8 rfl ?_
    refine v_i2l C dX6_ask_9 ?_
    refine v_lconst C (v := 0) dX6_ask_10 (by decide) ?_
    refine v_lconst C (v := 1) dX6_ask_11 (by decide) ?_
    refine v_callS C [.long (Int32.toInt64 y), .long 0, .long 1] [] kX6_in gX6_ask_X6_in (c_inI l D cs (x := y) (a := 0) (b := 1) (lo := 0) (hi := 1) (by decide) (by decide)) ⟨Nat.le_of_ble_eq_true rfl, Nat.le_of_ble_eq_true rfl⟩ ⟨rfl, rfl⟩ ⟨Nat.zero_le _, Nat.zero_le _⟩ rfl rfl (Nat.le_of_ble_eq_true rfl) [] [(mo, .inr (6, [.ref ml, .ref mz, .ref mi, .int su, .int (b2 it), .ref mt, .ref mv, .ref mp, .int nby, .int lt, .int pl, .int tok, .int va, .int be, .int wr, .ref md, .ref mc, .int am, .ref mk, .ref mq, .ref mr, .int td])), (mt, .inl (cs 0, 29, .inl tf)), (mr, .inl (cs 0, 16, .inl bf))] rfl (by decide) rfl (rfl) dX6_ask_12 ?_
    refine V.sts (st' := [.int (b2 (inI y 0 1))]) rfl ?_
    refine v_if_neB C 21 dX6_ask_15 (by decide) (fun c2 => ?_) (fun c2 => ?_)
    · skip
      refine v_aload_n C 0 dX6_ask_21 rfl ?_
      refine v_iconst C (v := 0) dX6_ask_22 (by decide) ?_
      refine v_put C fl_X6_ask_204 fp_X6_21 0 rfl rfl rfl (Nat.le_of_ble_eq_true rfl) [(mo, .inr (6, [.ref ml, .ref mz, .ref mi, .int su, .int (b2 it), .ref mt, .ref mv, .ref mp, .int nby, .int lt, .int pl, .int tok, .int va, .int be, .int wr, .ref md, .ref mc, .int am, .ref mk, .ref mq, .ref mr, .int 0])), (mt, .inl (cs 0, 29, .inl tf)), (mr, .inl (cs 0, 16, .inl bf))] rfl dX6_ask_23 ?_
      refine v_iload_n C 2 dX6_ask_26 rfl ?_
      refine v_if_ne C 38 dX6_ask_27 (by decide) (fun c3 => ?_) (fun c3 => ?_)
      · skip
        refine v_aload_n C 0 dX6_ask_38 rfl ?_
        refine v_iload_n C 1 dX6_ask_39 rfl ?_
        refine v_callV (qi := 0) C [.int (nI t)] [] kX6_markOf gX6_ask_X6_markOf (c_mmarkOf l D cs (mo := mo) (ml := ml) (mz := mz) (mi := mi) (mt := mt) (mv := mv) (mp := mp) (md := md) (mc := mc) (mk := mk) (mq := mq) (mr := mr) (su := su) (it := it) (nby := nby) (lt := lt) (pl := pl) (tok := tok) (va := va) (be := be) (wr := wr) (am := am) (tf := tf) (bf := bf) (lf := 0) (t := t) (by decide) (by omega) (by first | assumption | omega) (by first | assumption | omega)) ⟨Nat.le_of_ble_eq_true rfl, Nat.le_of_ble_eq_true rfl⟩ ⟨rfl, rfl⟩ ⟨Nat.zero_le _, Nat.zero_le _⟩ rfl 0 rfl rfl rfl rfl (Nat.le_of_ble_eq_true rfl) [0, 1, 2] [(mo, .inr (6, [.ref ml, .ref mz, .ref mi, .int su, .int (b2 it), .ref mt, .ref mv, .ref mp, .int nby, .int lt, .int pl, .int tok, .int va, .int be, .int wr, .ref md, .ref mc, .int am, .ref mk, .ref mq, .ref mr, .int (nI (0 + (askT (tf (5 + t)) 1).length))])), (mt, .inl (cs 0, 29, .inl tf)), (mr, .inl (cs 0, 16, .inl (putL bf 0 (askT (tf (5 + t)) 1))))] rfl (by decide) (show [mo, mt, mr] = [mo, mt, mr] from rfl) (rfl) dX6_ask_40 ?_
        refine V.sts (st' := [.int (askV (tf (5 + t)) (nI t) (tf (13 + t)) (tf (21 + t)) (thI (tf 0) (tf 4)) 1)]) rfl ?_
        exact v_iret C E (by first | rfl | (simp only [← inI_01, askT, Nat.zero_add, c1, c2, c3, ↓reduceIte, Bool.false_eq_true, reduceCtorEq, Bool.and_true, Bool.true_and, Bool.and_false, Bool.false_and]; done) | (simp [← inI_01, askT, Nat.zero_add, c1, c2, c3]; done) | (simp_all [← inI_01, askT, Nat.zero_add]; done)) (by first | rfl | (simp only [← inI_01, askV, c1, c2, c3, ↓reduceIte, Bool.false_eq_true, reduceCtorEq, Bool.and_true, Bool.true_and, Bool.and_false, Bool.false_and]; done) | (simp [← inI_01, askV, c1, c2, c3]; done) | (simp_all [← inI_01, askV]; done)) dX6_ask_43
      · skip
        refine v_aload_n C 0 dX6_ask_30 rfl ?_
        refine v_iload_n C 1 dX6_ask_31 rfl ?_
        refine v_callV (qi := 0) C [.int (nI t)] [] kX6_sizeOf gX6_ask_X6_sizeOf (c_msizeOf l D cs (mo := mo) (ml := ml) (mz := mz) (mi := mi) (mt := mt) (mv := mv) (mp := mp) (md := md) (mc := mc) (mk := mk) (mq := mq) (mr := mr) (su := su) (it := it) (nby := nby) (lt := lt) (pl := pl) (tok := tok) (va := va) (be := be) (wr := wr) (am := am) (tf := tf) (bf := bf) (lf := 0) (t := t) (by decide) (by omega) (by first | assumption | omega) (by first | assumption | omega)) ⟨Nat.le_of_ble_eq_true rfl, Nat.le_of_ble_eq_true rfl⟩ ⟨rfl, rfl⟩ ⟨Nat.zero_le _, Nat.zero_le _⟩ rfl 0 rfl rfl rfl rfl (Nat.le_of_ble_eq_true rfl) [0, 1, 2] [(mo, .inr (6, [.ref ml, .ref mz, .ref mi, .int su, .int (b2 it), .ref mt, .ref mv, .ref mp, .int nby, .int lt, .int pl, .int tok, .int va, .int be, .int wr, .ref md, .ref mc, .int am, .ref mk, .ref mq, .ref mr, .int (nI (0 + (askT (tf (5 + t)) 0).length))])), (mt, .inl (cs 0, 29, .inl tf)), (mr, .inl (cs 0, 16, .inl (putL bf 0 (askT (tf (5 + t)) 0))))] rfl (by decide) (show [mo, mt, mr] = [mo, mt, mr] from rfl) (rfl) dX6_ask_32 ?_
        refine V.sts (st' := [.int (askV (tf (5 + t)) (nI t) (tf (13 + t)) (tf (21 + t)) (thI (tf 0) (tf 4)) 0)]) rfl ?_
        refine v_goto C 43 dX6_ask_35 (by decide) ?_
        exact v_iret C E (by first | rfl | (simp only [← inI_01, askT, Nat.zero_add, c1, c2, c3, ↓reduceIte, Bool.false_eq_true, reduceCtorEq, Bool.and_true, Bool.true_and, Bool.and_false, Bool.false_and]; done) | (simp [← inI_01, askT, Nat.zero_add, c1, c2, c3]; done) | (simp_all [← inI_01, askT, Nat.zero_add]; done)) (by first | rfl | (simp only [← inI_01, askV, c1, c2, c3, ↓reduceIte, Bool.false_eq_true, reduceCtorEq, Bool.and_true, Bool.true_and, Bool.and_false, Bool.false_and]; done) | (simp [← inI_01, askV, c1, c2, c3]; done) | (simp_all [← inI_01, askV]; done)) dX6_ask_43
    · skip
      refine v_ldc C (v := -1000001) (by decide +kernel) dX6_ask_18 ?_
      exact v_iret C E (by first | rfl | (simp only [← inI_01, askT, Nat.zero_add, c1, c2, ↓reduceIte, Bool.false_eq_true, reduceCtorEq, Bool.and_true, Bool.true_and, Bool.and_false, Bool.false_and]; done) | (simp [← inI_01, askT, Nat.zero_add, c1, c2]; done) | (simp_all [← inI_01, askT, Nat.zero_add]; done)) (by first | rfl | (simp only [← inI_01, askV, c1, c2, ↓reduceIte, Bool.false_eq_true, reduceCtorEq, Bool.and_true, Bool.true_and, Bool.and_false, Bool.false_and]; done) | (simp [← inI_01, askV, c1, c2]; done) | (simp_all [← inI_01, askV]; done)) dX6_ask_20
set_option maxHeartbeats 4000000 in
set_option maxRecDepth 100000 in
theorem c_maskOut (l : Launch) (D : va_G) (cs : Nat → ClassId) {mo : Nat} {ml : Nat} {mz : Nat} {mi : Nat} {mt : Nat} {mv : Nat} {mp : Nat} {md : Nat} {mc : Nat} {mk : Nat} {mq : Nat} {mr : Nat} {su : Int32} {it : Bool} {nby : Int32} {lt : Int32} {pl : Int32} {tok : Int32} {va : Int32} {be : Int32} {wr : Int32} {am : Int32} {td : Int32} {tf : Nat → Int32} {tn : Nat} {x : Int32} {y : Int32} (hte : tf 1 = nI tn) (hti : tn ≤ 8) (hb : inB (nI tn) x = false) : CT l D (tz cs) yX6_ask wsX6_ask ({ frames := 7, cells := 0, slots := 0, locals := 152 }) [.ref mo, .int x, .int y] [(mo, .inr (6, [.ref ml, .ref mz, .ref mi, .int su, .int (b2 it), .ref mt, .ref mv, .ref mp, .int nby, .int lt, .int pl, .int tok, .int va, .int be, .int wr, .ref md, .ref mc, .int am, .ref mk, .ref mq, .ref mr, .int td])), (mt, .inl (cs 0, 29, .inl tf))] (some (.int (-1000001))) [(mo, .inr (6, [.ref ml, .ref mz, .ref mi, .int su, .int (b2 it), .ref mt, .ref mv, .ref mp, .int nby, .int lt, .int pl, .int tok, .int va, .int be, .int wr, .ref md, .ref mc, .int am, .ref mk, .ref mq, .ref mr, .int td])), (mt, .inl (cs 0, 29, .inl tf))] := by
  refine CT.of kX6_ask (Nat.le_of_ble_eq_true rfl) ?_
  intro p e s m below meth c A C E
  have C : VOk p s m _ c cX6_ask 3 wsX6_ask RX6 D (tz cs) A s.heap := C
  refine V.lvs (lv' := [(0, .ref mo), (1, .int x), (2, .int y)]) [0, 1, 2] rfl ?_
  refine v_aload_n C 0 dX6_ask_0 rfl ?_
  refine v_iload_n C 1 dX6_ask_1 rfl ?_
  refine v_callV (qi := 0) C [.int x] [] kX6_isTie gX6_ask_X6_isTie (c_misTie l D cs (mo := mo) (ml := ml) (mz := mz) (mi := mi) (mt := mt) (mv := mv) (mp := mp) (md := md) (mc := mc) (mk := mk) (mq := mq) (mr := mr) (su := su) (it := it) (nby := nby) (lt := lt) (pl := pl) (tok := tok) (va := va) (be := be) (wr := wr) (am := am) (td := td) (tf := tf) (tn := tn) (x := x) (by first | assumption | omega) (by first | assumption | omega)) ⟨Nat.le_of_ble_eq_true rfl, Nat.le_of_ble_eq_true rfl⟩ ⟨rfl, rfl⟩ ⟨Nat.zero_le _, Nat.zero_le _⟩ rfl 0 rfl rfl rfl rfl (Nat.le_of_ble_eq_true rfl) [0, 1] [(mo, .inr (6, [.ref ml, .ref mz, .ref mi, .int su, .int (b2 it), .ref mt, .ref mv, .ref mp, .int nby, .int lt, .int pl, .int tok, .int va, .int be, .int wr, .ref md, .ref mc, .int am, .ref mk, .ref mq, .ref mr, .int td])), (mt, .inl (cs 0, 29, .inl tf))] rfl (by decide) (show [mo, mt] = [mo, mt] from rfl) (rfl) dX6_ask_2 ?_
  refine V.sts (st' := [.int (b2 (inB (nI tn) x))]) rfl ?_
  refine v_if_eqB C 18 dX6_ask_5 (by decide) (fun c1 => ?_) (fun c1 => ?_)
  · skip
    refine v_ldc C (v := -1000001) (by decide +kernel) dX6_ask_18 ?_
    exact v_iret C E (rfl) (by first | rfl | (simp [hte, hti, hb, c1, ↓reduceIte]; done) | (simp_all [b2]; done)) dX6_ask_20
  · exact absurd (hb.symm.trans c1) (by decide)
theorem kX6_trace : KD yX6_trace wsX6_trace cX6_trace 2 (some .int) 1 := ⟨⟨_, rfl⟩, by decide, by decide +kernel, by decide +kernel, by decide +kernel⟩
theorem in_X6_trace_X6 : ∀ w ∈ wsX60, w ∈ wsX6_trace := by decide +kernel
theorem fl_X6_trace_204 : FL RX6 wsX6_trace RX6 RX6 TX6 22 6 21 204 := ⟨⟨in_X6_trace_X6, rfl, by decide, rfl⟩, by decide +kernel⟩
theorem fl_X6_trace_41 : FL RX6 wsX6_trace RX6 RX6 TX6 22 6 20 41 := ⟨⟨in_X6_trace_X6, rfl, by decide, rfl⟩, by decide +kernel⟩
set_option maxHeartbeats 4000000 in
set_option maxRecDepth 100000 in
theorem c_mtrace (l : Launch) (D : va_G) (cs : Nat → ClassId) {mo : Nat} {ml : Nat} {mz : Nat} {mi : Nat} {mt : Nat} {mv : Nat} {mp : Nat} {md : Nat} {mc : Nat} {mk : Nat} {mq : Nat} {mr : Nat} {su : Int32} {it : Bool} {nby : Int32} {lt : Int32} {pl : Int32} {tok : Int32} {va : Int32} {be : Int32} {wr : Int32} {am : Int32} {bf : Nat → Int32} {lf : Nat} {x : Int32} (hl : lf ≤ 16) : CT l D (tz cs) yX6_trace wsX6_trace ({ frames := 1, cells := 0, slots := 0, locals := 25 }) [.ref mo, .int x] [(mo, .inr (6, [.ref ml, .ref mz, .ref mi, .int su, .int (b2 it), .ref mt, .ref mv, .ref mp, .int nby, .int lt, .int pl, .int tok, .int va, .int be, .int wr, .ref md, .ref mc, .int am, .ref mk, .ref mq, .ref mr, .int (nI lf)])), (mr, .inl (cs 0, 16, .inl bf))] (some (.int (if inB (nI lf) x = true then bf x.toNatClampNeg else -1000000))) [(mo, .inr (6, [.ref ml, .ref mz, .ref mi, .int su, .int (b2 it), .ref mt, .ref mv, .ref mp, .int nby, .int lt, .int pl, .int tok, .int va, .int be, .int wr, .ref md, .ref mc, .int am, .ref mk, .ref mq, .ref mr, .int (nI lf)])), (mr, .inl (cs 0, 16, .inl bf))] := by
  refine CT.of kX6_trace (Nat.le_of_ble_eq_true rfl) ?_
  intro p e s m below meth c A C E
  have C : VOk p s m _ c cX6_trace 2 wsX6_trace RX6 D (tz cs) A s.heap := C
  refine V.lvs (lv' := [(0, .ref mo), (1, .int x)]) [0, 1] rfl ?_
  refine v_iload_n C 1 dX6_trace_0 rfl ?_
  refine v_i2l C dX6_trace_1 ?_
  refine v_lconst C (v := 0) dX6_trace_2 (by decide) ?_
  refine v_aload_n C 0 dX6_trace_3 rfl ?_
  refine v_get C (v := .int (nI lf)) fl_X6_trace_204 0 rfl rfl dX6_trace_4 ?_
  refine v_iconst C (v := 1) dX6_trace_7 (by decide) ?_
  refine v_isub C dX6_trace_8 ?_
  refine v_i2l C dX6_trace_9 ?_
  refine v_callS C [.long (Int32.toInt64 x), .long 0, .long (Int32.toInt64 ((nI lf) - 1))] [] kX6_in gX6_trace_X6_in (c_inI l D cs (x := x) (a := 0) (b := ((nI lf) - 1)) (lo := 0) (hi := (Int32.toInt64 ((nI lf) - 1))) (by decide) (rfl)) ⟨Nat.le_of_ble_eq_true rfl, Nat.le_of_ble_eq_true rfl⟩ ⟨rfl, rfl⟩ ⟨Nat.zero_le _, Nat.zero_le _⟩ rfl rfl (Nat.le_of_ble_eq_true rfl) [] [(mo, .inr (6, [.ref ml, .ref mz, .ref mi, .int su, .int (b2 it), .ref mt, .ref mv, .ref mp, .int nby, .int lt, .int pl, .int tok, .int va, .int be, .int wr, .ref md, .ref mc, .int am, .ref mk, .ref mq, .ref mr, .int (nI lf)])), (mr, .inl (cs 0, 16, .inl bf))] rfl (by decide) rfl (rfl) dX6_trace_10 ?_
  refine V.sts (st' := [.int (b2 (inI x 0 ((nI lf) - 1)))]) rfl ?_
  refine v_if_eqB C 25 dX6_trace_13 (by decide) (fun c1 => ?_) (fun c1 => ?_)
  · skip
    refine v_ldc C (v := -1000000) (by decide +kernel) dX6_trace_25 ?_
    exact v_iret C E (rfl) (by first | rfl | (simp only [← inI_0 (n := lf) (by omega), c1, ↓reduceIte, Bool.false_eq_true, reduceCtorEq, Bool.and_true, Bool.true_and, Bool.and_false, Bool.false_and]; done) | (simp [← inI_0 (n := lf) (by omega), c1]; done) | (simp_all [← inI_0 (n := lf) (by omega)]; done)) dX6_trace_27
  · skip
    refine v_aload_n C 0 dX6_trace_16 rfl ?_
    refine v_get C (v := .ref mr) fl_X6_trace_41 0 rfl rfl dX6_trace_17 ?_
    refine v_iload_n C 1 dX6_trace_20 rfl ?_
    refine v_iald C 1 0 rfl rfl (bf (Int32.toNatClampNeg x)) (rfl) (by obtain ⟨j, hj, hje⟩ := inB_t (n := lf) (by omega) (by rw [← inI_0 (by omega)]; exact c1); rw [hje]; exact vp_in_nI (by omega) (by decide)) dX6_trace_21 ?_
    refine v_goto C 27 dX6_trace_22 (by decide) ?_
    exact v_iret C E (rfl) (by first | rfl | (simp only [← inI_0 (n := lf) (by omega), c1, ↓reduceIte, Bool.false_eq_true, reduceCtorEq, Bool.and_true, Bool.true_and, Bool.and_false, Bool.false_and]; done) | (simp [← inI_0 (n := lf) (by omega), c1]; done) | (simp_all [← inI_0 (n := lf) (by omega)]; done)) dX6_trace_27
