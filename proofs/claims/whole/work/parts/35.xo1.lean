theorem kX6_tieHas : KD yX6_tieHas wsX6_tieHas cX6_tieHas 3 (some .int) 2 := ⟨⟨_, rfl⟩, by decide, by decide +kernel, by decide +kernel, by decide +kernel⟩
theorem in_X6_tieHas_X6 : ∀ w ∈ wsX60, w ∈ wsX6_tieHas := by decide +kernel
theorem fl_X6_tieHas_19 : FL RX6 wsX6_tieHas RX6 RX6 TX6 22 6 5 19 := ⟨⟨in_X6_tieHas_X6, rfl, by decide, rfl⟩, by decide +kernel⟩
set_option maxHeartbeats 4000000 in
set_option maxRecDepth 100000 in
theorem c_mtieHasIn (l : Launch) (D : va_G) (cs : Nat → ClassId) {mo : Nat} {ml : Nat} {mz : Nat} {mi : Nat} {mt : Nat} {mv : Nat} {mp : Nat} {md : Nat} {mc : Nat} {mk : Nat} {mq : Nat} {mr : Nat} {su : Int32} {it : Bool} {nby : Int32} {lt : Int32} {pl : Int32} {tok : Int32} {va : Int32} {be : Int32} {wr : Int32} {am : Int32} {td : Int32} {tf : Nat → Int32} {tn : Nat} {q : Nat} {y : Int32} (hte : tf 1 = nI tn) (hti : tn ≤ 8) (hS : ∀ t, s64 (tf (13 + t))) (hK : ∀ t, t < tn → kok (tf (5 + t))) (hq : q < tn) : CT l D (tz cs) yX6_tieHas wsX6_tieHas ({ frames := 2, cells := 0, slots := 0, locals := 49 }) [.ref mo, .int (nI q), .int y] [(mo, .inr (6, [.ref ml, .ref mz, .ref mi, .int su, .int (b2 it), .ref mt, .ref mv, .ref mp, .int nby, .int lt, .int pl, .int tok, .int va, .int be, .int wr, .ref md, .ref mc, .int am, .ref mk, .ref mq, .ref mr, .int td])), (mt, .inl (cs 0, 29, .inl tf))] (some (.int (if inI y 0 2 = true then (if y = 0 then tf (13 + q) else if y = 1 then tf (21 + q) else cnt (tf (5 + q)) (tf (13 + q)) (tf (21 + q)) (thI (tf 0) (tf 4))) else -1000001))) [(mo, .inr (6, [.ref ml, .ref mz, .ref mi, .int su, .int (b2 it), .ref mt, .ref mv, .ref mp, .int nby, .int lt, .int pl, .int tok, .int va, .int be, .int wr, .ref md, .ref mc, .int am, .ref mk, .ref mq, .ref mr, .int td])), (mt, .inl (cs 0, 29, .inl tf))] := by
  refine CT.of kX6_tieHas (Nat.le_of_ble_eq_true rfl) ?_
  intro p e s m below meth c A C E
  have C : VOk p s m _ c cX6_tieHas 3 wsX6_tieHas RX6 D (tz cs) A s.heap := C
  refine V.lvs (lv' := [(0, .ref mo), (1, .int (nI q)), (2, .int y)]) [0, 1, 2] rfl ?_
  refine v_aload_n C 0 dX6_tieHas_0 rfl ?_
  refine v_iload_n C 1 dX6_tieHas_1 rfl ?_
  refine v_callV (qi := 0) C [.int (nI q)] [] kX6_isTie gX6_tieHas_X6_isTie (c_misTie l D cs (mo := mo) (ml := ml) (mz := mz) (mi := mi) (mt := mt) (mv := mv) (mp := mp) (md := md) (mc := mc) (mk := mk) (mq := mq) (mr := mr) (su := su) (it := it) (nby := nby) (lt := lt) (pl := pl) (tok := tok) (va := va) (be := be) (wr := wr) (am := am) (td := td) (tf := tf) (tn := tn) (x := (nI q)) (by first | assumption | omega) (by first | assumption | omega)) ⟨Nat.le_of_ble_eq_true rfl, Nat.le_of_ble_eq_true rfl⟩ ⟨rfl, rfl⟩ ⟨Nat.zero_le _, Nat.zero_le _⟩ rfl 0 rfl rfl rfl rfl (Nat.le_of_ble_eq_true rfl) [0, 1] [(mo, .inr (6, [.ref ml, .ref mz, .ref mi, .int su, .int (b2 it), .ref mt, .ref mv, .ref mp, .int nby, .int lt, .int pl, .int tok, .int va, .int be, .int wr, .ref md, .ref mc, .int am, .ref mk, .ref mq, .ref mr, .int td])), (mt, .inl (cs 0, 29, .inl tf))] rfl (by decide) (show [mo, mt] = [mo, mt] from rfl) (rfl) dX6_tieHas_2 ?_
  refine V.sts (st' := [.int (b2 (inB (nI tn) (nI q)))]) rfl ?_
  refine v_if_eqB C 20 dX6_tieHas_5 (by decide) (fun c1 => ?_) (fun c1 => ?_)
  · exact absurd ((inB_in (by omega) hq).symm.trans c1) (by decide)
  · skip
    refine v_iload_n C 2 dX6_tieHas_8 rfl ?_
    refine v_i2l C dX6_tieHas_9 ?_
    refine v_lconst C (v := 0) dX6_tieHas_10 (by decide) ?_
    refine v_ldc2 C (v := 2) (by decide +kernel) dX6_tieHas_11 ?_
    refine v_callS C [.long (Int32.toInt64 y), .long 0, .long 2] [] kX6_in gX6_tieHas_X6_in (c_inI l D cs (x := y) (a := 0) (b := 2) (lo := 0) (hi := 2) (by decide) (by decide)) ⟨Nat.le_of_ble_eq_true rfl, Nat.le_of_ble_eq_true rfl⟩ ⟨rfl, rfl⟩ ⟨Nat.zero_le _, Nat.zero_le _⟩ rfl rfl (Nat.le_of_ble_eq_true rfl) [] [(mo, .inr (6, [.ref ml, .ref mz, .ref mi, .int su, .int (b2 it), .ref mt, .ref mv, .ref mp, .int nby, .int lt, .int pl, .int tok, .int va, .int be, .int wr, .ref md, .ref mc, .int am, .ref mk, .ref mq, .ref mr, .int td])), (mt, .inl (cs 0, 29, .inl tf))] rfl (by decide) rfl (rfl) dX6_tieHas_14 ?_
    refine V.sts (st' := [.int (b2 (inI y 0 2))]) rfl ?_
    refine v_if_neB C 23 dX6_tieHas_17 (by decide) (fun c2 => ?_) (fun c2 => ?_)
    · skip
      refine v_iload_n C 2 dX6_tieHas_23 rfl ?_
      refine v_if_ne C 39 dX6_tieHas_24 (by decide) (fun c3 => ?_) (fun c3 => ?_)
      · skip
        refine v_iload_n C 2 dX6_tieHas_39 rfl ?_
        refine v_iconst C (v := 1) dX6_tieHas_40 (by decide) ?_
        refine v_icmp_ne C 56 dX6_tieHas_41 (by decide) (fun c4 => ?_) (fun c4 => ?_)
        · skip
          refine v_aload_n C 0 dX6_tieHas_56 rfl ?_
          refine v_aload_n C 0 dX6_tieHas_57 rfl ?_
          refine v_get C (v := .ref mt) fl_X6_tieHas_19 0 rfl rfl dX6_tieHas_58 ?_
          refine v_iconst C (v := 5) dX6_tieHas_61 (by decide) ?_
          refine v_iload_n C 1 dX6_tieHas_62 rfl ?_
          refine v_iadd C dX6_tieHas_63 ?_
          refine V.topr (y := nI (5 + q)) (nI_add 5 q) ?_
          refine v_iald C 1 0 rfl rfl (tf (5 + q)) (by rw [nI_clamp (by omega)]) (vp_in_nI (by omega) (by omega)) dX6_tieHas_64 ?_
          refine v_iload_n C 1 dX6_tieHas_65 rfl ?_
          refine v_aload_n C 0 dX6_tieHas_66 rfl ?_
          refine v_callV (qi := 0) C [] [.int (nI q), .int (tf (5 + q)), .ref mo] kX6_here gX6_tieHas_X6_here (c_mhere l D cs (mo := mo) (ml := ml) (mz := mz) (mi := mi) (mt := mt) (mv := mv) (mp := mp) (md := md) (mc := mc) (mk := mk) (mq := mq) (mr := mr) (su := su) (it := it) (nby := nby) (lt := lt) (pl := pl) (tok := tok) (va := va) (be := be) (wr := wr) (am := am) (td := td) (tf := tf) ) ⟨Nat.le_of_ble_eq_true rfl, Nat.le_of_ble_eq_true rfl⟩ ⟨rfl, rfl⟩ ⟨Nat.zero_le _, Nat.zero_le _⟩ rfl 0 rfl rfl rfl rfl (Nat.le_of_ble_eq_true rfl) [0, 1] [(mo, .inr (6, [.ref ml, .ref mz, .ref mi, .int su, .int (b2 it), .ref mt, .ref mv, .ref mp, .int nby, .int lt, .int pl, .int tok, .int va, .int be, .int wr, .ref md, .ref mc, .int am, .ref mk, .ref mq, .ref mr, .int td])), (mt, .inl (cs 0, 29, .inl tf))] rfl (by decide) (show [mo, mt] = [mo, mt] from rfl) (rfl) dX6_tieHas_67 ?_
          refine V.sts (st' := [.int (thI (tf 0) (tf 4)), .int (nI q), .int (tf (5 + q)), .ref mo]) rfl ?_
          refine v_callV (qi := 0) C [.int (tf (5 + q)), .int (nI q), .int (thI (tf 0) (tf 4))] [] kX6_countsBy gX6_tieHas_X6_countsBy (c_countsBy l D cs (mo := mo) (ml := ml) (mz := mz) (mi := mi) (mt := mt) (mv := mv) (mp := mp) (md := md) (mc := mc) (mk := mk) (mq := mq) (mr := mr) (su := su) (it := it) (nby := nby) (lt := lt) (pl := pl) (tok := tok) (va := va) (be := be) (wr := wr) (am := am) (td := td) (tf := tf) (t := q) (kd := tf (5 + q)) (th := (thI (tf 0) (tf 4))) (hK q hq) (by first | assumption | omega) (by first | assumption | omega)) ⟨Nat.le_of_ble_eq_true rfl, Nat.le_of_ble_eq_true rfl⟩ ⟨rfl, rfl⟩ ⟨Nat.zero_le _, Nat.zero_le _⟩ rfl 0 rfl rfl rfl rfl (Nat.le_of_ble_eq_true rfl) [0, 1] [(mo, .inr (6, [.ref ml, .ref mz, .ref mi, .int su, .int (b2 it), .ref mt, .ref mv, .ref mp, .int nby, .int lt, .int pl, .int tok, .int va, .int be, .int wr, .ref md, .ref mc, .int am, .ref mk, .ref mq, .ref mr, .int td])), (mt, .inl (cs 0, 29, .inl tf))] rfl (by decide) (show [mo, mt] = [mo, mt] from rfl) (rfl) dX6_tieHas_70 ?_
          refine V.sts (st' := [.int (cnt (tf (5 + q)) (tf (13 + q)) (tf (21 + q)) (thI (tf 0) (tf 4)))]) rfl ?_
          exact v_iret C E (by first | rfl | (simp only [c1, c2, c3, c4, ↓reduceIte, Bool.false_eq_true, reduceCtorEq, Bool.and_true, Bool.true_and, Bool.and_false, Bool.false_and]; done) | (simp [c1, c2, c3, c4]; done) | (simp_all [b2]; done)) (by first | rfl | (simp only [c1, c2, c3, c4, ↓reduceIte, Bool.false_eq_true, reduceCtorEq, Bool.and_true, Bool.true_and, Bool.and_false, Bool.false_and]; done) | (simp [c1, c2, c3, c4]; done) | (simp_all [b2]; done)) dX6_tieHas_73
        · skip
          refine v_aload_n C 0 dX6_tieHas_44 rfl ?_
          refine v_get C (v := .ref mt) fl_X6_tieHas_19 0 rfl rfl dX6_tieHas_45 ?_
          refine v_bipush C (v := 21) dX6_tieHas_48 (by decide) ?_
          refine v_iload_n C 1 dX6_tieHas_50 rfl ?_
          refine v_iadd C dX6_tieHas_51 ?_
          refine V.topr (y := nI (21 + q)) (nI_add 21 q) ?_
          refine v_iald C 1 0 rfl rfl (tf (21 + q)) (by rw [nI_clamp (by omega)]) (vp_in_nI (by omega) (by omega)) dX6_tieHas_52 ?_
          refine v_goto C 73 dX6_tieHas_53 (by decide) ?_
          exact v_iret C E (by first | rfl | (simp only [c1, c2, c3, c4, ↓reduceIte, Bool.false_eq_true, reduceCtorEq, Bool.and_true, Bool.true_and, Bool.and_false, Bool.false_and]; done) | (simp [c1, c2, c3, c4]; done) | (simp_all [b2]; done)) (by first | rfl | (simp only [c1, c2, c3, c4, ↓reduceIte, Bool.false_eq_true, reduceCtorEq, Bool.and_true, Bool.true_and, Bool.and_false, Bool.false_and]; done) | (simp [c1, c2, c3, c4]; done) | (simp_all [b2]; done)) dX6_tieHas_73
      · skip
        refine v_aload_n C 0 dX6_tieHas_27 rfl ?_
        refine v_get C (v := .ref mt) fl_X6_tieHas_19 0 rfl rfl dX6_tieHas_28 ?_
        refine v_bipush C (v := 13) dX6_tieHas_31 (by decide) ?_
        refine v_iload_n C 1 dX6_tieHas_33 rfl ?_
        refine v_iadd C dX6_tieHas_34 ?_
        refine V.topr (y := nI (13 + q)) (nI_add 13 q) ?_
        refine v_iald C 1 0 rfl rfl (tf (13 + q)) (by rw [nI_clamp (by omega)]) (vp_in_nI (by omega) (by omega)) dX6_tieHas_35 ?_
        refine v_goto C 73 dX6_tieHas_36 (by decide) ?_
        exact v_iret C E (by first | rfl | (simp only [c1, c2, c3, ↓reduceIte, Bool.false_eq_true, reduceCtorEq, Bool.and_true, Bool.true_and, Bool.and_false, Bool.false_and]; done) | (simp [c1, c2, c3]; done) | (simp_all [b2]; done)) (by first | rfl | (simp only [c1, c2, c3, ↓reduceIte, Bool.false_eq_true, reduceCtorEq, Bool.and_true, Bool.true_and, Bool.and_false, Bool.false_and]; done) | (simp [c1, c2, c3]; done) | (simp_all [b2]; done)) dX6_tieHas_73
    · skip
      refine v_ldc C (v := -1000001) (by decide +kernel) dX6_tieHas_20 ?_
      exact v_iret C E (by first | rfl | (simp only [c1, c2, ↓reduceIte, Bool.false_eq_true, reduceCtorEq, Bool.and_true, Bool.true_and, Bool.and_false, Bool.false_and]; done) | (simp [c1, c2]; done) | (simp_all [b2]; done)) (by first | rfl | (simp only [c1, c2, ↓reduceIte, Bool.false_eq_true, reduceCtorEq, Bool.and_true, Bool.true_and, Bool.and_false, Bool.false_and]; done) | (simp [c1, c2]; done) | (simp_all [b2]; done)) dX6_tieHas_22
set_option maxHeartbeats 4000000 in
set_option maxRecDepth 100000 in
theorem c_mtieHasOut (l : Launch) (D : va_G) (cs : Nat → ClassId) {mo : Nat} {ml : Nat} {mz : Nat} {mi : Nat} {mt : Nat} {mv : Nat} {mp : Nat} {md : Nat} {mc : Nat} {mk : Nat} {mq : Nat} {mr : Nat} {su : Int32} {it : Bool} {nby : Int32} {lt : Int32} {pl : Int32} {tok : Int32} {va : Int32} {be : Int32} {wr : Int32} {am : Int32} {td : Int32} {tf : Nat → Int32} {tn : Nat} {x : Int32} {y : Int32} (hte : tf 1 = nI tn) (hti : tn ≤ 8) (hb : inB (nI tn) x = false) : CT l D (tz cs) yX6_tieHas wsX6_tieHas ({ frames := 2, cells := 0, slots := 0, locals := 49 }) [.ref mo, .int x, .int y] [(mo, .inr (6, [.ref ml, .ref mz, .ref mi, .int su, .int (b2 it), .ref mt, .ref mv, .ref mp, .int nby, .int lt, .int pl, .int tok, .int va, .int be, .int wr, .ref md, .ref mc, .int am, .ref mk, .ref mq, .ref mr, .int td])), (mt, .inl (cs 0, 29, .inl tf))] (some (.int (-1000001))) [(mo, .inr (6, [.ref ml, .ref mz, .ref mi, .int su, .int (b2 it), .ref mt, .ref mv, .ref mp, .int nby, .int lt, .int pl, .int tok, .int va, .int be, .int wr, .ref md, .ref mc, .int am, .ref mk, .ref mq, .ref mr, .int td])), (mt, .inl (cs 0, 29, .inl tf))] := by
  refine CT.of kX6_tieHas (Nat.le_of_ble_eq_true rfl) ?_
  intro p e s m below meth c A C E
  have C : VOk p s m _ c cX6_tieHas 3 wsX6_tieHas RX6 D (tz cs) A s.heap := C
  refine V.lvs (lv' := [(0, .ref mo), (1, .int x), (2, .int y)]) [0, 1, 2] rfl ?_
  refine v_aload_n C 0 dX6_tieHas_0 rfl ?_
  refine v_iload_n C 1 dX6_tieHas_1 rfl ?_
  refine v_callV (qi := 0) C [.int x] [] kX6_isTie gX6_tieHas_X6_isTie (c_misTie l D cs (mo := mo) (ml := ml) (mz := mz) (mi := mi) (mt := mt) (mv := mv) (mp := mp) (md := md) (mc := mc) (mk := mk) (mq := mq) (mr := mr) (su := su) (it := it) (nby := nby) (lt := lt) (pl := pl) (tok := tok) (va := va) (be := be) (wr := wr) (am := am) (td := td) (tf := tf) (tn := tn) (x := x) (by first | assumption | omega) (by first | assumption | omega)) ⟨Nat.le_of_ble_eq_true rfl, Nat.le_of_ble_eq_true rfl⟩ ⟨rfl, rfl⟩ ⟨Nat.zero_le _, Nat.zero_le _⟩ rfl 0 rfl rfl rfl rfl (Nat.le_of_ble_eq_true rfl) [0, 1] [(mo, .inr (6, [.ref ml, .ref mz, .ref mi, .int su, .int (b2 it), .ref mt, .ref mv, .ref mp, .int nby, .int lt, .int pl, .int tok, .int va, .int be, .int wr, .ref md, .ref mc, .int am, .ref mk, .ref mq, .ref mr, .int td])), (mt, .inl (cs 0, 29, .inl tf))] rfl (by decide) (show [mo, mt] = [mo, mt] from rfl) (rfl) dX6_tieHas_2 ?_
  refine V.sts (st' := [.int (b2 (inB (nI tn) x))]) rfl ?_
  refine v_if_eqB C 20 dX6_tieHas_5 (by decide) (fun c1 => ?_) (fun c1 => ?_)
  · skip
    refine v_ldc C (v := -1000001) (by decide +kernel) dX6_tieHas_20 ?_
    exact v_iret C E (rfl) (by first | rfl | (simp [hte, hti, hb, c1, ↓reduceIte]; done) | (simp_all [b2]; done)) dX6_tieHas_22
  · exact absurd (hb.symm.trans c1) (by decide)
theorem kX6_tableHas : KD yX6_tableHas wsX6_tableHas cX6_tableHas 2 (some .int) 1 := ⟨⟨_, rfl⟩, by decide, by decide +kernel, by decide +kernel, by decide +kernel⟩
theorem in_X6_tableHas_X6 : ∀ w ∈ wsX60, w ∈ wsX6_tableHas := by decide +kernel
theorem fl_X6_tableHas_129 : FL RX6 wsX6_tableHas RX6 RX6 TX6 22 6 4 129 := ⟨⟨in_X6_tableHas_X6, rfl, by decide, rfl⟩, by decide +kernel⟩
theorem fl_X6_tableHas_19 : FL RX6 wsX6_tableHas RX6 RX6 TX6 22 6 5 19 := ⟨⟨in_X6_tableHas_X6, rfl, by decide, rfl⟩, by decide +kernel⟩
set_option maxHeartbeats 4000000 in
set_option maxRecDepth 100000 in
theorem c_mtableHas (l : Launch) (D : va_G) (cs : Nat → ClassId) {mo : Nat} {ml : Nat} {mz : Nat} {mi : Nat} {mt : Nat} {mv : Nat} {mp : Nat} {md : Nat} {mc : Nat} {mk : Nat} {mq : Nat} {mr : Nat} {su : Int32} {it : Bool} {nby : Int32} {lt : Int32} {pl : Int32} {tok : Int32} {va : Int32} {be : Int32} {wr : Int32} {am : Int32} {td : Int32} {tf : Nat → Int32} {tn : Nat} {x : Int32} (hte : tf 1 = nI tn) (hti : tn ≤ 8) (hS : ∀ t, s64 (tf (13 + t))) (hK : ∀ t, t < tn → kok (tf (5 + t))) : CT l D (tz cs) yX6_tableHas wsX6_tableHas ({ frames := 3, cells := 0, slots := 0, locals := 72 }) [.ref mo, .int x] [(mo, .inr (6, [.ref ml, .ref mz, .ref mi, .int su, .int (b2 it), .ref mt, .ref mv, .ref mp, .int nby, .int lt, .int pl, .int tok, .int va, .int be, .int wr, .ref md, .ref mc, .int am, .ref mk, .ref mq, .ref mr, .int td])), (mt, .inl (cs 0, 29, .inl tf))] (some (.int (if it = true then (if x = 0 then thI (tf 0) (tf 4) else if x = 1 then wsum (kS tf) (sS tf) (wS tf) (thI (tf 0) (tf 4)) tn else if x = 2 then wsum (kS tf) (sS tf) (wS tf) (allI (tf 0)) tn else if x = 3 then tf 2 else if x = 4 then tf 3 else -1000001) else -1000002))) [(mo, .inr (6, [.ref ml, .ref mz, .ref mi, .int su, .int (b2 it), .ref mt, .ref mv, .ref mp, .int nby, .int lt, .int pl, .int tok, .int va, .int be, .int wr, .ref md, .ref mc, .int am, .ref mk, .ref mq, .ref mr, .int td])), (mt, .inl (cs 0, 29, .inl tf))] := by
  refine CT.of kX6_tableHas (Nat.le_of_ble_eq_true rfl) ?_
  intro p e s m below meth c A C E
  have C : VOk p s m _ c cX6_tableHas 2 wsX6_tableHas RX6 D (tz cs) A s.heap := C
  refine V.lvs (lv' := [(0, .ref mo), (1, .int x)]) [0, 1] rfl ?_
  refine v_aload_n C 0 dX6_tableHas_0 rfl ?_
  refine v_get C (v := .int (b2 it)) fl_X6_tableHas_129 0 rfl rfl dX6_tableHas_1 ?_
  refine v_if_neB C 10 dX6_tableHas_4 (by decide) (fun c1 => ?_) (fun c1 => ?_)
  · skip
    refine v_iload_n C 1 dX6_tableHas_10 rfl ?_
    rcases Decidable.em (x = 0) with z2 | z2
    · skip
      refine v_tableIn C 44 dX6_tableHas_11 (by rw [z2]; decide) (by rw [z2]; decide) (by rw [z2]; rfl) (by decide) ?_
      refine v_aload_n C 0 dX6_tableHas_44 rfl ?_
      refine v_callV (qi := 0) C [] [] kX6_here gX6_tableHas_X6_here (c_mhere l D cs (mo := mo) (ml := ml) (mz := mz) (mi := mi) (mt := mt) (mv := mv) (mp := mp) (md := md) (mc := mc) (mk := mk) (mq := mq) (mr := mr) (su := su) (it := it) (nby := nby) (lt := lt) (pl := pl) (tok := tok) (va := va) (be := be) (wr := wr) (am := am) (td := td) (tf := tf) ) ⟨Nat.le_of_ble_eq_true rfl, Nat.le_of_ble_eq_true rfl⟩ ⟨rfl, rfl⟩ ⟨Nat.zero_le _, Nat.zero_le _⟩ rfl 0 rfl rfl rfl rfl (Nat.le_of_ble_eq_true rfl) [0, 1] [(mo, .inr (6, [.ref ml, .ref mz, .ref mi, .int su, .int (b2 it), .ref mt, .ref mv, .ref mp, .int nby, .int lt, .int pl, .int tok, .int va, .int be, .int wr, .ref md, .ref mc, .int am, .ref mk, .ref mq, .ref mr, .int td])), (mt, .inl (cs 0, 29, .inl tf))] rfl (by decide) (show [mo, mt] = [mo, mt] from rfl) (rfl) dX6_tableHas_45 ?_
      refine V.sts (st' := [.int (thI (tf 0) (tf 4))]) rfl ?_
      exact v_iret C E (by first | rfl | (simp only [c1, z2, ↓reduceIte, Bool.false_eq_true, reduceCtorEq, Bool.and_true, Bool.true_and, Bool.and_false, Bool.false_and]; done) | (simp [c1, z2]; done) | (simp_all [b2]; done)) (by first | rfl | (simp only [c1, z2, ↓reduceIte, Bool.false_eq_true, reduceCtorEq, Bool.and_true, Bool.true_and, Bool.and_false, Bool.false_and]; done) | (simp [c1, z2]; done) | (simp_all [b2]; done)) dX6_tableHas_48
    · skip
      rcases Decidable.em (x = 1) with z3 | z3
      · skip
        refine v_tableIn C 49 dX6_tableHas_11 (by rw [z3]; decide) (by rw [z3]; decide) (by rw [z3]; rfl) (by decide) ?_
        refine v_aload_n C 0 dX6_tableHas_49 rfl ?_
        refine v_aload_n C 0 dX6_tableHas_50 rfl ?_
        refine v_callV (qi := 0) C [] [.ref mo] kX6_here gX6_tableHas_X6_here (c_mhere l D cs (mo := mo) (ml := ml) (mz := mz) (mi := mi) (mt := mt) (mv := mv) (mp := mp) (md := md) (mc := mc) (mk := mk) (mq := mq) (mr := mr) (su := su) (it := it) (nby := nby) (lt := lt) (pl := pl) (tok := tok) (va := va) (be := be) (wr := wr) (am := am) (td := td) (tf := tf) ) ⟨Nat.le_of_ble_eq_true rfl, Nat.le_of_ble_eq_true rfl⟩ ⟨rfl, rfl⟩ ⟨Nat.zero_le _, Nat.zero_le _⟩ rfl 0 rfl rfl rfl rfl (Nat.le_of_ble_eq_true rfl) [0, 1] [(mo, .inr (6, [.ref ml, .ref mz, .ref mi, .int su, .int (b2 it), .ref mt, .ref mv, .ref mp, .int nby, .int lt, .int pl, .int tok, .int va, .int be, .int wr, .ref md, .ref mc, .int am, .ref mk, .ref mq, .ref mr, .int td])), (mt, .inl (cs 0, 29, .inl tf))] rfl (by decide) (show [mo, mt] = [mo, mt] from rfl) (rfl) dX6_tableHas_51 ?_
        refine V.sts (st' := [.int (thI (tf 0) (tf 4)), .ref mo]) rfl ?_
        refine v_callV (qi := 0) C [.int (thI (tf 0) (tf 4))] [] kX6_worthOf gX6_tableHas_X6_worthOf (c_mworthOf l D cs (mo := mo) (ml := ml) (mz := mz) (mi := mi) (mt := mt) (mv := mv) (mp := mp) (md := md) (mc := mc) (mk := mk) (mq := mq) (mr := mr) (su := su) (it := it) (nby := nby) (lt := lt) (pl := pl) (tok := tok) (va := va) (be := be) (wr := wr) (am := am) (td := td) (tf := tf) (tn := tn) (th := (thI (tf 0) (tf 4))) (by first | assumption | omega) (by first | assumption | omega) (by first | assumption | omega) (by first | assumption | omega)) ⟨Nat.le_of_ble_eq_true rfl, Nat.le_of_ble_eq_true rfl⟩ ⟨rfl, rfl⟩ ⟨Nat.zero_le _, Nat.zero_le _⟩ rfl 0 rfl rfl rfl rfl (Nat.le_of_ble_eq_true rfl) [0, 1] [(mo, .inr (6, [.ref ml, .ref mz, .ref mi, .int su, .int (b2 it), .ref mt, .ref mv, .ref mp, .int nby, .int lt, .int pl, .int tok, .int va, .int be, .int wr, .ref md, .ref mc, .int am, .ref mk, .ref mq, .ref mr, .int td])), (mt, .inl (cs 0, 29, .inl tf))] rfl (by decide) (show [mo, mt] = [mo, mt] from rfl) (rfl) dX6_tableHas_54 ?_
        refine V.sts (st' := [.int (wsum (kS tf) (sS tf) (wS tf) (thI (tf 0) (tf 4)) tn)]) rfl ?_
        exact v_iret C E (by first | rfl | (simp only [c1, z2, z3, ↓reduceIte, Bool.false_eq_true, reduceCtorEq, Bool.and_true, Bool.true_and, Bool.and_false, Bool.false_and]; done) | (simp [c1, z2, z3]; done) | (simp_all [b2]; done)) (by first | rfl | (simp only [c1, z2, z3, ↓reduceIte, Bool.false_eq_true, reduceCtorEq, Bool.and_true, Bool.true_and, Bool.and_false, Bool.false_and]; done) | (simp [c1, z2, z3]; done) | (simp_all [b2]; done)) dX6_tableHas_57
      · skip
        rcases Decidable.em (x = 2) with z4 | z4
        · skip
          refine v_tableIn C 58 dX6_tableHas_11 (by rw [z4]; decide) (by rw [z4]; decide) (by rw [z4]; rfl) (by decide) ?_
          refine v_aload_n C 0 dX6_tableHas_58 rfl ?_
          refine v_aload_n C 0 dX6_tableHas_59 rfl ?_
          refine v_callV (qi := 0) C [] [.ref mo] kX6_all gX6_tableHas_X6_all (c_mall l D cs (mo := mo) (ml := ml) (mz := mz) (mi := mi) (mt := mt) (mv := mv) (mp := mp) (md := md) (mc := mc) (mk := mk) (mq := mq) (mr := mr) (su := su) (it := it) (nby := nby) (lt := lt) (pl := pl) (tok := tok) (va := va) (be := be) (wr := wr) (am := am) (td := td) (tf := tf) ) ⟨Nat.le_of_ble_eq_true rfl, Nat.le_of_ble_eq_true rfl⟩ ⟨rfl, rfl⟩ ⟨Nat.zero_le _, Nat.zero_le _⟩ rfl 0 rfl rfl rfl rfl (Nat.le_of_ble_eq_true rfl) [0, 1] [(mo, .inr (6, [.ref ml, .ref mz, .ref mi, .int su, .int (b2 it), .ref mt, .ref mv, .ref mp, .int nby, .int lt, .int pl, .int tok, .int va, .int be, .int wr, .ref md, .ref mc, .int am, .ref mk, .ref mq, .ref mr, .int td])), (mt, .inl (cs 0, 29, .inl tf))] rfl (by decide) (show [mo, mt] = [mo, mt] from rfl) (rfl) dX6_tableHas_60 ?_
          refine V.sts (st' := [.int (allI (tf 0)), .ref mo]) rfl ?_
          refine v_callV (qi := 0) C [.int (allI (tf 0))] [] kX6_worthOf gX6_tableHas_X6_worthOf (c_mworthOf l D cs (mo := mo) (ml := ml) (mz := mz) (mi := mi) (mt := mt) (mv := mv) (mp := mp) (md := md) (mc := mc) (mk := mk) (mq := mq) (mr := mr) (su := su) (it := it) (nby := nby) (lt := lt) (pl := pl) (tok := tok) (va := va) (be := be) (wr := wr) (am := am) (td := td) (tf := tf) (tn := tn) (th := (allI (tf 0))) (by first | assumption | omega) (by first | assumption | omega) (by first | assumption | omega) (by first | assumption | omega)) ⟨Nat.le_of_ble_eq_true rfl, Nat.le_of_ble_eq_true rfl⟩ ⟨rfl, rfl⟩ ⟨Nat.zero_le _, Nat.zero_le _⟩ rfl 0 rfl rfl rfl rfl (Nat.le_of_ble_eq_true rfl) [0, 1] [(mo, .inr (6, [.ref ml, .ref mz, .ref mi, .int su, .int (b2 it), .ref mt, .ref mv, .ref mp, .int nby, .int lt, .int pl, .int tok, .int va, .int be, .int wr, .ref md, .ref mc, .int am, .ref mk, .ref mq, .ref mr, .int td])), (mt, .inl (cs 0, 29, .inl tf))] rfl (by decide) (show [mo, mt] = [mo, mt] from rfl) (rfl) dX6_tableHas_63 ?_
          refine V.sts (st' := [.int (wsum (kS tf) (sS tf) (wS tf) (allI (tf 0)) tn)]) rfl ?_
          exact v_iret C E (by first | rfl | (simp only [c1, z2, z3, z4, ↓reduceIte, Bool.false_eq_true, reduceCtorEq, Bool.and_true, Bool.true_and, Bool.and_false, Bool.false_and]; done) | (simp [c1, z2, z3, z4]; done) | (simp_all [b2]; done)) (by first | rfl | (simp only [c1, z2, z3, z4, ↓reduceIte, Bool.false_eq_true, reduceCtorEq, Bool.and_true, Bool.true_and, Bool.and_false, Bool.false_and]; done) | (simp [c1, z2, z3, z4]; done) | (simp_all [b2]; done)) dX6_tableHas_66
        · skip
          rcases Decidable.em (x = 3) with z5 | z5
          · skip
            refine v_tableIn C 67 dX6_tableHas_11 (by rw [z5]; decide) (by rw [z5]; decide) (by rw [z5]; rfl) (by decide) ?_
            refine v_aload_n C 0 dX6_tableHas_67 rfl ?_
            refine v_get C (v := .ref mt) fl_X6_tableHas_19 0 rfl rfl dX6_tableHas_68 ?_
            refine v_iconst C (v := 2) dX6_tableHas_71 (by decide) ?_
            refine v_iald C 1 0 rfl rfl (tf 2) (rfl) (vp_in_nI (n := 2) (N := 29) (by decide) (by decide)) dX6_tableHas_72 ?_
            exact v_iret C E (by first | rfl | (simp only [c1, z2, z3, z4, z5, ↓reduceIte, Bool.false_eq_true, reduceCtorEq, Bool.and_true, Bool.true_and, Bool.and_false, Bool.false_and]; done) | (simp [c1, z2, z3, z4, z5]; done) | (simp_all [b2]; done)) (by first | rfl | (simp only [c1, z2, z3, z4, z5, ↓reduceIte, Bool.false_eq_true, reduceCtorEq, Bool.and_true, Bool.true_and, Bool.and_false, Bool.false_and]; done) | (simp [c1, z2, z3, z4, z5]; done) | (simp_all [b2]; done)) dX6_tableHas_73
          · skip
            rcases Decidable.em (x = 4) with z6 | z6
            · skip
              refine v_tableIn C 74 dX6_tableHas_11 (by rw [z6]; decide) (by rw [z6]; decide) (by rw [z6]; rfl) (by decide) ?_
              refine v_aload_n C 0 dX6_tableHas_74 rfl ?_
              refine v_get C (v := .ref mt) fl_X6_tableHas_19 0 rfl rfl dX6_tableHas_75 ?_
              refine v_iconst C (v := 3) dX6_tableHas_78 (by decide) ?_
              refine v_iald C 1 0 rfl rfl (tf 3) (rfl) (vp_in_nI (n := 3) (N := 29) (by decide) (by decide)) dX6_tableHas_79 ?_
              exact v_iret C E (by first | rfl | (simp only [c1, z2, z3, z4, z5, z6, ↓reduceIte, Bool.false_eq_true, reduceCtorEq, Bool.and_true, Bool.true_and, Bool.and_false, Bool.false_and]; done) | (simp [c1, z2, z3, z4, z5, z6]; done) | (simp_all [b2]; done)) (by first | rfl | (simp only [c1, z2, z3, z4, z5, z6, ↓reduceIte, Bool.false_eq_true, reduceCtorEq, Bool.and_true, Bool.true_and, Bool.and_false, Bool.false_and]; done) | (simp [c1, z2, z3, z4, z5, z6]; done) | (simp_all [b2]; done)) dX6_tableHas_80
            · skip
              have tz2 : ¬ Int32.toInt x = 0 := lv_neT z2 (by rfl)
              have tz3 : ¬ Int32.toInt x = 1 := lv_neT z3 (by rfl)
              have tz4 : ¬ Int32.toInt x = 2 := lv_neT z4 (by rfl)
              have tz5 : ¬ Int32.toInt x = 3 := lv_neT z5 (by rfl)
              have tz6 : ¬ Int32.toInt x = 4 := lv_neT z6 (by rfl)
              refine v_tableOut C 81 dX6_tableHas_11 (by omega) (by decide) ?_
              refine v_ldc C (v := -1000001) (by decide +kernel) dX6_tableHas_81 ?_
              exact v_iret C E (by first | rfl | (simp only [c1, z2, z3, z4, z5, z6, ↓reduceIte, Bool.false_eq_true, reduceCtorEq, Bool.and_true, Bool.true_and, Bool.and_false, Bool.false_and]; done) | (simp [c1, z2, z3, z4, z5, z6]; done) | (simp_all [b2]; done)) (by first | rfl | (simp only [c1, z2, z3, z4, z5, z6, ↓reduceIte, Bool.false_eq_true, reduceCtorEq, Bool.and_true, Bool.true_and, Bool.and_false, Bool.false_and]; done) | (simp [c1, z2, z3, z4, z5, z6]; done) | (simp_all [b2]; done)) dX6_tableHas_83
  · skip
    refine v_ldc C (v := -1000002) (by decide +kernel) dX6_tableHas_7 ?_
    exact v_iret C E (by first | rfl | (simp only [c1, ↓reduceIte, Bool.false_eq_true, reduceCtorEq, Bool.and_true, Bool.true_and, Bool.and_false, Bool.false_and]; done) | (simp [c1]; done) | (simp_all [b2]; done)) (by first | rfl | (simp only [c1, ↓reduceIte, Bool.false_eq_true, reduceCtorEq, Bool.and_true, Bool.true_and, Bool.and_false, Bool.false_and]; done) | (simp [c1]; done) | (simp_all [b2]; done)) dX6_tableHas_9
theorem kX6_worth : KD yX6_worth wsX6_worth cX6_worth 2 (some .int) 1 := ⟨⟨_, rfl⟩, by decide, by decide +kernel, by decide +kernel, by decide +kernel⟩
theorem in_X6_worth_X6 : ∀ w ∈ wsX60, w ∈ wsX6_worth := by decide +kernel
theorem fl_X6_worth_129 : FL RX6 wsX6_worth RX6 RX6 TX6 22 6 4 129 := ⟨⟨in_X6_worth_X6, rfl, by decide, rfl⟩, by decide +kernel⟩
set_option maxHeartbeats 4000000 in
set_option maxRecDepth 100000 in
theorem c_mworth (l : Launch) (D : va_G) (cs : Nat → ClassId) {mo : Nat} {ml : Nat} {mz : Nat} {mi : Nat} {mt : Nat} {mv : Nat} {mp : Nat} {md : Nat} {mc : Nat} {mk : Nat} {mq : Nat} {mr : Nat} {su : Int32} {it : Bool} {nby : Int32} {lt : Int32} {pl : Int32} {tok : Int32} {va : Int32} {be : Int32} {wr : Int32} {am : Int32} {td : Int32} {tf : Nat → Int32} {tn : Nat} {x : Int32} (hte : tf 1 = nI tn) (hti : tn ≤ 8) (hS : ∀ t, s64 (tf (13 + t))) (hK : ∀ t, t < tn → kok (tf (5 + t))) : CT l D (tz cs) yX6_worth wsX6_worth ({ frames := 3, cells := 0, slots := 0, locals := 72 }) [.ref mo, .int x] [(mo, .inr (6, [.ref ml, .ref mz, .ref mi, .int su, .int (b2 it), .ref mt, .ref mv, .ref mp, .int nby, .int lt, .int pl, .int tok, .int va, .int be, .int wr, .ref md, .ref mc, .int am, .ref mk, .ref mq, .ref mr, .int td])), (mt, .inl (cs 0, 29, .inl tf))] (some (.int (if it = true then (if setB (tf 0) x = true then wsum (kS tf) (sS tf) (wS tf) x tn else -1000001) else -1000002))) [(mo, .inr (6, [.ref ml, .ref mz, .ref mi, .int su, .int (b2 it), .ref mt, .ref mv, .ref mp, .int nby, .int lt, .int pl, .int tok, .int va, .int be, .int wr, .ref md, .ref mc, .int am, .ref mk, .ref mq, .ref mr, .int td])), (mt, .inl (cs 0, 29, .inl tf))] := by
  refine CT.of kX6_worth (Nat.le_of_ble_eq_true rfl) ?_
  intro p e s m below meth c A C E
  have C : VOk p s m _ c cX6_worth 2 wsX6_worth RX6 D (tz cs) A s.heap := C
  refine V.lvs (lv' := [(0, .ref mo), (1, .int x)]) [0, 1] rfl ?_
  refine v_aload_n C 0 dX6_worth_0 rfl ?_
  refine v_get C (v := .int (b2 it)) fl_X6_worth_129 0 rfl rfl dX6_worth_1 ?_
  refine v_if_neB C 10 dX6_worth_4 (by decide) (fun c1 => ?_) (fun c1 => ?_)
  · skip
    refine v_aload_n C 0 dX6_worth_10 rfl ?_
    refine v_iload_n C 1 dX6_worth_11 rfl ?_
    refine v_callV (qi := 0) C [.int x] [] kX6_isSet gX6_worth_X6_isSet (c_misSet l D cs (mo := mo) (ml := ml) (mz := mz) (mi := mi) (mt := mt) (mv := mv) (mp := mp) (md := md) (mc := mc) (mk := mk) (mq := mq) (mr := mr) (su := su) (it := it) (nby := nby) (lt := lt) (pl := pl) (tok := tok) (va := va) (be := be) (wr := wr) (am := am) (td := td) (tf := tf) (x := x) ) ⟨Nat.le_of_ble_eq_true rfl, Nat.le_of_ble_eq_true rfl⟩ ⟨rfl, rfl⟩ ⟨Nat.zero_le _, Nat.zero_le _⟩ rfl 0 rfl rfl rfl rfl (Nat.le_of_ble_eq_true rfl) [0, 1] [(mo, .inr (6, [.ref ml, .ref mz, .ref mi, .int su, .int (b2 it), .ref mt, .ref mv, .ref mp, .int nby, .int lt, .int pl, .int tok, .int va, .int be, .int wr, .ref md, .ref mc, .int am, .ref mk, .ref mq, .ref mr, .int td])), (mt, .inl (cs 0, 29, .inl tf))] rfl (by decide) (show [mo, mt] = [mo, mt] from rfl) (rfl) dX6_worth_12 ?_
    refine V.sts (st' := [.int (b2 (setB (tf 0) x))]) rfl ?_
    refine v_if_eqB C 26 dX6_worth_15 (by decide) (fun c2 => ?_) (fun c2 => ?_)
    · skip
      refine v_ldc C (v := -1000001) (by decide +kernel) dX6_worth_26 ?_
      exact v_iret C E (by first | rfl | (simp only [c1, c2, ↓reduceIte, Bool.false_eq_true, reduceCtorEq, Bool.and_true, Bool.true_and, Bool.and_false, Bool.false_and]; done) | (simp [c1, c2]; done) | (simp_all [b2]; done)) (by first | rfl | (simp only [c1, c2, ↓reduceIte, Bool.false_eq_true, reduceCtorEq, Bool.and_true, Bool.true_and, Bool.and_false, Bool.false_and]; done) | (simp [c1, c2]; done) | (simp_all [b2]; done)) dX6_worth_28
    · skip
      refine v_aload_n C 0 dX6_worth_18 rfl ?_
      refine v_iload_n C 1 dX6_worth_19 rfl ?_
      refine v_callV (qi := 0) C [.int x] [] kX6_worthOf gX6_worth_X6_worthOf (c_mworthOf l D cs (mo := mo) (ml := ml) (mz := mz) (mi := mi) (mt := mt) (mv := mv) (mp := mp) (md := md) (mc := mc) (mk := mk) (mq := mq) (mr := mr) (su := su) (it := it) (nby := nby) (lt := lt) (pl := pl) (tok := tok) (va := va) (be := be) (wr := wr) (am := am) (td := td) (tf := tf) (tn := tn) (th := x) (by first | assumption | omega) (by first | assumption | omega) (by first | assumption | omega) (by first | assumption | omega)) ⟨Nat.le_of_ble_eq_true rfl, Nat.le_of_ble_eq_true rfl⟩ ⟨rfl, rfl⟩ ⟨Nat.zero_le _, Nat.zero_le _⟩ rfl 0 rfl rfl rfl rfl (Nat.le_of_ble_eq_true rfl) [0, 1] [(mo, .inr (6, [.ref ml, .ref mz, .ref mi, .int su, .int (b2 it), .ref mt, .ref mv, .ref mp, .int nby, .int lt, .int pl, .int tok, .int va, .int be, .int wr, .ref md, .ref mc, .int am, .ref mk, .ref mq, .ref mr, .int td])), (mt, .inl (cs 0, 29, .inl tf))] rfl (by decide) (show [mo, mt] = [mo, mt] from rfl) (rfl) dX6_worth_20 ?_
      refine V.sts (st' := [.int (wsum (kS tf) (sS tf) (wS tf) x tn)]) rfl ?_
      refine v_goto C 28 dX6_worth_23 (by decide) ?_
      exact v_iret C E (by first | rfl | (simp only [c1, c2, ↓reduceIte, Bool.false_eq_true, reduceCtorEq, Bool.and_true, Bool.true_and, Bool.and_false, Bool.false_and]; done) | (simp [c1, c2]; done) | (simp_all [b2]; done)) (by first | rfl | (simp only [c1, c2, ↓reduceIte, Bool.false_eq_true, reduceCtorEq, Bool.and_true, Bool.true_and, Bool.and_false, Bool.false_and]; done) | (simp [c1, c2]; done) | (simp_all [b2]; done)) dX6_worth_28
  · skip
    refine v_ldc C (v := -1000002) (by decide +kernel) dX6_worth_7 ?_
    exact v_iret C E (by first | rfl | (simp only [c1, ↓reduceIte, Bool.false_eq_true, reduceCtorEq, Bool.and_true, Bool.true_and, Bool.and_false, Bool.false_and]; done) | (simp [c1]; done) | (simp_all [b2]; done)) (by first | rfl | (simp only [c1, ↓reduceIte, Bool.false_eq_true, reduceCtorEq, Bool.and_true, Bool.true_and, Bool.and_false, Bool.false_and]; done) | (simp [c1]; done) | (simp_all [b2]; done)) dX6_worth_9
theorem kX6_addsTo : KD yX6_addsTo wsX6_addsTo cX6_addsTo 3 (some .int) 2 := ⟨⟨_, rfl⟩, by decide, by decide +kernel, by decide +kernel, by decide +kernel⟩
set_option maxHeartbeats 4000000 in
set_option maxRecDepth 100000 in
theorem c_maddsTo (l : Launch) (D : va_G) (cs : Nat → ClassId) {mo : Nat} {ml : Nat} {mz : Nat} {mi : Nat} {mt : Nat} {mv : Nat} {mp : Nat} {md : Nat} {mc : Nat} {mk : Nat} {mq : Nat} {mr : Nat} {su : Int32} {it : Bool} {nby : Int32} {lt : Int32} {pl : Int32} {tok : Int32} {va : Int32} {be : Int32} {wr : Int32} {am : Int32} {td : Int32} {tf : Nat → Int32} {tn : Nat} {q : Int32} {x : Int32} (hte : tf 1 = nI tn) (hti : tn ≤ 8) (hS : ∀ t, s64 (tf (13 + t))) (hK : ∀ t, t < tn → kok (tf (5 + t))) : CT l D (tz cs) yX6_addsTo wsX6_addsTo ({ frames := 3, cells := 0, slots := 0, locals := 72 }) [.ref mo, .int q, .int x] [(mo, .inr (6, [.ref ml, .ref mz, .ref mi, .int su, .int (b2 it), .ref mt, .ref mv, .ref mp, .int nby, .int lt, .int pl, .int tok, .int va, .int be, .int wr, .ref md, .ref mc, .int am, .ref mk, .ref mq, .ref mr, .int td])), (mt, .inl (cs 0, 29, .inl tf))] (some (.int (adI (kS tf) (sS tf) (wS tf) tn x q))) [(mo, .inr (6, [.ref ml, .ref mz, .ref mi, .int su, .int (b2 it), .ref mt, .ref mv, .ref mp, .int nby, .int lt, .int pl, .int tok, .int va, .int be, .int wr, .ref md, .ref mc, .int am, .ref mk, .ref mq, .ref mr, .int td])), (mt, .inl (cs 0, 29, .inl tf))] := by
  refine CT.of kX6_addsTo (Nat.le_of_ble_eq_true rfl) ?_
  intro p e s m below meth c A C E
  have C : VOk p s m _ c cX6_addsTo 3 wsX6_addsTo RX6 D (tz cs) A s.heap := C
  refine V.lvs (lv' := [(0, .ref mo), (1, .int q), (2, .int x)]) [0, 1, 2] rfl ?_
  refine v_aload_n C 0 dX6_addsTo_0 rfl ?_
  refine v_iload_n C 2 dX6_addsTo_1 rfl ?_
  refine v_iconst C (v := 1) dX6_addsTo_2 (by decide) ?_
  refine v_iload_n C 1 dX6_addsTo_3 rfl ?_
  refine v_ishl C dX6_addsTo_4 ?_
  refine v_ior C dX6_addsTo_5 ?_
  refine v_callV (qi := 0) C [.int (x ||| (1 <<< (q &&& 31)))] [] kX6_worthOf gX6_addsTo_X6_worthOf (c_mworthOf l D cs (mo := mo) (ml := ml) (mz := mz) (mi := mi) (mt := mt) (mv := mv) (mp := mp) (md := md) (mc := mc) (mk := mk) (mq := mq) (mr := mr) (su := su) (it := it) (nby := nby) (lt := lt) (pl := pl) (tok := tok) (va := va) (be := be) (wr := wr) (am := am) (td := td) (tf := tf) (tn := tn) (th := (x ||| (1 <<< (q &&& 31)))) (by first | assumption | omega) (by first | assumption | omega) (by first | assumption | omega) (by first | assumption | omega)) ⟨Nat.le_of_ble_eq_true rfl, Nat.le_of_ble_eq_true rfl⟩ ⟨rfl, rfl⟩ ⟨Nat.zero_le _, Nat.zero_le _⟩ rfl 0 rfl rfl rfl rfl (Nat.le_of_ble_eq_true rfl) [0, 1] [(mo, .inr (6, [.ref ml, .ref mz, .ref mi, .int su, .int (b2 it), .ref mt, .ref mv, .ref mp, .int nby, .int lt, .int pl, .int tok, .int va, .int be, .int wr, .ref md, .ref mc, .int am, .ref mk, .ref mq, .ref mr, .int td])), (mt, .inl (cs 0, 29, .inl tf))] rfl (by decide) (show [mo, mt] = [mo, mt] from rfl) (rfl) dX6_addsTo_6 ?_
  refine V.sts (st' := [.int (wsum (kS tf) (sS tf) (wS tf) (x ||| (1 <<< (q &&& 31))) tn)]) rfl ?_
  refine v_aload_n C 0 dX6_addsTo_9 rfl ?_
  refine v_iload_n C 2 dX6_addsTo_10 rfl ?_
  refine v_callV (qi := 0) C [.int x] [.int (wsum (kS tf) (sS tf) (wS tf) (x ||| (1 <<< (q &&& 31))) tn)] kX6_worthOf gX6_addsTo_X6_worthOf (c_mworthOf l D cs (mo := mo) (ml := ml) (mz := mz) (mi := mi) (mt := mt) (mv := mv) (mp := mp) (md := md) (mc := mc) (mk := mk) (mq := mq) (mr := mr) (su := su) (it := it) (nby := nby) (lt := lt) (pl := pl) (tok := tok) (va := va) (be := be) (wr := wr) (am := am) (td := td) (tf := tf) (tn := tn) (th := x) (by first | assumption | omega) (by first | assumption | omega) (by first | assumption | omega) (by first | assumption | omega)) ⟨Nat.le_of_ble_eq_true rfl, Nat.le_of_ble_eq_true rfl⟩ ⟨rfl, rfl⟩ ⟨Nat.zero_le _, Nat.zero_le _⟩ rfl 0 rfl rfl rfl rfl (Nat.le_of_ble_eq_true rfl) [0, 1] [(mo, .inr (6, [.ref ml, .ref mz, .ref mi, .int su, .int (b2 it), .ref mt, .ref mv, .ref mp, .int nby, .int lt, .int pl, .int tok, .int va, .int be, .int wr, .ref md, .ref mc, .int am, .ref mk, .ref mq, .ref mr, .int td])), (mt, .inl (cs 0, 29, .inl tf))] rfl (by decide) (show [mo, mt] = [mo, mt] from rfl) (rfl) dX6_addsTo_11 ?_
  refine V.sts (st' := [.int (wsum (kS tf) (sS tf) (wS tf) x tn), .int (wsum (kS tf) (sS tf) (wS tf) (x ||| (1 <<< (q &&& 31))) tn)]) rfl ?_
  refine v_isub C dX6_addsTo_14 ?_
  exact v_iret C E (rfl) (by first | rfl | (simp [hte, hti, hS, hK, ↓reduceIte]; done) | (simp_all [b2]; done)) dX6_addsTo_15
theorem kX6_adds : KD yX6_adds wsX6_adds cX6_adds 3 (some .int) 2 := ⟨⟨_, rfl⟩, by decide, by decide +kernel, by decide +kernel, by decide +kernel⟩
set_option maxHeartbeats 4000000 in
set_option maxRecDepth 100000 in
theorem c_madds (l : Launch) (D : va_G) (cs : Nat → ClassId) {mo : Nat} {ml : Nat} {mz : Nat} {mi : Nat} {mt : Nat} {mv : Nat} {mp : Nat} {md : Nat} {mc : Nat} {mk : Nat} {mq : Nat} {mr : Nat} {su : Int32} {it : Bool} {nby : Int32} {lt : Int32} {pl : Int32} {tok : Int32} {va : Int32} {be : Int32} {wr : Int32} {am : Int32} {td : Int32} {tf : Nat → Int32} {tn : Nat} {pn : Nat} {x : Int32} {y : Int32} (hte : tf 1 = nI tn) (hti : tn ≤ 8) (hS : ∀ t, s64 (tf (13 + t))) (hK : ∀ t, t < tn → kok (tf (5 + t))) (hpe : tf 0 = nI pn) (hpn : pn ≤ 6) : CT l D (tz cs) yX6_adds wsX6_adds ({ frames := 4, cells := 0, slots := 0, locals := 94 }) [.ref mo, .int x, .int y] [(mo, .inr (6, [.ref ml, .ref mz, .ref mi, .int su, .int (b2 it), .ref mt, .ref mv, .ref mp, .int nby, .int lt, .int pl, .int tok, .int va, .int be, .int wr, .ref md, .ref mc, .int am, .ref mk, .ref mq, .ref mr, .int td])), (mt, .inl (cs 0, 29, .inl tf))] (some (.int (if (inB (nI pn) x && setB (tf 0) y && !hasB y x) = true then adI (kS tf) (sS tf) (wS tf) tn y x else -1000001))) [(mo, .inr (6, [.ref ml, .ref mz, .ref mi, .int su, .int (b2 it), .ref mt, .ref mv, .ref mp, .int nby, .int lt, .int pl, .int tok, .int va, .int be, .int wr, .ref md, .ref mc, .int am, .ref mk, .ref mq, .ref mr, .int td])), (mt, .inl (cs 0, 29, .inl tf))] := by
  refine CT.of kX6_adds (Nat.le_of_ble_eq_true rfl) ?_
  intro p e s m below meth c A C E
  have C : VOk p s m _ c cX6_adds 3 wsX6_adds RX6 D (tz cs) A s.heap := C
  refine V.lvs (lv' := [(0, .ref mo), (1, .int x), (2, .int y)]) [0, 1, 2] rfl ?_
  refine v_aload_n C 0 dX6_adds_0 rfl ?_
  refine v_iload_n C 1 dX6_adds_1 rfl ?_
  refine v_callV (qi := 0) C [.int x] [] kX6_isPerson gX6_adds_X6_isPerson (c_misPerson l D cs (mo := mo) (ml := ml) (mz := mz) (mi := mi) (mt := mt) (mv := mv) (mp := mp) (md := md) (mc := mc) (mk := mk) (mq := mq) (mr := mr) (su := su) (it := it) (nby := nby) (lt := lt) (pl := pl) (tok := tok) (va := va) (be := be) (wr := wr) (am := am) (td := td) (tf := tf) (pn := pn) (x := x) (by first | assumption | omega) (by first | assumption | omega)) ⟨Nat.le_of_ble_eq_true rfl, Nat.le_of_ble_eq_true rfl⟩ ⟨rfl, rfl⟩ ⟨Nat.zero_le _, Nat.zero_le _⟩ rfl 0 rfl rfl rfl rfl (Nat.le_of_ble_eq_true rfl) [0, 1] [(mo, .inr (6, [.ref ml, .ref mz, .ref mi, .int su, .int (b2 it), .ref mt, .ref mv, .ref mp, .int nby, .int lt, .int pl, .int tok, .int va, .int be, .int wr, .ref md, .ref mc, .int am, .ref mk, .ref mq, .ref mr, .int td])), (mt, .inl (cs 0, 29, .inl tf))] rfl (by decide) (show [mo, mt] = [mo, mt] from rfl) (rfl) dX6_adds_2 ?_
  refine V.sts (st' := [.int (b2 (inB (nI pn) x))]) rfl ?_
  refine v_if_eqB C 33 dX6_adds_5 (by decide) (fun c1 => ?_) (fun c1 => ?_)
  · skip
    refine v_ldc C (v := -1000001) (by decide +kernel) dX6_adds_33 ?_
    exact v_iret C E (by first | rfl | (simp only [c1, ↓reduceIte, Bool.false_eq_true, reduceCtorEq, Bool.and_true, Bool.true_and, Bool.and_false, Bool.false_and]; done) | (simp [c1]; done) | (simp_all [b2]; done)) (by first | rfl | (simp only [c1, ↓reduceIte, Bool.false_eq_true, reduceCtorEq, Bool.and_true, Bool.true_and, Bool.and_false, Bool.false_and]; done) | (simp [c1]; done) | (simp_all [b2]; done)) dX6_adds_35
  · skip
    refine v_aload_n C 0 dX6_adds_8 rfl ?_
    refine v_iload_n C 2 dX6_adds_9 rfl ?_
    refine v_callV (qi := 0) C [.int y] [] kX6_isSet gX6_adds_X6_isSet (c_misSet l D cs (mo := mo) (ml := ml) (mz := mz) (mi := mi) (mt := mt) (mv := mv) (mp := mp) (md := md) (mc := mc) (mk := mk) (mq := mq) (mr := mr) (su := su) (it := it) (nby := nby) (lt := lt) (pl := pl) (tok := tok) (va := va) (be := be) (wr := wr) (am := am) (td := td) (tf := tf) (x := y) ) ⟨Nat.le_of_ble_eq_true rfl, Nat.le_of_ble_eq_true rfl⟩ ⟨rfl, rfl⟩ ⟨Nat.zero_le _, Nat.zero_le _⟩ rfl 0 rfl rfl rfl rfl (Nat.le_of_ble_eq_true rfl) [0, 1] [(mo, .inr (6, [.ref ml, .ref mz, .ref mi, .int su, .int (b2 it), .ref mt, .ref mv, .ref mp, .int nby, .int lt, .int pl, .int tok, .int va, .int be, .int wr, .ref md, .ref mc, .int am, .ref mk, .ref mq, .ref mr, .int td])), (mt, .inl (cs 0, 29, .inl tf))] rfl (by decide) (show [mo, mt] = [mo, mt] from rfl) (rfl) dX6_adds_10 ?_
    refine V.sts (st' := [.int (b2 (setB (tf 0) y))]) rfl ?_
    refine v_if_eqB C 33 dX6_adds_13 (by decide) (fun c2 => ?_) (fun c2 => ?_)
    · skip
      refine v_ldc C (v := -1000001) (by decide +kernel) dX6_adds_33 ?_
      exact v_iret C E (by first | rfl | (simp only [c1, c2, ↓reduceIte, Bool.false_eq_true, reduceCtorEq, Bool.and_true, Bool.true_and, Bool.and_false, Bool.false_and]; done) | (simp [c1, c2]; done) | (simp_all [b2]; done)) (by first | rfl | (simp only [c1, c2, ↓reduceIte, Bool.false_eq_true, reduceCtorEq, Bool.and_true, Bool.true_and, Bool.and_false, Bool.false_and]; done) | (simp [c1, c2]; done) | (simp_all [b2]; done)) dX6_adds_35
    · skip
      refine v_iload_n C 2 dX6_adds_16 rfl ?_
      refine v_iload_n C 1 dX6_adds_17 rfl ?_
      refine v_callS C [.int y, .int x] [] kX6_has gX6_adds_X6_has (c_mhas l D cs (x := y) (q := x) ) ⟨Nat.le_of_ble_eq_true rfl, Nat.le_of_ble_eq_true rfl⟩ ⟨rfl, rfl⟩ ⟨Nat.zero_le _, Nat.zero_le _⟩ rfl rfl (Nat.le_of_ble_eq_true rfl) [] [(mo, .inr (6, [.ref ml, .ref mz, .ref mi, .int su, .int (b2 it), .ref mt, .ref mv, .ref mp, .int nby, .int lt, .int pl, .int tok, .int va, .int be, .int wr, .ref md, .ref mc, .int am, .ref mk, .ref mq, .ref mr, .int td])), (mt, .inl (cs 0, 29, .inl tf))] rfl (by decide) rfl (rfl) dX6_adds_18 ?_
      refine V.sts (st' := [.int (b2 (hasB y x))]) rfl ?_
      refine v_if_neB C 33 dX6_adds_21 (by decide) (fun c3 => ?_) (fun c3 => ?_)
      · skip
        refine v_ldc C (v := -1000001) (by decide +kernel) dX6_adds_33 ?_
        exact v_iret C E (by first | rfl | (simp only [c1, c2, c3, ↓reduceIte, Bool.false_eq_true, reduceCtorEq, Bool.and_true, Bool.true_and, Bool.and_false, Bool.false_and]; done) | (simp [c1, c2, c3]; done) | (simp_all [b2]; done)) (by first | rfl | (simp only [c1, c2, c3, ↓reduceIte, Bool.false_eq_true, reduceCtorEq, Bool.and_true, Bool.true_and, Bool.and_false, Bool.false_and]; done) | (simp [c1, c2, c3]; done) | (simp_all [b2]; done)) dX6_adds_35
      · skip
        refine v_aload_n C 0 dX6_adds_24 rfl ?_
        refine v_iload_n C 1 dX6_adds_25 rfl ?_
        refine v_iload_n C 2 dX6_adds_26 rfl ?_
        refine v_callV (qi := 0) C [.int x, .int y] [] kX6_addsTo gX6_adds_X6_addsTo (c_maddsTo l D cs (mo := mo) (ml := ml) (mz := mz) (mi := mi) (mt := mt) (mv := mv) (mp := mp) (md := md) (mc := mc) (mk := mk) (mq := mq) (mr := mr) (su := su) (it := it) (nby := nby) (lt := lt) (pl := pl) (tok := tok) (va := va) (be := be) (wr := wr) (am := am) (td := td) (tf := tf) (tn := tn) (q := x) (x := y) (by first | assumption | omega) (by first | assumption | omega) (by first | assumption | omega) (by first | assumption | omega)) ⟨Nat.le_of_ble_eq_true rfl, Nat.le_of_ble_eq_true rfl⟩ ⟨rfl, rfl⟩ ⟨Nat.zero_le _, Nat.zero_le _⟩ rfl 0 rfl rfl rfl rfl (Nat.le_of_ble_eq_true rfl) [0, 1] [(mo, .inr (6, [.ref ml, .ref mz, .ref mi, .int su, .int (b2 it), .ref mt, .ref mv, .ref mp, .int nby, .int lt, .int pl, .int tok, .int va, .int be, .int wr, .ref md, .ref mc, .int am, .ref mk, .ref mq, .ref mr, .int td])), (mt, .inl (cs 0, 29, .inl tf))] rfl (by decide) (show [mo, mt] = [mo, mt] from rfl) (rfl) dX6_adds_27 ?_
        refine V.sts (st' := [.int (adI (kS tf) (sS tf) (wS tf) tn y x)]) rfl ?_
        refine v_goto C 35 dX6_adds_30 (by decide) ?_
        exact v_iret C E (by first | rfl | (simp only [c1, c2, c3, ↓reduceIte, Bool.false_eq_true, reduceCtorEq, Bool.and_true, Bool.true_and, Bool.and_false, Bool.false_and]; done) | (simp [c1, c2, c3]; done) | (simp_all [b2]; done)) (by first | rfl | (simp only [c1, c2, c3, ↓reduceIte, Bool.false_eq_true, reduceCtorEq, Bool.and_true, Bool.true_and, Bool.and_false, Bool.false_and]; done) | (simp [c1, c2, c3]; done) | (simp_all [b2]; done)) dX6_adds_35
theorem kX6_missedBy : KD yX6_missedBy wsX6_missedBy cX6_missedBy 2 (some .int) 1 := ⟨⟨_, rfl⟩, by decide, by decide +kernel, by decide +kernel, by decide +kernel⟩
set_option maxHeartbeats 4000000 in
set_option maxRecDepth 100000 in
theorem c_mmissedBy (l : Launch) (D : va_G) (cs : Nat → ClassId) {mo : Nat} {ml : Nat} {mz : Nat} {mi : Nat} {mt : Nat} {mv : Nat} {mp : Nat} {md : Nat} {mc : Nat} {mk : Nat} {mq : Nat} {mr : Nat} {su : Int32} {it : Bool} {nby : Int32} {lt : Int32} {pl : Int32} {tok : Int32} {va : Int32} {be : Int32} {wr : Int32} {am : Int32} {td : Int32} {tf : Nat → Int32} {tn : Nat} {x : Int32} (hte : tf 1 = nI tn) (hti : tn ≤ 8) (hS : ∀ t, s64 (tf (13 + t))) (hK : ∀ t, t < tn → kok (tf (5 + t))) : CT l D (tz cs) yX6_missedBy wsX6_missedBy ({ frames := 3, cells := 0, slots := 0, locals := 72 }) [.ref mo, .int x] [(mo, .inr (6, [.ref ml, .ref mz, .ref mi, .int su, .int (b2 it), .ref mt, .ref mv, .ref mp, .int nby, .int lt, .int pl, .int tok, .int va, .int be, .int wr, .ref md, .ref mc, .int am, .ref mk, .ref mq, .ref mr, .int td])), (mt, .inl (cs 0, 29, .inl tf))] (some (.int (loI (kS tf) (sS tf) (wS tf) tn (tf 0) x))) [(mo, .inr (6, [.ref ml, .ref mz, .ref mi, .int su, .int (b2 it), .ref mt, .ref mv, .ref mp, .int nby, .int lt, .int pl, .int tok, .int va, .int be, .int wr, .ref md, .ref mc, .int am, .ref mk, .ref mq, .ref mr, .int td])), (mt, .inl (cs 0, 29, .inl tf))] := by
  refine CT.of kX6_missedBy (Nat.le_of_ble_eq_true rfl) ?_
  intro p e s m below meth c A C E
  have C : VOk p s m _ c cX6_missedBy 2 wsX6_missedBy RX6 D (tz cs) A s.heap := C
  refine V.lvs (lv' := [(0, .ref mo), (1, .int x)]) [0, 1] rfl ?_
  refine v_aload_n C 0 dX6_missedBy_0 rfl ?_
  refine v_aload_n C 0 dX6_missedBy_1 rfl ?_
  refine v_callV (qi := 0) C [] [.ref mo] kX6_all gX6_missedBy_X6_all (c_mall l D cs (mo := mo) (ml := ml) (mz := mz) (mi := mi) (mt := mt) (mv := mv) (mp := mp) (md := md) (mc := mc) (mk := mk) (mq := mq) (mr := mr) (su := su) (it := it) (nby := nby) (lt := lt) (pl := pl) (tok := tok) (va := va) (be := be) (wr := wr) (am := am) (td := td) (tf := tf) ) ⟨Nat.le_of_ble_eq_true rfl, Nat.le_of_ble_eq_true rfl⟩ ⟨rfl, rfl⟩ ⟨Nat.zero_le _, Nat.zero_le _⟩ rfl 0 rfl rfl rfl rfl (Nat.le_of_ble_eq_true rfl) [0, 1] [(mo, .inr (6, [.ref ml, .ref mz, .ref mi, .int su, .int (b2 it), .ref mt, .ref mv, .ref mp, .int nby, .int lt, .int pl, .int tok, .int va, .int be, .int wr, .ref md, .ref mc, .int am, .ref mk, .ref mq, .ref mr, .int td])), (mt, .inl (cs 0, 29, .inl tf))] rfl (by decide) (show [mo, mt] = [mo, mt] from rfl) (rfl) dX6_missedBy_2 ?_
  refine V.sts (st' := [.int (allI (tf 0)), .ref mo]) rfl ?_
  refine v_callV (qi := 0) C [.int (allI (tf 0))] [] kX6_worthOf gX6_missedBy_X6_worthOf (c_mworthOf l D cs (mo := mo) (ml := ml) (mz := mz) (mi := mi) (mt := mt) (mv := mv) (mp := mp) (md := md) (mc := mc) (mk := mk) (mq := mq) (mr := mr) (su := su) (it := it) (nby := nby) (lt := lt) (pl := pl) (tok := tok) (va := va) (be := be) (wr := wr) (am := am) (td := td) (tf := tf) (tn := tn) (th := (allI (tf 0))) (by first | assumption | omega) (by first | assumption | omega) (by first | assumption | omega) (by first | assumption | omega)) ⟨Nat.le_of_ble_eq_true rfl, Nat.le_of_ble_eq_true rfl⟩ ⟨rfl, rfl⟩ ⟨Nat.zero_le _, Nat.zero_le _⟩ rfl 0 rfl rfl rfl rfl (Nat.le_of_ble_eq_true rfl) [0, 1] [(mo, .inr (6, [.ref ml, .ref mz, .ref mi, .int su, .int (b2 it), .ref mt, .ref mv, .ref mp, .int nby, .int lt, .int pl, .int tok, .int va, .int be, .int wr, .ref md, .ref mc, .int am, .ref mk, .ref mq, .ref mr, .int td])), (mt, .inl (cs 0, 29, .inl tf))] rfl (by decide) (show [mo, mt] = [mo, mt] from rfl) (rfl) dX6_missedBy_5 ?_
  refine V.sts (st' := [.int (wsum (kS tf) (sS tf) (wS tf) (allI (tf 0)) tn)]) rfl ?_
  refine v_aload_n C 0 dX6_missedBy_8 rfl ?_
  refine v_aload_n C 0 dX6_missedBy_9 rfl ?_
  refine v_callV (qi := 0) C [] [.ref mo, .int (wsum (kS tf) (sS tf) (wS tf) (allI (tf 0)) tn)] kX6_all gX6_missedBy_X6_all (c_mall l D cs (mo := mo) (ml := ml) (mz := mz) (mi := mi) (mt := mt) (mv := mv) (mp := mp) (md := md) (mc := mc) (mk := mk) (mq := mq) (mr := mr) (su := su) (it := it) (nby := nby) (lt := lt) (pl := pl) (tok := tok) (va := va) (be := be) (wr := wr) (am := am) (td := td) (tf := tf) ) ⟨Nat.le_of_ble_eq_true rfl, Nat.le_of_ble_eq_true rfl⟩ ⟨rfl, rfl⟩ ⟨Nat.zero_le _, Nat.zero_le _⟩ rfl 0 rfl rfl rfl rfl (Nat.le_of_ble_eq_true rfl) [0, 1] [(mo, .inr (6, [.ref ml, .ref mz, .ref mi, .int su, .int (b2 it), .ref mt, .ref mv, .ref mp, .int nby, .int lt, .int pl, .int tok, .int va, .int be, .int wr, .ref md, .ref mc, .int am, .ref mk, .ref mq, .ref mr, .int td])), (mt, .inl (cs 0, 29, .inl tf))] rfl (by decide) (show [mo, mt] = [mo, mt] from rfl) (rfl) dX6_missedBy_10 ?_
  refine V.sts (st' := [.int (allI (tf 0)), .ref mo, .int (wsum (kS tf) (sS tf) (wS tf) (allI (tf 0)) tn)]) rfl ?_
  refine v_iload_n C 1 dX6_missedBy_13 rfl ?_
  refine v_iconst C (v := -1) dX6_missedBy_14 (by decide) ?_
  refine v_ixor C dX6_missedBy_15 ?_
  refine v_iand C dX6_missedBy_16 ?_
  refine v_callV (qi := 0) C [.int ((allI (tf 0)) &&& (x ^^^ (-1)))] [.int (wsum (kS tf) (sS tf) (wS tf) (allI (tf 0)) tn)] kX6_worthOf gX6_missedBy_X6_worthOf (c_mworthOf l D cs (mo := mo) (ml := ml) (mz := mz) (mi := mi) (mt := mt) (mv := mv) (mp := mp) (md := md) (mc := mc) (mk := mk) (mq := mq) (mr := mr) (su := su) (it := it) (nby := nby) (lt := lt) (pl := pl) (tok := tok) (va := va) (be := be) (wr := wr) (am := am) (td := td) (tf := tf) (tn := tn) (th := ((allI (tf 0)) &&& (x ^^^ (-1)))) (by first | assumption | omega) (by first | assumption | omega) (by first | assumption | omega) (by first | assumption | omega)) ⟨Nat.le_of_ble_eq_true rfl, Nat.le_of_ble_eq_true rfl⟩ ⟨rfl, rfl⟩ ⟨Nat.zero_le _, Nat.zero_le _⟩ rfl 0 rfl rfl rfl rfl (Nat.le_of_ble_eq_true rfl) [0, 1] [(mo, .inr (6, [.ref ml, .ref mz, .ref mi, .int su, .int (b2 it), .ref mt, .ref mv, .ref mp, .int nby, .int lt, .int pl, .int tok, .int va, .int be, .int wr, .ref md, .ref mc, .int am, .ref mk, .ref mq, .ref mr, .int td])), (mt, .inl (cs 0, 29, .inl tf))] rfl (by decide) (show [mo, mt] = [mo, mt] from rfl) (rfl) dX6_missedBy_17 ?_
  refine V.sts (st' := [.int (wsum (kS tf) (sS tf) (wS tf) ((allI (tf 0)) &&& (x ^^^ (-1))) tn), .int (wsum (kS tf) (sS tf) (wS tf) (allI (tf 0)) tn)]) rfl ?_
  refine v_isub C dX6_missedBy_20 ?_
  exact v_iret C E (rfl) (by first | rfl | (simp [hte, hti, hS, hK, ↓reduceIte]; done) | (simp_all [b2]; done)) dX6_missedBy_21
theorem kX6_missed : KD yX6_missed wsX6_missed cX6_missed 2 (some .int) 1 := ⟨⟨_, rfl⟩, by decide, by decide +kernel, by decide +kernel, by decide +kernel⟩
set_option maxHeartbeats 4000000 in
set_option maxRecDepth 100000 in
theorem c_mmissed (l : Launch) (D : va_G) (cs : Nat → ClassId) {mo : Nat} {ml : Nat} {mz : Nat} {mi : Nat} {mt : Nat} {mv : Nat} {mp : Nat} {md : Nat} {mc : Nat} {mk : Nat} {mq : Nat} {mr : Nat} {su : Int32} {it : Bool} {nby : Int32} {lt : Int32} {pl : Int32} {tok : Int32} {va : Int32} {be : Int32} {wr : Int32} {am : Int32} {td : Int32} {tf : Nat → Int32} {tn : Nat} {pn : Nat} {x : Int32} (hte : tf 1 = nI tn) (hti : tn ≤ 8) (hS : ∀ t, s64 (tf (13 + t))) (hK : ∀ t, t < tn → kok (tf (5 + t))) (hpe : tf 0 = nI pn) (hpn : pn ≤ 6) : CT l D (tz cs) yX6_missed wsX6_missed ({ frames := 4, cells := 0, slots := 0, locals := 93 }) [.ref mo, .int x] [(mo, .inr (6, [.ref ml, .ref mz, .ref mi, .int su, .int (b2 it), .ref mt, .ref mv, .ref mp, .int nby, .int lt, .int pl, .int tok, .int va, .int be, .int wr, .ref md, .ref mc, .int am, .ref mk, .ref mq, .ref mr, .int td])), (mt, .inl (cs 0, 29, .inl tf))] (some (.int (if inB (nI pn) x = true then loI (kS tf) (sS tf) (wS tf) tn (tf 0) (1 <<< (x &&& 31)) else -1000001))) [(mo, .inr (6, [.ref ml, .ref mz, .ref mi, .int su, .int (b2 it), .ref mt, .ref mv, .ref mp, .int nby, .int lt, .int pl, .int tok, .int va, .int be, .int wr, .ref md, .ref mc, .int am, .ref mk, .ref mq, .ref mr, .int td])), (mt, .inl (cs 0, 29, .inl tf))] := by
  refine CT.of kX6_missed (Nat.le_of_ble_eq_true rfl) ?_
  intro p e s m below meth c A C E
  have C : VOk p s m _ c cX6_missed 2 wsX6_missed RX6 D (tz cs) A s.heap := C
  refine V.lvs (lv' := [(0, .ref mo), (1, .int x)]) [0, 1] rfl ?_
  refine v_aload_n C 0 dX6_missed_0 rfl ?_
  refine v_iload_n C 1 dX6_missed_1 rfl ?_
  refine v_callV (qi := 0) C [.int x] [] kX6_isPerson gX6_missed_X6_isPerson (c_misPerson l D cs (mo := mo) (ml := ml) (mz := mz) (mi := mi) (mt := mt) (mv := mv) (mp := mp) (md := md) (mc := mc) (mk := mk) (mq := mq) (mr := mr) (su := su) (it := it) (nby := nby) (lt := lt) (pl := pl) (tok := tok) (va := va) (be := be) (wr := wr) (am := am) (td := td) (tf := tf) (pn := pn) (x := x) (by first | assumption | omega) (by first | assumption | omega)) ⟨Nat.le_of_ble_eq_true rfl, Nat.le_of_ble_eq_true rfl⟩ ⟨rfl, rfl⟩ ⟨Nat.zero_le _, Nat.zero_le _⟩ rfl 0 rfl rfl rfl rfl (Nat.le_of_ble_eq_true rfl) [0, 1] [(mo, .inr (6, [.ref ml, .ref mz, .ref mi, .int su, .int (b2 it), .ref mt, .ref mv, .ref mp, .int nby, .int lt, .int pl, .int tok, .int va, .int be, .int wr, .ref md, .ref mc, .int am, .ref mk, .ref mq, .ref mr, .int td])), (mt, .inl (cs 0, 29, .inl tf))] rfl (by decide) (show [mo, mt] = [mo, mt] from rfl) (rfl) dX6_missed_2 ?_
  refine V.sts (st' := [.int (b2 (inB (nI pn) x))]) rfl ?_
  refine v_if_eqB C 18 dX6_missed_5 (by decide) (fun c1 => ?_) (fun c1 => ?_)
  · skip
    refine v_ldc C (v := -1000001) (by decide +kernel) dX6_missed_18 ?_
    exact v_iret C E (by first | rfl | (simp only [c1, ↓reduceIte, Bool.false_eq_true, reduceCtorEq, Bool.and_true, Bool.true_and, Bool.and_false, Bool.false_and]; done) | (simp [c1]; done) | (simp_all [b2]; done)) (by first | rfl | (simp only [c1, ↓reduceIte, Bool.false_eq_true, reduceCtorEq, Bool.and_true, Bool.true_and, Bool.and_false, Bool.false_and]; done) | (simp [c1]; done) | (simp_all [b2]; done)) dX6_missed_20
  · skip
    refine v_aload_n C 0 dX6_missed_8 rfl ?_
    refine v_iconst C (v := 1) dX6_missed_9 (by decide) ?_
    refine v_iload_n C 1 dX6_missed_10 rfl ?_
    refine v_ishl C dX6_missed_11 ?_
    refine v_callV (qi := 0) C [.int (1 <<< (x &&& 31))] [] kX6_missedBy gX6_missed_X6_missedBy (c_mmissedBy l D cs (mo := mo) (ml := ml) (mz := mz) (mi := mi) (mt := mt) (mv := mv) (mp := mp) (md := md) (mc := mc) (mk := mk) (mq := mq) (mr := mr) (su := su) (it := it) (nby := nby) (lt := lt) (pl := pl) (tok := tok) (va := va) (be := be) (wr := wr) (am := am) (td := td) (tf := tf) (tn := tn) (x := (1 <<< (x &&& 31))) (by first | assumption | omega) (by first | assumption | omega) (by first | assumption | omega) (by first | assumption | omega)) ⟨Nat.le_of_ble_eq_true rfl, Nat.le_of_ble_eq_true rfl⟩ ⟨rfl, rfl⟩ ⟨Nat.zero_le _, Nat.zero_le _⟩ rfl 0 rfl rfl rfl rfl (Nat.le_of_ble_eq_true rfl) [0, 1] [(mo, .inr (6, [.ref ml, .ref mz, .ref mi, .int su, .int (b2 it), .ref mt, .ref mv, .ref mp, .int nby, .int lt, .int pl, .int tok, .int va, .int be, .int wr, .ref md, .ref mc, .int am, .ref mk, .ref mq, .ref mr, .int td])), (mt, .inl (cs 0, 29, .inl tf))] rfl (by decide) (show [mo, mt] = [mo, mt] from rfl) (rfl) dX6_missed_12 ?_
    refine V.sts (st' := [.int (loI (kS tf) (sS tf) (wS tf) tn (tf 0) (1 <<< (x &&& 31)))]) rfl ?_
    refine v_goto C 20 dX6_missed_15 (by decide) ?_
    exact v_iret C E (by first | rfl | (simp only [c1, ↓reduceIte, Bool.false_eq_true, reduceCtorEq, Bool.and_true, Bool.true_and, Bool.and_false, Bool.false_and]; done) | (simp [c1]; done) | (simp_all [b2]; done)) (by first | rfl | (simp only [c1, ↓reduceIte, Bool.false_eq_true, reduceCtorEq, Bool.and_true, Bool.true_and, Bool.and_false, Bool.false_and]; done) | (simp [c1]; done) | (simp_all [b2]; done)) dX6_missed_20
theorem kX6_kind : KD yX6_kind wsX6_kind cX6_kind 2 (some .int) 1 := ⟨⟨_, rfl⟩, by decide, by decide +kernel, by decide +kernel, by decide +kernel⟩
theorem in_X6_kind_X6 : ∀ w ∈ wsX60, w ∈ wsX6_kind := by decide +kernel
theorem fl_X6_kind_19 : FL RX6 wsX6_kind RX6 RX6 TX6 22 6 5 19 := ⟨⟨in_X6_kind_X6, rfl, by decide, rfl⟩, by decide +kernel⟩
set_option maxHeartbeats 4000000 in
set_option maxRecDepth 100000 in
theorem c_mkindIn (l : Launch) (D : va_G) (cs : Nat → ClassId) {mo : Nat} {ml : Nat} {mz : Nat} {mi : Nat} {mt : Nat} {mv : Nat} {mp : Nat} {md : Nat} {mc : Nat} {mk : Nat} {mq : Nat} {mr : Nat} {su : Int32} {it : Bool} {nby : Int32} {lt : Int32} {pl : Int32} {tok : Int32} {va : Int32} {be : Int32} {wr : Int32} {am : Int32} {td : Int32} {tf : Nat → Int32} {tn : Nat} {q : Nat} (hte : tf 1 = nI tn) (hti : tn ≤ 8) (hq : q < tn) : CT l D (tz cs) yX6_kind wsX6_kind ({ frames := 2, cells := 0, slots := 0, locals := 46 }) [.ref mo, .int (nI q)] [(mo, .inr (6, [.ref ml, .ref mz, .ref mi, .int su, .int (b2 it), .ref mt, .ref mv, .ref mp, .int nby, .int lt, .int pl, .int tok, .int va, .int be, .int wr, .ref md, .ref mc, .int am, .ref mk, .ref mq, .ref mr, .int td])), (mt, .inl (cs 0, 29, .inl tf))] (some (.int (tf (5 + q)))) [(mo, .inr (6, [.ref ml, .ref mz, .ref mi, .int su, .int (b2 it), .ref mt, .ref mv, .ref mp, .int nby, .int lt, .int pl, .int tok, .int va, .int be, .int wr, .ref md, .ref mc, .int am, .ref mk, .ref mq, .ref mr, .int td])), (mt, .inl (cs 0, 29, .inl tf))] := by
  refine CT.of kX6_kind (Nat.le_of_ble_eq_true rfl) ?_
  intro p e s m below meth c A C E
  have C : VOk p s m _ c cX6_kind 2 wsX6_kind RX6 D (tz cs) A s.heap := C
  refine V.lvs (lv' := [(0, .ref mo), (1, .int (nI q))]) [0, 1] rfl ?_
  refine v_aload_n C 0 dX6_kind_0 rfl ?_
  refine v_iload_n C 1 dX6_kind_1 rfl ?_
  refine v_callV (qi := 0) C [.int (nI q)] [] kX6_isTie gX6_kind_X6_isTie (c_misTie l D cs (mo := mo) (ml := ml) (mz := mz) (mi := mi) (mt := mt) (mv := mv) (mp := mp) (md := md) (mc := mc) (mk := mk) (mq := mq) (mr := mr) (su := su) (it := it) (nby := nby) (lt := lt) (pl := pl) (tok := tok) (va := va) (be := be) (wr := wr) (am := am) (td := td) (tf := tf) (tn := tn) (x := (nI q)) (by first | assumption | omega) (by first | assumption | omega)) ⟨Nat.le_of_ble_eq_true rfl, Nat.le_of_ble_eq_true rfl⟩ ⟨rfl, rfl⟩ ⟨Nat.zero_le _, Nat.zero_le _⟩ rfl 0 rfl rfl rfl rfl (Nat.le_of_ble_eq_true rfl) [0, 1] [(mo, .inr (6, [.ref ml, .ref mz, .ref mi, .int su, .int (b2 it), .ref mt, .ref mv, .ref mp, .int nby, .int lt, .int pl, .int tok, .int va, .int be, .int wr, .ref md, .ref mc, .int am, .ref mk, .ref mq, .ref mr, .int td])), (mt, .inl (cs 0, 29, .inl tf))] rfl (by decide) (show [mo, mt] = [mo, mt] from rfl) (rfl) dX6_kind_2 ?_
  refine V.sts (st' := [.int (b2 (inB (nI tn) (nI q)))]) rfl ?_
  refine v_if_eqB C 19 dX6_kind_5 (by decide) (fun c1 => ?_) (fun c1 => ?_)
  · exact absurd ((inB_in (by omega) hq).symm.trans c1) (by decide)
  · skip
    refine v_aload_n C 0 dX6_kind_8 rfl ?_
    refine v_get C (v := .ref mt) fl_X6_kind_19 0 rfl rfl dX6_kind_9 ?_
    refine v_iconst C (v := 5) dX6_kind_12 (by decide) ?_
    refine v_iload_n C 1 dX6_kind_13 rfl ?_
    refine v_iadd C dX6_kind_14 ?_
    refine V.topr (y := nI (5 + q)) (nI_add 5 q) ?_
    refine v_iald C 1 0 rfl rfl (tf (5 + q)) (by rw [nI_clamp (by omega)]) (vp_in_nI (by omega) (by omega)) dX6_kind_15 ?_
    refine v_goto C 21 dX6_kind_16 (by decide) ?_
    exact v_iret C E (rfl) (by first | rfl | (simp [hte, hti, hq, c1, ↓reduceIte]; done) | (simp_all [b2]; done)) dX6_kind_21
set_option maxHeartbeats 4000000 in
set_option maxRecDepth 100000 in
theorem c_mkindOut (l : Launch) (D : va_G) (cs : Nat → ClassId) {mo : Nat} {ml : Nat} {mz : Nat} {mi : Nat} {mt : Nat} {mv : Nat} {mp : Nat} {md : Nat} {mc : Nat} {mk : Nat} {mq : Nat} {mr : Nat} {su : Int32} {it : Bool} {nby : Int32} {lt : Int32} {pl : Int32} {tok : Int32} {va : Int32} {be : Int32} {wr : Int32} {am : Int32} {td : Int32} {tf : Nat → Int32} {tn : Nat} {x : Int32} (hte : tf 1 = nI tn) (hti : tn ≤ 8) (hb : inB (nI tn) x = false) : CT l D (tz cs) yX6_kind wsX6_kind ({ frames := 2, cells := 0, slots := 0, locals := 46 }) [.ref mo, .int x] [(mo, .inr (6, [.ref ml, .ref mz, .ref mi, .int su, .int (b2 it), .ref mt, .ref mv, .ref mp, .int nby, .int lt, .int pl, .int tok, .int va, .int be, .int wr, .ref md, .ref mc, .int am, .ref mk, .ref mq, .ref mr, .int td])), (mt, .inl (cs 0, 29, .inl tf))] (some (.int (-1000001))) [(mo, .inr (6, [.ref ml, .ref mz, .ref mi, .int su, .int (b2 it), .ref mt, .ref mv, .ref mp, .int nby, .int lt, .int pl, .int tok, .int va, .int be, .int wr, .ref md, .ref mc, .int am, .ref mk, .ref mq, .ref mr, .int td])), (mt, .inl (cs 0, 29, .inl tf))] := by
  refine CT.of kX6_kind (Nat.le_of_ble_eq_true rfl) ?_
  intro p e s m below meth c A C E
  have C : VOk p s m _ c cX6_kind 2 wsX6_kind RX6 D (tz cs) A s.heap := C
  refine V.lvs (lv' := [(0, .ref mo), (1, .int x)]) [0, 1] rfl ?_
  refine v_aload_n C 0 dX6_kind_0 rfl ?_
  refine v_iload_n C 1 dX6_kind_1 rfl ?_
  refine v_callV (qi := 0) C [.int x] [] kX6_isTie gX6_kind_X6_isTie (c_misTie l D cs (mo := mo) (ml := ml) (mz := mz) (mi := mi) (mt := mt) (mv := mv) (mp := mp) (md := md) (mc := mc) (mk := mk) (mq := mq) (mr := mr) (su := su) (it := it) (nby := nby) (lt := lt) (pl := pl) (tok := tok) (va := va) (be := be) (wr := wr) (am := am) (td := td) (tf := tf) (tn := tn) (x := x) (by first | assumption | omega) (by first | assumption | omega)) ⟨Nat.le_of_ble_eq_true rfl, Nat.le_of_ble_eq_true rfl⟩ ⟨rfl, rfl⟩ ⟨Nat.zero_le _, Nat.zero_le _⟩ rfl 0 rfl rfl rfl rfl (Nat.le_of_ble_eq_true rfl) [0, 1] [(mo, .inr (6, [.ref ml, .ref mz, .ref mi, .int su, .int (b2 it), .ref mt, .ref mv, .ref mp, .int nby, .int lt, .int pl, .int tok, .int va, .int be, .int wr, .ref md, .ref mc, .int am, .ref mk, .ref mq, .ref mr, .int td])), (mt, .inl (cs 0, 29, .inl tf))] rfl (by decide) (show [mo, mt] = [mo, mt] from rfl) (rfl) dX6_kind_2 ?_
  refine V.sts (st' := [.int (b2 (inB (nI tn) x))]) rfl ?_
  refine v_if_eqB C 19 dX6_kind_5 (by decide) (fun c1 => ?_) (fun c1 => ?_)
  · skip
    refine v_ldc C (v := -1000001) (by decide +kernel) dX6_kind_19 ?_
    exact v_iret C E (rfl) (by first | rfl | (simp [hte, hti, hb, c1, ↓reduceIte]; done) | (simp_all [b2]; done)) dX6_kind_21
  · exact absurd (hb.symm.trans c1) (by decide)
theorem kX6_isKind : KD yX6_isKind wsX6_isKind cX6_isKind 2 (some .boolean) 2 := ⟨⟨_, rfl⟩, by decide, by decide +kernel, by decide +kernel, by decide +kernel⟩
set_option maxHeartbeats 4000000 in
set_option maxRecDepth 100000 in
theorem c_isKind (l : Launch) (D : va_G) (cs : Nat → ClassId) {of : Int32} {k : Int32} : CT l D (tz cs) yX6_isKind wsX6_isKind ({ frames := 0, cells := 0, slots := 0, locals := 0 }) [.int of, .int k] [] (some (.int (b2 (isKB of k)))) [] := by
  refine CT.of kX6_isKind (Nat.le_of_ble_eq_true rfl) ?_
  intro p e s m below meth c A C E
  have C : VOk p s m _ c cX6_isKind 2 wsX6_isKind RX6 D (tz cs) A s.heap := C
  refine V.lvs (lv' := [(0, .int of), (1, .int k)]) [0, 1] rfl ?_
  refine v_iload_n C 1 dX6_isKind_0 rfl ?_
  refine v_if_eq C 29 dX6_isKind_1 (by decide) (fun c1 => ?_) (fun c1 => ?_)
  · skip
    refine v_iconst C (v := 1) dX6_isKind_29 (by decide) ?_
    refine v_goto C 34 dX6_isKind_30 (by decide) ?_
    exact v_zret C E (by first | rfl | (simp only [isKB, b2, c1, ↓reduceIte, Bool.false_eq_true, reduceCtorEq, Bool.and_true, Bool.true_and, Bool.and_false, Bool.false_and]; done) | (simp [isKB, b2, c1]; done) | (simp_all [isKB, b2]; done)) (by first | rfl | (simp only [isKB, b2, c1, ↓reduceIte, Bool.false_eq_true, reduceCtorEq, Bool.and_true, Bool.true_and, Bool.and_false, Bool.false_and]; done) | (simp [isKB, b2, c1]; done) | (simp_all [isKB, b2]; done)) dX6_isKind_34
  · skip
    refine v_iload_n C 0 dX6_isKind_4 rfl ?_
    refine v_iload_n C 1 dX6_isKind_5 rfl ?_
    refine v_icmp_eq C 29 dX6_isKind_6 (by decide) (fun c2 => ?_) (fun c2 => ?_)
    · skip
      refine v_iconst C (v := 1) dX6_isKind_29 (by decide) ?_
      refine v_goto C 34 dX6_isKind_30 (by decide) ?_
      exact v_zret C E (by first | rfl | (simp only [isKB, b2, c1, c2, ↓reduceIte, Bool.false_eq_true, reduceCtorEq, Bool.and_true, Bool.true_and, Bool.and_false, Bool.false_and]; done) | (simp [isKB, b2, c1, c2]; done) | (simp_all [isKB, b2]; done)) (by first | rfl | (simp only [isKB, b2, c1, c2, ↓reduceIte, Bool.false_eq_true, reduceCtorEq, Bool.and_true, Bool.true_and, Bool.and_false, Bool.false_and]; done) | (simp [isKB, b2, c1, c2]; done) | (simp_all [isKB, b2]; done)) dX6_isKind_34
    · skip
      refine v_iload_n C 1 dX6_isKind_9 rfl ?_
      refine v_iconst C (v := 1) dX6_isKind_10 (by decide) ?_
      refine v_icmp_ne C 19 dX6_isKind_11 (by decide) (fun c3 => ?_) (fun c3 => ?_)
      · skip
        refine v_iload_n C 1 dX6_isKind_19 rfl ?_
        refine v_iconst C (v := 4) dX6_isKind_20 (by decide) ?_
        refine v_icmp_ne C 33 dX6_isKind_21 (by decide) (fun c4 => ?_) (fun c4 => ?_)
        · skip
          refine v_iconst C (v := 0) dX6_isKind_33 (by decide) ?_
          exact v_zret C E (by first | rfl | (simp only [isKB, b2, c1, c2, c3, c4, ↓reduceIte, Bool.false_eq_true, reduceCtorEq, Bool.and_true, Bool.true_and, Bool.and_false, Bool.false_and]; done) | (simp [isKB, b2, c1, c2, c3, c4]; done) | (simp_all [isKB, b2]; done)) (by first | rfl | (simp only [isKB, b2, c1, c2, c3, c4, ↓reduceIte, Bool.false_eq_true, reduceCtorEq, Bool.and_true, Bool.true_and, Bool.and_false, Bool.false_and]; done) | (simp [isKB, b2, c1, c2, c3, c4]; done) | (simp_all [isKB, b2]; done)) dX6_isKind_34
        · skip
          refine v_iload_n C 0 dX6_isKind_24 rfl ?_
          refine v_iconst C (v := 5) dX6_isKind_25 (by decide) ?_
          refine v_icmp_ne C 33 dX6_isKind_26 (by decide) (fun c5 => ?_) (fun c5 => ?_)
          · skip
            refine v_iconst C (v := 0) dX6_isKind_33 (by decide) ?_
            exact v_zret C E (by first | rfl | (simp only [isKB, b2, c1, c2, c3, c4, c5, ↓reduceIte, Bool.false_eq_true, reduceCtorEq, Bool.and_true, Bool.true_and, Bool.and_false, Bool.false_and]; done) | (simp [isKB, b2, c1, c2, c3, c4, c5]; done) | (simp_all [isKB, b2]; done)) (by first | rfl | (simp only [isKB, b2, c1, c2, c3, c4, c5, ↓reduceIte, Bool.false_eq_true, reduceCtorEq, Bool.and_true, Bool.true_and, Bool.and_false, Bool.false_and]; done) | (simp [isKB, b2, c1, c2, c3, c4, c5]; done) | (simp_all [isKB, b2]; done)) dX6_isKind_34
          · skip
            refine v_iconst C (v := 1) dX6_isKind_29 (by decide) ?_
            refine v_goto C 34 dX6_isKind_30 (by decide) ?_
            exact v_zret C E (by first | rfl | (simp only [isKB, b2, c1, c2, c3, c4, c5, ↓reduceIte, Bool.false_eq_true, reduceCtorEq, Bool.and_true, Bool.true_and, Bool.and_false, Bool.false_and]; done) | (simp [isKB, b2, c1, c2, c3, c4, c5]; done) | (simp_all [isKB, b2]; done)) (by first | rfl | (simp only [isKB, b2, c1, c2, c3, c4, c5, ↓reduceIte, Bool.false_eq_true, reduceCtorEq, Bool.and_true, Bool.true_and, Bool.and_false, Bool.false_and]; done) | (simp [isKB, b2, c1, c2, c3, c4, c5]; done) | (simp_all [isKB, b2]; done)) dX6_isKind_34
      · skip
        refine v_iload_n C 0 dX6_isKind_14 rfl ?_
        refine v_iconst C (v := 4) dX6_isKind_15 (by decide) ?_
        refine v_icmp_lt C 29 dX6_isKind_16 (by decide) (fun c6 => ?_) (fun c6 => ?_)
        · skip
          refine v_iconst C (v := 1) dX6_isKind_29 (by decide) ?_
          refine v_goto C 34 dX6_isKind_30 (by decide) ?_
          exact v_zret C E (by first | rfl | (simp only [isKB, b2, c1, c2, c3, c6, Int32.not_le.mpr c6, ↓reduceIte, Bool.false_eq_true, reduceCtorEq, Bool.and_true, Bool.true_and, Bool.and_false, Bool.false_and]; done) | (simp [isKB, b2, c1, c2, c3, c6, Int32.not_le.mpr c6]; done) | (simp_all [isKB, b2]; done)) (by first | rfl | (simp only [isKB, b2, c1, c2, c3, c6, Int32.not_le.mpr c6, ↓reduceIte, Bool.false_eq_true, reduceCtorEq, Bool.and_true, Bool.true_and, Bool.and_false, Bool.false_and]; done) | (simp [isKB, b2, c1, c2, c3, c6, Int32.not_le.mpr c6]; done) | (simp_all [isKB, b2]; done)) dX6_isKind_34
        · skip
          refine v_iload_n C 1 dX6_isKind_19 rfl ?_
          refine v_iconst C (v := 4) dX6_isKind_20 (by decide) ?_
          refine v_icmp_ne C 33 dX6_isKind_21 (by decide) (fun c7 => ?_) (fun c7 => ?_)
          · skip
            refine v_iconst C (v := 0) dX6_isKind_33 (by decide) ?_
            exact v_zret C E (by first | rfl | (simp only [isKB, b2, c1, c2, c3, c6, Int32.not_lt.mp c6, c7, ↓reduceIte, Bool.false_eq_true, reduceCtorEq, Bool.and_true, Bool.true_and, Bool.and_false, Bool.false_and]; done) | (simp [isKB, b2, c1, c2, c3, c6, Int32.not_lt.mp c6, c7]; done) | (simp_all [isKB, b2]; done)) (by first | rfl | (simp only [isKB, b2, c1, c2, c3, c6, Int32.not_lt.mp c6, c7, ↓reduceIte, Bool.false_eq_true, reduceCtorEq, Bool.and_true, Bool.true_and, Bool.and_false, Bool.false_and]; done) | (simp [isKB, b2, c1, c2, c3, c6, Int32.not_lt.mp c6, c7]; done) | (simp_all [isKB, b2]; done)) dX6_isKind_34
          · skip
            refine v_iload_n C 0 dX6_isKind_24 rfl ?_
            refine v_iconst C (v := 5) dX6_isKind_25 (by decide) ?_
            refine v_icmp_ne C 33 dX6_isKind_26 (by decide) (fun c8 => ?_) (fun c8 => ?_)
            · skip
              refine v_iconst C (v := 0) dX6_isKind_33 (by decide) ?_
              exact v_zret C E (by first | rfl | (simp only [isKB, b2, c1, c2, c3, c6, Int32.not_lt.mp c6, c7, c8, ↓reduceIte, Bool.false_eq_true, reduceCtorEq, Bool.and_true, Bool.true_and, Bool.and_false, Bool.false_and]; done) | (simp [isKB, b2, c1, c2, c3, c6, Int32.not_lt.mp c6, c7, c8]; done) | (simp_all [isKB, b2]; done)) (by first | rfl | (simp only [isKB, b2, c1, c2, c3, c6, Int32.not_lt.mp c6, c7, c8, ↓reduceIte, Bool.false_eq_true, reduceCtorEq, Bool.and_true, Bool.true_and, Bool.and_false, Bool.false_and]; done) | (simp [isKB, b2, c1, c2, c3, c6, Int32.not_lt.mp c6, c7, c8]; done) | (simp_all [isKB, b2]; done)) dX6_isKind_34
            · skip
              refine v_iconst C (v := 1) dX6_isKind_29 (by decide) ?_
              refine v_goto C 34 dX6_isKind_30 (by decide) ?_
              exact v_zret C E (by first | rfl | (simp only [isKB, b2, c1, c2, c3, c6, Int32.not_lt.mp c6, c7, c8, ↓reduceIte, Bool.false_eq_true, reduceCtorEq, Bool.and_true, Bool.true_and, Bool.and_false, Bool.false_and]; done) | (simp [isKB, b2, c1, c2, c3, c6, Int32.not_lt.mp c6, c7, c8]; done) | (simp_all [isKB, b2]; done)) (by first | rfl | (simp only [isKB, b2, c1, c2, c3, c6, Int32.not_lt.mp c6, c7, c8, ↓reduceIte, Bool.false_eq_true, reduceCtorEq, Bool.and_true, Bool.true_and, Bool.and_false, Bool.false_and]; done) | (simp [isKB, b2, c1, c2, c3, c6, Int32.not_lt.mp c6, c7, c8]; done) | (simp_all [isKB, b2]; done)) dX6_isKind_34
theorem kX6_as : KD yX6_as wsX6_as cX6_as 3 (some .int) 2 := ⟨⟨_, rfl⟩, by decide, by decide +kernel, by decide +kernel, by decide +kernel⟩
theorem in_X6_as_X6 : ∀ w ∈ wsX60, w ∈ wsX6_as := by decide +kernel
theorem fl_X6_as_19 : FL RX6 wsX6_as RX6 RX6 TX6 22 6 5 19 := ⟨⟨in_X6_as_X6, rfl, by decide, rfl⟩, by decide +kernel⟩
set_option maxHeartbeats 4000000 in
set_option maxRecDepth 100000 in
theorem c_masIn (l : Launch) (D : va_G) (cs : Nat → ClassId) {mo : Nat} {ml : Nat} {mz : Nat} {mi : Nat} {mt : Nat} {mv : Nat} {mp : Nat} {md : Nat} {mc : Nat} {mk : Nat} {mq : Nat} {mr : Nat} {su : Int32} {it : Bool} {nby : Int32} {lt : Int32} {pl : Int32} {tok : Int32} {va : Int32} {be : Int32} {wr : Int32} {am : Int32} {td : Int32} {tf : Nat → Int32} {tn : Nat} {q : Nat} {y : Int32} (hte : tf 1 = nI tn) (hti : tn ≤ 8) (hq : q < tn) : CT l D (tz cs) yX6_as wsX6_as ({ frames := 2, cells := 0, slots := 0, locals := 46 }) [.ref mo, .int (nI q), .int y] [(mo, .inr (6, [.ref ml, .ref mz, .ref mi, .int su, .int (b2 it), .ref mt, .ref mv, .ref mp, .int nby, .int lt, .int pl, .int tok, .int va, .int be, .int wr, .ref md, .ref mc, .int am, .ref mk, .ref mq, .ref mr, .int td])), (mt, .inl (cs 0, 29, .inl tf))] (some (.int (if inI y 0 5 = true then (if isKB (tf (5 + q)) y = true then nI q else -1000010 - 3) else -1000001))) [(mo, .inr (6, [.ref ml, .ref mz, .ref mi, .int (if inI y 0 5 = true then (if isKB (tf (5 + q)) y = true then 0 else 3) else su), .int (b2 it), .ref mt, .ref mv, .ref mp, .int nby, .int lt, .int pl, .int tok, .int va, .int be, .int wr, .ref md, .ref mc, .int am, .ref mk, .ref mq, .ref mr, .int td])), (mt, .inl (cs 0, 29, .inl tf))] := by
  refine CT.of kX6_as (Nat.le_of_ble_eq_true rfl) ?_
  intro p e s m below meth c A C E
  have C : VOk p s m _ c cX6_as 3 wsX6_as RX6 D (tz cs) A s.heap := C
  refine V.lvs (lv' := [(0, .ref mo), (1, .int (nI q)), (2, .int y)]) [0, 1, 2] rfl ?_
  refine v_aload_n C 0 dX6_as_0 rfl ?_
  refine v_iload_n C 1 dX6_as_1 rfl ?_
  refine v_callV (qi := 0) C [.int (nI q)] [] kX6_isTie gX6_as_X6_isTie (c_misTie l D cs (mo := mo) (ml := ml) (mz := mz) (mi := mi) (mt := mt) (mv := mv) (mp := mp) (md := md) (mc := mc) (mk := mk) (mq := mq) (mr := mr) (su := su) (it := it) (nby := nby) (lt := lt) (pl := pl) (tok := tok) (va := va) (be := be) (wr := wr) (am := am) (td := td) (tf := tf) (tn := tn) (x := (nI q)) (by first | assumption | omega) (by first | assumption | omega)) ⟨Nat.le_of_ble_eq_true rfl, Nat.le_of_ble_eq_true rfl⟩ ⟨rfl, rfl⟩ ⟨Nat.zero_le _, Nat.zero_le _⟩ rfl 0 rfl rfl rfl rfl (Nat.le_of_ble_eq_true rfl) [0, 1] [(mo, .inr (6, [.ref ml, .ref mz, .ref mi, .int su, .int (b2 it), .ref mt, .ref mv, .ref mp, .int nby, .int lt, .int pl, .int tok, .int va, .int be, .int wr, .ref md, .ref mc, .int am, .ref mk, .ref mq, .ref mr, .int td])), (mt, .inl (cs 0, 29, .inl tf))] rfl (by decide) (show [mo, mt] = [mo, mt] from rfl) (rfl) dX6_as_2 ?_
  refine V.sts (st' := [.int (b2 (inB (nI tn) (nI q)))]) rfl ?_
  refine v_if_eqB C 20 dX6_as_5 (by decide) (fun c1 => ?_) (fun c1 => ?_)
  · exact absurd ((inB_in (by omega) hq).symm.trans c1) (by decide)
  · skip
    refine v_iload_n C 2 dX6_as_8 rfl ?_
    refine v_i2l C dX6_as_9 ?_
    refine v_lconst C (v := 0) dX6_as_10 (by decide) ?_
    refine v_ldc2 C (v := 5) (by decide +kernel) dX6_as_11 ?_
    refine v_callS C [.long (Int32.toInt64 y), .long 0, .long 5] [] kX6_in gX6_as_X6_in (c_inI l D cs (x := y) (a := 0) (b := 5) (lo := 0) (hi := 5) (by decide) (by decide)) ⟨Nat.le_of_ble_eq_true rfl, Nat.le_of_ble_eq_true rfl⟩ ⟨rfl, rfl⟩ ⟨Nat.zero_le _, Nat.zero_le _⟩ rfl rfl (Nat.le_of_ble_eq_true rfl) [] [(mo, .inr (6, [.ref ml, .ref mz, .ref mi, .int su, .int (b2 it), .ref mt, .ref mv, .ref mp, .int nby, .int lt, .int pl, .int tok, .int va, .int be, .int wr, .ref md, .ref mc, .int am, .ref mk, .ref mq, .ref mr, .int td])), (mt, .inl (cs 0, 29, .inl tf))] rfl (by decide) rfl (rfl) dX6_as_14 ?_
    refine V.sts (st' := [.int (b2 (inI y 0 5))]) rfl ?_
    refine v_if_neB C 23 dX6_as_17 (by decide) (fun c2 => ?_) (fun c2 => ?_)
    · skip
      refine v_aload_n C 0 dX6_as_23 rfl ?_
      refine v_get C (v := .ref mt) fl_X6_as_19 0 rfl rfl dX6_as_24 ?_
      refine v_iconst C (v := 5) dX6_as_27 (by decide) ?_
      refine v_iload_n C 1 dX6_as_28 rfl ?_
      refine v_iadd C dX6_as_29 ?_
      refine V.topr (y := nI (5 + q)) (nI_add 5 q) ?_
      refine v_iald C 1 0 rfl rfl (tf (5 + q)) (by rw [nI_clamp (by omega)]) (vp_in_nI (by omega) (by omega)) dX6_as_30 ?_
      refine v_iload_n C 2 dX6_as_31 rfl ?_
      refine v_callS C [.int (tf (5 + q)), .int y] [] kX6_isKind gX6_as_X6_isKind (c_isKind l D cs (of := tf (5 + q)) (k := y) ) ⟨Nat.le_of_ble_eq_true rfl, Nat.le_of_ble_eq_true rfl⟩ ⟨rfl, rfl⟩ ⟨Nat.zero_le _, Nat.zero_le _⟩ rfl rfl (Nat.le_of_ble_eq_true rfl) [] [(mo, .inr (6, [.ref ml, .ref mz, .ref mi, .int su, .int (b2 it), .ref mt, .ref mv, .ref mp, .int nby, .int lt, .int pl, .int tok, .int va, .int be, .int wr, .ref md, .ref mc, .int am, .ref mk, .ref mq, .ref mr, .int td])), (mt, .inl (cs 0, 29, .inl tf))] rfl (by decide) rfl (rfl) dX6_as_32 ?_
      refine V.sts (st' := [.int (b2 (isKB (tf (5 + q)) y))]) rfl ?_
      refine v_if_eqB C 46 dX6_as_35 (by decide) (fun c3 => ?_) (fun c3 => ?_)
      · skip
        refine v_aload_n C 0 dX6_as_46 rfl ?_
        refine v_iconst C (v := 3) dX6_as_47 (by decide) ?_
        refine v_callV (qi := 0) C [.int 3] [] kX6_find gX6_as_X6_find (c_find l D cs (mo := mo) (ml := ml) (mz := mz) (mi := mi) (mt := mt) (mv := mv) (mp := mp) (md := md) (mc := mc) (mk := mk) (mq := mq) (mr := mr) (su := su) (it := it) (nby := nby) (lt := lt) (pl := pl) (tok := tok) (va := va) (be := be) (wr := wr) (am := am) (td := td) (x := 3) ) ⟨Nat.le_of_ble_eq_true rfl, Nat.le_of_ble_eq_true rfl⟩ ⟨rfl, rfl⟩ ⟨Nat.zero_le _, Nat.zero_le _⟩ rfl 0 rfl rfl rfl rfl (Nat.le_of_ble_eq_true rfl) [0] [(mo, .inr (6, [.ref ml, .ref mz, .ref mi, .int 3, .int (b2 it), .ref mt, .ref mv, .ref mp, .int nby, .int lt, .int pl, .int tok, .int va, .int be, .int wr, .ref md, .ref mc, .int am, .ref mk, .ref mq, .ref mr, .int td])), (mt, .inl (cs 0, 29, .inl tf))] rfl (by decide) (show [mo] = [mo] from rfl) (rfl) dX6_as_48 ?_
        refine V.sts (st' := [.int (-1000010 - 3)]) rfl ?_
        exact v_iret C E (by first | rfl | (simp only [c1, c2, c3, ↓reduceIte, Bool.false_eq_true, reduceCtorEq, Bool.and_true, Bool.true_and, Bool.and_false, Bool.false_and]; done) | (simp [c1, c2, c3]; done) | (simp_all [b2]; done)) (by first | rfl | (simp only [c1, c2, c3, ↓reduceIte, Bool.false_eq_true, reduceCtorEq, Bool.and_true, Bool.true_and, Bool.and_false, Bool.false_and]; done) | (simp [c1, c2, c3]; done) | (simp_all [b2]; done)) dX6_as_51
      · skip
        refine v_aload_n C 0 dX6_as_38 rfl ?_
        refine v_iload_n C 1 dX6_as_39 rfl ?_
        refine v_callV (qi := 0) C [.int (nI q)] [] kX6_well gX6_as_X6_well (c_mwell l D cs (mo := mo) (ml := ml) (mz := mz) (mi := mi) (mt := mt) (mv := mv) (mp := mp) (md := md) (mc := mc) (mk := mk) (mq := mq) (mr := mr) (su := su) (it := it) (nby := nby) (lt := lt) (pl := pl) (tok := tok) (va := va) (be := be) (wr := wr) (am := am) (td := td) (x := (nI q)) ) ⟨Nat.le_of_ble_eq_true rfl, Nat.le_of_ble_eq_true rfl⟩ ⟨rfl, rfl⟩ ⟨Nat.zero_le _, Nat.zero_le _⟩ rfl 0 rfl rfl rfl rfl (Nat.le_of_ble_eq_true rfl) [0] [(mo, .inr (6, [.ref ml, .ref mz, .ref mi, .int 0, .int (b2 it), .ref mt, .ref mv, .ref mp, .int nby, .int lt, .int pl, .int tok, .int va, .int be, .int wr, .ref md, .ref mc, .int am, .ref mk, .ref mq, .ref mr, .int td])), (mt, .inl (cs 0, 29, .inl tf))] rfl (by decide) (show [mo] = [mo] from rfl) (rfl) dX6_as_40 ?_
        refine V.sts (st' := [.int (nI q)]) rfl ?_
        refine v_goto C 51 dX6_as_43 (by decide) ?_
        exact v_iret C E (by first | rfl | (simp only [c1, c2, c3, ↓reduceIte, Bool.false_eq_true, reduceCtorEq, Bool.and_true, Bool.true_and, Bool.and_false, Bool.false_and]; done) | (simp [c1, c2, c3]; done) | (simp_all [b2]; done)) (by first | rfl | (simp only [c1, c2, c3, ↓reduceIte, Bool.false_eq_true, reduceCtorEq, Bool.and_true, Bool.true_and, Bool.and_false, Bool.false_and]; done) | (simp [c1, c2, c3]; done) | (simp_all [b2]; done)) dX6_as_51
    · skip
      refine v_ldc C (v := -1000001) (by decide +kernel) dX6_as_20 ?_
      exact v_iret C E (by first | rfl | (simp only [c1, c2, ↓reduceIte, Bool.false_eq_true, reduceCtorEq, Bool.and_true, Bool.true_and, Bool.and_false, Bool.false_and]; done) | (simp [c1, c2]; done) | (simp_all [b2]; done)) (by first | rfl | (simp only [c1, c2, ↓reduceIte, Bool.false_eq_true, reduceCtorEq, Bool.and_true, Bool.true_and, Bool.and_false, Bool.false_and]; done) | (simp [c1, c2]; done) | (simp_all [b2]; done)) dX6_as_22
set_option maxHeartbeats 4000000 in
set_option maxRecDepth 100000 in
theorem c_masOut (l : Launch) (D : va_G) (cs : Nat → ClassId) {mo : Nat} {ml : Nat} {mz : Nat} {mi : Nat} {mt : Nat} {mv : Nat} {mp : Nat} {md : Nat} {mc : Nat} {mk : Nat} {mq : Nat} {mr : Nat} {su : Int32} {it : Bool} {nby : Int32} {lt : Int32} {pl : Int32} {tok : Int32} {va : Int32} {be : Int32} {wr : Int32} {am : Int32} {td : Int32} {tf : Nat → Int32} {tn : Nat} {x : Int32} {y : Int32} (hte : tf 1 = nI tn) (hti : tn ≤ 8) (hb : inB (nI tn) x = false) : CT l D (tz cs) yX6_as wsX6_as ({ frames := 2, cells := 0, slots := 0, locals := 46 }) [.ref mo, .int x, .int y] [(mo, .inr (6, [.ref ml, .ref mz, .ref mi, .int su, .int (b2 it), .ref mt, .ref mv, .ref mp, .int nby, .int lt, .int pl, .int tok, .int va, .int be, .int wr, .ref md, .ref mc, .int am, .ref mk, .ref mq, .ref mr, .int td])), (mt, .inl (cs 0, 29, .inl tf))] (some (.int (-1000001))) [(mo, .inr (6, [.ref ml, .ref mz, .ref mi, .int su, .int (b2 it), .ref mt, .ref mv, .ref mp, .int nby, .int lt, .int pl, .int tok, .int va, .int be, .int wr, .ref md, .ref mc, .int am, .ref mk, .ref mq, .ref mr, .int td])), (mt, .inl (cs 0, 29, .inl tf))] := by
  refine CT.of kX6_as (Nat.le_of_ble_eq_true rfl) ?_
  intro p e s m below meth c A C E
  have C : VOk p s m _ c cX6_as 3 wsX6_as RX6 D (tz cs) A s.heap := C
  refine V.lvs (lv' := [(0, .ref mo), (1, .int x), (2, .int y)]) [0, 1, 2] rfl ?_
  refine v_aload_n C 0 dX6_as_0 rfl ?_
  refine v_iload_n C 1 dX6_as_1 rfl ?_
  refine v_callV (qi := 0) C [.int x] [] kX6_isTie gX6_as_X6_isTie (c_misTie l D cs (mo := mo) (ml := ml) (mz := mz) (mi := mi) (mt := mt) (mv := mv) (mp := mp) (md := md) (mc := mc) (mk := mk) (mq := mq) (mr := mr) (su := su) (it := it) (nby := nby) (lt := lt) (pl := pl) (tok := tok) (va := va) (be := be) (wr := wr) (am := am) (td := td) (tf := tf) (tn := tn) (x := x) (by first | assumption | omega) (by first | assumption | omega)) ⟨Nat.le_of_ble_eq_true rfl, Nat.le_of_ble_eq_true rfl⟩ ⟨rfl, rfl⟩ ⟨Nat.zero_le _, Nat.zero_le _⟩ rfl 0 rfl rfl rfl rfl (Nat.le_of_ble_eq_true rfl) [0, 1] [(mo, .inr (6, [.ref ml, .ref mz, .ref mi, .int su, .int (b2 it), .ref mt, .ref mv, .ref mp, .int nby, .int lt, .int pl, .int tok, .int va, .int be, .int wr, .ref md, .ref mc, .int am, .ref mk, .ref mq, .ref mr, .int td])), (mt, .inl (cs 0, 29, .inl tf))] rfl (by decide) (show [mo, mt] = [mo, mt] from rfl) (rfl) dX6_as_2 ?_
  refine V.sts (st' := [.int (b2 (inB (nI tn) x))]) rfl ?_
  refine v_if_eqB C 20 dX6_as_5 (by decide) (fun c1 => ?_) (fun c1 => ?_)
  · skip
    refine v_ldc C (v := -1000001) (by decide +kernel) dX6_as_20 ?_
    exact v_iret C E (rfl) (by first | rfl | (simp [hte, hti, hb, c1, ↓reduceIte]; done) | (simp_all [b2]; done)) dX6_as_22
  · exact absurd (hb.symm.trans c1) (by decide)
theorem kX6_isMuch : KD yX6_isMuch wsX6_isMuch cX6_isMuch 2 (some .boolean) 2 := ⟨⟨_, rfl⟩, by decide, by decide +kernel, by decide +kernel, by decide +kernel⟩
set_option maxHeartbeats 4000000 in
set_option maxRecDepth 100000 in
theorem c_isMuch (l : Launch) (D : va_G) (cs : Nat → ClassId) {v : Int32} {w : Int32} : CT l D (tz cs) yX6_isMuch wsX6_isMuch ({ frames := 1, cells := 0, slots := 0, locals := 25 }) [.int v, .int w] [] (some (.int (b2 (lkF v && inI w 0 1)))) [] := by
  refine CT.of kX6_isMuch (Nat.le_of_ble_eq_true rfl) ?_
  intro p e s m below meth c A C E
  have C : VOk p s m _ c cX6_isMuch 2 wsX6_isMuch RX6 D (tz cs) A s.heap := C
  refine V.lvs (lv' := [(0, .int v), (1, .int w)]) [0, 1] rfl ?_
  refine v_iload_n C 0 dX6_isMuch_0 rfl ?_
  refine v_i2l C dX6_isMuch_1 ?_
  refine v_ldc2 C (v := -999) (by decide +kernel) dX6_isMuch_2 ?_
  refine v_ldc2 C (v := 9999) (by decide +kernel) dX6_isMuch_5 ?_
  refine v_callS C [.long (Int32.toInt64 v), .long (-999), .long 9999] [] kX6_in gX6_isMuch_X6_in (c_inI l D cs (x := v) (a := -999) (b := 9999) (lo := (-999)) (hi := 9999) (by decide) (by decide)) ⟨Nat.le_of_ble_eq_true rfl, Nat.le_of_ble_eq_true rfl⟩ ⟨rfl, rfl⟩ ⟨Nat.zero_le _, Nat.zero_le _⟩ rfl rfl (Nat.le_of_ble_eq_true rfl) [] [] rfl (by decide) rfl (rfl) dX6_isMuch_8 ?_
  refine V.sts (st' := [.int (b2 (inI v (-999) 9999))]) rfl ?_
  refine v_if_eqB C 28 dX6_isMuch_11 (by decide) (fun c1 => ?_) (fun c1 => ?_)
  · skip
    refine v_iconst C (v := 0) dX6_isMuch_28 (by decide) ?_
    exact v_zret C E (rfl) (by first | rfl | (simp only [b2, show ∀ v, lkF v = inI v (-999) 9999 from fun _ => rfl, c1, ↓reduceIte, Bool.false_eq_true, reduceCtorEq, Bool.and_true, Bool.true_and, Bool.and_false, Bool.false_and]; done) | (simp [b2, show ∀ v, lkF v = inI v (-999) 9999 from fun _ => rfl, c1]; done) | (simp_all [b2, show ∀ v, lkF v = inI v (-999) 9999 from fun _ => rfl]; done)) dX6_isMuch_29
  · skip
    refine v_iload_n C 1 dX6_isMuch_14 rfl ?_
    refine v_i2l C dX6_isMuch_15 ?_
    refine v_lconst C (v := 0) dX6_isMuch_16 (by decide) ?_
    refine v_lconst C (v := 1) dX6_isMuch_17 (by decide) ?_
    refine v_callS C [.long (Int32.toInt64 w), .long 0, .long 1] [] kX6_in gX6_isMuch_X6_in (c_inI l D cs (x := w) (a := 0) (b := 1) (lo := 0) (hi := 1) (by decide) (by decide)) ⟨Nat.le_of_ble_eq_true rfl, Nat.le_of_ble_eq_true rfl⟩ ⟨rfl, rfl⟩ ⟨Nat.zero_le _, Nat.zero_le _⟩ rfl rfl (Nat.le_of_ble_eq_true rfl) [] [] rfl (by decide) rfl (rfl) dX6_isMuch_18 ?_
    refine V.sts (st' := [.int (b2 (inI w 0 1))]) rfl ?_
    refine v_if_eqB C 28 dX6_isMuch_21 (by decide) (fun c2 => ?_) (fun c2 => ?_)
    · skip
      refine v_iconst C (v := 0) dX6_isMuch_28 (by decide) ?_
      exact v_zret C E (rfl) (by first | rfl | (simp only [b2, show ∀ v, lkF v = inI v (-999) 9999 from fun _ => rfl, c1, c2, ↓reduceIte, Bool.false_eq_true, reduceCtorEq, Bool.and_true, Bool.true_and, Bool.and_false, Bool.false_and]; done) | (simp [b2, show ∀ v, lkF v = inI v (-999) 9999 from fun _ => rfl, c1, c2]; done) | (simp_all [b2, show ∀ v, lkF v = inI v (-999) 9999 from fun _ => rfl]; done)) dX6_isMuch_29
    · skip
      refine v_iconst C (v := 1) dX6_isMuch_24 (by decide) ?_
      refine v_goto C 29 dX6_isMuch_25 (by decide) ?_
      exact v_zret C E (rfl) (by first | rfl | (simp only [b2, show ∀ v, lkF v = inI v (-999) 9999 from fun _ => rfl, c1, c2, ↓reduceIte, Bool.false_eq_true, reduceCtorEq, Bool.and_true, Bool.true_and, Bool.and_false, Bool.false_and]; done) | (simp [b2, show ∀ v, lkF v = inI v (-999) 9999 from fun _ => rfl, c1, c2]; done) | (simp_all [b2, show ∀ v, lkF v = inI v (-999) 9999 from fun _ => rfl]; done)) dX6_isMuch_29
theorem kX6_fault : KD yX6_fault wsX6_fault cX6_fault 1 (some .int) 0 := ⟨⟨_, rfl⟩, by decide, by decide +kernel, by decide +kernel, by decide +kernel⟩
theorem in_X6_fault_X6 : ∀ w ∈ wsX60, w ∈ wsX6_fault := by decide +kernel
theorem fl_X6_fault_125 : FL RX6 wsX6_fault RX6 RX6 TX6 22 6 9 125 := ⟨⟨in_X6_fault_X6, rfl, by decide, rfl⟩, by decide +kernel⟩
set_option maxHeartbeats 4000000 in
set_option maxRecDepth 100000 in
theorem c_mfault (l : Launch) (D : va_G) (cs : Nat → ClassId) {mo : Nat} {ml : Nat} {mz : Nat} {mi : Nat} {mt : Nat} {mv : Nat} {mp : Nat} {md : Nat} {mc : Nat} {mk : Nat} {mq : Nat} {mr : Nat} {su : Int32} {it : Bool} {nby : Int32} {lt : Int32} {pl : Int32} {tok : Int32} {va : Int32} {be : Int32} {wr : Int32} {am : Int32} {td : Int32} : CT l D (tz cs) yX6_fault wsX6_fault ({ frames := 0, cells := 0, slots := 0, locals := 0 }) [.ref mo] [(mo, .inr (6, [.ref ml, .ref mz, .ref mi, .int su, .int (b2 it), .ref mt, .ref mv, .ref mp, .int nby, .int lt, .int pl, .int tok, .int va, .int be, .int wr, .ref md, .ref mc, .int am, .ref mk, .ref mq, .ref mr, .int td]))] (some (.int lt)) [(mo, .inr (6, [.ref ml, .ref mz, .ref mi, .int su, .int (b2 it), .ref mt, .ref mv, .ref mp, .int nby, .int lt, .int pl, .int tok, .int va, .int be, .int wr, .ref md, .ref mc, .int am, .ref mk, .ref mq, .ref mr, .int td]))] := by
  refine CT.of kX6_fault (Nat.le_of_ble_eq_true rfl) ?_
  intro p e s m below meth c A C E
  have C : VOk p s m _ c cX6_fault 1 wsX6_fault RX6 D (tz cs) A s.heap := C
  refine V.lvs (lv' := [(0, .ref mo)]) [0] rfl ?_
  refine v_aload_n C 0 dX6_fault_0 rfl ?_
  refine v_get C (v := .int lt) fl_X6_fault_125 0 rfl rfl dX6_fault_1 ?_
  exact v_iret C E (rfl) (by first | rfl | (simp [↓reduceIte]; done) | (simp_all [b2]; done)) dX6_fault_4
theorem kX6_status : KD yX6_status wsX6_status cX6_status 1 (some .int) 0 := ⟨⟨_, rfl⟩, by decide, by decide +kernel, by decide +kernel, by decide +kernel⟩
theorem in_X6_status_X6 : ∀ w ∈ wsX60, w ∈ wsX6_status := by decide +kernel
theorem fl_X6_status_44 : FL RX6 wsX6_status RX6 RX6 TX6 22 6 3 44 := ⟨⟨in_X6_status_X6, rfl, by decide, rfl⟩, by decide +kernel⟩
set_option maxHeartbeats 4000000 in
set_option maxRecDepth 100000 in
theorem c_mstatus (l : Launch) (D : va_G) (cs : Nat → ClassId) {mo : Nat} {ml : Nat} {mz : Nat} {mi : Nat} {mt : Nat} {mv : Nat} {mp : Nat} {md : Nat} {mc : Nat} {mk : Nat} {mq : Nat} {mr : Nat} {su : Int32} {it : Bool} {nby : Int32} {lt : Int32} {pl : Int32} {tok : Int32} {va : Int32} {be : Int32} {wr : Int32} {am : Int32} {td : Int32} : CT l D (tz cs) yX6_status wsX6_status ({ frames := 0, cells := 0, slots := 0, locals := 0 }) [.ref mo] [(mo, .inr (6, [.ref ml, .ref mz, .ref mi, .int su, .int (b2 it), .ref mt, .ref mv, .ref mp, .int nby, .int lt, .int pl, .int tok, .int va, .int be, .int wr, .ref md, .ref mc, .int am, .ref mk, .ref mq, .ref mr, .int td]))] (some (.int su)) [(mo, .inr (6, [.ref ml, .ref mz, .ref mi, .int su, .int (b2 it), .ref mt, .ref mv, .ref mp, .int nby, .int lt, .int pl, .int tok, .int va, .int be, .int wr, .ref md, .ref mc, .int am, .ref mk, .ref mq, .ref mr, .int td]))] := by
  refine CT.of kX6_status (Nat.le_of_ble_eq_true rfl) ?_
  intro p e s m below meth c A C E
  have C : VOk p s m _ c cX6_status 1 wsX6_status RX6 D (tz cs) A s.heap := C
  refine V.lvs (lv' := [(0, .ref mo)]) [0] rfl ?_
  refine v_aload_n C 0 dX6_status_0 rfl ?_
  refine v_get C (v := .int su) fl_X6_status_44 0 rfl rfl dX6_status_1 ?_
  exact v_iret C E (rfl) (by first | rfl | (simp [↓reduceIte]; done) | (simp_all [b2]; done)) dX6_status_4
