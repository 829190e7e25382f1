theorem kX5_away : KD yX5_away wsX5_away cX5_away 5 (some .int) 2 := ⟨⟨_, rfl⟩, by decide, by decide +kernel, by decide +kernel, by decide +kernel⟩
theorem in_X5_away_X5 : ∀ w ∈ wsX50, w ∈ wsX5_away := by decide +kernel
theorem fl_X5_away_26 : FL RX5 wsX5_away RX5 RX5 TX5 9 5 2 26 := ⟨⟨in_X5_away_X5, rfl, by decide, rfl⟩, by decide +kernel⟩
theorem nq_X5_away_X4_isPerson : Cond.initialized yX4_isPerson.cls ∈ wsX5_away ∧ Cond.instanceMethod yX4_isPerson ∈ wsX5_away ∧ Cond.selects yX4_isPerson.cls yX4_isPerson yX4_isPerson ∈ wsX5_away := ⟨by decide +kernel, by decide +kernel, by decide +kernel⟩
theorem in_X5_away_X4 : ∀ w ∈ wsX40, w ∈ wsX5_away := by decide +kernel
theorem fn_X5_away_130 : FLN RX5 wsX5_away RX4 RX4 TX4 8 4 5 130 := ⟨⟨in_X5_away_X4, rfl, by decide, rfl⟩, "TableShares", by decide +kernel⟩
theorem fl_X5_away_40 : FL RX5 wsX5_away RX5 RX5 TX5 9 5 5 40 := ⟨⟨in_X5_away_X5, rfl, by decide, rfl⟩, by decide +kernel⟩
theorem nq_X5_away_X0_keep : Cond.initialized yX0_keep.cls ∈ wsX5_away ∧ Cond.instanceMethod yX0_keep ∈ wsX5_away ∧ Cond.selects yX0_keep.cls yX0_keep yX0_keep ∈ wsX5_away := ⟨by decide +kernel, by decide +kernel, by decide +kernel⟩
set_option maxHeartbeats 4000000 in
set_option maxRecDepth 100000 in
theorem c_away (l : Launch) (D : va_G) (cs : Nat → ClassId) {xo : Nat} {xr : Nat} {xd : Nat} {ta : Nat} {tb : Nat} {xi : Nat} {aa : Nat} {sa : Nat} {lf : Int32} {fg : Int32} {tk : Nat} {tq : Nat} {tw : Nat} {pe : Int32} {ti : Int32} {aw : Int32} {me : Int32} {sp : Int32} {ap : Nat} {af : Nat → Int32} {kn : Nat} {x : Int32} {y : Int32} (hk : kn ≤ 24) : CT l D (tz cs) yX5_away wsX5_away ({ frames := 3, cells := 0, slots := 0, locals := 68 }) [.ref xo, .int x, .int y] [(xo, .inr (5, [.ref xr, .ref xd, .ref ta, .ref tb, .ref xi, .ref aa, .ref sa, .int lf, .int fg])), (ta, .inr (4, [.ref tk, .ref tq, .ref tw, .int pe, .int ti, .int aw, .int me, .int sp])), (aa, .inr (0, [.ref ap, .int (nI kn)])), (ap, .inl (cs 0, 96, .inl af))] (some (.int (if (inB pe x && zo y) = true then (if awN aw x y = aw then -1000002 else awN aw x y) else -1000001))) [(xo, .inr (5, [.ref xr, .ref xd, .ref ta, .ref tb, .ref xi, .ref aa, .ref sa, .int lf, .int fg])), (ta, .inr (4, [.ref tk, .ref tq, .ref tw, .int pe, .int ti, .int (if awOk pe aw x y = true then awN aw x y else aw), .int me, .int sp])), (aa, .inr (0, [.ref ap, .int (nI (if awOk pe aw x y = true then kpN kn else kn))])), (ap, .inl (cs 0, 96, .inl (if awOk pe aw x y = true then kpF af kn 0 aw 0 0 else af)))] := by
  refine CT.of kX5_away (Nat.le_of_ble_eq_true rfl) ?_
  intro p e s m below meth c A C E
  have C : VOk p s m _ c cX5_away 5 wsX5_away RX5 D (tz cs) A s.heap := C
  refine V.lvs (lv' := [(0, .ref xo), (1, .int x), (2, .int y)]) [0, 1, 2] rfl ?_
  refine v_aload_n C 0 dX5_away_0 rfl ?_
  refine v_get C (v := .ref ta) fl_X5_away_26 0 rfl rfl dX5_away_1 ?_
  refine v_iload_n C 1 dX5_away_4 rfl ?_
  refine v_callVN (qi := 0) C [.int x] [] kX4_isPerson gX5_away_X4_isPerson_n123 (host := "TableShares") (by decide +kernel) nq_X5_away_X4_isPerson (c_isPerson l D cs (ta := ta) (tk := tk) (tq := tq) (tw := tw) (pe := pe) (ti := ti) (aw := aw) (me := me) (sp := sp) (x := x) ) ⟨Nat.le_of_ble_eq_true rfl, Nat.le_of_ble_eq_true rfl⟩ ⟨rfl, rfl⟩ ⟨Nat.zero_le _, Nat.zero_le _⟩ rfl 1 rfl rfl rfl rfl (Nat.le_of_ble_eq_true rfl) [1] [(xo, .inr (5, [.ref xr, .ref xd, .ref ta, .ref tb, .ref xi, .ref aa, .ref sa, .int lf, .int fg])), (ta, .inr (4, [.ref tk, .ref tq, .ref tw, .int pe, .int ti, .int aw, .int me, .int sp])), (aa, .inr (0, [.ref ap, .int (nI kn)])), (ap, .inl (cs 0, 96, .inl af))] rfl (by decide) (show [ta] = [ta] from rfl) (rfl) dX5_away_5 ?_
  refine V.sts (st' := [.int (b2 (inB pe x))]) rfl ?_
  refine v_if_eqB C 18 dX5_away_8 (by decide) (fun c1 => ?_) (fun c1 => ?_)
  · skip
    refine v_ldc C (v := -1000001) (by decide +kernel) dX5_away_18 ?_
    exact v_iret C E (by first | rfl | (simp only [awOk, awN, bitI, c1, ↓reduceIte, Bool.false_eq_true, reduceCtorEq, Bool.and_true, Bool.true_and, Bool.and_false, Bool.false_and]; done) | (simp [awOk, awN, bitI, c1]; done) | (simp_all [awOk, awN, bitI]; done)) (by first | rfl | (simp only [awOk, awN, bitI, c1, ↓reduceIte, Bool.false_eq_true, reduceCtorEq, Bool.and_true, Bool.true_and, Bool.and_false, Bool.false_and]; done) | (simp [awOk, awN, bitI, c1]; done) | (simp_all [awOk, awN, bitI]; done)) dX5_away_20
  · skip
    refine v_iload_n C 2 dX5_away_11 rfl ?_
    refine v_callS C [.int y] [] kX5_isZeroOrOne gX5_away_X5_isZeroOrOne (c_zo l D cs (x := y) ) ⟨Nat.le_of_ble_eq_true rfl, Nat.le_of_ble_eq_true rfl⟩ ⟨rfl, rfl⟩ ⟨Nat.zero_le _, Nat.zero_le _⟩ rfl rfl (Nat.le_of_ble_eq_true rfl) [] [(xo, .inr (5, [.ref xr, .ref xd, .ref ta, .ref tb, .ref xi, .ref aa, .ref sa, .int lf, .int fg])), (ta, .inr (4, [.ref tk, .ref tq, .ref tw, .int pe, .int ti, .int aw, .int me, .int sp])), (aa, .inr (0, [.ref ap, .int (nI kn)])), (ap, .inl (cs 0, 96, .inl af))] rfl (by decide) rfl (rfl) dX5_away_12 ?_
    refine V.sts (st' := [.int (b2 (zo y))]) rfl ?_
    refine v_if_neB C 21 dX5_away_15 (by decide) (fun c2 => ?_) (fun c2 => ?_)
    · skip
      refine v_aload_n C 0 dX5_away_21 rfl ?_
      refine v_get C (v := .ref ta) fl_X5_away_26 0 rfl rfl dX5_away_22 ?_
      refine v_getN C (v := .int aw) fn_X5_away_130 1 rfl rfl dX5_away_25 ?_
      refine v_istore_n C [(0, .ref xo), (1, .int x), (2, .int y), (3, .int aw)] [1, 2, 3, 0] dX5_away_28 (by decide) rfl ?_
      refine v_iload_n C 2 dX5_away_29 rfl ?_
      refine v_iconst C (v := 1) dX5_away_30 (by decide) ?_
      refine v_icmp_ne C 42 dX5_away_31 (by decide) (fun c3 => ?_) (fun c3 => ?_)
      · skip
        refine v_iload_n C 3 dX5_away_42 rfl ?_
        refine v_iconst C (v := 1) dX5_away_43 (by decide) ?_
        refine v_iload_n C 1 dX5_away_44 rfl ?_
        refine v_ishl C dX5_away_45 ?_
        refine v_iconst C (v := -1) dX5_away_46 (by decide) ?_
        refine v_ixor C dX5_away_47 ?_
        refine v_iand C dX5_away_48 ?_
        skip
        refine v_istore C [(0, .ref xo), (1, .int x), (2, .int y), (3, .int aw), (4, .int (aw &&& ((1 <<< (x &&& 31)) ^^^ (-1))))] [1, 2, 3, 4, 0] dX5_away_49 (by decide) rfl ?_
        refine v_iload C 4 dX5_away_51 rfl ?_
        refine v_iload_n C 3 dX5_away_53 rfl ?_
        refine v_icmp_ne C 60 dX5_away_54 (by decide) (fun c4 => ?_) (fun c4 => ?_)
        · skip
          refine v_aload_n C 0 dX5_away_60 rfl ?_
          refine v_get C (v := .ref aa) fl_X5_away_40 0 rfl rfl dX5_away_61 ?_
          refine v_iconst C (v := 0) dX5_away_64 (by decide) ?_
          refine v_iload_n C 3 dX5_away_65 rfl ?_
          refine v_iconst C (v := 0) dX5_away_66 (by decide) ?_
          refine v_iconst C (v := 0) dX5_away_67 (by decide) ?_
          refine v_callVN (qi := 0) C [.int 0, .int aw, .int 0, .int 0] [] kX0_keep gX5_away_X0_keep_n134 (host := "TableShares") (by decide +kernel) nq_X5_away_X0_keep (c_keep l D cs (aa := aa) (ap := ap) (af := af) (kn := kn) (x0 := 0) (x1 := aw) (x2 := 0) (x3 := 0) (by first | assumption | omega)) ⟨Nat.le_of_ble_eq_true rfl, Nat.le_of_ble_eq_true rfl⟩ ⟨rfl, rfl⟩ ⟨Nat.zero_le _, Nat.zero_le _⟩ rfl 2 rfl rfl rfl rfl (Nat.le_of_ble_eq_true rfl) [2, 3] [(xo, .inr (5, [.ref xr, .ref xd, .ref ta, .ref tb, .ref xi, .ref aa, .ref sa, .int lf, .int fg])), (ta, .inr (4, [.ref tk, .ref tq, .ref tw, .int pe, .int ti, .int aw, .int me, .int sp])), (aa, .inr (0, [.ref ap, .int (nI (kpN kn))])), (ap, .inl (cs 0, 96, .inl (kpF af kn 0 aw 0 0)))] rfl (by decide) (show [aa, ap] = [aa, ap] from rfl) (rfl) dX5_away_68 ?_
          refine V.sts (st' := []) rfl ?_
          refine v_aload_n C 0 dX5_away_71 rfl ?_
          refine v_get C (v := .ref ta) fl_X5_away_26 0 rfl rfl dX5_away_72 ?_
          refine v_iload C 4 dX5_away_75 rfl ?_
          refine v_putN C fn_X5_away_130 fp_X4_5 1 rfl rfl rfl (Nat.le_of_ble_eq_true rfl) [(xo, .inr (5, [.ref xr, .ref xd, .ref ta, .ref tb, .ref xi, .ref aa, .ref sa, .int lf, .int fg])), (ta, .inr (4, [.ref tk, .ref tq, .ref tw, .int pe, .int ti, .int (aw &&& ((1 <<< (x &&& 31)) ^^^ (-1))), .int me, .int sp])), (aa, .inr (0, [.ref ap, .int (nI (kpN kn))])), (ap, .inl (cs 0, 96, .inl (kpF af kn 0 aw 0 0)))] rfl dX5_away_77 ?_
          refine v_iload C 4 dX5_away_80 rfl ?_
          exact v_iret C E (by first | rfl | (simp only [awOk, awN, bitI, c1, c2, c3, c4, ↓reduceIte, Bool.false_eq_true, reduceCtorEq, Bool.and_true, Bool.true_and, Bool.and_false, Bool.false_and]; done) | (simp [awOk, awN, bitI, c1, c2, c3, c4]; done) | (simp_all [awOk, awN, bitI]; done)) (by first | rfl | (simp only [awOk, awN, bitI, c1, c2, c3, c4, ↓reduceIte, Bool.false_eq_true, reduceCtorEq, Bool.and_true, Bool.true_and, Bool.and_false, Bool.false_and]; done) | (simp [awOk, awN, bitI, c1, c2, c3, c4]; done) | (simp_all [awOk, awN, bitI]; done)) dX5_away_82
        · skip
          refine v_ldc C (v := -1000002) (by decide +kernel) dX5_away_57 ?_
          exact v_iret C E (by first | rfl | (simp only [awOk, awN, bitI, c1, c2, c3, c4, ↓reduceIte, Bool.false_eq_true, reduceCtorEq, Bool.and_true, Bool.true_and, Bool.and_false, Bool.false_and]; done) | (simp [awOk, awN, bitI, c1, c2, c3, c4]; done) | (simp_all [awOk, awN, bitI]; done)) (by first | rfl | (simp only [awOk, awN, bitI, c1, c2, c3, c4, ↓reduceIte, Bool.false_eq_true, reduceCtorEq, Bool.and_true, Bool.true_and, Bool.and_false, Bool.false_and]; done) | (simp [awOk, awN, bitI, c1, c2, c3, c4]; done) | (simp_all [awOk, awN, bitI]; done)) dX5_away_59
      · skip
        refine v_iload_n C 3 dX5_away_34 rfl ?_
        refine v_iconst C (v := 1) dX5_away_35 (by decide) ?_
        refine v_iload_n C 1 dX5_away_36 rfl ?_
        refine v_ishl C dX5_away_37 ?_
        refine v_ior C dX5_away_38 ?_
        refine v_goto C 49 dX5_away_39 (by decide) ?_
        skip
        refine v_istore C [(0, .ref xo), (1, .int x), (2, .int y), (3, .int aw), (4, .int (aw ||| (1 <<< (x &&& 31))))] [1, 2, 3, 4, 0] dX5_away_49 (by decide) rfl ?_
        refine v_iload C 4 dX5_away_51 rfl ?_
        refine v_iload_n C 3 dX5_away_53 rfl ?_
        refine v_icmp_ne C 60 dX5_away_54 (by decide) (fun c5 => ?_) (fun c5 => ?_)
        · skip
          refine v_aload_n C 0 dX5_away_60 rfl ?_
          refine v_get C (v := .ref aa) fl_X5_away_40 0 rfl rfl dX5_away_61 ?_
          refine v_iconst C (v := 0) dX5_away_64 (by decide) ?_
          refine v_iload_n C 3 dX5_away_65 rfl ?_
          refine v_iconst C (v := 0) dX5_away_66 (by decide) ?_
          refine v_iconst C (v := 0) dX5_away_67 (by decide) ?_
          refine v_callVN (qi := 0) C [.int 0, .int aw, .int 0, .int 0] [] kX0_keep gX5_away_X0_keep_n134 (host := "TableShares") (by decide +kernel) nq_X5_away_X0_keep (c_keep l D cs (aa := aa) (ap := ap) (af := af) (kn := kn) (x0 := 0) (x1 := aw) (x2 := 0) (x3 := 0) (by first | assumption | omega)) ⟨Nat.le_of_ble_eq_true rfl, Nat.le_of_ble_eq_true rfl⟩ ⟨rfl, rfl⟩ ⟨Nat.zero_le _, Nat.zero_le _⟩ rfl 2 rfl rfl rfl rfl (Nat.le_of_ble_eq_true rfl) [2, 3] [(xo, .inr (5, [.ref xr, .ref xd, .ref ta, .ref tb, .ref xi, .ref aa, .ref sa, .int lf, .int fg])), (ta, .inr (4, [.ref tk, .ref tq, .ref tw, .int pe, .int ti, .int aw, .int me, .int sp])), (aa, .inr (0, [.ref ap, .int (nI (kpN kn))])), (ap, .inl (cs 0, 96, .inl (kpF af kn 0 aw 0 0)))] rfl (by decide) (show [aa, ap] = [aa, ap] from rfl) (rfl) dX5_away_68 ?_
          refine V.sts (st' := []) rfl ?_
          refine v_aload_n C 0 dX5_away_71 rfl ?_
          refine v_get C (v := .ref ta) fl_X5_away_26 0 rfl rfl dX5_away_72 ?_
          refine v_iload C 4 dX5_away_75 rfl ?_
          refine v_putN C fn_X5_away_130 fp_X4_5 1 rfl rfl rfl (Nat.le_of_ble_eq_true rfl) [(xo, .inr (5, [.ref xr, .ref xd, .ref ta, .ref tb, .ref xi, .ref aa, .ref sa, .int lf, .int fg])), (ta, .inr (4, [.ref tk, .ref tq, .ref tw, .int pe, .int ti, .int (aw ||| (1 <<< (x &&& 31))), .int me, .int sp])), (aa, .inr (0, [.ref ap, .int (nI (kpN kn))])), (ap, .inl (cs 0, 96, .inl (kpF af kn 0 aw 0 0)))] rfl dX5_away_77 ?_
          refine v_iload C 4 dX5_away_80 rfl ?_
          exact v_iret C E (by first | rfl | (simp only [awOk, awN, bitI, c1, c2, c3, c5, ↓reduceIte, Bool.false_eq_true, reduceCtorEq, Bool.and_true, Bool.true_and, Bool.and_false, Bool.false_and]; done) | (simp [awOk, awN, bitI, c1, c2, c3, c5]; done) | (simp_all [awOk, awN, bitI]; done)) (by first | rfl | (simp only [awOk, awN, bitI, c1, c2, c3, c5, ↓reduceIte, Bool.false_eq_true, reduceCtorEq, Bool.and_true, Bool.true_and, Bool.and_false, Bool.false_and]; done) | (simp [awOk, awN, bitI, c1, c2, c3, c5]; done) | (simp_all [awOk, awN, bitI]; done)) dX5_away_82
        · skip
          refine v_ldc C (v := -1000002) (by decide +kernel) dX5_away_57 ?_
          exact v_iret C E (by first | rfl | (simp only [awOk, awN, bitI, c1, c2, c3, c5, ↓reduceIte, Bool.false_eq_true, reduceCtorEq, Bool.and_true, Bool.true_and, Bool.and_false, Bool.false_and]; done) | (simp [awOk, awN, bitI, c1, c2, c3, c5]; done) | (simp_all [awOk, awN, bitI]; done)) (by first | rfl | (simp only [awOk, awN, bitI, c1, c2, c3, c5, ↓reduceIte, Bool.false_eq_true, reduceCtorEq, Bool.and_true, Bool.true_and, Bool.and_false, Bool.false_and]; done) | (simp [awOk, awN, bitI, c1, c2, c3, c5]; done) | (simp_all [awOk, awN, bitI]; done)) dX5_away_59
    · skip
      refine v_ldc C (v := -1000001) (by decide +kernel) dX5_away_18 ?_
      exact v_iret C E (by first | rfl | (simp only [awOk, awN, bitI, c1, c2, ↓reduceIte, Bool.false_eq_true, reduceCtorEq, Bool.and_true, Bool.true_and, Bool.and_false, Bool.false_and]; done) | (simp [awOk, awN, bitI, c1, c2]; done) | (simp_all [awOk, awN, bitI]; done)) (by first | rfl | (simp only [awOk, awN, bitI, c1, c2, ↓reduceIte, Bool.false_eq_true, reduceCtorEq, Bool.and_true, Bool.true_and, Bool.and_false, Bool.false_and]; done) | (simp [awOk, awN, bitI, c1, c2]; done) | (simp_all [awOk, awN, bitI]; done)) dX5_away_20
theorem kX5_tie : KD yX5_tie wsX5_tie cX5_tie 4 (some .int) 3 := ⟨⟨_, rfl⟩, by decide, by decide +kernel, by decide +kernel, by decide +kernel⟩
theorem in_X5_tie_X5 : ∀ w ∈ wsX50, w ∈ wsX5_tie := by decide +kernel
theorem fl_X5_tie_26 : FL RX5 wsX5_tie RX5 RX5 TX5 9 5 2 26 := ⟨⟨in_X5_tie_X5, rfl, by decide, rfl⟩, by decide +kernel⟩
theorem nq_X5_tie_X4_stands : Cond.initialized yX4_stands.cls ∈ wsX5_tie ∧ Cond.instanceMethod yX4_stands ∈ wsX5_tie ∧ Cond.selects yX4_stands.cls yX4_stands yX4_stands ∈ wsX5_tie := ⟨by decide +kernel, by decide +kernel, by decide +kernel⟩
theorem nq_X5_tie_X4_isSet : Cond.initialized yX4_isSet.cls ∈ wsX5_tie ∧ Cond.instanceMethod yX4_isSet ∈ wsX5_tie ∧ Cond.selects yX4_isSet.cls yX4_isSet yX4_isSet ∈ wsX5_tie := ⟨by decide +kernel, by decide +kernel, by decide +kernel⟩
theorem in_X5_tie_X4 : ∀ w ∈ wsX40, w ∈ wsX5_tie := by decide +kernel
theorem fn_X5_tie_120 : FLN RX5 wsX5_tie RX4 RX4 TX4 8 4 4 120 := ⟨⟨in_X5_tie_X4, rfl, by decide, rfl⟩, "TableShares", by decide +kernel⟩
theorem fl_X5_tie_40 : FL RX5 wsX5_tie RX5 RX5 TX5 9 5 5 40 := ⟨⟨in_X5_tie_X5, rfl, by decide, rfl⟩, by decide +kernel⟩
theorem nq_X5_tie_X0_keep : Cond.initialized yX0_keep.cls ∈ wsX5_tie ∧ Cond.instanceMethod yX0_keep ∈ wsX5_tie ∧ Cond.selects yX0_keep.cls yX0_keep yX0_keep ∈ wsX5_tie := ⟨by decide +kernel, by decide +kernel, by decide +kernel⟩
theorem nq_X5_tie_X4_addTie : Cond.initialized yX4_addTie.cls ∈ wsX5_tie ∧ Cond.instanceMethod yX4_addTie ∈ wsX5_tie ∧ Cond.selects yX4_addTie.cls yX4_addTie yX4_addTie ∈ wsX5_tie := ⟨by decide +kernel, by decide +kernel, by decide +kernel⟩
set_option maxHeartbeats 4000000 in
set_option maxRecDepth 100000 in
theorem c_tie (l : Launch) (D : va_G) (cs : Nat → ClassId) {xo : Nat} {xr : Nat} {xd : Nat} {ta : Nat} {tb : Nat} {xi : Nat} {aa : Nat} {sa : Nat} {lf : Int32} {fg : Int32} {tk : Nat} {tq : Nat} {tw : Nat} {kf : Nat → Int32} {sf : Nat → Int32} {wf : Nat → Int32} {pe : Int32} {aw : Int32} {me : Int32} {sp : Int32} {tn : Nat} {ap : Nat} {af : Nat → Int32} {kn : Nat} {x : Int32} {y : Int32} {z : Int32} (hk : kn ≤ 24) (htn : tn ≤ 8) : CT l D (tz cs) yX5_tie wsX5_tie ({ frames := 3, cells := 0, slots := 0, locals := 68 }) [.ref xo, .int x, .int y, .int z] [(xo, .inr (5, [.ref xr, .ref xd, .ref ta, .ref tb, .ref xi, .ref aa, .ref sa, .int lf, .int fg])), (ta, .inr (4, [.ref tk, .ref tq, .ref tw, .int pe, .int (nI tn), .int aw, .int me, .int sp])), (tk, .inl (cs 0, 8, .inl kf)), (tq, .inl (cs 0, 8, .inl sf)), (tw, .inl (cs 0, 8, .inl wf)), (aa, .inr (0, [.ref ap, .int (nI kn)])), (ap, .inl (cs 0, 96, .inl af))] (some (.int (if 0 < pe then (if tieB pe x y z = true then (if tn < 8 then nI tn else -1000003) else -1000001) else -1000002))) [(xo, .inr (5, [.ref xr, .ref xd, .ref ta, .ref tb, .ref xi, .ref aa, .ref sa, .int lf, .int fg])), (ta, .inr (4, [.ref tk, .ref tq, .ref tw, .int pe, .int (nI (if tieOk pe x y z tn = true then tn + 1 else tn)), .int aw, .int me, .int sp])), (tk, .inl (cs 0, 8, .inl (if tieOk pe x y z tn = true then upd kf tn x else kf))), (tq, .inl (cs 0, 8, .inl (if tieOk pe x y z tn = true then upd sf tn y else sf))), (tw, .inl (cs 0, 8, .inl (if tieOk pe x y z tn = true then upd wf tn z else wf))), (aa, .inr (0, [.ref ap, .int (nI (if tieOk pe x y z tn = true then kpN kn else kn))])), (ap, .inl (cs 0, 96, .inl (if tieOk pe x y z tn = true then kpF af kn 1 0 0 0 else af)))] := by
  refine CT.of kX5_tie (Nat.le_of_ble_eq_true rfl) ?_
  intro p e s m below meth c A C E
  have C : VOk p s m _ c cX5_tie 4 wsX5_tie RX5 D (tz cs) A s.heap := C
  refine V.lvs (lv' := [(0, .ref xo), (1, .int x), (2, .int y), (3, .int z)]) [0, 1, 2, 3] rfl ?_
  refine v_aload_n C 0 dX5_tie_0 rfl ?_
  refine v_get C (v := .ref ta) fl_X5_tie_26 0 rfl rfl dX5_tie_1 ?_
  refine v_callVN (qi := 0) C [] [] kX4_stands gX5_tie_X4_stands_n138 (host := "TableShares") (by decide +kernel) nq_X5_tie_X4_stands (c_stands l D cs (ta := ta) (tk := tk) (tq := tq) (tw := tw) (pe := pe) (ti := (nI tn)) (aw := aw) (me := me) (sp := sp) ) ⟨Nat.le_of_ble_eq_true rfl, Nat.le_of_ble_eq_true rfl⟩ ⟨rfl, rfl⟩ ⟨Nat.zero_le _, Nat.zero_le _⟩ rfl 1 rfl rfl rfl rfl (Nat.le_of_ble_eq_true rfl) [1] [(xo, .inr (5, [.ref xr, .ref xd, .ref ta, .ref tb, .ref xi, .ref aa, .ref sa, .int lf, .int fg])), (ta, .inr (4, [.ref tk, .ref tq, .ref tw, .int pe, .int (nI tn), .int aw, .int me, .int sp])), (tk, .inl (cs 0, 8, .inl kf)), (tq, .inl (cs 0, 8, .inl sf)), (tw, .inl (cs 0, 8, .inl wf)), (aa, .inr (0, [.ref ap, .int (nI kn)])), (ap, .inl (cs 0, 96, .inl af))] rfl (by decide) (show [ta] = [ta] from rfl) (rfl) dX5_tie_4 ?_
  refine V.sts (st' := [.int (b2 (decide (0 < pe)))]) rfl ?_
  refine v_if_neB C 13 dX5_tie_7 (by decide) (fun c1 => ?_) (fun c1 => ?_)
  · skip
    refine v_iload_n C 1 dX5_tie_13 rfl ?_
    refine v_iconst C (v := 1) dX5_tie_14 (by decide) ?_
    refine v_icmp_lt C 48 dX5_tie_15 (by decide) (fun c2 => ?_) (fun c2 => ?_)
    · skip
      refine v_ldc C (v := -1000001) (by decide +kernel) dX5_tie_48 ?_
      exact v_iret C E (by first | rfl | (simp only [tieOk, tieB, decide_true, decide_false, decide_eq_true_eq, c1, of_decide_eq_true c1, c2, Int32.not_le.mpr c2, ↓reduceIte, Bool.false_eq_true, reduceCtorEq, Bool.and_true, Bool.true_and, Bool.and_false, Bool.false_and]; done) | (simp [tieOk, tieB, decide_true, decide_false, decide_eq_true_eq, c1, of_decide_eq_true c1, c2, Int32.not_le.mpr c2]; done) | (simp_all [tieOk, tieB, decide_true, decide_false, decide_eq_true_eq]; done)) (by first | rfl | (simp only [tieOk, tieB, decide_true, decide_false, decide_eq_true_eq, c1, of_decide_eq_true c1, c2, Int32.not_le.mpr c2, ↓reduceIte, Bool.false_eq_true, reduceCtorEq, Bool.and_true, Bool.true_and, Bool.and_false, Bool.false_and]; done) | (simp [tieOk, tieB, decide_true, decide_false, decide_eq_true_eq, c1, of_decide_eq_true c1, c2, Int32.not_le.mpr c2]; done) | (simp_all [tieOk, tieB, decide_true, decide_false, decide_eq_true_eq]; done)) dX5_tie_50
    · skip
      refine v_iload_n C 1 dX5_tie_18 rfl ?_
      refine v_iconst C (v := 5) dX5_tie_19 (by decide) ?_
      refine v_icmp_gt C 48 dX5_tie_20 (by decide) (fun c3 => ?_) (fun c3 => ?_)
      · skip
        refine v_ldc C (v := -1000001) (by decide +kernel) dX5_tie_48 ?_
        exact v_iret C E (by first | rfl | (simp only [tieOk, tieB, decide_true, decide_false, decide_eq_true_eq, c1, of_decide_eq_true c1, c2, Int32.not_lt.mp c2, c3, Int32.not_le.mpr c3, ↓reduceIte, Bool.false_eq_true, reduceCtorEq, Bool.and_true, Bool.true_and, Bool.and_false, Bool.false_and]; done) | (simp [tieOk, tieB, decide_true, decide_false, decide_eq_true_eq, c1, of_decide_eq_true c1, c2, Int32.not_lt.mp c2, c3, Int32.not_le.mpr c3]; done) | (simp_all [tieOk, tieB, decide_true, decide_false, decide_eq_true_eq]; done)) (by first | rfl | (simp only [tieOk, tieB, decide_true, decide_false, decide_eq_true_eq, c1, of_decide_eq_true c1, c2, Int32.not_lt.mp c2, c3, Int32.not_le.mpr c3, ↓reduceIte, Bool.false_eq_true, reduceCtorEq, Bool.and_true, Bool.true_and, Bool.and_false, Bool.false_and]; done) | (simp [tieOk, tieB, decide_true, decide_false, decide_eq_true_eq, c1, of_decide_eq_true c1, c2, Int32.not_lt.mp c2, c3, Int32.not_le.mpr c3]; done) | (simp_all [tieOk, tieB, decide_true, decide_false, decide_eq_true_eq]; done)) dX5_tie_50
      · skip
        refine v_iload_n C 2 dX5_tie_23 rfl ?_
        refine v_if_eq C 48 dX5_tie_24 (by decide) (fun c4 => ?_) (fun c4 => ?_)
        · skip
          refine v_ldc C (v := -1000001) (by decide +kernel) dX5_tie_48 ?_
          exact v_iret C E (by first | rfl | (simp only [tieOk, tieB, decide_true, decide_false, decide_eq_true_eq, c1, of_decide_eq_true c1, c2, Int32.not_lt.mp c2, c3, Int32.not_lt.mp c3, c4, ↓reduceIte, Bool.false_eq_true, reduceCtorEq, Bool.and_true, Bool.true_and, Bool.and_false, Bool.false_and]; done) | (simp [tieOk, tieB, decide_true, decide_false, decide_eq_true_eq, c1, of_decide_eq_true c1, c2, Int32.not_lt.mp c2, c3, Int32.not_lt.mp c3, c4]; done) | (simp_all [tieOk, tieB, decide_true, decide_false, decide_eq_true_eq]; done)) (by first | rfl | (simp only [tieOk, tieB, decide_true, decide_false, decide_eq_true_eq, c1, of_decide_eq_true c1, c2, Int32.not_lt.mp c2, c3, Int32.not_lt.mp c3, c4, ↓reduceIte, Bool.false_eq_true, reduceCtorEq, Bool.and_true, Bool.true_and, Bool.and_false, Bool.false_and]; done) | (simp [tieOk, tieB, decide_true, decide_false, decide_eq_true_eq, c1, of_decide_eq_true c1, c2, Int32.not_lt.mp c2, c3, Int32.not_lt.mp c3, c4]; done) | (simp_all [tieOk, tieB, decide_true, decide_false, decide_eq_true_eq]; done)) dX5_tie_50
        · skip
          refine v_aload_n C 0 dX5_tie_27 rfl ?_
          refine v_get C (v := .ref ta) fl_X5_tie_26 0 rfl rfl dX5_tie_28 ?_
          refine v_iload_n C 2 dX5_tie_31 rfl ?_
          refine v_callVN (qi := 0) C [.int y] [] kX4_isSet gX5_tie_X4_isSet_n141 (host := "TableShares") (by decide +kernel) nq_X5_tie_X4_isSet (c_isSet l D cs (ta := ta) (tk := tk) (tq := tq) (tw := tw) (pe := pe) (ti := (nI tn)) (aw := aw) (me := me) (sp := sp) (x := y) ) ⟨Nat.le_of_ble_eq_true rfl, Nat.le_of_ble_eq_true rfl⟩ ⟨rfl, rfl⟩ ⟨Nat.zero_le _, Nat.zero_le _⟩ rfl 1 rfl rfl rfl rfl (Nat.le_of_ble_eq_true rfl) [1] [(xo, .inr (5, [.ref xr, .ref xd, .ref ta, .ref tb, .ref xi, .ref aa, .ref sa, .int lf, .int fg])), (ta, .inr (4, [.ref tk, .ref tq, .ref tw, .int pe, .int (nI tn), .int aw, .int me, .int sp])), (tk, .inl (cs 0, 8, .inl kf)), (tq, .inl (cs 0, 8, .inl sf)), (tw, .inl (cs 0, 8, .inl wf)), (aa, .inr (0, [.ref ap, .int (nI kn)])), (ap, .inl (cs 0, 96, .inl af))] rfl (by decide) (show [ta] = [ta] from rfl) (rfl) dX5_tie_32 ?_
          refine V.sts (st' := [.int (b2 (setB pe y))]) rfl ?_
          refine v_if_eqB C 48 dX5_tie_35 (by decide) (fun c5 => ?_) (fun c5 => ?_)
          · skip
            refine v_ldc C (v := -1000001) (by decide +kernel) dX5_tie_48 ?_
            exact v_iret C E (by first | rfl | (simp only [tieOk, tieB, decide_true, decide_false, decide_eq_true_eq, c1, of_decide_eq_true c1, c2, Int32.not_lt.mp c2, c3, Int32.not_lt.mp c3, c4, c5, ↓reduceIte, Bool.false_eq_true, reduceCtorEq, Bool.and_true, Bool.true_and, Bool.and_false, Bool.false_and]; done) | (simp [tieOk, tieB, decide_true, decide_false, decide_eq_true_eq, c1, of_decide_eq_true c1, c2, Int32.not_lt.mp c2, c3, Int32.not_lt.mp c3, c4, c5]; done) | (simp_all [tieOk, tieB, decide_true, decide_false, decide_eq_true_eq]; done)) (by first | rfl | (simp only [tieOk, tieB, decide_true, decide_false, decide_eq_true_eq, c1, of_decide_eq_true c1, c2, Int32.not_lt.mp c2, c3, Int32.not_lt.mp c3, c4, c5, ↓reduceIte, Bool.false_eq_true, reduceCtorEq, Bool.and_true, Bool.true_and, Bool.and_false, Bool.false_and]; done) | (simp [tieOk, tieB, decide_true, decide_false, decide_eq_true_eq, c1, of_decide_eq_true c1, c2, Int32.not_lt.mp c2, c3, Int32.not_lt.mp c3, c4, c5]; done) | (simp_all [tieOk, tieB, decide_true, decide_false, decide_eq_true_eq]; done)) dX5_tie_50
          · skip
            refine v_iload_n C 3 dX5_tie_38 rfl ?_
            refine v_if_lt C 48 dX5_tie_39 (by decide) (fun c6 => ?_) (fun c6 => ?_)
            · skip
              refine v_ldc C (v := -1000001) (by decide +kernel) dX5_tie_48 ?_
              exact v_iret C E (by first | rfl | (simp only [tieOk, tieB, decide_true, decide_false, decide_eq_true_eq, c1, of_decide_eq_true c1, c2, Int32.not_lt.mp c2, c3, Int32.not_lt.mp c3, c4, c5, c6, Int32.not_le.mpr c6, ↓reduceIte, Bool.false_eq_true, reduceCtorEq, Bool.and_true, Bool.true_and, Bool.and_false, Bool.false_and]; done) | (simp [tieOk, tieB, decide_true, decide_false, decide_eq_true_eq, c1, of_decide_eq_true c1, c2, Int32.not_lt.mp c2, c3, Int32.not_lt.mp c3, c4, c5, c6, Int32.not_le.mpr c6]; done) | (simp_all [tieOk, tieB, decide_true, decide_false, decide_eq_true_eq]; done)) (by first | rfl | (simp only [tieOk, tieB, decide_true, decide_false, decide_eq_true_eq, c1, of_decide_eq_true c1, c2, Int32.not_lt.mp c2, c3, Int32.not_lt.mp c3, c4, c5, c6, Int32.not_le.mpr c6, ↓reduceIte, Bool.false_eq_true, reduceCtorEq, Bool.and_true, Bool.true_and, Bool.and_false, Bool.false_and]; done) | (simp [tieOk, tieB, decide_true, decide_false, decide_eq_true_eq, c1, of_decide_eq_true c1, c2, Int32.not_lt.mp c2, c3, Int32.not_lt.mp c3, c4, c5, c6, Int32.not_le.mpr c6]; done) | (simp_all [tieOk, tieB, decide_true, decide_false, decide_eq_true_eq]; done)) dX5_tie_50
            · skip
              refine v_iload_n C 3 dX5_tie_42 rfl ?_
              refine v_bipush C (v := 40) dX5_tie_43 (by decide) ?_
              refine v_icmp_le C 51 dX5_tie_45 (by decide) (fun c7 => ?_) (fun c7 => ?_)
              · skip
                refine v_aload_n C 0 dX5_tie_51 rfl ?_
                refine v_get C (v := .ref ta) fl_X5_tie_26 0 rfl rfl dX5_tie_52 ?_
                refine v_getN C (v := .int (nI tn)) fn_X5_tie_120 1 rfl rfl dX5_tie_55 ?_
                refine v_bipush C (v := 8) dX5_tie_58 (by decide) ?_
                refine v_icmp_lt C 66 dX5_tie_60 (by decide) (fun c8 => ?_) (fun c8 => ?_)
                · skip
                  have hlt : tn < 8 := lt_nI (a := tn) (b := 8) c8 (by first | omega | skip) (by decide)
                  refine v_aload_n C 0 dX5_tie_66 rfl ?_
                  refine v_get C (v := .ref aa) fl_X5_tie_40 0 rfl rfl dX5_tie_67 ?_
                  refine v_iconst C (v := 1) dX5_tie_70 (by decide) ?_
                  refine v_iconst C (v := 0) dX5_tie_71 (by decide) ?_
                  refine v_iconst C (v := 0) dX5_tie_72 (by decide) ?_
                  refine v_iconst C (v := 0) dX5_tie_73 (by decide) ?_
                  refine v_callVN (qi := 0) C [.int 1, .int 0, .int 0, .int 0] [] kX0_keep gX5_tie_X0_keep_n134 (host := "TableShares") (by decide +kernel) nq_X5_tie_X0_keep (c_keep l D cs (aa := aa) (ap := ap) (af := af) (kn := kn) (x0 := 1) (x1 := 0) (x2 := 0) (x3 := 0) (by first | assumption | omega)) ⟨Nat.le_of_ble_eq_true rfl, Nat.le_of_ble_eq_true rfl⟩ ⟨rfl, rfl⟩ ⟨Nat.zero_le _, Nat.zero_le _⟩ rfl 5 rfl rfl rfl rfl (Nat.le_of_ble_eq_true rfl) [5, 6] [(xo, .inr (5, [.ref xr, .ref xd, .ref ta, .ref tb, .ref xi, .ref aa, .ref sa, .int lf, .int fg])), (ta, .inr (4, [.ref tk, .ref tq, .ref tw, .int pe, .int (nI tn), .int aw, .int me, .int sp])), (tk, .inl (cs 0, 8, .inl kf)), (tq, .inl (cs 0, 8, .inl sf)), (tw, .inl (cs 0, 8, .inl wf)), (aa, .inr (0, [.ref ap, .int (nI (kpN kn))])), (ap, .inl (cs 0, 96, .inl (kpF af kn 1 0 0 0)))] rfl (by decide) (show [aa, ap] = [aa, ap] from rfl) (rfl) dX5_tie_74 ?_
                  refine V.sts (st' := []) rfl ?_
                  refine v_aload_n C 0 dX5_tie_77 rfl ?_
                  refine v_get C (v := .ref ta) fl_X5_tie_26 0 rfl rfl dX5_tie_78 ?_
                  refine v_iload_n C 1 dX5_tie_81 rfl ?_
                  refine v_iload_n C 2 dX5_tie_82 rfl ?_
                  refine v_iload_n C 3 dX5_tie_83 rfl ?_
                  refine v_callVN (qi := 0) C [.int x, .int y, .int z] [] kX4_addTie gX5_tie_X4_addTie_n144 (host := "TableShares") (by decide +kernel) nq_X5_tie_X4_addTie (c_addTie l D cs (ta := ta) (tk := tk) (tq := tq) (tw := tw) (kf := kf) (sf := sf) (wf := wf) (pe := pe) (aw := aw) (me := me) (sp := sp) (tn := tn) (x0 := x) (x1 := y) (x2 := z) (hlt)) ⟨Nat.le_of_ble_eq_true rfl, Nat.le_of_ble_eq_true rfl⟩ ⟨rfl, rfl⟩ ⟨Nat.zero_le _, Nat.zero_le _⟩ rfl 1 rfl rfl rfl rfl (Nat.le_of_ble_eq_true rfl) [1, 2, 3, 4] [(xo, .inr (5, [.ref xr, .ref xd, .ref ta, .ref tb, .ref xi, .ref aa, .ref sa, .int lf, .int fg])), (ta, .inr (4, [.ref tk, .ref tq, .ref tw, .int pe, .int (nI (tn + 1)), .int aw, .int me, .int sp])), (tk, .inl (cs 0, 8, .inl (upd kf tn x))), (tq, .inl (cs 0, 8, .inl (upd sf tn y))), (tw, .inl (cs 0, 8, .inl (upd wf tn z))), (aa, .inr (0, [.ref ap, .int (nI (kpN kn))])), (ap, .inl (cs 0, 96, .inl (kpF af kn 1 0 0 0)))] rfl (by decide) (show [ta, tk, tq, tw] = [ta, tk, tq, tw] from rfl) (rfl) dX5_tie_84 ?_
                  refine V.sts (st' := []) rfl ?_
                  refine v_aload_n C 0 dX5_tie_87 rfl ?_
                  refine v_get C (v := .ref ta) fl_X5_tie_26 0 rfl rfl dX5_tie_88 ?_
                  refine v_getN C (v := .int (nI (tn + 1))) fn_X5_tie_120 1 rfl rfl dX5_tie_91 ?_
                  refine v_iconst C (v := 1) dX5_tie_94 (by decide) ?_
                  refine v_isub C dX5_tie_95 ?_
                  refine V.topr (y := nI tn) (nI_pred _) ?_
                  exact v_iret C E (by first | rfl | (simp only [tieOk, tieB, decide_true, decide_false, decide_eq_true_eq, c1, of_decide_eq_true c1, c2, Int32.not_lt.mp c2, c3, Int32.not_lt.mp c3, c4, c5, c6, Int32.not_lt.mp c6, c7, Int32.not_lt.mpr c7, c8, Int32.not_le.mpr c8, hlt, ↓reduceIte, Bool.false_eq_true, reduceCtorEq, Bool.and_true, Bool.true_and, Bool.and_false, Bool.false_and]; done) | (simp [tieOk, tieB, decide_true, decide_false, decide_eq_true_eq, c1, of_decide_eq_true c1, c2, Int32.not_lt.mp c2, c3, Int32.not_lt.mp c3, c4, c5, c6, Int32.not_lt.mp c6, c7, Int32.not_lt.mpr c7, c8, Int32.not_le.mpr c8, hlt]; done) | (simp_all [tieOk, tieB, decide_true, decide_false, decide_eq_true_eq]; done)) (by first | rfl | (simp only [tieOk, tieB, decide_true, decide_false, decide_eq_true_eq, c1, of_decide_eq_true c1, c2, Int32.not_lt.mp c2, c3, Int32.not_lt.mp c3, c4, c5, c6, Int32.not_lt.mp c6, c7, Int32.not_lt.mpr c7, c8, Int32.not_le.mpr c8, hlt, ↓reduceIte, Bool.false_eq_true, reduceCtorEq, Bool.and_true, Bool.true_and, Bool.and_false, Bool.false_and]; done) | (simp [tieOk, tieB, decide_true, decide_false, decide_eq_true_eq, c1, of_decide_eq_true c1, c2, Int32.not_lt.mp c2, c3, Int32.not_lt.mp c3, c4, c5, c6, Int32.not_lt.mp c6, c7, Int32.not_lt.mpr c7, c8, Int32.not_le.mpr c8, hlt]; done) | (simp_all [tieOk, tieB, decide_true, decide_false, decide_eq_true_eq]; done)) dX5_tie_96
                · skip
                  have hge : ¬ tn < 8 := Nat.not_lt.mpr (nlt_nI (a := tn) (b := 8) c8 (by first | omega | skip) (by decide))
                  refine v_ldc C (v := -1000003) (by decide +kernel) dX5_tie_63 ?_
                  exact v_iret C E (by first | rfl | (simp only [tieOk, tieB, decide_true, decide_false, decide_eq_true_eq, c1, of_decide_eq_true c1, c2, Int32.not_lt.mp c2, c3, Int32.not_lt.mp c3, c4, c5, c6, Int32.not_lt.mp c6, c7, Int32.not_lt.mpr c7, c8, Int32.not_lt.mp c8, hge, ↓reduceIte, Bool.false_eq_true, reduceCtorEq, Bool.and_true, Bool.true_and, Bool.and_false, Bool.false_and]; done) | (simp [tieOk, tieB, decide_true, decide_false, decide_eq_true_eq, c1, of_decide_eq_true c1, c2, Int32.not_lt.mp c2, c3, Int32.not_lt.mp c3, c4, c5, c6, Int32.not_lt.mp c6, c7, Int32.not_lt.mpr c7, c8, Int32.not_lt.mp c8, hge]; done) | (simp_all [tieOk, tieB, decide_true, decide_false, decide_eq_true_eq]; done)) (by first | rfl | (simp only [tieOk, tieB, decide_true, decide_false, decide_eq_true_eq, c1, of_decide_eq_true c1, c2, Int32.not_lt.mp c2, c3, Int32.not_lt.mp c3, c4, c5, c6, Int32.not_lt.mp c6, c7, Int32.not_lt.mpr c7, c8, Int32.not_lt.mp c8, hge, ↓reduceIte, Bool.false_eq_true, reduceCtorEq, Bool.and_true, Bool.true_and, Bool.and_false, Bool.false_and]; done) | (simp [tieOk, tieB, decide_true, decide_false, decide_eq_true_eq, c1, of_decide_eq_true c1, c2, Int32.not_lt.mp c2, c3, Int32.not_lt.mp c3, c4, c5, c6, Int32.not_lt.mp c6, c7, Int32.not_lt.mpr c7, c8, Int32.not_lt.mp c8, hge]; done) | (simp_all [tieOk, tieB, decide_true, decide_false, decide_eq_true_eq]; done)) dX5_tie_65
              · skip
                refine v_ldc C (v := -1000001) (by decide +kernel) dX5_tie_48 ?_
                exact v_iret C E (by first | rfl | (simp only [tieOk, tieB, decide_true, decide_false, decide_eq_true_eq, c1, of_decide_eq_true c1, c2, Int32.not_lt.mp c2, c3, Int32.not_lt.mp c3, c4, c5, c6, Int32.not_lt.mp c6, c7, Int32.not_le.mp c7, ↓reduceIte, Bool.false_eq_true, reduceCtorEq, Bool.and_true, Bool.true_and, Bool.and_false, Bool.false_and]; done) | (simp [tieOk, tieB, decide_true, decide_false, decide_eq_true_eq, c1, of_decide_eq_true c1, c2, Int32.not_lt.mp c2, c3, Int32.not_lt.mp c3, c4, c5, c6, Int32.not_lt.mp c6, c7, Int32.not_le.mp c7]; done) | (simp_all [tieOk, tieB, decide_true, decide_false, decide_eq_true_eq]; done)) (by first | rfl | (simp only [tieOk, tieB, decide_true, decide_false, decide_eq_true_eq, c1, of_decide_eq_true c1, c2, Int32.not_lt.mp c2, c3, Int32.not_lt.mp c3, c4, c5, c6, Int32.not_lt.mp c6, c7, Int32.not_le.mp c7, ↓reduceIte, Bool.false_eq_true, reduceCtorEq, Bool.and_true, Bool.true_and, Bool.and_false, Bool.false_and]; done) | (simp [tieOk, tieB, decide_true, decide_false, decide_eq_true_eq, c1, of_decide_eq_true c1, c2, Int32.not_lt.mp c2, c3, Int32.not_lt.mp c3, c4, c5, c6, Int32.not_lt.mp c6, c7, Int32.not_le.mp c7]; done) | (simp_all [tieOk, tieB, decide_true, decide_false, decide_eq_true_eq]; done)) dX5_tie_50
  · skip
    refine v_ldc C (v := -1000002) (by decide +kernel) dX5_tie_10 ?_
    exact v_iret C E (by first | rfl | (simp only [tieOk, tieB, decide_true, decide_false, decide_eq_true_eq, c1, of_decide_eq_false c1, ↓reduceIte, Bool.false_eq_true, reduceCtorEq, Bool.and_true, Bool.true_and, Bool.and_false, Bool.false_and]; done) | (simp [tieOk, tieB, decide_true, decide_false, decide_eq_true_eq, c1, of_decide_eq_false c1]; done) | (simp_all [tieOk, tieB, decide_true, decide_false, decide_eq_true_eq]; done)) (by first | rfl | (simp only [tieOk, tieB, decide_true, decide_false, decide_eq_true_eq, c1, of_decide_eq_false c1, ↓reduceIte, Bool.false_eq_true, reduceCtorEq, Bool.and_true, Bool.true_and, Bool.and_false, Bool.false_and]; done) | (simp [tieOk, tieB, decide_true, decide_false, decide_eq_true_eq, c1, of_decide_eq_false c1]; done) | (simp_all [tieOk, tieB, decide_true, decide_false, decide_eq_true_eq]; done)) dX5_tie_12
theorem kX5_untie : KD yX5_untie wsX5_untie cX5_untie 2 (some .int) 0 := ⟨⟨_, rfl⟩, by decide, by decide +kernel, by decide +kernel, by decide +kernel⟩
theorem in_X5_untie_X5 : ∀ w ∈ wsX50, w ∈ wsX5_untie := by decide +kernel
theorem fl_X5_untie_26 : FL RX5 wsX5_untie RX5 RX5 TX5 9 5 2 26 := ⟨⟨in_X5_untie_X5, rfl, by decide, rfl⟩, by decide +kernel⟩
theorem in_X5_untie_X4 : ∀ w ∈ wsX40, w ∈ wsX5_untie := by decide +kernel
theorem fn_X5_untie_120 : FLN RX5 wsX5_untie RX4 RX4 TX4 8 4 4 120 := ⟨⟨in_X5_untie_X4, rfl, by decide, rfl⟩, "TableShares", by decide +kernel⟩
set_option maxHeartbeats 4000000 in
set_option maxRecDepth 100000 in
theorem c_untie0 (l : Launch) (D : va_G) (cs : Nat → ClassId) {xo : Nat} {xr : Nat} {xd : Nat} {ta : Nat} {tb : Nat} {xi : Nat} {aa : Nat} {sa : Nat} {lf : Int32} {fg : Int32} {tk : Nat} {tq : Nat} {tw : Nat} {pe : Int32} {aw : Int32} {me : Int32} {sp : Int32} {ap : Nat} {kn : Int32} : CT l D (tz cs) yX5_untie wsX5_untie ({ frames := 3, cells := 0, slots := 0, locals := 68 }) [.ref xo] [(xo, .inr (5, [.ref xr, .ref xd, .ref ta, .ref tb, .ref xi, .ref aa, .ref sa, .int lf, .int fg])), (ta, .inr (4, [.ref tk, .ref tq, .ref tw, .int pe, .int 0, .int aw, .int me, .int sp])), (aa, .inr (0, [.ref ap, .int kn]))] (some (.int (-1000002))) [(xo, .inr (5, [.ref xr, .ref xd, .ref ta, .ref tb, .ref xi, .ref aa, .ref sa, .int lf, .int fg])), (ta, .inr (4, [.ref tk, .ref tq, .ref tw, .int pe, .int 0, .int aw, .int me, .int sp])), (aa, .inr (0, [.ref ap, .int kn]))] := by
  refine CT.of kX5_untie (Nat.le_of_ble_eq_true rfl) ?_
  intro p e s m below meth c A C E
  have C : VOk p s m _ c cX5_untie 2 wsX5_untie RX5 D (tz cs) A s.heap := C
  refine V.lvs (lv' := [(0, .ref xo)]) [0] rfl ?_
  refine v_aload_n C 0 dX5_untie_0 rfl ?_
  refine v_get C (v := .ref ta) fl_X5_untie_26 0 rfl rfl dX5_untie_1 ?_
  refine v_getN C (v := .int 0) fn_X5_untie_120 1 rfl rfl dX5_untie_4 ?_
  refine v_iconst C (v := 1) dX5_untie_7 (by decide) ?_
  refine v_isub C dX5_untie_8 ?_
  refine v_istore_n C [(0, .ref xo), (1, .int (0 - 1))] [1, 0] dX5_untie_9 (by decide) rfl ?_
  refine v_iload_n C 1 dX5_untie_10 rfl ?_
  refine v_if_ge C 17 dX5_untie_11 (by decide) (fun c1 => ?_) (fun c1 => ?_)
  · exact absurd c1 (by decide)
  · skip
    refine v_ldc C (v := -1000002) (by decide +kernel) dX5_untie_14 ?_
    exact v_iret C E (rfl) (by first | rfl | (simp [c1, ↓reduceIte]; done) | (simp_all [b2]; done)) dX5_untie_16
theorem fl_X5_untie_40 : FL RX5 wsX5_untie RX5 RX5 TX5 9 5 5 40 := ⟨⟨in_X5_untie_X5, rfl, by decide, rfl⟩, by decide +kernel⟩
theorem nq_X5_untie_X4_kindOf : Cond.initialized yX4_kindOf.cls ∈ wsX5_untie ∧ Cond.instanceMethod yX4_kindOf ∈ wsX5_untie ∧ Cond.selects yX4_kindOf.cls yX4_kindOf yX4_kindOf ∈ wsX5_untie := ⟨by decide +kernel, by decide +kernel, by decide +kernel⟩
theorem nq_X5_untie_X4_setOf : Cond.initialized yX4_setOf.cls ∈ wsX5_untie ∧ Cond.instanceMethod yX4_setOf ∈ wsX5_untie ∧ Cond.selects yX4_setOf.cls yX4_setOf yX4_setOf ∈ wsX5_untie := ⟨by decide +kernel, by decide +kernel, by decide +kernel⟩
theorem nq_X5_untie_X4_worthOf : Cond.initialized yX4_worthOf.cls ∈ wsX5_untie ∧ Cond.instanceMethod yX4_worthOf ∈ wsX5_untie ∧ Cond.selects yX4_worthOf.cls yX4_worthOf yX4_worthOf ∈ wsX5_untie := ⟨by decide +kernel, by decide +kernel, by decide +kernel⟩
theorem nq_X5_untie_X0_keep : Cond.initialized yX0_keep.cls ∈ wsX5_untie ∧ Cond.instanceMethod yX0_keep ∈ wsX5_untie ∧ Cond.selects yX0_keep.cls yX0_keep yX0_keep ∈ wsX5_untie := ⟨by decide +kernel, by decide +kernel, by decide +kernel⟩
theorem nq_X5_untie_X4_dropTie : Cond.initialized yX4_dropTie.cls ∈ wsX5_untie ∧ Cond.instanceMethod yX4_dropTie ∈ wsX5_untie ∧ Cond.selects yX4_dropTie.cls yX4_dropTie yX4_dropTie ∈ wsX5_untie := ⟨by decide +kernel, by decide +kernel, by decide +kernel⟩
set_option maxHeartbeats 4000000 in
set_option maxRecDepth 100000 in
theorem c_untieS (l : Launch) (D : va_G) (cs : Nat → ClassId) {xo : Nat} {xr : Nat} {xd : Nat} {ta : Nat} {tb : Nat} {xi : Nat} {aa : Nat} {sa : Nat} {lf : Int32} {fg : Int32} {tk : Nat} {tq : Nat} {tw : Nat} {kf : Nat → Int32} {sf : Nat → Int32} {wf : Nat → Int32} {pe : Int32} {aw : Int32} {me : Int32} {sp : Int32} {tn : Nat} {ap : Nat} {af : Nat → Int32} {kn : Nat} (hk : kn ≤ 24) (ht : tn < 8) : CT l D (tz cs) yX5_untie wsX5_untie ({ frames := 3, cells := 0, slots := 0, locals := 68 }) [.ref xo] [(xo, .inr (5, [.ref xr, .ref xd, .ref ta, .ref tb, .ref xi, .ref aa, .ref sa, .int lf, .int fg])), (ta, .inr (4, [.ref tk, .ref tq, .ref tw, .int pe, .int (nI (tn + 1)), .int aw, .int me, .int sp])), (tk, .inl (cs 0, 8, .inl kf)), (tq, .inl (cs 0, 8, .inl sf)), (tw, .inl (cs 0, 8, .inl wf)), (aa, .inr (0, [.ref ap, .int (nI kn)])), (ap, .inl (cs 0, 96, .inl af))] (some (.int (nI tn))) [(xo, .inr (5, [.ref xr, .ref xd, .ref ta, .ref tb, .ref xi, .ref aa, .ref sa, .int lf, .int fg])), (ta, .inr (4, [.ref tk, .ref tq, .ref tw, .int pe, .int (nI tn), .int aw, .int me, .int sp])), (tk, .inl (cs 0, 8, .inl kf)), (tq, .inl (cs 0, 8, .inl sf)), (tw, .inl (cs 0, 8, .inl wf)), (aa, .inr (0, [.ref ap, .int (nI (kpN kn))])), (ap, .inl (cs 0, 96, .inl (kpF af kn 2 (kf tn) (sf tn) (wf tn))))] := by
  refine CT.of kX5_untie (Nat.le_of_ble_eq_true rfl) ?_
  intro p e s m below meth c A C E
  have C : VOk p s m _ c cX5_untie 2 wsX5_untie RX5 D (tz cs) A s.heap := C
  refine V.lvs (lv' := [(0, .ref xo)]) [0] rfl ?_
  refine v_aload_n C 0 dX5_untie_0 rfl ?_
  refine v_get C (v := .ref ta) fl_X5_untie_26 0 rfl rfl dX5_untie_1 ?_
  refine v_getN C (v := .int (nI (tn + 1))) fn_X5_untie_120 1 rfl rfl dX5_untie_4 ?_
  refine v_iconst C (v := 1) dX5_untie_7 (by decide) ?_
  refine v_isub C dX5_untie_8 ?_
  refine V.topr (y := nI tn) (nI_pred _) ?_
  refine v_istore_n C [(0, .ref xo), (1, .int (nI tn))] [1, 0] dX5_untie_9 (by decide) rfl ?_
  refine v_iload_n C 1 dX5_untie_10 rfl ?_
  refine v_if_ge C 17 dX5_untie_11 (by decide) (fun c1 => ?_) (fun c1 => ?_)
  · skip
    refine v_aload_n C 0 dX5_untie_17 rfl ?_
    refine v_get C (v := .ref aa) fl_X5_untie_40 0 rfl rfl dX5_untie_18 ?_
    refine v_iconst C (v := 2) dX5_untie_21 (by decide) ?_
    refine v_aload_n C 0 dX5_untie_22 rfl ?_
    refine v_get C (v := .ref ta) fl_X5_untie_26 0 rfl rfl dX5_untie_23 ?_
    refine v_iload_n C 1 dX5_untie_26 rfl ?_
    refine v_callVN (qi := 0) C [.int (nI tn)] [.int 2, .ref aa] kX4_kindOf gX5_untie_X4_kindOf_n148 (host := "TableShares") (by decide +kernel) nq_X5_untie_X4_kindOf (c_kindOf l D cs (ta := ta) (tk := tk) (tq := tq) (tw := tw) (pe := pe) (ti := (nI (tn + 1))) (aw := aw) (me := me) (sp := sp) (kf := kf) (x := nI tn) ) ⟨Nat.le_of_ble_eq_true rfl, Nat.le_of_ble_eq_true rfl⟩ ⟨rfl, rfl⟩ ⟨Nat.zero_le _, Nat.zero_le _⟩ rfl 1 rfl rfl rfl rfl (Nat.le_of_ble_eq_true rfl) [1, 2] [(xo, .inr (5, [.ref xr, .ref xd, .ref ta, .ref tb, .ref xi, .ref aa, .ref sa, .int lf, .int fg])), (ta, .inr (4, [.ref tk, .ref tq, .ref tw, .int pe, .int (nI (tn + 1)), .int aw, .int me, .int sp])), (tk, .inl (cs 0, 8, .inl kf)), (tq, .inl (cs 0, 8, .inl sf)), (tw, .inl (cs 0, 8, .inl wf)), (aa, .inr (0, [.ref ap, .int (nI kn)])), (ap, .inl (cs 0, 96, .inl af))] rfl (by decide) (show [ta, tk] = [ta, tk] from rfl) (rfl) dX5_untie_27 ?_
    refine V.sts (st' := [.int (gA kf 8 (nI tn)), .int 2, .ref aa]) rfl ?_
    refine V.topr (y := kf tn) (gA_in ht (by decide)) ?_
    refine v_aload_n C 0 dX5_untie_30 rfl ?_
    refine v_get C (v := .ref ta) fl_X5_untie_26 0 rfl rfl dX5_untie_31 ?_
    refine v_iload_n C 1 dX5_untie_34 rfl ?_
    refine v_callVN (qi := 0) C [.int (nI tn)] [.int (kf tn), .int 2, .ref aa] kX4_setOf gX5_untie_X4_setOf_n151 (host := "TableShares") (by decide +kernel) nq_X5_untie_X4_setOf (c_setOf l D cs (ta := ta) (tk := tk) (tq := tq) (tw := tw) (pe := pe) (ti := (nI (tn + 1))) (aw := aw) (me := me) (sp := sp) (sf := sf) (x := nI tn) ) ⟨Nat.le_of_ble_eq_true rfl, Nat.le_of_ble_eq_true rfl⟩ ⟨rfl, rfl⟩ ⟨Nat.zero_le _, Nat.zero_le _⟩ rfl 1 rfl rfl rfl rfl (Nat.le_of_ble_eq_true rfl) [1, 3] [(xo, .inr (5, [.ref xr, .ref xd, .ref ta, .ref tb, .ref xi, .ref aa, .ref sa, .int lf, .int fg])), (ta, .inr (4, [.ref tk, .ref tq, .ref tw, .int pe, .int (nI (tn + 1)), .int aw, .int me, .int sp])), (tk, .inl (cs 0, 8, .inl kf)), (tq, .inl (cs 0, 8, .inl sf)), (tw, .inl (cs 0, 8, .inl wf)), (aa, .inr (0, [.ref ap, .int (nI kn)])), (ap, .inl (cs 0, 96, .inl af))] rfl (by decide) (show [ta, tq] = [ta, tq] from rfl) (rfl) dX5_untie_35 ?_
    refine V.sts (st' := [.int (gA sf 8 (nI tn)), .int (kf tn), .int 2, .ref aa]) rfl ?_
    refine V.topr (y := sf tn) (gA_in ht (by decide)) ?_
    refine v_aload_n C 0 dX5_untie_38 rfl ?_
    refine v_get C (v := .ref ta) fl_X5_untie_26 0 rfl rfl dX5_untie_39 ?_
    refine v_iload_n C 1 dX5_untie_42 rfl ?_
    refine v_callVN (qi := 0) C [.int (nI tn)] [.int (sf tn), .int (kf tn), .int 2, .ref aa] kX4_worthOf gX5_untie_X4_worthOf_n154 (host := "TableShares") (by decide +kernel) nq_X5_untie_X4_worthOf (c_worthOf l D cs (ta := ta) (tk := tk) (tq := tq) (tw := tw) (pe := pe) (ti := (nI (tn + 1))) (aw := aw) (me := me) (sp := sp) (wf := wf) (x := nI tn) ) ⟨Nat.le_of_ble_eq_true rfl, Nat.le_of_ble_eq_true rfl⟩ ⟨rfl, rfl⟩ ⟨Nat.zero_le _, Nat.zero_le _⟩ rfl 1 rfl rfl rfl rfl (Nat.le_of_ble_eq_true rfl) [1, 4] [(xo, .inr (5, [.ref xr, .ref xd, .ref ta, .ref tb, .ref xi, .ref aa, .ref sa, .int lf, .int fg])), (ta, .inr (4, [.ref tk, .ref tq, .ref tw, .int pe, .int (nI (tn + 1)), .int aw, .int me, .int sp])), (tk, .inl (cs 0, 8, .inl kf)), (tq, .inl (cs 0, 8, .inl sf)), (tw, .inl (cs 0, 8, .inl wf)), (aa, .inr (0, [.ref ap, .int (nI kn)])), (ap, .inl (cs 0, 96, .inl af))] rfl (by decide) (show [ta, tw] = [ta, tw] from rfl) (rfl) dX5_untie_43 ?_
    refine V.sts (st' := [.int (gA wf 8 (nI tn)), .int (sf tn), .int (kf tn), .int 2, .ref aa]) rfl ?_
    refine V.topr (y := wf tn) (gA_in ht (by decide)) ?_
    refine v_callVN (qi := 0) C [.int 2, .int (kf tn), .int (sf tn), .int (wf tn)] [] kX0_keep gX5_untie_X0_keep_n134 (host := "TableShares") (by decide +kernel) nq_X5_untie_X0_keep (c_keep l D cs (aa := aa) (ap := ap) (af := af) (kn := kn) (x0 := 2) (x1 := kf tn) (x2 := sf tn) (x3 := wf tn) (by first | assumption | omega)) ⟨Nat.le_of_ble_eq_true rfl, Nat.le_of_ble_eq_true rfl⟩ ⟨rfl, rfl⟩ ⟨Nat.zero_le _, Nat.zero_le _⟩ rfl 5 rfl rfl rfl rfl (Nat.le_of_ble_eq_true rfl) [5, 6] [(xo, .inr (5, [.ref xr, .ref xd, .ref ta, .ref tb, .ref xi, .ref aa, .ref sa, .int lf, .int fg])), (ta, .inr (4, [.ref tk, .ref tq, .ref tw, .int pe, .int (nI (tn + 1)), .int aw, .int me, .int sp])), (tk, .inl (cs 0, 8, .inl kf)), (tq, .inl (cs 0, 8, .inl sf)), (tw, .inl (cs 0, 8, .inl wf)), (aa, .inr (0, [.ref ap, .int (nI (kpN kn))])), (ap, .inl (cs 0, 96, .inl (kpF af kn 2 (kf tn) (sf tn) (wf tn))))] rfl (by decide) (show [aa, ap] = [aa, ap] from rfl) (rfl) dX5_untie_46 ?_
    refine V.sts (st' := []) rfl ?_
    refine v_aload_n C 0 dX5_untie_49 rfl ?_
    refine v_get C (v := .ref ta) fl_X5_untie_26 0 rfl rfl dX5_untie_50 ?_
    refine v_callVN (qi := 0) C [] [] kX4_dropTie gX5_untie_X4_dropTie_n157 (host := "TableShares") (by decide +kernel) nq_X5_untie_X4_dropTie (c_dropTie l D cs (ta := ta) (tk := tk) (tq := tq) (tw := tw) (kf := kf) (sf := sf) (wf := wf) (pe := pe) (aw := aw) (me := me) (sp := sp) (tn := tn) (by first | assumption | omega)) ⟨Nat.le_of_ble_eq_true rfl, Nat.le_of_ble_eq_true rfl⟩ ⟨rfl, rfl⟩ ⟨Nat.zero_le _, Nat.zero_le _⟩ rfl 1 rfl rfl rfl rfl (Nat.le_of_ble_eq_true rfl) [1, 2, 3, 4] [(xo, .inr (5, [.ref xr, .ref xd, .ref ta, .ref tb, .ref xi, .ref aa, .ref sa, .int lf, .int fg])), (ta, .inr (4, [.ref tk, .ref tq, .ref tw, .int pe, .int (nI tn), .int aw, .int me, .int sp])), (tk, .inl (cs 0, 8, .inl kf)), (tq, .inl (cs 0, 8, .inl sf)), (tw, .inl (cs 0, 8, .inl wf)), (aa, .inr (0, [.ref ap, .int (nI (kpN kn))])), (ap, .inl (cs 0, 96, .inl (kpF af kn 2 (kf tn) (sf tn) (wf tn))))] rfl (by decide) (show [ta, tk, tq, tw] = [ta, tk, tq, tw] from rfl) (rfl) dX5_untie_53 ?_
    refine V.sts (st' := []) rfl ?_
    refine v_aload_n C 0 dX5_untie_56 rfl ?_
    refine v_get C (v := .ref ta) fl_X5_untie_26 0 rfl rfl dX5_untie_57 ?_
    refine v_getN C (v := .int (nI tn)) fn_X5_untie_120 1 rfl rfl dX5_untie_60 ?_
    exact v_iret C E (rfl) (by first | rfl | (simp [hk, ht, c1, ↓reduceIte]; done) | (simp_all [b2]; done)) dX5_untie_63
  · exact absurd (nI_pos' (n := tn) (by omega)) c1
theorem kX5_undo : KD yX5_undo wsX5_undo cX5_undo 2 (some .int) 0 := ⟨⟨_, rfl⟩, by decide, by decide +kernel, by decide +kernel, by decide +kernel⟩
theorem in_X5_undo_X5 : ∀ w ∈ wsX50, w ∈ wsX5_undo := by decide +kernel
theorem fl_X5_undo_40 : FL RX5 wsX5_undo RX5 RX5 TX5 9 5 5 40 := ⟨⟨in_X5_undo_X5, rfl, by decide, rfl⟩, by decide +kernel⟩
theorem in_X5_undo_X0 : ∀ w ∈ wsX00, w ∈ wsX5_undo := by decide +kernel
theorem fn_X5_undo_173 : FLN RX5 wsX5_undo RX0 RX0 TX0 2 0 1 173 := ⟨⟨in_X5_undo_X0, rfl, by decide, rfl⟩, "TableShares", by decide +kernel⟩
set_option maxHeartbeats 4000000 in
set_option maxRecDepth 100000 in
theorem c_undo0 (l : Launch) (D : va_G) (cs : Nat → ClassId) {xo : Nat} {xr : Nat} {xd : Nat} {ta : Nat} {tb : Nat} {xi : Nat} {aa : Nat} {sa : Nat} {lf : Int32} {fg : Int32} {ap : Nat} : CT l D (tz cs) yX5_undo wsX5_undo ({ frames := 2, cells := 0, slots := 0, locals := 45 }) [.ref xo] [(xo, .inr (5, [.ref xr, .ref xd, .ref ta, .ref tb, .ref xi, .ref aa, .ref sa, .int lf, .int fg])), (aa, .inr (0, [.ref ap, .int 0]))] (some (.int (-1000002))) [(xo, .inr (5, [.ref xr, .ref xd, .ref ta, .ref tb, .ref xi, .ref aa, .ref sa, .int lf, .int fg])), (aa, .inr (0, [.ref ap, .int 0]))] := by
  refine CT.of kX5_undo (Nat.le_of_ble_eq_true rfl) ?_
  intro p e s m below meth c A C E
  have C : VOk p s m _ c cX5_undo 2 wsX5_undo RX5 D (tz cs) A s.heap := C
  refine V.lvs (lv' := [(0, .ref xo)]) [0] rfl ?_
  refine v_aload_n C 0 dX5_undo_0 rfl ?_
  refine v_get C (v := .ref aa) fl_X5_undo_40 0 rfl rfl dX5_undo_1 ?_
  refine v_getN C (v := .int 0) fn_X5_undo_173 1 rfl rfl dX5_undo_4 ?_
  refine v_if_gt C 13 dX5_undo_7 (by decide) (fun c1 => ?_) (fun c1 => ?_)
  · exact absurd c1 (by decide)
  · skip
    refine v_ldc C (v := -1000002) (by decide +kernel) dX5_undo_10 ?_
    exact v_iret C E (rfl) (by first | rfl | (simp [c1, ↓reduceIte]; done) | (simp_all [b2]; done)) dX5_undo_12
theorem nq_X5_undo_X0_latest : Cond.initialized yX0_latest.cls ∈ wsX5_undo ∧ Cond.instanceMethod yX0_latest ∈ wsX5_undo ∧ Cond.selects yX0_latest.cls yX0_latest yX0_latest ∈ wsX5_undo := ⟨by decide +kernel, by decide +kernel, by decide +kernel⟩
theorem fl_X5_undo_26 : FL RX5 wsX5_undo RX5 RX5 TX5 9 5 2 26 := ⟨⟨in_X5_undo_X5, rfl, by decide, rfl⟩, by decide +kernel⟩
theorem in_X5_undo_X4 : ∀ w ∈ wsX40, w ∈ wsX5_undo := by decide +kernel
theorem fn_X5_undo_130 : FLN RX5 wsX5_undo RX4 RX4 TX4 8 4 5 130 := ⟨⟨in_X5_undo_X4, rfl, by decide, rfl⟩, "TableShares", by decide +kernel⟩
theorem nq_X5_undo_X0_forgetLatest : Cond.initialized yX0_forgetLatest.cls ∈ wsX5_undo ∧ Cond.instanceMethod yX0_forgetLatest ∈ wsX5_undo ∧ Cond.selects yX0_forgetLatest.cls yX0_forgetLatest yX0_forgetLatest ∈ wsX5_undo := ⟨by decide +kernel, by decide +kernel, by decide +kernel⟩
set_option maxHeartbeats 4000000 in
set_option maxRecDepth 100000 in
theorem c_undoA (l : Launch) (D : va_G) (cs : Nat → ClassId) {xo : Nat} {xr : Nat} {xd : Nat} {ta : Nat} {tb : Nat} {xi : Nat} {aa : Nat} {sa : Nat} {lf : Int32} {fg : Int32} {tk : Nat} {tq : Nat} {tw : Nat} {kf : Nat → Int32} {sf : Nat → Int32} {wf : Nat → Int32} {pe : Int32} {ti : Int32} {aw : Int32} {me : Int32} {sp : Int32} {ap : Nat} {af : Nat → Int32} {kn : Nat} (hk : kn < 24) (h0 : af (4 * kn) = 0) : CT l D (tz cs) yX5_undo wsX5_undo ({ frames := 2, cells := 0, slots := 0, locals := 45 }) [.ref xo] [(xo, .inr (5, [.ref xr, .ref xd, .ref ta, .ref tb, .ref xi, .ref aa, .ref sa, .int lf, .int fg])), (ta, .inr (4, [.ref tk, .ref tq, .ref tw, .int pe, .int ti, .int aw, .int me, .int sp])), (tk, .inl (cs 0, 8, .inl kf)), (tq, .inl (cs 0, 8, .inl sf)), (tw, .inl (cs 0, 8, .inl wf)), (aa, .inr (0, [.ref ap, .int (nI (kn + 1))])), (ap, .inl (cs 0, 96, .inl af))] (some (.int (nI kn))) [(xo, .inr (5, [.ref xr, .ref xd, .ref ta, .ref tb, .ref xi, .ref aa, .ref sa, .int lf, .int fg])), (ta, .inr (4, [.ref tk, .ref tq, .ref tw, .int pe, .int ti, .int (af (4 * kn + 1)), .int me, .int sp])), (tk, .inl (cs 0, 8, .inl kf)), (tq, .inl (cs 0, 8, .inl sf)), (tw, .inl (cs 0, 8, .inl wf)), (aa, .inr (0, [.ref ap, .int (nI kn)])), (ap, .inl (cs 0, 96, .inl af))] := by
  refine CT.of kX5_undo (Nat.le_of_ble_eq_true rfl) ?_
  intro p e s m below meth c A C E
  have C : VOk p s m _ c cX5_undo 2 wsX5_undo RX5 D (tz cs) A s.heap := C
  refine V.lvs (lv' := [(0, .ref xo)]) [0] rfl ?_
  refine v_aload_n C 0 dX5_undo_0 rfl ?_
  refine v_get C (v := .ref aa) fl_X5_undo_40 0 rfl rfl dX5_undo_1 ?_
  refine v_getN C (v := .int (nI (kn + 1))) fn_X5_undo_173 5 rfl rfl dX5_undo_4 ?_
  refine v_if_gt C 13 dX5_undo_7 (by decide) (fun c1 => ?_) (fun c1 => ?_)
  · skip
    refine v_aload_n C 0 dX5_undo_13 rfl ?_
    refine v_get C (v := .ref aa) fl_X5_undo_40 0 rfl rfl dX5_undo_14 ?_
    refine v_iconst C (v := 1) dX5_undo_17 (by decide) ?_
    refine v_callVN (qi := 0) C [.int 1] [] kX0_latest gX5_undo_X0_latest_n176 (host := "TableShares") (by decide +kernel) nq_X5_undo_X0_latest (c_latest l D cs (aa := aa) (ap := ap) (af := af) (kn := (nI (kn + 1))) (x := 1) ) ⟨Nat.le_of_ble_eq_true rfl, Nat.le_of_ble_eq_true rfl⟩ ⟨rfl, rfl⟩ ⟨Nat.zero_le _, Nat.zero_le _⟩ rfl 5 rfl rfl rfl rfl (Nat.le_of_ble_eq_true rfl) [5, 6] [(xo, .inr (5, [.ref xr, .ref xd, .ref ta, .ref tb, .ref xi, .ref aa, .ref sa, .int lf, .int fg])), (ta, .inr (4, [.ref tk, .ref tq, .ref tw, .int pe, .int ti, .int aw, .int me, .int sp])), (tk, .inl (cs 0, 8, .inl kf)), (tq, .inl (cs 0, 8, .inl sf)), (tw, .inl (cs 0, 8, .inl wf)), (aa, .inr (0, [.ref ap, .int (nI (kn + 1))])), (ap, .inl (cs 0, 96, .inl af))] rfl (by decide) (show [aa, ap] = [aa, ap] from rfl) (rfl) dX5_undo_18 ?_
    refine V.sts (st' := [.int (gA af 96 (((nI (kn + 1)) - 1) * 4 + 1))]) rfl ?_
    refine V.topr (y := af (4 * kn + 1)) (lat_1 (by omega)) ?_
    refine v_istore_n C [(0, .ref xo), (1, .int (af (4 * kn + 1)))] [1, 0] dX5_undo_21 (by decide) rfl ?_
    refine v_aload_n C 0 dX5_undo_22 rfl ?_
    refine v_get C (v := .ref aa) fl_X5_undo_40 0 rfl rfl dX5_undo_23 ?_
    refine v_iconst C (v := 0) dX5_undo_26 (by decide) ?_
    refine v_callVN (qi := 0) C [.int 0] [] kX0_latest gX5_undo_X0_latest_n176 (host := "TableShares") (by decide +kernel) nq_X5_undo_X0_latest (c_latest l D cs (aa := aa) (ap := ap) (af := af) (kn := (nI (kn + 1))) (x := 0) ) ⟨Nat.le_of_ble_eq_true rfl, Nat.le_of_ble_eq_true rfl⟩ ⟨rfl, rfl⟩ ⟨Nat.zero_le _, Nat.zero_le _⟩ rfl 5 rfl rfl rfl rfl (Nat.le_of_ble_eq_true rfl) [5, 6] [(xo, .inr (5, [.ref xr, .ref xd, .ref ta, .ref tb, .ref xi, .ref aa, .ref sa, .int lf, .int fg])), (ta, .inr (4, [.ref tk, .ref tq, .ref tw, .int pe, .int ti, .int aw, .int me, .int sp])), (tk, .inl (cs 0, 8, .inl kf)), (tq, .inl (cs 0, 8, .inl sf)), (tw, .inl (cs 0, 8, .inl wf)), (aa, .inr (0, [.ref ap, .int (nI (kn + 1))])), (ap, .inl (cs 0, 96, .inl af))] rfl (by decide) (show [aa, ap] = [aa, ap] from rfl) (rfl) dX5_undo_27 ?_
    refine V.sts (st' := [.int (gA af 96 (((nI (kn + 1)) - 1) * 4 + 0))]) rfl ?_
    refine V.topr (y := 0) ((lat_0 (by omega)).trans h0) ?_
    refine v_tableIn C (off := 26) 56 dX5_undo_30 (by decide) (by decide) (by rfl) (by decide) ?_
    refine v_aload_n C 0 dX5_undo_56 rfl ?_
    refine v_get C (v := .ref ta) fl_X5_undo_26 0 rfl rfl dX5_undo_57 ?_
    refine v_iload_n C 1 dX5_undo_60 rfl ?_
    refine v_putN C fn_X5_undo_130 fp_X4_5 1 rfl rfl rfl (Nat.le_of_ble_eq_true rfl) [(xo, .inr (5, [.ref xr, .ref xd, .ref ta, .ref tb, .ref xi, .ref aa, .ref sa, .int lf, .int fg])), (ta, .inr (4, [.ref tk, .ref tq, .ref tw, .int pe, .int ti, .int (af (4 * kn + 1)), .int me, .int sp])), (tk, .inl (cs 0, 8, .inl kf)), (tq, .inl (cs 0, 8, .inl sf)), (tw, .inl (cs 0, 8, .inl wf)), (aa, .inr (0, [.ref ap, .int (nI (kn + 1))])), (ap, .inl (cs 0, 96, .inl af))] rfl dX5_undo_61 ?_
    refine v_goto C 130 dX5_undo_64 (by decide) ?_
    refine v_aload_n C 0 dX5_undo_130 rfl ?_
    refine v_get C (v := .ref aa) fl_X5_undo_40 0 rfl rfl dX5_undo_131 ?_
    refine v_callVN (qi := 0) C [] [] kX0_forgetLatest gX5_undo_X0_forgetLatest_n179 (host := "TableShares") (by decide +kernel) nq_X5_undo_X0_forgetLatest (c_forgetLatest l D cs (aa := aa) (ap := ap) (kn := (nI (kn + 1))) ) ⟨Nat.le_of_ble_eq_true rfl, Nat.le_of_ble_eq_true rfl⟩ ⟨rfl, rfl⟩ ⟨Nat.zero_le _, Nat.zero_le _⟩ rfl 5 rfl rfl rfl rfl (Nat.le_of_ble_eq_true rfl) [5] [(xo, .inr (5, [.ref xr, .ref xd, .ref ta, .ref tb, .ref xi, .ref aa, .ref sa, .int lf, .int fg])), (ta, .inr (4, [.ref tk, .ref tq, .ref tw, .int pe, .int ti, .int (af (4 * kn + 1)), .int me, .int sp])), (tk, .inl (cs 0, 8, .inl kf)), (tq, .inl (cs 0, 8, .inl sf)), (tw, .inl (cs 0, 8, .inl wf)), (aa, .inr (0, [.ref ap, .int ((nI (kn + 1)) - 1)])), (ap, .inl (cs 0, 96, .inl af))] rfl (by decide) (show [aa] = [aa] from rfl) (rfl) dX5_undo_134 ?_
    refine V.sts (st' := []) rfl ?_
    refine v_aload_n C 0 dX5_undo_137 rfl ?_
    refine v_get C (v := .ref aa) fl_X5_undo_40 0 rfl rfl dX5_undo_138 ?_
    refine v_getN C (v := .int ((nI (kn + 1)) - 1)) fn_X5_undo_173 5 rfl rfl dX5_undo_141 ?_
    refine V.topr (y := nI kn) (nI_pred _) ?_
    exact v_iret C E (by rw [nI_pred]) (by first | rfl | (simp [hk, h0, c1, ↓reduceIte]; done) | (simp_all [b2]; done)) dX5_undo_144
  · exact absurd (nI_lt (a := 0) (b := kn + 1) (by omega) (by omega)) c1
theorem nq_X5_undo_X4_dropTie : Cond.initialized yX4_dropTie.cls ∈ wsX5_undo ∧ Cond.instanceMethod yX4_dropTie ∈ wsX5_undo ∧ Cond.selects yX4_dropTie.cls yX4_dropTie yX4_dropTie ∈ wsX5_undo := ⟨by decide +kernel, by decide +kernel, by decide +kernel⟩
set_option maxHeartbeats 4000000 in
set_option maxRecDepth 100000 in
theorem c_undoT (l : Launch) (D : va_G) (cs : Nat → ClassId) {xo : Nat} {xr : Nat} {xd : Nat} {ta : Nat} {tb : Nat} {xi : Nat} {aa : Nat} {sa : Nat} {lf : Int32} {fg : Int32} {tk : Nat} {tq : Nat} {tw : Nat} {kf : Nat → Int32} {sf : Nat → Int32} {wf : Nat → Int32} {pe : Int32} {aw : Int32} {me : Int32} {sp : Int32} {tn : Nat} {ap : Nat} {af : Nat → Int32} {kn : Nat} (hk : kn < 24) (h0 : af (4 * kn) = 1) (ht : tn < 8) : CT l D (tz cs) yX5_undo wsX5_undo ({ frames := 2, cells := 0, slots := 0, locals := 45 }) [.ref xo] [(xo, .inr (5, [.ref xr, .ref xd, .ref ta, .ref tb, .ref xi, .ref aa, .ref sa, .int lf, .int fg])), (ta, .inr (4, [.ref tk, .ref tq, .ref tw, .int pe, .int (nI (tn + 1)), .int aw, .int me, .int sp])), (tk, .inl (cs 0, 8, .inl kf)), (tq, .inl (cs 0, 8, .inl sf)), (tw, .inl (cs 0, 8, .inl wf)), (aa, .inr (0, [.ref ap, .int (nI (kn + 1))])), (ap, .inl (cs 0, 96, .inl af))] (some (.int (nI kn))) [(xo, .inr (5, [.ref xr, .ref xd, .ref ta, .ref tb, .ref xi, .ref aa, .ref sa, .int lf, .int fg])), (ta, .inr (4, [.ref tk, .ref tq, .ref tw, .int pe, .int (nI tn), .int aw, .int me, .int sp])), (tk, .inl (cs 0, 8, .inl kf)), (tq, .inl (cs 0, 8, .inl sf)), (tw, .inl (cs 0, 8, .inl wf)), (aa, .inr (0, [.ref ap, .int (nI kn)])), (ap, .inl (cs 0, 96, .inl af))] := by
  refine CT.of kX5_undo (Nat.le_of_ble_eq_true rfl) ?_
  intro p e s m below meth c A C E
  have C : VOk p s m _ c cX5_undo 2 wsX5_undo RX5 D (tz cs) A s.heap := C
  refine V.lvs (lv' := [(0, .ref xo)]) [0] rfl ?_
  refine v_aload_n C 0 dX5_undo_0 rfl ?_
  refine v_get C (v := .ref aa) fl_X5_undo_40 0 rfl rfl dX5_undo_1 ?_
  refine v_getN C (v := .int (nI (kn + 1))) fn_X5_undo_173 5 rfl rfl dX5_undo_4 ?_
  refine v_if_gt C 13 dX5_undo_7 (by decide) (fun c1 => ?_) (fun c1 => ?_)
  · skip
    refine v_aload_n C 0 dX5_undo_13 rfl ?_
    refine v_get C (v := .ref aa) fl_X5_undo_40 0 rfl rfl dX5_undo_14 ?_
    refine v_iconst C (v := 1) dX5_undo_17 (by decide) ?_
    refine v_callVN (qi := 0) C [.int 1] [] kX0_latest gX5_undo_X0_latest_n176 (host := "TableShares") (by decide +kernel) nq_X5_undo_X0_latest (c_latest l D cs (aa := aa) (ap := ap) (af := af) (kn := (nI (kn + 1))) (x := 1) ) ⟨Nat.le_of_ble_eq_true rfl, Nat.le_of_ble_eq_true rfl⟩ ⟨rfl, rfl⟩ ⟨Nat.zero_le _, Nat.zero_le _⟩ rfl 5 rfl rfl rfl rfl (Nat.le_of_ble_eq_true rfl) [5, 6] [(xo, .inr (5, [.ref xr, .ref xd, .ref ta, .ref tb, .ref xi, .ref aa, .ref sa, .int lf, .int fg])), (ta, .inr (4, [.ref tk, .ref tq, .ref tw, .int pe, .int (nI (tn + 1)), .int aw, .int me, .int sp])), (tk, .inl (cs 0, 8, .inl kf)), (tq, .inl (cs 0, 8, .inl sf)), (tw, .inl (cs 0, 8, .inl wf)), (aa, .inr (0, [.ref ap, .int (nI (kn + 1))])), (ap, .inl (cs 0, 96, .inl af))] rfl (by decide) (show [aa, ap] = [aa, ap] from rfl) (rfl) dX5_undo_18 ?_
    refine V.sts (st' := [.int (gA af 96 (((nI (kn + 1)) - 1) * 4 + 1))]) rfl ?_
    refine V.topr (y := af (4 * kn + 1)) (lat_1 (by omega)) ?_
    refine v_istore_n C [(0, .ref xo), (1, .int (af (4 * kn + 1)))] [1, 0] dX5_undo_21 (by decide) rfl ?_
    refine v_aload_n C 0 dX5_undo_22 rfl ?_
    refine v_get C (v := .ref aa) fl_X5_undo_40 0 rfl rfl dX5_undo_23 ?_
    refine v_iconst C (v := 0) dX5_undo_26 (by decide) ?_
    refine v_callVN (qi := 0) C [.int 0] [] kX0_latest gX5_undo_X0_latest_n176 (host := "TableShares") (by decide +kernel) nq_X5_undo_X0_latest (c_latest l D cs (aa := aa) (ap := ap) (af := af) (kn := (nI (kn + 1))) (x := 0) ) ⟨Nat.le_of_ble_eq_true rfl, Nat.le_of_ble_eq_true rfl⟩ ⟨rfl, rfl⟩ ⟨Nat.zero_le _, Nat.zero_le _⟩ rfl 5 rfl rfl rfl rfl (Nat.le_of_ble_eq_true rfl) [5, 6] [(xo, .inr (5, [.ref xr, .ref xd, .ref ta, .ref tb, .ref xi, .ref aa, .ref sa, .int lf, .int fg])), (ta, .inr (4, [.ref tk, .ref tq, .ref tw, .int pe, .int (nI (tn + 1)), .int aw, .int me, .int sp])), (tk, .inl (cs 0, 8, .inl kf)), (tq, .inl (cs 0, 8, .inl sf)), (tw, .inl (cs 0, 8, .inl wf)), (aa, .inr (0, [.ref ap, .int (nI (kn + 1))])), (ap, .inl (cs 0, 96, .inl af))] rfl (by decide) (show [aa, ap] = [aa, ap] from rfl) (rfl) dX5_undo_27 ?_
    refine V.sts (st' := [.int (gA af 96 (((nI (kn + 1)) - 1) * 4 + 0))]) rfl ?_
    refine V.topr (y := 1) ((lat_0 (by omega)).trans h0) ?_
    refine v_tableIn C (off := 37) 67 dX5_undo_30 (by decide) (by decide) (by rfl) (by decide) ?_
    refine v_aload_n C 0 dX5_undo_67 rfl ?_
    refine v_get C (v := .ref ta) fl_X5_undo_26 0 rfl rfl dX5_undo_68 ?_
    refine v_callVN (qi := 0) C [] [] kX4_dropTie gX5_undo_X4_dropTie_n157 (host := "TableShares") (by decide +kernel) nq_X5_undo_X4_dropTie (c_dropTie l D cs (ta := ta) (tk := tk) (tq := tq) (tw := tw) (kf := kf) (sf := sf) (wf := wf) (pe := pe) (aw := aw) (me := me) (sp := sp) (tn := tn) (by first | assumption | omega)) ⟨Nat.le_of_ble_eq_true rfl, Nat.le_of_ble_eq_true rfl⟩ ⟨rfl, rfl⟩ ⟨Nat.zero_le _, Nat.zero_le _⟩ rfl 1 rfl rfl rfl rfl (Nat.le_of_ble_eq_true rfl) [1, 2, 3, 4] [(xo, .inr (5, [.ref xr, .ref xd, .ref ta, .ref tb, .ref xi, .ref aa, .ref sa, .int lf, .int fg])), (ta, .inr (4, [.ref tk, .ref tq, .ref tw, .int pe, .int (nI tn), .int aw, .int me, .int sp])), (tk, .inl (cs 0, 8, .inl kf)), (tq, .inl (cs 0, 8, .inl sf)), (tw, .inl (cs 0, 8, .inl wf)), (aa, .inr (0, [.ref ap, .int (nI (kn + 1))])), (ap, .inl (cs 0, 96, .inl af))] rfl (by decide) (show [ta, tk, tq, tw] = [ta, tk, tq, tw] from rfl) (rfl) dX5_undo_71 ?_
    refine V.sts (st' := []) rfl ?_
    refine v_goto C 130 dX5_undo_74 (by decide) ?_
    refine v_aload_n C 0 dX5_undo_130 rfl ?_
    refine v_get C (v := .ref aa) fl_X5_undo_40 0 rfl rfl dX5_undo_131 ?_
    refine v_callVN (qi := 0) C [] [] kX0_forgetLatest gX5_undo_X0_forgetLatest_n179 (host := "TableShares") (by decide +kernel) nq_X5_undo_X0_forgetLatest (c_forgetLatest l D cs (aa := aa) (ap := ap) (kn := (nI (kn + 1))) ) ⟨Nat.le_of_ble_eq_true rfl, Nat.le_of_ble_eq_true rfl⟩ ⟨rfl, rfl⟩ ⟨Nat.zero_le _, Nat.zero_le _⟩ rfl 5 rfl rfl rfl rfl (Nat.le_of_ble_eq_true rfl) [5] [(xo, .inr (5, [.ref xr, .ref xd, .ref ta, .ref tb, .ref xi, .ref aa, .ref sa, .int lf, .int fg])), (ta, .inr (4, [.ref tk, .ref tq, .ref tw, .int pe, .int (nI tn), .int aw, .int me, .int sp])), (tk, .inl (cs 0, 8, .inl kf)), (tq, .inl (cs 0, 8, .inl sf)), (tw, .inl (cs 0, 8, .inl wf)), (aa, .inr (0, [.ref ap, .int ((nI (kn + 1)) - 1)])), (ap, .inl (cs 0, 96, .inl af))] rfl (by decide) (show [aa] = [aa] from rfl) (rfl) dX5_undo_134 ?_
    refine V.sts (st' := []) rfl ?_
    refine v_aload_n C 0 dX5_undo_137 rfl ?_
    refine v_get C (v := .ref aa) fl_X5_undo_40 0 rfl rfl dX5_undo_138 ?_
    refine v_getN C (v := .int ((nI (kn + 1)) - 1)) fn_X5_undo_173 5 rfl rfl dX5_undo_141 ?_
    refine V.topr (y := nI kn) (nI_pred _) ?_
    exact v_iret C E (by rw [nI_pred]) (by first | rfl | (simp [hk, h0, ht, c1, ↓reduceIte]; done) | (simp_all [b2]; done)) dX5_undo_144
  · exact absurd (nI_lt (a := 0) (b := kn + 1) (by omega) (by omega)) c1
theorem nq_X5_undo_X4_addTie : Cond.initialized yX4_addTie.cls ∈ wsX5_undo ∧ Cond.instanceMethod yX4_addTie ∈ wsX5_undo ∧ Cond.selects yX4_addTie.cls yX4_addTie yX4_addTie ∈ wsX5_undo := ⟨by decide +kernel, by decide +kernel, by decide +kernel⟩
set_option maxHeartbeats 4000000 in
set_option maxRecDepth 100000 in
theorem c_undoU (l : Launch) (D : va_G) (cs : Nat → ClassId) {xo : Nat} {xr : Nat} {xd : Nat} {ta : Nat} {tb : Nat} {xi : Nat} {aa : Nat} {sa : Nat} {lf : Int32} {fg : Int32} {tk : Nat} {tq : Nat} {tw : Nat} {kf : Nat → Int32} {sf : Nat → Int32} {wf : Nat → Int32} {pe : Int32} {aw : Int32} {me : Int32} {sp : Int32} {tn : Nat} {ap : Nat} {af : Nat → Int32} {kn : Nat} (hk : kn < 24) (h0 : af (4 * kn) = 2) (ht : tn < 8) : CT l D (tz cs) yX5_undo wsX5_undo ({ frames := 2, cells := 0, slots := 0, locals := 45 }) [.ref xo] [(xo, .inr (5, [.ref xr, .ref xd, .ref ta, .ref tb, .ref xi, .ref aa, .ref sa, .int lf, .int fg])), (ta, .inr (4, [.ref tk, .ref tq, .ref tw, .int pe, .int (nI tn), .int aw, .int me, .int sp])), (tk, .inl (cs 0, 8, .inl kf)), (tq, .inl (cs 0, 8, .inl sf)), (tw, .inl (cs 0, 8, .inl wf)), (aa, .inr (0, [.ref ap, .int (nI (kn + 1))])), (ap, .inl (cs 0, 96, .inl af))] (some (.int (nI kn))) [(xo, .inr (5, [.ref xr, .ref xd, .ref ta, .ref tb, .ref xi, .ref aa, .ref sa, .int lf, .int fg])), (ta, .inr (4, [.ref tk, .ref tq, .ref tw, .int pe, .int (nI (tn + 1)), .int aw, .int me, .int sp])), (tk, .inl (cs 0, 8, .inl (upd kf tn (af (4 * kn + 1))))), (tq, .inl (cs 0, 8, .inl (upd sf tn (af (4 * kn + 2))))), (tw, .inl (cs 0, 8, .inl (upd wf tn (af (4 * kn + 3))))), (aa, .inr (0, [.ref ap, .int (nI kn)])), (ap, .inl (cs 0, 96, .inl af))] := by
  refine CT.of kX5_undo (Nat.le_of_ble_eq_true rfl) ?_
  intro p e s m below meth c A C E
  have C : VOk p s m _ c cX5_undo 2 wsX5_undo RX5 D (tz cs) A s.heap := C
  refine V.lvs (lv' := [(0, .ref xo)]) [0] rfl ?_
  refine v_aload_n C 0 dX5_undo_0 rfl ?_
  refine v_get C (v := .ref aa) fl_X5_undo_40 0 rfl rfl dX5_undo_1 ?_
  refine v_getN C (v := .int (nI (kn + 1))) fn_X5_undo_173 5 rfl rfl dX5_undo_4 ?_
  refine v_if_gt C 13 dX5_undo_7 (by decide) (fun c1 => ?_) (fun c1 => ?_)
  · skip
    refine v_aload_n C 0 dX5_undo_13 rfl ?_
    refine v_get C (v := .ref aa) fl_X5_undo_40 0 rfl rfl dX5_undo_14 ?_
    refine v_iconst C (v := 1) dX5_undo_17 (by decide) ?_
    refine v_callVN (qi := 0) C [.int 1] [] kX0_latest gX5_undo_X0_latest_n176 (host := "TableShares") (by decide +kernel) nq_X5_undo_X0_latest (c_latest l D cs (aa := aa) (ap := ap) (af := af) (kn := (nI (kn + 1))) (x := 1) ) ⟨Nat.le_of_ble_eq_true rfl, Nat.le_of_ble_eq_true rfl⟩ ⟨rfl, rfl⟩ ⟨Nat.zero_le _, Nat.zero_le _⟩ rfl 5 rfl rfl rfl rfl (Nat.le_of_ble_eq_true rfl) [5, 6] [(xo, .inr (5, [.ref xr, .ref xd, .ref ta, .ref tb, .ref xi, .ref aa, .ref sa, .int lf, .int fg])), (ta, .inr (4, [.ref tk, .ref tq, .ref tw, .int pe, .int (nI tn), .int aw, .int me, .int sp])), (tk, .inl (cs 0, 8, .inl kf)), (tq, .inl (cs 0, 8, .inl sf)), (tw, .inl (cs 0, 8, .inl wf)), (aa, .inr (0, [.ref ap, .int (nI (kn + 1))])), (ap, .inl (cs 0, 96, .inl af))] rfl (by decide) (show [aa, ap] = [aa, ap] from rfl) (rfl) dX5_undo_18 ?_
    refine V.sts (st' := [.int (gA af 96 (((nI (kn + 1)) - 1) * 4 + 1))]) rfl ?_
    refine V.topr (y := af (4 * kn + 1)) (lat_1 (by omega)) ?_
    refine v_istore_n C [(0, .ref xo), (1, .int (af (4 * kn + 1)))] [1, 0] dX5_undo_21 (by decide) rfl ?_
    refine v_aload_n C 0 dX5_undo_22 rfl ?_
    refine v_get C (v := .ref aa) fl_X5_undo_40 0 rfl rfl dX5_undo_23 ?_
    refine v_iconst C (v := 0) dX5_undo_26 (by decide) ?_
    refine v_callVN (qi := 0) C [.int 0] [] kX0_latest gX5_undo_X0_latest_n176 (host := "TableShares") (by decide +kernel) nq_X5_undo_X0_latest (c_latest l D cs (aa := aa) (ap := ap) (af := af) (kn := (nI (kn + 1))) (x := 0) ) ⟨Nat.le_of_ble_eq_true rfl, Nat.le_of_ble_eq_true rfl⟩ ⟨rfl, rfl⟩ ⟨Nat.zero_le _, Nat.zero_le _⟩ rfl 5 rfl rfl rfl rfl (Nat.le_of_ble_eq_true rfl) [5, 6] [(xo, .inr (5, [.ref xr, .ref xd, .ref ta, .ref tb, .ref xi, .ref aa, .ref sa, .int lf, .int fg])), (ta, .inr (4, [.ref tk, .ref tq, .ref tw, .int pe, .int (nI tn), .int aw, .int me, .int sp])), (tk, .inl (cs 0, 8, .inl kf)), (tq, .inl (cs 0, 8, .inl sf)), (tw, .inl (cs 0, 8, .inl wf)), (aa, .inr (0, [.ref ap, .int (nI (kn + 1))])), (ap, .inl (cs 0, 96, .inl af))] rfl (by decide) (show [aa, ap] = [aa, ap] from rfl) (rfl) dX5_undo_27 ?_
    refine V.sts (st' := [.int (gA af 96 (((nI (kn + 1)) - 1) * 4 + 0))]) rfl ?_
    refine V.topr (y := 2) ((lat_0 (by omega)).trans h0) ?_
    refine v_tableIn C (off := 47) 77 dX5_undo_30 (by decide) (by decide) (by rfl) (by decide) ?_
    refine v_aload_n C 0 dX5_undo_77 rfl ?_
    refine v_get C (v := .ref ta) fl_X5_undo_26 0 rfl rfl dX5_undo_78 ?_
    refine v_iload_n C 1 dX5_undo_81 rfl ?_
    refine v_aload_n C 0 dX5_undo_82 rfl ?_
    refine v_get C (v := .ref aa) fl_X5_undo_40 0 rfl rfl dX5_undo_83 ?_
    refine v_iconst C (v := 2) dX5_undo_86 (by decide) ?_
    refine v_callVN (qi := 0) C [.int 2] [.int (af (4 * kn + 1)), .ref ta] kX0_latest gX5_undo_X0_latest_n176 (host := "TableShares") (by decide +kernel) nq_X5_undo_X0_latest (c_latest l D cs (aa := aa) (ap := ap) (af := af) (kn := (nI (kn + 1))) (x := 2) ) ⟨Nat.le_of_ble_eq_true rfl, Nat.le_of_ble_eq_true rfl⟩ ⟨rfl, rfl⟩ ⟨Nat.zero_le _, Nat.zero_le _⟩ rfl 5 rfl rfl rfl rfl (Nat.le_of_ble_eq_true rfl) [5, 6] [(xo, .inr (5, [.ref xr, .ref xd, .ref ta, .ref tb, .ref xi, .ref aa, .ref sa, .int lf, .int fg])), (ta, .inr (4, [.ref tk, .ref tq, .ref tw, .int pe, .int (nI tn), .int aw, .int me, .int sp])), (tk, .inl (cs 0, 8, .inl kf)), (tq, .inl (cs 0, 8, .inl sf)), (tw, .inl (cs 0, 8, .inl wf)), (aa, .inr (0, [.ref ap, .int (nI (kn + 1))])), (ap, .inl (cs 0, 96, .inl af))] rfl (by decide) (show [aa, ap] = [aa, ap] from rfl) (rfl) dX5_undo_87 ?_
    refine V.sts (st' := [.int (gA af 96 (((nI (kn + 1)) - 1) * 4 + 2)), .int (af (4 * kn + 1)), .ref ta]) rfl ?_
    refine V.topr (y := af (4 * kn + 2)) (lat_2 (by omega)) ?_
    refine v_aload_n C 0 dX5_undo_90 rfl ?_
    refine v_get C (v := .ref aa) fl_X5_undo_40 0 rfl rfl dX5_undo_91 ?_
    refine v_iconst C (v := 3) dX5_undo_94 (by decide) ?_
    refine v_callVN (qi := 0) C [.int 3] [.int (af (4 * kn + 2)), .int (af (4 * kn + 1)), .ref ta] kX0_latest gX5_undo_X0_latest_n176 (host := "TableShares") (by decide +kernel) nq_X5_undo_X0_latest (c_latest l D cs (aa := aa) (ap := ap) (af := af) (kn := (nI (kn + 1))) (x := 3) ) ⟨Nat.le_of_ble_eq_true rfl, Nat.le_of_ble_eq_true rfl⟩ ⟨rfl, rfl⟩ ⟨Nat.zero_le _, Nat.zero_le _⟩ rfl 5 rfl rfl rfl rfl (Nat.le_of_ble_eq_true rfl) [5, 6] [(xo, .inr (5, [.ref xr, .ref xd, .ref ta, .ref tb, .ref xi, .ref aa, .ref sa, .int lf, .int fg])), (ta, .inr (4, [.ref tk, .ref tq, .ref tw, .int pe, .int (nI tn), .int aw, .int me, .int sp])), (tk, .inl (cs 0, 8, .inl kf)), (tq, .inl (cs 0, 8, .inl sf)), (tw, .inl (cs 0, 8, .inl wf)), (aa, .inr (0, [.ref ap, .int (nI (kn + 1))])), (ap, .inl (cs 0, 96, .inl af))] rfl (by decide) (show [aa, ap] = [aa, ap] from rfl) (rfl) dX5_undo_95 ?_
    refine V.sts (st' := [.int (gA af 96 (((nI (kn + 1)) - 1) * 4 + 3)), .int (af (4 * kn + 2)), .int (af (4 * kn + 1)), .ref ta]) rfl ?_
    refine V.topr (y := af (4 * kn + 3)) (lat_3 (by omega)) ?_
    refine v_callVN (qi := 0) C [.int (af (4 * kn + 1)), .int (af (4 * kn + 2)), .int (af (4 * kn + 3))] [] kX4_addTie gX5_undo_X4_addTie_n144 (host := "TableShares") (by decide +kernel) nq_X5_undo_X4_addTie (c_addTie l D cs (ta := ta) (tk := tk) (tq := tq) (tw := tw) (kf := kf) (sf := sf) (wf := wf) (pe := pe) (aw := aw) (me := me) (sp := sp) (tn := tn) (x0 := af (4 * kn + 1)) (x1 := af (4 * kn + 2)) (x2 := af (4 * kn + 3)) (by first | assumption | omega)) ⟨Nat.le_of_ble_eq_true rfl, Nat.le_of_ble_eq_true rfl⟩ ⟨rfl, rfl⟩ ⟨Nat.zero_le _, Nat.zero_le _⟩ rfl 1 rfl rfl rfl rfl (Nat.le_of_ble_eq_true rfl) [1, 2, 3, 4] [(xo, .inr (5, [.ref xr, .ref xd, .ref ta, .ref tb, .ref xi, .ref aa, .ref sa, .int lf, .int fg])), (ta, .inr (4, [.ref tk, .ref tq, .ref tw, .int pe, .int (nI (tn + 1)), .int aw, .int me, .int sp])), (tk, .inl (cs 0, 8, .inl (upd kf tn (af (4 * kn + 1))))), (tq, .inl (cs 0, 8, .inl (upd sf tn (af (4 * kn + 2))))), (tw, .inl (cs 0, 8, .inl (upd wf tn (af (4 * kn + 3))))), (aa, .inr (0, [.ref ap, .int (nI (kn + 1))])), (ap, .inl (cs 0, 96, .inl af))] rfl (by decide) (show [ta, tk, tq, tw] = [ta, tk, tq, tw] from rfl) (rfl) dX5_undo_98 ?_
    refine V.sts (st' := []) rfl ?_
    refine v_goto C 130 dX5_undo_101 (by decide) ?_
    refine v_aload_n C 0 dX5_undo_130 rfl ?_
    refine v_get C (v := .ref aa) fl_X5_undo_40 0 rfl rfl dX5_undo_131 ?_
    refine v_callVN (qi := 0) C [] [] kX0_forgetLatest gX5_undo_X0_forgetLatest_n179 (host := "TableShares") (by decide +kernel) nq_X5_undo_X0_forgetLatest (c_forgetLatest l D cs (aa := aa) (ap := ap) (kn := (nI (kn + 1))) ) ⟨Nat.le_of_ble_eq_true rfl, Nat.le_of_ble_eq_true rfl⟩ ⟨rfl, rfl⟩ ⟨Nat.zero_le _, Nat.zero_le _⟩ rfl 5 rfl rfl rfl rfl (Nat.le_of_ble_eq_true rfl) [5] [(xo, .inr (5, [.ref xr, .ref xd, .ref ta, .ref tb, .ref xi, .ref aa, .ref sa, .int lf, .int fg])), (ta, .inr (4, [.ref tk, .ref tq, .ref tw, .int pe, .int (nI (tn + 1)), .int aw, .int me, .int sp])), (tk, .inl (cs 0, 8, .inl (upd kf tn (af (4 * kn + 1))))), (tq, .inl (cs 0, 8, .inl (upd sf tn (af (4 * kn + 2))))), (tw, .inl (cs 0, 8, .inl (upd wf tn (af (4 * kn + 3))))), (aa, .inr (0, [.ref ap, .int ((nI (kn + 1)) - 1)])), (ap, .inl (cs 0, 96, .inl af))] rfl (by decide) (show [aa] = [aa] from rfl) (rfl) dX5_undo_134 ?_
    refine V.sts (st' := []) rfl ?_
    refine v_aload_n C 0 dX5_undo_137 rfl ?_
    refine v_get C (v := .ref aa) fl_X5_undo_40 0 rfl rfl dX5_undo_138 ?_
    refine v_getN C (v := .int ((nI (kn + 1)) - 1)) fn_X5_undo_173 5 rfl rfl dX5_undo_141 ?_
    refine V.topr (y := nI kn) (nI_pred _) ?_
    exact v_iret C E (by rw [nI_pred]) (by first | rfl | (simp [hk, h0, ht, c1, ↓reduceIte]; done) | (simp_all [b2]; done)) dX5_undo_144
  · exact absurd (nI_lt (a := 0) (b := kn + 1) (by omega) (by omega)) c1
theorem fn_X5_undo_160 : FLN RX5 wsX5_undo RX4 RX4 TX4 8 4 6 160 := ⟨⟨in_X5_undo_X4, rfl, by decide, rfl⟩, "TableShares", by decide +kernel⟩
theorem fn_X5_undo_170 : FLN RX5 wsX5_undo RX4 RX4 TX4 8 4 7 170 := ⟨⟨in_X5_undo_X4, rfl, by decide, rfl⟩, "TableShares", by decide +kernel⟩
set_option maxHeartbeats 4000000 in
set_option maxRecDepth 100000 in
theorem c_undoM (l : Launch) (D : va_G) (cs : Nat → ClassId) {xo : Nat} {xr : Nat} {xd : Nat} {ta : Nat} {tb : Nat} {xi : Nat} {aa : Nat} {sa : Nat} {lf : Int32} {fg : Int32} {tk : Nat} {tq : Nat} {tw : Nat} {kf : Nat → Int32} {sf : Nat → Int32} {wf : Nat → Int32} {pe : Int32} {ti : Int32} {aw : Int32} {me : Int32} {sp : Int32} {ap : Nat} {af : Nat → Int32} {kn : Nat} (hk : kn < 24) (h0 : af (4 * kn) = 3) : CT l D (tz cs) yX5_undo wsX5_undo ({ frames := 2, cells := 0, slots := 0, locals := 45 }) [.ref xo] [(xo, .inr (5, [.ref xr, .ref xd, .ref ta, .ref tb, .ref xi, .ref aa, .ref sa, .int lf, .int fg])), (ta, .inr (4, [.ref tk, .ref tq, .ref tw, .int pe, .int ti, .int aw, .int me, .int sp])), (tk, .inl (cs 0, 8, .inl kf)), (tq, .inl (cs 0, 8, .inl sf)), (tw, .inl (cs 0, 8, .inl wf)), (aa, .inr (0, [.ref ap, .int (nI (kn + 1))])), (ap, .inl (cs 0, 96, .inl af))] (some (.int (nI kn))) [(xo, .inr (5, [.ref xr, .ref xd, .ref ta, .ref tb, .ref xi, .ref aa, .ref sa, .int lf, .int fg])), (ta, .inr (4, [.ref tk, .ref tq, .ref tw, .int pe, .int ti, .int aw, .int (me - 1), .int (sp - af (4 * kn + 1))])), (tk, .inl (cs 0, 8, .inl kf)), (tq, .inl (cs 0, 8, .inl sf)), (tw, .inl (cs 0, 8, .inl wf)), (aa, .inr (0, [.ref ap, .int (nI kn)])), (ap, .inl (cs 0, 96, .inl af))] := by
  refine CT.of kX5_undo (Nat.le_of_ble_eq_true rfl) ?_
  intro p e s m below meth c A C E
  have C : VOk p s m _ c cX5_undo 2 wsX5_undo RX5 D (tz cs) A s.heap := C
  refine V.lvs (lv' := [(0, .ref xo)]) [0] rfl ?_
  refine v_aload_n C 0 dX5_undo_0 rfl ?_
  refine v_get C (v := .ref aa) fl_X5_undo_40 0 rfl rfl dX5_undo_1 ?_
  refine v_getN C (v := .int (nI (kn + 1))) fn_X5_undo_173 5 rfl rfl dX5_undo_4 ?_
  refine v_if_gt C 13 dX5_undo_7 (by decide) (fun c1 => ?_) (fun c1 => ?_)
  · skip
    refine v_aload_n C 0 dX5_undo_13 rfl ?_
    refine v_get C (v := .ref aa) fl_X5_undo_40 0 rfl rfl dX5_undo_14 ?_
    refine v_iconst C (v := 1) dX5_undo_17 (by decide) ?_
    refine v_callVN (qi := 0) C [.int 1] [] kX0_latest gX5_undo_X0_latest_n176 (host := "TableShares") (by decide +kernel) nq_X5_undo_X0_latest (c_latest l D cs (aa := aa) (ap := ap) (af := af) (kn := (nI (kn + 1))) (x := 1) ) ⟨Nat.le_of_ble_eq_true rfl, Nat.le_of_ble_eq_true rfl⟩ ⟨rfl, rfl⟩ ⟨Nat.zero_le _, Nat.zero_le _⟩ rfl 5 rfl rfl rfl rfl (Nat.le_of_ble_eq_true rfl) [5, 6] [(xo, .inr (5, [.ref xr, .ref xd, .ref ta, .ref tb, .ref xi, .ref aa, .ref sa, .int lf, .int fg])), (ta, .inr (4, [.ref tk, .ref tq, .ref tw, .int pe, .int ti, .int aw, .int me, .int sp])), (tk, .inl (cs 0, 8, .inl kf)), (tq, .inl (cs 0, 8, .inl sf)), (tw, .inl (cs 0, 8, .inl wf)), (aa, .inr (0, [.ref ap, .int (nI (kn + 1))])), (ap, .inl (cs 0, 96, .inl af))] rfl (by decide) (show [aa, ap] = [aa, ap] from rfl) (rfl) dX5_undo_18 ?_
    refine V.sts (st' := [.int (gA af 96 (((nI (kn + 1)) - 1) * 4 + 1))]) rfl ?_
    refine V.topr (y := af (4 * kn + 1)) (lat_1 (by omega)) ?_
    refine v_istore_n C [(0, .ref xo), (1, .int (af (4 * kn + 1)))] [1, 0] dX5_undo_21 (by decide) rfl ?_
    refine v_aload_n C 0 dX5_undo_22 rfl ?_
    refine v_get C (v := .ref aa) fl_X5_undo_40 0 rfl rfl dX5_undo_23 ?_
    refine v_iconst C (v := 0) dX5_undo_26 (by decide) ?_
    refine v_callVN (qi := 0) C [.int 0] [] kX0_latest gX5_undo_X0_latest_n176 (host := "TableShares") (by decide +kernel) nq_X5_undo_X0_latest (c_latest l D cs (aa := aa) (ap := ap) (af := af) (kn := (nI (kn + 1))) (x := 0) ) ⟨Nat.le_of_ble_eq_true rfl, Nat.le_of_ble_eq_true rfl⟩ ⟨rfl, rfl⟩ ⟨Nat.zero_le _, Nat.zero_le _⟩ rfl 5 rfl rfl rfl rfl (Nat.le_of_ble_eq_true rfl) [5, 6] [(xo, .inr (5, [.ref xr, .ref xd, .ref ta, .ref tb, .ref xi, .ref aa, .ref sa, .int lf, .int fg])), (ta, .inr (4, [.ref tk, .ref tq, .ref tw, .int pe, .int ti, .int aw, .int me, .int sp])), (tk, .inl (cs 0, 8, .inl kf)), (tq, .inl (cs 0, 8, .inl sf)), (tw, .inl (cs 0, 8, .inl wf)), (aa, .inr (0, [.ref ap, .int (nI (kn + 1))])), (ap, .inl (cs 0, 96, .inl af))] rfl (by decide) (show [aa, ap] = [aa, ap] from rfl) (rfl) dX5_undo_27 ?_
    refine V.sts (st' := [.int (gA af 96 (((nI (kn + 1)) - 1) * 4 + 0))]) rfl ?_
    refine V.topr (y := 3) ((lat_0 (by omega)).trans h0) ?_
    refine v_tableOut C 104 dX5_undo_30 (by decide) (by decide) ?_
    refine v_aload_n C 0 dX5_undo_104 rfl ?_
    refine v_get C (v := .ref ta) fl_X5_undo_26 0 rfl rfl dX5_undo_105 ?_
    refine v_dup C dX5_undo_108 rfl ?_
    refine v_getN C (v := .int me) fn_X5_undo_160 1 rfl rfl dX5_undo_109 ?_
    refine v_iconst C (v := 1) dX5_undo_112 (by decide) ?_
    refine v_isub C dX5_undo_113 ?_
    refine v_putN C fn_X5_undo_160 fp_X4_6 1 rfl rfl rfl (Nat.le_of_ble_eq_true rfl) [(xo, .inr (5, [.ref xr, .ref xd, .ref ta, .ref tb, .ref xi, .ref aa, .ref sa, .int lf, .int fg])), (ta, .inr (4, [.ref tk, .ref tq, .ref tw, .int pe, .int ti, .int aw, .int (me - 1), .int sp])), (tk, .inl (cs 0, 8, .inl kf)), (tq, .inl (cs 0, 8, .inl sf)), (tw, .inl (cs 0, 8, .inl wf)), (aa, .inr (0, [.ref ap, .int (nI (kn + 1))])), (ap, .inl (cs 0, 96, .inl af))] rfl dX5_undo_114 ?_
    refine v_aload_n C 0 dX5_undo_117 rfl ?_
    refine v_get C (v := .ref ta) fl_X5_undo_26 0 rfl rfl dX5_undo_118 ?_
    refine v_dup C dX5_undo_121 rfl ?_
    refine v_getN C (v := .int sp) fn_X5_undo_170 1 rfl rfl dX5_undo_122 ?_
    refine v_iload_n C 1 dX5_undo_125 rfl ?_
    refine v_isub C dX5_undo_126 ?_
    refine v_putN C fn_X5_undo_170 fp_X4_7 1 rfl rfl rfl (Nat.le_of_ble_eq_true rfl) [(xo, .inr (5, [.ref xr, .ref xd, .ref ta, .ref tb, .ref xi, .ref aa, .ref sa, .int lf, .int fg])), (ta, .inr (4, [.ref tk, .ref tq, .ref tw, .int pe, .int ti, .int aw, .int (me - 1), .int (sp - (af (4 * kn + 1)))])), (tk, .inl (cs 0, 8, .inl kf)), (tq, .inl (cs 0, 8, .inl sf)), (tw, .inl (cs 0, 8, .inl wf)), (aa, .inr (0, [.ref ap, .int (nI (kn + 1))])), (ap, .inl (cs 0, 96, .inl af))] rfl dX5_undo_127 ?_
    refine v_aload_n C 0 dX5_undo_130 rfl ?_
    refine v_get C (v := .ref aa) fl_X5_undo_40 0 rfl rfl dX5_undo_131 ?_
    refine v_callVN (qi := 0) C [] [] kX0_forgetLatest gX5_undo_X0_forgetLatest_n179 (host := "TableShares") (by decide +kernel) nq_X5_undo_X0_forgetLatest (c_forgetLatest l D cs (aa := aa) (ap := ap) (kn := (nI (kn + 1))) ) ⟨Nat.le_of_ble_eq_true rfl, Nat.le_of_ble_eq_true rfl⟩ ⟨rfl, rfl⟩ ⟨Nat.zero_le _, Nat.zero_le _⟩ rfl 5 rfl rfl rfl rfl (Nat.le_of_ble_eq_true rfl) [5] [(xo, .inr (5, [.ref xr, .ref xd, .ref ta, .ref tb, .ref xi, .ref aa, .ref sa, .int lf, .int fg])), (ta, .inr (4, [.ref tk, .ref tq, .ref tw, .int pe, .int ti, .int aw, .int (me - 1), .int (sp - (af (4 * kn + 1)))])), (tk, .inl (cs 0, 8, .inl kf)), (tq, .inl (cs 0, 8, .inl sf)), (tw, .inl (cs 0, 8, .inl wf)), (aa, .inr (0, [.ref ap, .int ((nI (kn + 1)) - 1)])), (ap, .inl (cs 0, 96, .inl af))] rfl (by decide) (show [aa] = [aa] from rfl) (rfl) dX5_undo_134 ?_
    refine V.sts (st' := []) rfl ?_
    refine v_aload_n C 0 dX5_undo_137 rfl ?_
    refine v_get C (v := .ref aa) fl_X5_undo_40 0 rfl rfl dX5_undo_138 ?_
    refine v_getN C (v := .int ((nI (kn + 1)) - 1)) fn_X5_undo_173 5 rfl rfl dX5_undo_141 ?_
    refine V.topr (y := nI kn) (nI_pred _) ?_
    exact v_iret C E (by rw [nI_pred]) (by first | rfl | (simp [hk, h0, c1, ↓reduceIte]; done) | (simp_all [b2]; done)) dX5_undo_144
  · exact absurd (nI_lt (a := 0) (b := kn + 1) (by omega) (by omega)) c1
theorem kX5_meals : KD yX5_meals wsX5_meals cX5_meals 4 (some .int) 1 := ⟨⟨_, rfl⟩, by decide, by decide +kernel, by decide +kernel, by decide +kernel⟩
theorem in_X5_meals_X5 : ∀ w ∈ wsX50, w ∈ wsX5_meals := by decide +kernel
theorem fl_X5_meals_26 : FL RX5 wsX5_meals RX5 RX5 TX5 9 5 2 26 := ⟨⟨in_X5_meals_X5, rfl, by decide, rfl⟩, by decide +kernel⟩
theorem nq_X5_meals_X4_stands : Cond.initialized yX4_stands.cls ∈ wsX5_meals ∧ Cond.instanceMethod yX4_stands ∈ wsX5_meals ∧ Cond.selects yX4_stands.cls yX4_stands yX4_stands ∈ wsX5_meals := ⟨by decide +kernel, by decide +kernel, by decide +kernel⟩
theorem in_X5_meals_X4 : ∀ w ∈ wsX40, w ∈ wsX5_meals := by decide +kernel
theorem fn_X5_meals_160 : FLN RX5 wsX5_meals RX4 RX4 TX4 8 4 6 160 := ⟨⟨in_X5_meals_X4, rfl, by decide, rfl⟩, "TableShares", by decide +kernel⟩
set_option maxHeartbeats 4000000 in
set_option maxRecDepth 100000 in
theorem c_mealsNo (l : Launch) (D : va_G) (cs : Nat → ClassId) {xo : Nat} {xr : Nat} {xd : Nat} {ta : Nat} {tb : Nat} {xi : Nat} {aa : Nat} {sa : Nat} {lf : Int32} {fg : Int32} {tk : Nat} {tq : Nat} {tw : Nat} {pe : Int32} {ti : Int32} {aw : Int32} {me : Int32} {sp : Int32} {x : Int32} (hno : ¬ 0 < pe ∨ x < 1 ∨ 20 < x ∨ 999 < me + x) : CT l D (tz cs) yX5_meals wsX5_meals ({ frames := 4, cells := 0, slots := 0, locals := 91 }) [.ref xo, .int x] [(xo, .inr (5, [.ref xr, .ref xd, .ref ta, .ref tb, .ref xi, .ref aa, .ref sa, .int lf, .int fg])), (ta, .inr (4, [.ref tk, .ref tq, .ref tw, .int pe, .int ti, .int aw, .int me, .int sp]))] (some (.int (if 0 < pe then (if x < 1 then -1000001 else if 20 < x then -1000001 else -1000003) else -1000002))) [(xo, .inr (5, [.ref xr, .ref xd, .ref ta, .ref tb, .ref xi, .ref aa, .ref sa, .int lf, .int fg])), (ta, .inr (4, [.ref tk, .ref tq, .ref tw, .int pe, .int ti, .int aw, .int me, .int sp]))] := by
  refine CT.of kX5_meals (Nat.le_of_ble_eq_true rfl) ?_
  intro p e s m below meth c A C E
  have C : VOk p s m _ c cX5_meals 4 wsX5_meals RX5 D (tz cs) A s.heap := C
  refine V.lvs (lv' := [(0, .ref xo), (1, .int x)]) [0, 1] rfl ?_
  refine v_aload_n C 0 dX5_meals_0 rfl ?_
  refine v_get C (v := .ref ta) fl_X5_meals_26 0 rfl rfl dX5_meals_1 ?_
  refine v_callVN (qi := 0) C [] [] kX4_stands gX5_meals_X4_stands_n138 (host := "TableShares") (by decide +kernel) nq_X5_meals_X4_stands (c_stands l D cs (ta := ta) (tk := tk) (tq := tq) (tw := tw) (pe := pe) (ti := ti) (aw := aw) (me := me) (sp := sp) ) ⟨Nat.le_of_ble_eq_true rfl, Nat.le_of_ble_eq_true rfl⟩ ⟨rfl, rfl⟩ ⟨Nat.zero_le _, Nat.zero_le _⟩ rfl 1 rfl rfl rfl rfl (Nat.le_of_ble_eq_true rfl) [1] [(xo, .inr (5, [.ref xr, .ref xd, .ref ta, .ref tb, .ref xi, .ref aa, .ref sa, .int lf, .int fg])), (ta, .inr (4, [.ref tk, .ref tq, .ref tw, .int pe, .int ti, .int aw, .int me, .int sp]))] rfl (by decide) (show [ta] = [ta] from rfl) (rfl) dX5_meals_4 ?_
  refine V.sts (st' := [.int (b2 (decide (0 < pe)))]) rfl ?_
  refine v_if_neB C 13 dX5_meals_7 (by decide) (fun c1 => ?_) (fun c1 => ?_)
  · skip
    refine v_iload_n C 1 dX5_meals_13 rfl ?_
    refine v_iconst C (v := 1) dX5_meals_14 (by decide) ?_
    refine v_icmp_lt C 24 dX5_meals_15 (by decide) (fun c2 => ?_) (fun c2 => ?_)
    · skip
      refine v_ldc C (v := -1000001) (by decide +kernel) dX5_meals_24 ?_
      exact v_iret C E (by first | rfl | (simp only [c1, of_decide_eq_true c1, c2, Int32.not_le.mpr c2, ↓reduceIte, Bool.false_eq_true, reduceCtorEq, Bool.and_true, Bool.true_and, Bool.and_false, Bool.false_and]; done) | (simp [c1, of_decide_eq_true c1, c2, Int32.not_le.mpr c2]; done) | (simp_all [b2]; done)) (by first | rfl | (simp only [c1, of_decide_eq_true c1, c2, Int32.not_le.mpr c2, ↓reduceIte, Bool.false_eq_true, reduceCtorEq, Bool.and_true, Bool.true_and, Bool.and_false, Bool.false_and]; done) | (simp [c1, of_decide_eq_true c1, c2, Int32.not_le.mpr c2]; done) | (simp_all [b2]; done)) dX5_meals_26
    · skip
      refine v_iload_n C 1 dX5_meals_18 rfl ?_
      refine v_bipush C (v := 20) dX5_meals_19 (by decide) ?_
      refine v_icmp_le C 27 dX5_meals_21 (by decide) (fun c3 => ?_) (fun c3 => ?_)
      · skip
        refine v_aload_n C 0 dX5_meals_27 rfl ?_
        refine v_get C (v := .ref ta) fl_X5_meals_26 0 rfl rfl dX5_meals_28 ?_
        refine v_getN C (v := .int me) fn_X5_meals_160 1 rfl rfl dX5_meals_31 ?_
        refine v_iload_n C 1 dX5_meals_34 rfl ?_
        refine v_iadd C dX5_meals_35 ?_
        refine v_sipush C (v := 999) dX5_meals_36 (by decide) ?_
        refine v_icmp_le C 45 dX5_meals_39 (by decide) (fun c4 => ?_) (fun c4 => ?_)
        · exact absurd hno (by simp_all [Int32.not_lt])
        · skip
          refine v_ldc C (v := -1000003) (by decide +kernel) dX5_meals_42 ?_
          exact v_iret C E (by first | rfl | (simp only [c1, of_decide_eq_true c1, c2, Int32.not_lt.mp c2, c3, Int32.not_lt.mpr c3, c4, Int32.not_le.mp c4, ↓reduceIte, Bool.false_eq_true, reduceCtorEq, Bool.and_true, Bool.true_and, Bool.and_false, Bool.false_and]; done) | (simp [c1, of_decide_eq_true c1, c2, Int32.not_lt.mp c2, c3, Int32.not_lt.mpr c3, c4, Int32.not_le.mp c4]; done) | (simp_all [b2]; done)) (by first | rfl | (simp only [c1, of_decide_eq_true c1, c2, Int32.not_lt.mp c2, c3, Int32.not_lt.mpr c3, c4, Int32.not_le.mp c4, ↓reduceIte, Bool.false_eq_true, reduceCtorEq, Bool.and_true, Bool.true_and, Bool.and_false, Bool.false_and]; done) | (simp [c1, of_decide_eq_true c1, c2, Int32.not_lt.mp c2, c3, Int32.not_lt.mpr c3, c4, Int32.not_le.mp c4]; done) | (simp_all [b2]; done)) dX5_meals_44
      · skip
        refine v_ldc C (v := -1000001) (by decide +kernel) dX5_meals_24 ?_
        exact v_iret C E (by first | rfl | (simp only [c1, of_decide_eq_true c1, c2, Int32.not_lt.mp c2, c3, Int32.not_le.mp c3, ↓reduceIte, Bool.false_eq_true, reduceCtorEq, Bool.and_true, Bool.true_and, Bool.and_false, Bool.false_and]; done) | (simp [c1, of_decide_eq_true c1, c2, Int32.not_lt.mp c2, c3, Int32.not_le.mp c3]; done) | (simp_all [b2]; done)) (by first | rfl | (simp only [c1, of_decide_eq_true c1, c2, Int32.not_lt.mp c2, c3, Int32.not_le.mp c3, ↓reduceIte, Bool.false_eq_true, reduceCtorEq, Bool.and_true, Bool.true_and, Bool.and_false, Bool.false_and]; done) | (simp [c1, of_decide_eq_true c1, c2, Int32.not_lt.mp c2, c3, Int32.not_le.mp c3]; done) | (simp_all [b2]; done)) dX5_meals_26
  · skip
    refine v_ldc C (v := -1000002) (by decide +kernel) dX5_meals_10 ?_
    exact v_iret C E (by first | rfl | (simp only [c1, of_decide_eq_false c1, ↓reduceIte, Bool.false_eq_true, reduceCtorEq, Bool.and_true, Bool.true_and, Bool.and_false, Bool.false_and]; done) | (simp [c1, of_decide_eq_false c1]; done) | (simp_all [b2]; done)) (by first | rfl | (simp only [c1, of_decide_eq_false c1, ↓reduceIte, Bool.false_eq_true, reduceCtorEq, Bool.and_true, Bool.true_and, Bool.and_false, Bool.false_and]; done) | (simp [c1, of_decide_eq_false c1]; done) | (simp_all [b2]; done)) dX5_meals_12
theorem nq_X5_meals_X4_there : Cond.initialized yX4_there.cls ∈ wsX5_meals ∧ Cond.instanceMethod yX4_there ∈ wsX5_meals ∧ Cond.selects yX4_there.cls yX4_there yX4_there ∈ wsX5_meals := ⟨by decide +kernel, by decide +kernel, by decide +kernel⟩
theorem nq_X5_meals_X4_worthOfSet : Cond.initialized yX4_worthOfSet.cls ∈ wsX5_meals ∧ Cond.instanceMethod yX4_worthOfSet ∈ wsX5_meals ∧ Cond.selects yX4_worthOfSet.cls yX4_worthOfSet yX4_worthOfSet ∈ wsX5_meals := ⟨by decide +kernel, by decide +kernel, by decide +kernel⟩
theorem fn_X5_meals_170 : FLN RX5 wsX5_meals RX4 RX4 TX4 8 4 7 170 := ⟨⟨in_X5_meals_X4, rfl, by decide, rfl⟩, "TableShares", by decide +kernel⟩
theorem fl_X5_meals_40 : FL RX5 wsX5_meals RX5 RX5 TX5 9 5 5 40 := ⟨⟨in_X5_meals_X5, rfl, by decide, rfl⟩, by decide +kernel⟩
theorem nq_X5_meals_X0_keep : Cond.initialized yX0_keep.cls ∈ wsX5_meals ∧ Cond.instanceMethod yX0_keep ∈ wsX5_meals ∧ Cond.selects yX0_keep.cls yX0_keep yX0_keep ∈ wsX5_meals := ⟨by decide +kernel, by decide +kernel, by decide +kernel⟩
set_option maxHeartbeats 4000000 in
set_option maxRecDepth 100000 in
theorem c_mealsOk (l : Launch) (D : va_G) (cs : Nat → ClassId) {xo : Nat} {xr : Nat} {xd : Nat} {ta : Nat} {tb : Nat} {xi : Nat} {aa : Nat} {sa : Nat} {lf : Int32} {fg : Int32} {tk : Nat} {tq : Nat} {tw : Nat} {kf : Nat → Int32} {sf : Nat → Int32} {wf : Nat → Int32} {pe : Int32} {aw : Int32} {sp : Int32} {tn : Nat} {ap : Nat} {af : Nat → Int32} {kn : Nat} {mn : Nat} {nn : Nat} (hS : ∀ t, s64 (sf t)) (hti : tn ≤ 8) (hk : kn ≤ 24) (hpe : 0 < pe) (h1 : 1 ≤ nn) (h2 : nn ≤ 20) (h3 : mn + nn ≤ 999) : CT l D (tz cs) yX5_meals wsX5_meals ({ frames := 4, cells := 0, slots := 0, locals := 91 }) [.ref xo, .int (nI nn)] [(xo, .inr (5, [.ref xr, .ref xd, .ref ta, .ref tb, .ref xi, .ref aa, .ref sa, .int lf, .int fg])), (ta, .inr (4, [.ref tk, .ref tq, .ref tw, .int pe, .int (nI tn), .int aw, .int (nI mn), .int sp])), (tk, .inl (cs 0, 8, .inl kf)), (tq, .inl (cs 0, 8, .inl sf)), (tw, .inl (cs 0, 8, .inl wf)), (aa, .inr (0, [.ref ap, .int (nI kn)])), (ap, .inl (cs 0, 96, .inl af))] (some (.int (sp + nI nn * wsum kf sf wf (thI pe aw) tn))) [(xo, .inr (5, [.ref xr, .ref xd, .ref ta, .ref tb, .ref xi, .ref aa, .ref sa, .int lf, .int fg])), (ta, .inr (4, [.ref tk, .ref tq, .ref tw, .int pe, .int (nI tn), .int aw, .int (nI (mn + nn)), .int (sp + nI nn * wsum kf sf wf (thI pe aw) tn)])), (tk, .inl (cs 0, 8, .inl kf)), (tq, .inl (cs 0, 8, .inl sf)), (tw, .inl (cs 0, 8, .inl wf)), (aa, .inr (0, [.ref ap, .int (nI (kmN kn nn))])), (ap, .inl (cs 0, 96, .inl (kmF af kn (wsum kf sf wf (thI pe aw) tn) nn)))] := by
  refine CT.of kX5_meals (Nat.le_of_ble_eq_true rfl) ?_
  intro p e s m below meth c A C E
  have C : VOk p s m _ c cX5_meals 4 wsX5_meals RX5 D (tz cs) A s.heap := C
  refine V.lvs (lv' := [(0, .ref xo), (1, .int (nI nn))]) [0, 1] rfl ?_
  refine v_aload_n C 0 dX5_meals_0 rfl ?_
  refine v_get C (v := .ref ta) fl_X5_meals_26 0 rfl rfl dX5_meals_1 ?_
  refine v_callVN (qi := 0) C [] [] kX4_stands gX5_meals_X4_stands_n138 (host := "TableShares") (by decide +kernel) nq_X5_meals_X4_stands (c_stands l D cs (ta := ta) (tk := tk) (tq := tq) (tw := tw) (pe := pe) (ti := (nI tn)) (aw := aw) (me := (nI mn)) (sp := sp) ) ⟨Nat.le_of_ble_eq_true rfl, Nat.le_of_ble_eq_true rfl⟩ ⟨rfl, rfl⟩ ⟨Nat.zero_le _, Nat.zero_le _⟩ rfl 1 rfl rfl rfl rfl (Nat.le_of_ble_eq_true rfl) [1] [(xo, .inr (5, [.ref xr, .ref xd, .ref ta, .ref tb, .ref xi, .ref aa, .ref sa, .int lf, .int fg])), (ta, .inr (4, [.ref tk, .ref tq, .ref tw, .int pe, .int (nI tn), .int aw, .int (nI mn), .int sp])), (tk, .inl (cs 0, 8, .inl kf)), (tq, .inl (cs 0, 8, .inl sf)), (tw, .inl (cs 0, 8, .inl wf)), (aa, .inr (0, [.ref ap, .int (nI kn)])), (ap, .inl (cs 0, 96, .inl af))] rfl (by decide) (show [ta] = [ta] from rfl) (rfl) dX5_meals_4 ?_
  refine V.sts (st' := [.int (b2 (decide (0 < pe)))]) rfl ?_
  skip
  refine v_if_neB C 13 dX5_meals_7 (by decide) (fun c1 => ?_) (fun c1 => ?_)
  · skip
    refine v_iload_n C 1 dX5_meals_13 rfl ?_
    refine v_iconst C (v := 1) dX5_meals_14 (by decide) ?_
    refine v_icmp_lt C 24 dX5_meals_15 (by decide) (fun c2 => ?_) (fun c2 => ?_)
    · exact absurd c2 (nI_nlt (a := nn) (b := 1) h1 (by omega))
    · skip
      refine v_iload_n C 1 dX5_meals_18 rfl ?_
      refine v_bipush C (v := 20) dX5_meals_19 (by decide) ?_
      refine v_icmp_le C 27 dX5_meals_21 (by decide) (fun c3 => ?_) (fun c3 => ?_)
      · skip
        refine v_aload_n C 0 dX5_meals_27 rfl ?_
        refine v_get C (v := .ref ta) fl_X5_meals_26 0 rfl rfl dX5_meals_28 ?_
        refine v_getN C (v := .int (nI mn)) fn_X5_meals_160 1 rfl rfl dX5_meals_31 ?_
        refine v_iload_n C 1 dX5_meals_34 rfl ?_
        refine v_iadd C dX5_meals_35 ?_
        refine V.topr (y := nI (mn + nn)) (nI_add _ _) ?_
        refine v_sipush C (v := 999) dX5_meals_36 (by decide) ?_
        refine v_icmp_le C 45 dX5_meals_39 (by decide) (fun c4 => ?_) (fun c4 => ?_)
        · skip
          refine v_aload_n C 0 dX5_meals_45 rfl ?_
          refine v_get C (v := .ref ta) fl_X5_meals_26 0 rfl rfl dX5_meals_46 ?_
          refine v_aload_n C 0 dX5_meals_49 rfl ?_
          refine v_get C (v := .ref ta) fl_X5_meals_26 0 rfl rfl dX5_meals_50 ?_
          refine v_callVN (qi := 0) C [] [.ref ta] kX4_there gX5_meals_X4_there_n163 (host := "TableShares") (by decide +kernel) nq_X5_meals_X4_there (c_there l D cs (ta := ta) (tk := tk) (tq := tq) (tw := tw) (pe := pe) (ti := (nI tn)) (aw := aw) (me := (nI mn)) (sp := sp) ) ⟨Nat.le_of_ble_eq_true rfl, Nat.le_of_ble_eq_true rfl⟩ ⟨rfl, rfl⟩ ⟨Nat.zero_le _, Nat.zero_le _⟩ rfl 1 rfl rfl rfl rfl (Nat.le_of_ble_eq_true rfl) [1] [(xo, .inr (5, [.ref xr, .ref xd, .ref ta, .ref tb, .ref xi, .ref aa, .ref sa, .int lf, .int fg])), (ta, .inr (4, [.ref tk, .ref tq, .ref tw, .int pe, .int (nI tn), .int aw, .int (nI mn), .int sp])), (tk, .inl (cs 0, 8, .inl kf)), (tq, .inl (cs 0, 8, .inl sf)), (tw, .inl (cs 0, 8, .inl wf)), (aa, .inr (0, [.ref ap, .int (nI kn)])), (ap, .inl (cs 0, 96, .inl af))] rfl (by decide) (show [ta] = [ta] from rfl) (rfl) dX5_meals_53 ?_
          refine V.sts (st' := [.int (thI pe aw), .ref ta]) rfl ?_
          refine v_callVN (qi := 0) C [.int (thI pe aw)] [] kX4_worthOfSet gX5_meals_X4_worthOfSet_n167 (host := "TableShares") (by decide +kernel) nq_X5_meals_X4_worthOfSet (c_worthOfSet l D cs (ta := ta) (tk := tk) (tq := tq) (tw := tw) (kf := kf) (sf := sf) (wf := wf) (pe := pe) (aw := aw) (me := (nI mn)) (sp := sp) (tn := tn) (th := (thI pe aw)) (by first | assumption | omega) (by first | assumption | omega)) ⟨Nat.le_of_ble_eq_true rfl, Nat.le_of_ble_eq_true rfl⟩ ⟨rfl, rfl⟩ ⟨Nat.zero_le _, Nat.zero_le _⟩ rfl 1 rfl rfl rfl rfl (Nat.le_of_ble_eq_true rfl) [1, 2, 3, 4] [(xo, .inr (5, [.ref xr, .ref xd, .ref ta, .ref tb, .ref xi, .ref aa, .ref sa, .int lf, .int fg])), (ta, .inr (4, [.ref tk, .ref tq, .ref tw, .int pe, .int (nI tn), .int aw, .int (nI mn), .int sp])), (tk, .inl (cs 0, 8, .inl kf)), (tq, .inl (cs 0, 8, .inl sf)), (tw, .inl (cs 0, 8, .inl wf)), (aa, .inr (0, [.ref ap, .int (nI kn)])), (ap, .inl (cs 0, 96, .inl af))] rfl (by decide) (show [ta, tk, tq, tw] = [ta, tk, tq, tw] from rfl) (rfl) dX5_meals_56 ?_
          refine V.sts (st' := [.int (wsum kf sf wf (thI pe aw) tn)]) rfl ?_
          refine v_istore_n C [(0, .ref xo), (1, .int (nI nn)), (2, .int (wsum kf sf wf (thI pe aw) tn))] [1, 2, 0] dX5_meals_59 (by decide) rfl ?_
          refine v_iconst C (v := 0) dX5_meals_60 (by decide) ?_
          refine v_istore_n C [(0, .ref xo), (1, .int (nI nn)), (2, .int (wsum kf sf wf (thI pe aw) tn)), (3, .int 0)] [1, 2, 3, 0] dX5_meals_61 (by decide) rfl ?_
          have L62 : ∀ (n : Nat) (i : Nat) (y0 : Int32) (y1 : Int32) (y2 : Nat → Int32), y0 = (nI i) → y1 = (nI (kmN kn i)) → y2 = kmF af kn (wsum kf sf wf (thI pe aw) tn) i → (i ≤ nn) → (nn - i) < n → V p l e ({ frames := 4, cells := 0, slots := 0, locals := 91 }) s m (List.toArray [.ref xo, .int (nI nn)]) below meth c 0 0 (MQ below (vq_Q (some (.int (sp + nI nn * wsum kf sf wf (thI pe aw) tn))) D [(xo, .inr (5, [.ref xr, .ref xd, .ref ta, .ref tb, .ref xi, .ref aa, .ref sa, .int lf, .int fg])), (ta, .inr (4, [.ref tk, .ref tq, .ref tw, .int pe, .int (nI tn), .int aw, .int (nI (mn + nn)), .int (sp + nI nn * wsum kf sf wf (thI pe aw) tn)])), (tk, .inl (cs 0, 8, .inl kf)), (tq, .inl (cs 0, 8, .inl sf)), (tw, .inl (cs 0, 8, .inl wf)), (aa, .inr (0, [.ref ap, .int (nI (kmN kn nn))])), (ap, .inl (cs 0, 96, .inl (kmF af kn (wsum kf sf wf (thI pe aw) tn) nn)))] [(xo, .inr (5, [.ref xr, .ref xd, .ref ta, .ref tb, .ref xi, .ref aa, .ref sa, .int lf, .int fg])), (ta, .inr (4, [.ref tk, .ref tq, .ref tw, .int pe, .int (nI tn), .int aw, .int (nI mn), .int sp])), (tk, .inl (cs 0, 8, .inl kf)), (tq, .inl (cs 0, 8, .inl sf)), (tw, .inl (cs 0, 8, .inl wf)), (aa, .inr (0, [.ref ap, .int (nI kn)])), (ap, .inl (cs 0, 96, .inl af))] s.heap.size) (List.toArray [.ref xo, .int (nI nn)]) s 0 0 (va_A [(xo, .inr (5, [.ref xr, .ref xd, .ref ta, .ref tb, .ref xi, .ref aa, .ref sa, .int lf, .int fg])), (ta, .inr (4, [.ref tk, .ref tq, .ref tw, .int pe, .int (nI tn), .int aw, .int (nI mn), .int sp])), (tk, .inl (cs 0, 8, .inl kf)), (tq, .inl (cs 0, 8, .inl sf)), (tw, .inl (cs 0, 8, .inl wf)), (aa, .inr (0, [.ref ap, .int (nI kn)])), (ap, .inl (cs 0, 96, .inl af))] s.heap.size)) 4 D A s.heap 62 [(0, .ref xo), (1, .int (nI nn)), (2, .int (wsum kf sf wf (thI pe aw) tn)), (3, .int y0)] [] [(xo, .inr (5, [.ref xr, .ref xd, .ref ta, .ref tb, .ref xi, .ref aa, .ref sa, .int lf, .int fg])), (ta, .inr (4, [.ref tk, .ref tq, .ref tw, .int pe, .int (nI tn), .int aw, .int (nI mn), .int sp])), (tk, .inl (cs 0, 8, .inl kf)), (tq, .inl (cs 0, 8, .inl sf)), (tw, .inl (cs 0, 8, .inl wf)), (aa, .inr (0, [.ref ap, .int y1])), (ap, .inl (cs 0, 96, .inl y2))] := by
            intro n
            induction n with
            | zero =>
              intros; omega
            | succ n ih62 =>
              intro i y0 y1 y2 ey0 ey1 ey2 hi hn
              subst ey0
              subst ey1
              subst ey2
              refine v_iload_n C 3 dX5_meals_62 rfl ?_
              refine v_iload_n C 1 dX5_meals_63 rfl ?_
              refine v_icmp_ge C 84 dX5_meals_64 (by decide) (fun c5 => ?_) (fun c5 => ?_)
              · skip
                have hge : nn ≤ i := le_nI c5 (by omega) (by omega)
                refine v_aload_n C 0 dX5_meals_84 rfl ?_
                refine v_get C (v := .ref ta) fl_X5_meals_26 0 rfl rfl dX5_meals_85 ?_
                refine v_dup C dX5_meals_88 rfl ?_
                refine v_getN C (v := .int (nI mn)) fn_X5_meals_160 1 rfl rfl dX5_meals_89 ?_
                refine v_iload_n C 1 dX5_meals_92 rfl ?_
                refine v_iadd C dX5_meals_93 ?_
                refine V.topr (y := nI (mn + nn)) (nI_add _ _) ?_
                refine v_putN C fn_X5_meals_160 fp_X4_6 1 rfl rfl rfl (Nat.le_of_ble_eq_true rfl) [(xo, .inr (5, [.ref xr, .ref xd, .ref ta, .ref tb, .ref xi, .ref aa, .ref sa, .int lf, .int fg])), (ta, .inr (4, [.ref tk, .ref tq, .ref tw, .int pe, .int (nI tn), .int aw, .int (nI (mn + nn)), .int sp])), (tk, .inl (cs 0, 8, .inl kf)), (tq, .inl (cs 0, 8, .inl sf)), (tw, .inl (cs 0, 8, .inl wf)), (aa, .inr (0, [.ref ap, .int (nI (kmN kn i))])), (ap, .inl (cs 0, 96, .inl (kmF af kn (wsum kf sf wf (thI pe aw) tn) i)))] rfl dX5_meals_94 ?_
                refine v_aload_n C 0 dX5_meals_97 rfl ?_
                refine v_get C (v := .ref ta) fl_X5_meals_26 0 rfl rfl dX5_meals_98 ?_
                refine v_dup C dX5_meals_101 rfl ?_
                refine v_getN C (v := .int sp) fn_X5_meals_170 1 rfl rfl dX5_meals_102 ?_
                refine v_iload_n C 1 dX5_meals_105 rfl ?_
                refine v_iload_n C 2 dX5_meals_106 rfl ?_
                refine v_imul C dX5_meals_107 ?_
                refine v_iadd C dX5_meals_108 ?_
                refine v_putN C fn_X5_meals_170 fp_X4_7 1 rfl rfl rfl (Nat.le_of_ble_eq_true rfl) [(xo, .inr (5, [.ref xr, .ref xd, .ref ta, .ref tb, .ref xi, .ref aa, .ref sa, .int lf, .int fg])), (ta, .inr (4, [.ref tk, .ref tq, .ref tw, .int pe, .int (nI tn), .int aw, .int (nI (mn + nn)), .int (sp + ((nI nn) * (wsum kf sf wf (thI pe aw) tn)))])), (tk, .inl (cs 0, 8, .inl kf)), (tq, .inl (cs 0, 8, .inl sf)), (tw, .inl (cs 0, 8, .inl wf)), (aa, .inr (0, [.ref ap, .int (nI (kmN kn i))])), (ap, .inl (cs 0, 96, .inl (kmF af kn (wsum kf sf wf (thI pe aw) tn) i)))] rfl dX5_meals_109 ?_
                refine v_aload_n C 0 dX5_meals_112 rfl ?_
                refine v_get C (v := .ref ta) fl_X5_meals_26 0 rfl rfl dX5_meals_113 ?_
                refine v_getN C (v := .int (sp + ((nI nn) * (wsum kf sf wf (thI pe aw) tn)))) fn_X5_meals_170 1 rfl rfl dX5_meals_116 ?_
                exact v_iret C E (by rw [show i = nn by omega]) (by first | rfl | (simp [hS, hti, hk, hpe, h1, h2, h3, c1, c2, c3, c4, hi, c5, ↓reduceIte]; done) | (simp_all [b2]; done)) dX5_meals_119
              · skip
                have hlt : i < nn := nle_nI c5 (by omega) (by omega)
                refine v_aload_n C 0 dX5_meals_67 rfl ?_
                refine v_get C (v := .ref aa) fl_X5_meals_40 0 rfl rfl dX5_meals_68 ?_
                refine v_iconst C (v := 3) dX5_meals_71 (by decide) ?_
                refine v_iload_n C 2 dX5_meals_72 rfl ?_
                refine v_iconst C (v := 0) dX5_meals_73 (by decide) ?_
                refine v_iconst C (v := 0) dX5_meals_74 (by decide) ?_
                refine v_callVN (qi := 0) C [.int 3, .int (wsum kf sf wf (thI pe aw) tn), .int 0, .int 0] [] kX0_keep gX5_meals_X0_keep_n134 (host := "TableShares") (by decide +kernel) nq_X5_meals_X0_keep (c_keep l D cs (aa := aa) (ap := ap) (af := kmF af kn (wsum kf sf wf (thI pe aw) tn) i) (kn := (kmN kn i)) (x0 := 3) (x1 := (wsum kf sf wf (thI pe aw) tn)) (x2 := 0) (x3 := 0) (kmN_le hk i)) ⟨Nat.le_of_ble_eq_true rfl, Nat.le_of_ble_eq_true rfl⟩ ⟨rfl, rfl⟩ ⟨Nat.zero_le _, Nat.zero_le _⟩ rfl 5 rfl rfl rfl rfl (Nat.le_of_ble_eq_true rfl) [5, 6] [(xo, .inr (5, [.ref xr, .ref xd, .ref ta, .ref tb, .ref xi, .ref aa, .ref sa, .int lf, .int fg])), (ta, .inr (4, [.ref tk, .ref tq, .ref tw, .int pe, .int (nI tn), .int aw, .int (nI mn), .int sp])), (tk, .inl (cs 0, 8, .inl kf)), (tq, .inl (cs 0, 8, .inl sf)), (tw, .inl (cs 0, 8, .inl wf)), (aa, .inr (0, [.ref ap, .int (nI (kpN (kmN kn i)))])), (ap, .inl (cs 0, 96, .inl (kpF (kmF af kn (wsum kf sf wf (thI pe aw) tn) i) (kmN kn i) 3 (wsum kf sf wf (thI pe aw) tn) 0 0)))] rfl (by decide) (show [aa, ap] = [aa, ap] from rfl) (rfl) dX5_meals_75 ?_
                refine V.sts (st' := []) rfl ?_
                refine v_iinc C (k := 3) (nI (i + 1)) [(0, .ref xo), (1, .int (nI nn)), (2, .int (wsum kf sf wf (thI pe aw) tn)), (3, .int (nI (i + 1)))] [1, 2, 3, 0] dX5_meals_78 rfl (nI_inc _) (by decide) rfl ?_
                refine v_goto C 62 dX5_meals_81 (by decide) ?_
                exact ih62 (i + 1) _ _ _ (rfl) (rfl) (rfl) (by first | assumption | omega) (by omega)
          exact L62 _ 0 _ _ _ (rfl) (rfl) (rfl) (by first | assumption | omega) (Nat.lt_succ_self _)
        · exact absurd (nI_le (a := mn + nn) (b := 999) h3 (by decide)) c4
      · exact absurd (nI_le (a := nn) (b := 20) h2 (by decide)) c3
  · exact absurd c1 (by simp [hpe])
