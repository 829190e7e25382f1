theorem kX6_due : KD yX6_due wsX6_due cX6_due 7 (some .int) 2 := ⟨⟨_, rfl⟩, by decide, by decide +kernel, by decide +kernel, by decide +kernel⟩
theorem in_X6_due_X6 : ∀ w ∈ wsX60, w ∈ wsX6_due := by decide +kernel
theorem fl_X6_due_19 : FL RX6 wsX6_due RX6 RX6 TX6 22 6 5 19 := ⟨⟨in_X6_due_X6, rfl, by decide, rfl⟩, by decide +kernel⟩
set_option maxHeartbeats 4000000 in
set_option maxRecDepth 100000 in
theorem c_mdue (l : Launch) (D : va_G) (cs : Nat → ClassId) {mo : Nat} {ml : Nat} {mz : Nat} {mi : Nat} {mt : Nat} {mv : Nat} {mp : Nat} {md : Nat} {mc : Nat} {mk : Nat} {mq : Nat} {mr : Nat} {su : Int32} {it : Bool} {nby : Int32} {lt : Int32} {pl : Int32} {tok : Int32} {va : Int32} {be : Int32} {wr : Int32} {am : Int32} {td : Int32} {tf : Nat → Int32} {pn : Nat} {tn : Nat} {x : Int32} {y : Int32} (hte : tf 1 = nI tn) (hti : tn ≤ 8) (hS : ∀ t, s64 (tf (13 + t))) (hK : ∀ t, t < tn → kok (tf (5 + t))) (hpe : tf 0 = nI pn) (hpn : pn ≤ 6) : CT l D (tz cs) yX6_due wsX6_due ({ frames := 4, cells := 0, slots := 0, locals := 94 }) [.ref mo, .int x, .int y] [(mo, .inr (6, [.ref ml, .ref mz, .ref mi, .int su, .int (b2 it), .ref mt, .ref mv, .ref mp, .int nby, .int lt, .int pl, .int tok, .int va, .int be, .int wr, .ref md, .ref mc, .int am, .ref mk, .ref mq, .ref mr, .int td])), (mt, .inl (cs 0, 29, .inl tf))] (some (.int (if (inB (nI pn) x && zo y) = true then frI (dueS (kS tf) (sS tf) (wS tf) tn pn x (2 ^ pn)) (nI (facN pn)) y else -1000001))) [(mo, .inr (6, [.ref ml, .ref mz, .ref mi, .int su, .int (b2 it), .ref mt, .ref mv, .ref mp, .int nby, .int lt, .int pl, .int tok, .int va, .int be, .int wr, .ref md, .ref mc, .int am, .ref mk, .ref mq, .ref mr, .int td])), (mt, .inl (cs 0, 29, .inl tf))] := by
  refine CT.of kX6_due (Nat.le_of_ble_eq_true rfl) ?_
  intro p e s m below meth c A C E
  have C : VOk p s m _ c cX6_due 7 wsX6_due RX6 D (tz cs) A s.heap := C
  refine V.lvs (lv' := [(0, .ref mo), (1, .int x), (2, .int y)]) [0, 1, 2] rfl ?_
  have hpw := pw64 pn hpn
  refine v_aload_n C 0 dX6_due_0 rfl ?_
  refine v_iload_n C 1 dX6_due_1 rfl ?_
  refine v_callV (qi := 0) C [.int x] [] kX6_isPerson gX6_due_X6_isPerson (c_misPerson l D cs (mo := mo) (ml := ml) (mz := mz) (mi := mi) (mt := mt) (mv := mv) (mp := mp) (md := md) (mc := mc) (mk := mk) (mq := mq) (mr := mr) (su := su) (it := it) (nby := nby) (lt := lt) (pl := pl) (tok := tok) (va := va) (be := be) (wr := wr) (am := am) (td := td) (tf := tf) (pn := pn) (x := x) (by first | assumption | omega) (by first | assumption | omega)) ⟨Nat.le_of_ble_eq_true rfl, Nat.le_of_ble_eq_true rfl⟩ ⟨rfl, rfl⟩ ⟨Nat.zero_le _, Nat.zero_le _⟩ rfl 0 rfl rfl rfl rfl (Nat.le_of_ble_eq_true rfl) [0, 1] [(mo, .inr (6, [.ref ml, .ref mz, .ref mi, .int su, .int (b2 it), .ref mt, .ref mv, .ref mp, .int nby, .int lt, .int pl, .int tok, .int va, .int be, .int wr, .ref md, .ref mc, .int am, .ref mk, .ref mq, .ref mr, .int td])), (mt, .inl (cs 0, 29, .inl tf))] rfl (by decide) (show [mo, mt] = [mo, mt] from rfl) (rfl) dX6_due_2 ?_
  refine V.sts (st' := [.int (b2 (inB (nI pn) x))]) rfl ?_
  refine v_if_eqB C 18 dX6_due_5 (by decide) (fun c1 => ?_) (fun c1 => ?_)
  · skip
    refine v_ldc C (v := -1000001) (by decide +kernel) dX6_due_18 ?_
    exact v_iret C E (rfl) (by first | rfl | (simp only [frI, ← inI_01, c1, ↓reduceIte, Bool.false_eq_true, reduceCtorEq, Bool.and_true, Bool.true_and, Bool.and_false, Bool.false_and]; done) | (simp [frI, ← inI_01, c1]; done) | (simp_all [frI, ← inI_01]; done)) dX6_due_20
  · skip
    refine v_iload_n C 2 dX6_due_8 rfl ?_
    refine v_i2l C dX6_due_9 ?_
    refine v_lconst C (v := 0) dX6_due_10 (by decide) ?_
    refine v_lconst C (v := 1) dX6_due_11 (by decide) ?_
    refine v_callS C [.long (Int32.toInt64 y), .long 0, .long 1] [] kX6_in gX6_due_X6_in (c_inI l D cs (x := y) (a := 0) (b := 1) (lo := 0) (hi := 1) (by decide) (by decide)) ⟨Nat.le_of_ble_eq_true rfl, Nat.le_of_ble_eq_true rfl⟩ ⟨rfl, rfl⟩ ⟨Nat.zero_le _, Nat.zero_le _⟩ rfl rfl (Nat.le_of_ble_eq_true rfl) [] [(mo, .inr (6, [.ref ml, .ref mz, .ref mi, .int su, .int (b2 it), .ref mt, .ref mv, .ref mp, .int nby, .int lt, .int pl, .int tok, .int va, .int be, .int wr, .ref md, .ref mc, .int am, .ref mk, .ref mq, .ref mr, .int td])), (mt, .inl (cs 0, 29, .inl tf))] rfl (by decide) rfl (rfl) dX6_due_12 ?_
    refine V.sts (st' := [.int (b2 (inI y 0 1))]) rfl ?_
    refine v_if_neB C 21 dX6_due_15 (by decide) (fun c2 => ?_) (fun c2 => ?_)
    · skip
      refine v_aload_n C 0 dX6_due_21 rfl ?_
      refine v_get C (v := .ref mt) fl_X6_due_19 0 rfl rfl dX6_due_22 ?_
      refine v_iconst C (v := 0) dX6_due_25 (by decide) ?_
      refine v_iald C 1 0 rfl rfl (tf 0) (rfl) (vp_in_nI (n := 0) (N := 29) (by decide) (by decide)) dX6_due_26 ?_
      refine V.topr (y := nI pn) (hpe) ?_
      have hp1 := inB_pos (by omega) c1
      refine v_istore_n C [(0, .ref mo), (1, .int x), (2, .int y), (3, .int (nI pn))] [1, 2, 3, 0] dX6_due_27 (by decide) rfl ?_
      refine v_iconst C (v := 0) dX6_due_28 (by decide) ?_
      refine v_istore C [(0, .ref mo), (1, .int x), (2, .int y), (3, .int (nI pn)), (4, .int 0)] [1, 2, 3, 4, 0] dX6_due_29 (by decide) rfl ?_
      refine v_iconst C (v := 0) dX6_due_31 (by decide) ?_
      refine v_istore C [(0, .ref mo), (1, .int x), (2, .int y), (3, .int (nI pn)), (4, .int 0), (5, .int 0)] [1, 2, 3, 4, 5, 0] dX6_due_32 (by decide) rfl ?_
      have L34 : ∀ (n : Nat) (i : Nat) (y0 : Int32) (y1 : Int32), y0 = (dueS (kS tf) (sS tf) (wS tf) tn pn x i) → y1 = (nI i) → (i ≤ 2 ^ pn) → (2 ^ pn - i) < n → V p l e ({ frames := 4, cells := 0, slots := 0, locals := 94 }) s m (List.toArray [.ref mo, .int x, .int y]) below meth c 0 0 (MQ below (vq_Q (some (.int (if (inB (nI pn) x && zo y) = true then frI (dueS (kS tf) (sS tf) (wS tf) tn pn x (2 ^ pn)) (nI (facN pn)) y else -1000001))) D [(mo, .inr (6, [.ref ml, .ref mz, .ref mi, .int su, .int (b2 it), .ref mt, .ref mv, .ref mp, .int nby, .int lt, .int pl, .int tok, .int va, .int be, .int wr, .ref md, .ref mc, .int am, .ref mk, .ref mq, .ref mr, .int td])), (mt, .inl (cs 0, 29, .inl tf))] [(mo, .inr (6, [.ref ml, .ref mz, .ref mi, .int su, .int (b2 it), .ref mt, .ref mv, .ref mp, .int nby, .int lt, .int pl, .int tok, .int va, .int be, .int wr, .ref md, .ref mc, .int am, .ref mk, .ref mq, .ref mr, .int td])), (mt, .inl (cs 0, 29, .inl tf))] s.heap.size) (List.toArray [.ref mo, .int x, .int y]) s 0 0 (va_A [(mo, .inr (6, [.ref ml, .ref mz, .ref mi, .int su, .int (b2 it), .ref mt, .ref mv, .ref mp, .int nby, .int lt, .int pl, .int tok, .int va, .int be, .int wr, .ref md, .ref mc, .int am, .ref mk, .ref mq, .ref mr, .int td])), (mt, .inl (cs 0, 29, .inl tf))] s.heap.size)) 7 D A s.heap 34 [(0, .ref mo), (1, .int x), (2, .int y), (3, .int (nI pn)), (4, .int y0), (5, .int y1)] [] [(mo, .inr (6, [.ref ml, .ref mz, .ref mi, .int su, .int (b2 it), .ref mt, .ref mv, .ref mp, .int nby, .int lt, .int pl, .int tok, .int va, .int be, .int wr, .ref md, .ref mc, .int am, .ref mk, .ref mq, .ref mr, .int td])), (mt, .inl (cs 0, 29, .inl tf))] := by
        intro n
        induction n with
        | zero =>
          intros; omega
        | succ n ih34 =>
          intro i y0 y1 ey0 ey1 hi hn
          subst ey0
          subst ey1
          refine v_iload C 5 dX6_due_34 rfl ?_
          refine v_aload_n C 0 dX6_due_36 rfl ?_
          refine v_callV (qi := 0) C [] [.int (nI i)] kX6_all gX6_due_X6_all (c_mall l D cs (mo := mo) (ml := ml) (mz := mz) (mi := mi) (mt := mt) (mv := mv) (mp := mp) (md := md) (mc := mc) (mk := mk) (mq := mq) (mr := mr) (su := su) (it := it) (nby := nby) (lt := lt) (pl := pl) (tok := tok) (va := va) (be := be) (wr := wr) (am := am) (td := td) (tf := tf) ) ⟨Nat.le_of_ble_eq_true rfl, Nat.le_of_ble_eq_true rfl⟩ ⟨rfl, rfl⟩ ⟨Nat.zero_le _, Nat.zero_le _⟩ rfl 0 rfl rfl rfl rfl (Nat.le_of_ble_eq_true rfl) [0, 1] [(mo, .inr (6, [.ref ml, .ref mz, .ref mi, .int su, .int (b2 it), .ref mt, .ref mv, .ref mp, .int nby, .int lt, .int pl, .int tok, .int va, .int be, .int wr, .ref md, .ref mc, .int am, .ref mk, .ref mq, .ref mr, .int td])), (mt, .inl (cs 0, 29, .inl tf))] rfl (by decide) (show [mo, mt] = [mo, mt] from rfl) (rfl) dX6_due_37 ?_
          refine V.sts (st' := [.int (allI (tf 0)), .int (nI i)]) rfl ?_
          refine V.topr (y := nI (2 ^ pn - 1)) (by rw [hpe]; exact all_nI pn hpn) ?_
          refine v_icmp_gt C 92 dX6_due_40 (by decide) (fun c3 => ?_) (fun c3 => ?_)
          · skip
            have hge : 2 ^ pn - 1 < i := lt_nI c3 (by omega) (by omega)
            have hsub : i = 2 ^ pn := by omega
            subst hsub
            refine v_iload_n C 3 dX6_due_92 rfl ?_
            refine v_callS C [.int (nI pn)] [] kX6_factorial gX6_due_X6_factorial (c_mfactorial l D cs (a := pn) (by first | omega | exact Nat.le_trans (pop_le _) (by decide))) ⟨Nat.le_of_ble_eq_true rfl, Nat.le_of_ble_eq_true rfl⟩ ⟨rfl, rfl⟩ ⟨Nat.zero_le _, Nat.zero_le _⟩ rfl rfl (Nat.le_of_ble_eq_true rfl) [] [(mo, .inr (6, [.ref ml, .ref mz, .ref mi, .int su, .int (b2 it), .ref mt, .ref mv, .ref mp, .int nby, .int lt, .int pl, .int tok, .int va, .int be, .int wr, .ref md, .ref mc, .int am, .ref mk, .ref mq, .ref mr, .int td])), (mt, .inl (cs 0, 29, .inl tf))] rfl (by decide) rfl (rfl) dX6_due_93 ?_
            refine V.sts (st' := [.int (nI (facN pn))]) rfl ?_
            refine v_istore C [(0, .ref mo), (1, .int x), (2, .int y), (3, .int (nI pn)), (4, .int (dueS (kS tf) (sS tf) (wS tf) tn pn x (2 ^ pn))), (5, .int (nI (facN pn)))] [1, 2, 3, 4, 5, 0] dX6_due_96 (by decide) rfl ?_
            refine v_iload C 4 dX6_due_98 rfl ?_
            refine v_iload C 5 dX6_due_100 rfl ?_
            refine v_callS C [.int (dueS (kS tf) (sS tf) (wS tf) tn pn x (2 ^ pn)), .int (nI (facN pn))] [] kX6_common gX6_due_X6_common (c_mcommon l D cs (a := (dueS (kS tf) (sS tf) (wS tf) tn pn x (2 ^ pn))) (b := (nI (facN pn))) ) ⟨Nat.le_of_ble_eq_true rfl, Nat.le_of_ble_eq_true rfl⟩ ⟨rfl, rfl⟩ ⟨Nat.zero_le _, Nat.zero_le _⟩ rfl rfl (Nat.le_of_ble_eq_true rfl) [] [(mo, .inr (6, [.ref ml, .ref mz, .ref mi, .int su, .int (b2 it), .ref mt, .ref mv, .ref mp, .int nby, .int lt, .int pl, .int tok, .int va, .int be, .int wr, .ref md, .ref mc, .int am, .ref mk, .ref mq, .ref mr, .int td])), (mt, .inl (cs 0, 29, .inl tf))] rfl (by decide) rfl (rfl) dX6_due_102 ?_
            refine V.sts (st' := [.int (euc 100 (abI (dueS (kS tf) (sS tf) (wS tf) tn pn x (2 ^ pn))) (nI (facN pn)))]) rfl ?_
            refine v_istore C [(0, .ref mo), (1, .int x), (2, .int y), (3, .int (nI pn)), (4, .int (dueS (kS tf) (sS tf) (wS tf) tn pn x (2 ^ pn))), (5, .int (nI (facN pn))), (6, .int (euc 100 (abI (dueS (kS tf) (sS tf) (wS tf) tn pn x (2 ^ pn))) (nI (facN pn))))] [1, 2, 3, 4, 5, 6, 0] dX6_due_105 (by decide) rfl ?_
            have hne : ¬ euc 100 (abI (dueS (kS tf) (sS tf) (wS tf) tn pn x (2 ^ pn))) (nI (facN pn)) = 0 := euc_ne 100 _ _ (eud_all _ _) (fun z => fac_ne pn hpn z.2)
            refine v_iload_n C 2 dX6_due_107 rfl ?_
            refine v_if_ne C 119 dX6_due_108 (by decide) (fun c4 => ?_) (fun c4 => ?_)
            · skip
              refine v_iload C 5 dX6_due_119 rfl ?_
              refine v_iload C 6 dX6_due_121 rfl ?_
              refine v_idiv C dX6_due_123 (hne) ?_
              exact v_iret C E (rfl) (by first | rfl | (simp only [frI, ← inI_01, c1, c2, c3, Int32.not_le.mpr c3, c4, hne, ↓reduceIte, Bool.false_eq_true, reduceCtorEq, Bool.and_true, Bool.true_and, Bool.and_false, Bool.false_and]; done) | (simp [frI, ← inI_01, c1, c2, c3, Int32.not_le.mpr c3, c4, hne]; done) | (simp_all [frI, ← inI_01]; done)) dX6_due_124
            · skip
              refine v_iload C 4 dX6_due_111 rfl ?_
              refine v_iload C 6 dX6_due_113 rfl ?_
              refine v_idiv C dX6_due_115 (hne) ?_
              refine v_goto C 124 dX6_due_116 (by decide) ?_
              exact v_iret C E (rfl) (by first | rfl | (simp only [frI, ← inI_01, c1, c2, c3, Int32.not_le.mpr c3, c4, hne, ↓reduceIte, Bool.false_eq_true, reduceCtorEq, Bool.and_true, Bool.true_and, Bool.and_false, Bool.false_and]; done) | (simp [frI, ← inI_01, c1, c2, c3, Int32.not_le.mpr c3, c4, hne]; done) | (simp_all [frI, ← inI_01]; done)) dX6_due_124
          · skip
            have hlt : i < 2 ^ pn := by have h9 := nlt_nI c3 (by omega) (by omega); omega
            refine v_iload C 5 dX6_due_43 rfl ?_
            refine v_iload_n C 1 dX6_due_45 rfl ?_
            refine v_callS C [.int (nI i), .int x] [] kX6_has gX6_due_X6_has (c_mhas l D cs (x := (nI i)) (q := x) ) ⟨Nat.le_of_ble_eq_true rfl, Nat.le_of_ble_eq_true rfl⟩ ⟨rfl, rfl⟩ ⟨Nat.zero_le _, Nat.zero_le _⟩ rfl rfl (Nat.le_of_ble_eq_true rfl) [] [(mo, .inr (6, [.ref ml, .ref mz, .ref mi, .int su, .int (b2 it), .ref mt, .ref mv, .ref mp, .int nby, .int lt, .int pl, .int tok, .int va, .int be, .int wr, .ref md, .ref mc, .int am, .ref mk, .ref mq, .ref mr, .int td])), (mt, .inl (cs 0, 29, .inl tf))] rfl (by decide) rfl (rfl) dX6_due_46 ?_
            refine V.sts (st' := [.int (b2 (hasB (nI i) x))]) rfl ?_
            refine v_if_neB C 86 dX6_due_49 (by decide) (fun c5 => ?_) (fun c5 => ?_)
            · skip
              refine v_iinc C (k := 5) (nI (i + 1)) [(0, .ref mo), (1, .int x), (2, .int y), (3, .int (nI pn)), (4, .int (dueS (kS tf) (sS tf) (wS tf) tn pn x i)), (5, .int (nI (i + 1)))] [1, 2, 3, 4, 5, 0] dX6_due_86 rfl (nI_inc _) (by decide) rfl ?_
              refine v_goto C 34 dX6_due_89 (by decide) ?_
              exact ih34 (i + 1) _ _ (by simp only [dueS, c1, c2, c3, Int32.not_lt.mp c3, c5, decide_true, decide_false, ↓reduceIte, Bool.false_eq_true]) (rfl) (by omega) (by omega)
            · skip
              refine v_iload C 4 dX6_due_52 rfl ?_
              refine v_iload C 5 dX6_due_54 rfl ?_
              refine v_callS C [.int (nI i)] [.int (dueS (kS tf) (sS tf) (wS tf) tn pn x i)] kX6_ones gX6_due_X6_ones (c_ones l D cs (x := (nI i)) (⟨i, by omega, rfl⟩)) ⟨Nat.le_of_ble_eq_true rfl, Nat.le_of_ble_eq_true rfl⟩ ⟨rfl, rfl⟩ ⟨Nat.zero_le _, Nat.zero_le _⟩ rfl rfl (Nat.le_of_ble_eq_true rfl) [] [(mo, .inr (6, [.ref ml, .ref mz, .ref mi, .int su, .int (b2 it), .ref mt, .ref mv, .ref mp, .int nby, .int lt, .int pl, .int tok, .int va, .int be, .int wr, .ref md, .ref mc, .int am, .ref mk, .ref mq, .ref mr, .int td])), (mt, .inl (cs 0, 29, .inl tf))] rfl (by decide) rfl (rfl) dX6_due_56 ?_
              refine V.sts (st' := [.int (pcI (nI i)), .int (dueS (kS tf) (sS tf) (wS tf) tn pn x i)]) rfl ?_
              refine V.topr (y := nI (pop i)) (pc_nI (by omega)) ?_
              refine v_callS C [.int (nI (pop i))] [.int (dueS (kS tf) (sS tf) (wS tf) tn pn x i)] kX6_factorial gX6_due_X6_factorial (c_mfactorial l D cs (a := (pop i)) (by first | omega | exact Nat.le_trans (pop_le _) (by decide))) ⟨Nat.le_of_ble_eq_true rfl, Nat.le_of_ble_eq_true rfl⟩ ⟨rfl, rfl⟩ ⟨Nat.zero_le _, Nat.zero_le _⟩ rfl rfl (Nat.le_of_ble_eq_true rfl) [] [(mo, .inr (6, [.ref ml, .ref mz, .ref mi, .int su, .int (b2 it), .ref mt, .ref mv, .ref mp, .int nby, .int lt, .int pl, .int tok, .int va, .int be, .int wr, .ref md, .ref mc, .int am, .ref mk, .ref mq, .ref mr, .int td])), (mt, .inl (cs 0, 29, .inl tf))] rfl (by decide) rfl (rfl) dX6_due_59 ?_
              refine V.sts (st' := [.int (nI (facN (pop i))), .int (dueS (kS tf) (sS tf) (wS tf) tn pn x i)]) rfl ?_
              refine v_iload_n C 3 dX6_due_62 rfl ?_
              refine v_iconst C (v := 1) dX6_due_63 (by decide) ?_
              refine v_isub C dX6_due_64 ?_
              refine V.topr (y := nI (pn - 1)) (pk_sub (a := pn) (b := 1) hp1) ?_
              refine v_iload C 5 dX6_due_65 rfl ?_
              refine v_callS C [.int (nI i)] [.int (nI (pn - 1)), .int (nI (facN (pop i))), .int (dueS (kS tf) (sS tf) (wS tf) tn pn x i)] kX6_ones gX6_due_X6_ones (c_ones l D cs (x := (nI i)) (⟨i, by omega, rfl⟩)) ⟨Nat.le_of_ble_eq_true rfl, Nat.le_of_ble_eq_true rfl⟩ ⟨rfl, rfl⟩ ⟨Nat.zero_le _, Nat.zero_le _⟩ rfl rfl (Nat.le_of_ble_eq_true rfl) [] [(mo, .inr (6, [.ref ml, .ref mz, .ref mi, .int su, .int (b2 it), .ref mt, .ref mv, .ref mp, .int nby, .int lt, .int pl, .int tok, .int va, .int be, .int wr, .ref md, .ref mc, .int am, .ref mk, .ref mq, .ref mr, .int td])), (mt, .inl (cs 0, 29, .inl tf))] rfl (by decide) rfl (rfl) dX6_due_67 ?_
              refine V.sts (st' := [.int (pcI (nI i)), .int (nI (pn - 1)), .int (nI (facN (pop i))), .int (dueS (kS tf) (sS tf) (wS tf) tn pn x i)]) rfl ?_
              refine V.topr (y := nI (pop i)) (pc_nI (by omega)) ?_
              refine v_isub C dX6_due_70 ?_
              obtain ⟨qx, hqx, hqe⟩ := inB_t (by omega) c1
              have hps : pop i ≤ pn - 1 := pop_lt pn hpn i hlt qx hqx (by rw [← hqe]; assumption)
              refine V.topr (y := nI (pn - 1 - pop i)) (pk_sub hps) ?_
              refine v_callS C [.int (nI (pn - 1 - pop i))] [.int (nI (facN (pop i))), .int (dueS (kS tf) (sS tf) (wS tf) tn pn x i)] kX6_factorial gX6_due_X6_factorial (c_mfactorial l D cs (a := (pn - 1 - pop i)) (by first | omega | exact Nat.le_trans (pop_le _) (by decide))) ⟨Nat.le_of_ble_eq_true rfl, Nat.le_of_ble_eq_true rfl⟩ ⟨rfl, rfl⟩ ⟨Nat.zero_le _, Nat.zero_le _⟩ rfl rfl (Nat.le_of_ble_eq_true rfl) [] [(mo, .inr (6, [.ref ml, .ref mz, .ref mi, .int su, .int (b2 it), .ref mt, .ref mv, .ref mp, .int nby, .int lt, .int pl, .int tok, .int va, .int be, .int wr, .ref md, .ref mc, .int am, .ref mk, .ref mq, .ref mr, .int td])), (mt, .inl (cs 0, 29, .inl tf))] rfl (by decide) rfl (rfl) dX6_due_71 ?_
              refine V.sts (st' := [.int (nI (facN (pn - 1 - pop i))), .int (nI (facN (pop i))), .int (dueS (kS tf) (sS tf) (wS tf) tn pn x i)]) rfl ?_
              refine v_imul C dX6_due_74 ?_
              refine v_aload_n C 0 dX6_due_75 rfl ?_
              refine v_iload_n C 1 dX6_due_76 rfl ?_
              refine v_iload C 5 dX6_due_77 rfl ?_
              refine v_callV (qi := 0) C [.int x, .int (nI i)] [.int ((nI (facN (pop i))) * (nI (facN (pn - 1 - pop i)))), .int (dueS (kS tf) (sS tf) (wS tf) tn pn x i)] kX6_addsTo gX6_due_X6_addsTo (c_maddsTo l D cs (mo := mo) (ml := ml) (mz := mz) (mi := mi) (mt := mt) (mv := mv) (mp := mp) (md := md) (mc := mc) (mk := mk) (mq := mq) (mr := mr) (su := su) (it := it) (nby := nby) (lt := lt) (pl := pl) (tok := tok) (va := va) (be := be) (wr := wr) (am := am) (td := td) (tf := tf) (tn := tn) (q := x) (x := (nI i)) (by first | assumption | omega) (by first | assumption | omega) (by first | assumption | omega) (by first | assumption | omega)) ⟨Nat.le_of_ble_eq_true rfl, Nat.le_of_ble_eq_true rfl⟩ ⟨rfl, rfl⟩ ⟨Nat.zero_le _, Nat.zero_le _⟩ rfl 0 rfl rfl rfl rfl (Nat.le_of_ble_eq_true rfl) [0, 1] [(mo, .inr (6, [.ref ml, .ref mz, .ref mi, .int su, .int (b2 it), .ref mt, .ref mv, .ref mp, .int nby, .int lt, .int pl, .int tok, .int va, .int be, .int wr, .ref md, .ref mc, .int am, .ref mk, .ref mq, .ref mr, .int td])), (mt, .inl (cs 0, 29, .inl tf))] rfl (by decide) (show [mo, mt] = [mo, mt] from rfl) (rfl) dX6_due_79 ?_
              refine V.sts (st' := [.int (adI (kS tf) (sS tf) (wS tf) tn (nI i) x), .int ((nI (facN (pop i))) * (nI (facN (pn - 1 - pop i)))), .int (dueS (kS tf) (sS tf) (wS tf) tn pn x i)]) rfl ?_
              refine v_imul C dX6_due_82 ?_
              refine v_iadd C dX6_due_83 ?_
              refine v_istore C [(0, .ref mo), (1, .int x), (2, .int y), (3, .int (nI pn)), (4, .int ((dueS (kS tf) (sS tf) (wS tf) tn pn x i) + (((nI (facN (pop i))) * (nI (facN (pn - 1 - pop i)))) * (adI (kS tf) (sS tf) (wS tf) tn (nI i) x)))), (5, .int (nI i))] [1, 2, 3, 4, 0, 5] dX6_due_84 (by decide) rfl ?_
              refine v_iinc C (k := 5) (nI (i + 1)) [(0, .ref mo), (1, .int x), (2, .int y), (3, .int (nI pn)), (4, .int ((dueS (kS tf) (sS tf) (wS tf) tn pn x i) + (((nI (facN (pop i))) * (nI (facN (pn - 1 - pop i)))) * (adI (kS tf) (sS tf) (wS tf) tn (nI i) x)))), (5, .int (nI (i + 1)))] [1, 2, 3, 4, 5, 0] dX6_due_86 rfl (nI_inc _) (by decide) rfl ?_
              refine v_goto C 34 dX6_due_89 (by decide) ?_
              exact ih34 (i + 1) _ _ (by simp only [dueS, c1, c2, c3, Int32.not_lt.mp c3, c5, decide_true, decide_false, ↓reduceIte, Bool.false_eq_true]) (rfl) (by omega) (by omega)
      exact L34 _ 0 _ _ (rfl) (rfl) (by omega) (Nat.lt_succ_self _)
    · skip
      refine v_ldc C (v := -1000001) (by decide +kernel) dX6_due_18 ?_
      exact v_iret C E (rfl) (by first | rfl | (simp only [frI, ← inI_01, c1, c2, ↓reduceIte, Bool.false_eq_true, reduceCtorEq, Bool.and_true, Bool.true_and, Bool.and_false, Bool.false_and]; done) | (simp [frI, ← inI_01, c1, c2]; done) | (simp_all [frI, ← inI_01]; done)) dX6_due_20
theorem kX6_whoAway : KD yX6_whoAway wsX6_whoAway cX6_whoAway 7 (some .int) 2 := ⟨⟨_, rfl⟩, by decide, by decide +kernel, by decide +kernel, by decide +kernel⟩
theorem in_X6_whoAway_X6 : ∀ w ∈ wsX60, w ∈ wsX6_whoAway := by decide +kernel
theorem fl_X6_whoAway_129 : FL RX6 wsX6_whoAway RX6 RX6 TX6 22 6 4 129 := ⟨⟨in_X6_whoAway_X6, rfl, by decide, rfl⟩, by decide +kernel⟩
set_option maxHeartbeats 4000000 in
set_option maxRecDepth 100000 in
theorem c_mwhoAway (l : Launch) (D : va_G) (cs : Nat → ClassId) {mo : Nat} {ml : Nat} {mz : Nat} {mi : Nat} {mt : Nat} {mv : Nat} {mp : Nat} {md : Nat} {mc : Nat} {mk : Nat} {mq : Nat} {mr : Nat} {su : Int32} {it : Bool} {nby : Int32} {lt : Int32} {pl : Int32} {tok : Int32} {va : Int32} {be : Int32} {wr : Int32} {am : Int32} {td : Int32} {tf : Nat → Int32} {pn : Nat} {tn : Nat} {x : Int32} {y : Int32} (hte : tf 1 = nI tn) (hti : tn ≤ 8) (hS : ∀ t, s64 (tf (13 + t))) (hK : ∀ t, t < tn → kok (tf (5 + t))) (hpe : tf 0 = nI pn) (hpn : pn ≤ 6) : CT l D (tz cs) yX6_whoAway wsX6_whoAway ({ frames := 3, cells := 0, slots := 0, locals := 72 }) [.ref mo, .int x, .int y] [(mo, .inr (6, [.ref ml, .ref mz, .ref mi, .int su, .int (b2 it), .ref mt, .ref mv, .ref mp, .int nby, .int lt, .int pl, .int tok, .int va, .int be, .int wr, .ref md, .ref mc, .int am, .ref mk, .ref mq, .ref mr, .int td])), (mt, .inl (cs 0, 29, .inl tf))] (some (.int (if it = true then (if (lkF x && zo y) = true then (if y = 0 then nI (waC (waP (kS tf) (sS tf) (wS tf) tn pn x) (2 ^ pn)) else waF (waP (kS tf) (sS tf) (wS tf) tn pn x) (2 ^ pn)) else -1000001) else -1000002))) [(mo, .inr (6, [.ref ml, .ref mz, .ref mi, .int su, .int (b2 it), .ref mt, .ref mv, .ref mp, .int nby, .int lt, .int pl, .int tok, .int va, .int be, .int wr, .ref md, .ref mc, .int am, .ref mk, .ref mq, .ref mr, .int td])), (mt, .inl (cs 0, 29, .inl tf))] := by
  refine CT.of kX6_whoAway (Nat.le_of_ble_eq_true rfl) ?_
  intro p e s m below meth c A C E
  have C : VOk p s m _ c cX6_whoAway 7 wsX6_whoAway RX6 D (tz cs) A s.heap := C
  refine V.lvs (lv' := [(0, .ref mo), (1, .int x), (2, .int y)]) [0, 1, 2] rfl ?_
  have hpw := pw64 pn hpn
  refine v_aload_n C 0 dX6_whoAway_0 rfl ?_
  refine v_get C (v := .int (b2 it)) fl_X6_whoAway_129 0 rfl rfl dX6_whoAway_1 ?_
  refine v_if_neB C 10 dX6_whoAway_4 (by decide) (fun c1 => ?_) (fun c1 => ?_)
  · skip
    refine v_iload_n C 1 dX6_whoAway_10 rfl ?_
    refine v_iload_n C 2 dX6_whoAway_11 rfl ?_
    refine v_callS C [.int x, .int y] [] kX6_isMuch gX6_whoAway_X6_isMuch (c_isMuch l D cs (v := x) (w := y) ) ⟨Nat.le_of_ble_eq_true rfl, Nat.le_of_ble_eq_true rfl⟩ ⟨rfl, rfl⟩ ⟨Nat.zero_le _, Nat.zero_le _⟩ rfl rfl (Nat.le_of_ble_eq_true rfl) [] [(mo, .inr (6, [.ref ml, .ref mz, .ref mi, .int su, .int (b2 it), .ref mt, .ref mv, .ref mp, .int nby, .int lt, .int pl, .int tok, .int va, .int be, .int wr, .ref md, .ref mc, .int am, .ref mk, .ref mq, .ref mr, .int td])), (mt, .inl (cs 0, 29, .inl tf))] rfl (by decide) rfl (rfl) dX6_whoAway_12 ?_
    refine V.sts (st' := [.int (b2 (lkF x && inI y 0 1))]) rfl ?_
    refine v_if_neB C 21 dX6_whoAway_15 (by decide) (fun c2 => ?_) (fun c2 => ?_)
    · skip
      refine v_iconst C (v := 0) dX6_whoAway_21 (by decide) ?_
      refine v_istore_n C [(0, .ref mo), (1, .int x), (2, .int y), (3, .int 0)] [1, 2, 3, 0] dX6_whoAway_22 (by decide) rfl ?_
      refine v_ldc C (v := -1000000) (by decide +kernel) dX6_whoAway_23 ?_
      refine v_istore C [(0, .ref mo), (1, .int x), (2, .int y), (3, .int 0), (4, .int (-1000000))] [1, 2, 3, 4, 0] dX6_whoAway_25 (by decide) rfl ?_
      refine v_aload_n C 0 dX6_whoAway_27 rfl ?_
      refine v_callV (qi := 0) C [] [] kX6_all gX6_whoAway_X6_all (c_mall l D cs (mo := mo) (ml := ml) (mz := mz) (mi := mi) (mt := mt) (mv := mv) (mp := mp) (md := md) (mc := mc) (mk := mk) (mq := mq) (mr := mr) (su := su) (it := it) (nby := nby) (lt := lt) (pl := pl) (tok := tok) (va := va) (be := be) (wr := wr) (am := am) (td := td) (tf := tf) ) ⟨Nat.le_of_ble_eq_true rfl, Nat.le_of_ble_eq_true rfl⟩ ⟨rfl, rfl⟩ ⟨Nat.zero_le _, Nat.zero_le _⟩ rfl 0 rfl rfl rfl rfl (Nat.le_of_ble_eq_true rfl) [0, 1] [(mo, .inr (6, [.ref ml, .ref mz, .ref mi, .int su, .int (b2 it), .ref mt, .ref mv, .ref mp, .int nby, .int lt, .int pl, .int tok, .int va, .int be, .int wr, .ref md, .ref mc, .int am, .ref mk, .ref mq, .ref mr, .int td])), (mt, .inl (cs 0, 29, .inl tf))] rfl (by decide) (show [mo, mt] = [mo, mt] from rfl) (rfl) dX6_whoAway_28 ?_
      refine V.sts (st' := [.int (allI (tf 0))]) rfl ?_
      refine V.topr (y := nI (2 ^ pn - 1)) (by rw [hpe]; exact all_nI pn hpn) ?_
      refine v_istore C [(0, .ref mo), (1, .int x), (2, .int y), (3, .int 0), (4, .int (-1000000)), (5, .int (nI (2 ^ pn - 1)))] [1, 2, 3, 4, 5, 0] dX6_whoAway_31 (by decide) rfl ?_
      have L33 : ∀ (n : Nat) (dd : Nat) (y0 : Int32) (y1 : Int32) (y2 : Int32), y0 = (nI (dnC (waP (kS tf) (sS tf) (wS tf) tn pn x) (2 ^ pn) dd)) → y1 = (dnF (waP (kS tf) (sS tf) (wS tf) tn pn x) (2 ^ pn) dd) → y2 = (nI (2 ^ pn - dd) - 1) → (dd ≤ 2 ^ pn) → (2 ^ pn - dd) < n → V p l e ({ frames := 3, cells := 0, slots := 0, locals := 72 }) s m (List.toArray [.ref mo, .int x, .int y]) below meth c 0 0 (MQ below (vq_Q (some (.int (if it = true then (if (lkF x && zo y) = true then (if y = 0 then nI (waC (waP (kS tf) (sS tf) (wS tf) tn pn x) (2 ^ pn)) else waF (waP (kS tf) (sS tf) (wS tf) tn pn x) (2 ^ pn)) else -1000001) else -1000002))) D [(mo, .inr (6, [.ref ml, .ref mz, .ref mi, .int su, .int (b2 it), .ref mt, .ref mv, .ref mp, .int nby, .int lt, .int pl, .int tok, .int va, .int be, .int wr, .ref md, .ref mc, .int am, .ref mk, .ref mq, .ref mr, .int td])), (mt, .inl (cs 0, 29, .inl tf))] [(mo, .inr (6, [.ref ml, .ref mz, .ref mi, .int su, .int (b2 it), .ref mt, .ref mv, .ref mp, .int nby, .int lt, .int pl, .int tok, .int va, .int be, .int wr, .ref md, .ref mc, .int am, .ref mk, .ref mq, .ref mr, .int td])), (mt, .inl (cs 0, 29, .inl tf))] s.heap.size) (List.toArray [.ref mo, .int x, .int y]) s 0 0 (va_A [(mo, .inr (6, [.ref ml, .ref mz, .ref mi, .int su, .int (b2 it), .ref mt, .ref mv, .ref mp, .int nby, .int lt, .int pl, .int tok, .int va, .int be, .int wr, .ref md, .ref mc, .int am, .ref mk, .ref mq, .ref mr, .int td])), (mt, .inl (cs 0, 29, .inl tf))] s.heap.size)) 7 D A s.heap 33 [(0, .ref mo), (1, .int x), (2, .int y), (3, .int y0), (4, .int y1), (5, .int y2)] [] [(mo, .inr (6, [.ref ml, .ref mz, .ref mi, .int su, .int (b2 it), .ref mt, .ref mv, .ref mp, .int nby, .int lt, .int pl, .int tok, .int va, .int be, .int wr, .ref md, .ref mc, .int am, .ref mk, .ref mq, .ref mr, .int td])), (mt, .inl (cs 0, 29, .inl tf))] := by
        intro n
        induction n with
        | zero =>
          intros; omega
        | succ n ih33 =>
          intro dd y0 y1 y2 ey0 ey1 ey2 hd hn
          subst ey0
          subst ey1
          subst ey2
          refine v_iload C 5 dX6_whoAway_33 rfl ?_
          refine v_if_lt C 95 dX6_whoAway_35 (by decide) (fun c3 => ?_) (fun c3 => ?_)
          · skip
            have hge : 2 ^ pn ≤ dd := by rcases Nat.lt_or_ge dd (2 ^ pn) with h9 | h9; exact absurd c3 (by rw [show 2 ^ pn - dd = (2 ^ pn - (dd + 1)) + 1 by omega, nI_pred]; exact nI_pos (by omega)); exact h9
            have hsub : dd = 2 ^ pn := by omega
            subst hsub
            have hdc := dnC_all (waP (kS tf) (sS tf) (wS tf) tn pn x) (2 ^ pn)
            have hdf := dnF_all (waP (kS tf) (sS tf) (wS tf) tn pn x) (2 ^ pn) (by omega)
            refine v_iload_n C 2 dX6_whoAway_95 rfl ?_
            refine v_if_ne C 103 dX6_whoAway_96 (by decide) (fun c4 => ?_) (fun c4 => ?_)
            · skip
              refine v_iload C 4 dX6_whoAway_103 rfl ?_
              exact v_iret C E (rfl) (by first | rfl | (simp only [← inI_01, c1, c2, c3, Int32.not_le.mpr c3, c4, ← hdc, ← hdf, ↓reduceIte, Bool.false_eq_true, reduceCtorEq, Bool.and_true, Bool.true_and, Bool.and_false, Bool.false_and]; done) | (simp [← inI_01, c1, c2, c3, Int32.not_le.mpr c3, c4, ← hdc, ← hdf]; done) | (simp_all [← inI_01]; done)) dX6_whoAway_105
            · skip
              refine v_iload_n C 3 dX6_whoAway_99 rfl ?_
              refine v_goto C 105 dX6_whoAway_100 (by decide) ?_
              exact v_iret C E (rfl) (by first | rfl | (simp only [← inI_01, c1, c2, c3, Int32.not_le.mpr c3, c4, ← hdc, ← hdf, ↓reduceIte, Bool.false_eq_true, reduceCtorEq, Bool.and_true, Bool.true_and, Bool.and_false, Bool.false_and]; done) | (simp [← inI_01, c1, c2, c3, Int32.not_le.mpr c3, c4, ← hdc, ← hdf]; done) | (simp_all [← inI_01]; done)) dX6_whoAway_105
          · skip
            have hlt : dd < 2 ^ pn := by rcases Nat.lt_or_ge dd (2 ^ pn) with h9 | h9; exact h9; exact absurd (by rw [show 2 ^ pn - dd = 0 by omega]; decide) c3
            have hset : nI (2 ^ pn - dd) - 1 = nI (2 ^ pn - (dd + 1)) := by rw [show 2 ^ pn - dd = (2 ^ pn - (dd + 1)) + 1 by omega, nI_pred]
            refine V.lvs (lv' := [(0, .ref mo), (1, .int x), (2, .int y), (3, .int (nI (dnC (waP (kS tf) (sS tf) (wS tf) tn pn x) (2 ^ pn) dd))), (4, .int (dnF (waP (kS tf) (sS tf) (wS tf) tn pn x) (2 ^ pn) dd)), (5, .int (nI (2 ^ pn - (dd + 1))))]) [0, 1, 2, 3, 4, 5] (by rw [hset]; rfl) ?_
            refine v_aload_n C 0 dX6_whoAway_38 rfl ?_
            refine v_aload_n C 0 dX6_whoAway_39 rfl ?_
            refine v_callV (qi := 0) C [] [.ref mo] kX6_all gX6_whoAway_X6_all (c_mall l D cs (mo := mo) (ml := ml) (mz := mz) (mi := mi) (mt := mt) (mv := mv) (mp := mp) (md := md) (mc := mc) (mk := mk) (mq := mq) (mr := mr) (su := su) (it := it) (nby := nby) (lt := lt) (pl := pl) (tok := tok) (va := va) (be := be) (wr := wr) (am := am) (td := td) (tf := tf) ) ⟨Nat.le_of_ble_eq_true rfl, Nat.le_of_ble_eq_true rfl⟩ ⟨rfl, rfl⟩ ⟨Nat.zero_le _, Nat.zero_le _⟩ rfl 0 rfl rfl rfl rfl (Nat.le_of_ble_eq_true rfl) [0, 1] [(mo, .inr (6, [.ref ml, .ref mz, .ref mi, .int su, .int (b2 it), .ref mt, .ref mv, .ref mp, .int nby, .int lt, .int pl, .int tok, .int va, .int be, .int wr, .ref md, .ref mc, .int am, .ref mk, .ref mq, .ref mr, .int td])), (mt, .inl (cs 0, 29, .inl tf))] rfl (by decide) (show [mo, mt] = [mo, mt] from rfl) (rfl) dX6_whoAway_40 ?_
            refine V.sts (st' := [.int (allI (tf 0)), .ref mo]) rfl ?_
            skip
            refine v_iload C 5 dX6_whoAway_43 rfl ?_
            refine v_iconst C (v := -1) dX6_whoAway_45 (by decide) ?_
            refine v_ixor C dX6_whoAway_46 ?_
            refine v_iand C dX6_whoAway_47 ?_
            refine v_callV (qi := 0) C [.int ((allI (tf 0)) &&& ((nI (2 ^ pn - (dd + 1))) ^^^ (-1)))] [] kX6_worthOf gX6_whoAway_X6_worthOf (c_mworthOf l D cs (mo := mo) (ml := ml) (mz := mz) (mi := mi) (mt := mt) (mv := mv) (mp := mp) (md := md) (mc := mc) (mk := mk) (mq := mq) (mr := mr) (su := su) (it := it) (nby := nby) (lt := lt) (pl := pl) (tok := tok) (va := va) (be := be) (wr := wr) (am := am) (td := td) (tf := tf) (tn := tn) (th := ((allI (tf 0)) &&& ((nI (2 ^ pn - (dd + 1))) ^^^ (-1)))) (by first | assumption | omega) (by first | assumption | omega) (by first | assumption | omega) (by first | assumption | omega)) ⟨Nat.le_of_ble_eq_true rfl, Nat.le_of_ble_eq_true rfl⟩ ⟨rfl, rfl⟩ ⟨Nat.zero_le _, Nat.zero_le _⟩ rfl 0 rfl rfl rfl rfl (Nat.le_of_ble_eq_true rfl) [0, 1] [(mo, .inr (6, [.ref ml, .ref mz, .ref mi, .int su, .int (b2 it), .ref mt, .ref mv, .ref mp, .int nby, .int lt, .int pl, .int tok, .int va, .int be, .int wr, .ref md, .ref mc, .int am, .ref mk, .ref mq, .ref mr, .int td])), (mt, .inl (cs 0, 29, .inl tf))] rfl (by decide) (show [mo, mt] = [mo, mt] from rfl) (rfl) dX6_whoAway_48 ?_
            refine V.sts (st' := [.int (wsum (kS tf) (sS tf) (wS tf) ((allI (tf 0)) &&& ((nI (2 ^ pn - (dd + 1))) ^^^ (-1))) tn)]) rfl ?_
            refine v_iload_n C 1 dX6_whoAway_51 rfl ?_
            refine v_icmp_ne C 59 dX6_whoAway_52 (by decide) (fun c5 => ?_) (fun c5 => ?_)
            · skip
              refine v_iconst C (v := 0) dX6_whoAway_59 (by decide) ?_
              refine v_istore C [(0, .ref mo), (1, .int x), (2, .int y), (3, .int (nI (dnC (waP (kS tf) (sS tf) (wS tf) tn pn x) (2 ^ pn) dd))), (4, .int (dnF (waP (kS tf) (sS tf) (wS tf) tn pn x) (2 ^ pn) dd)), (5, .int (nI (2 ^ pn - (dd + 1)))), (6, .int 0)] [1, 2, 3, 4, 5, 6, 0] dX6_whoAway_60 (by decide) rfl ?_
              refine v_iload_n C 3 dX6_whoAway_62 rfl ?_
              refine v_iload C 6 dX6_whoAway_63 rfl ?_
              refine v_if_eq C 72 dX6_whoAway_65 (by decide) (fun c6 => ?_) (fun c6 => ?_)
              · skip
                refine v_iconst C (v := 0) dX6_whoAway_72 (by decide) ?_
                refine v_iadd C dX6_whoAway_73 ?_
                refine v_istore_n C [(0, .ref mo), (1, .int x), (2, .int y), (3, .int ((nI (dnC (waP (kS tf) (sS tf) (wS tf) tn pn x) (2 ^ pn) dd)) + 0)), (4, .int (dnF (waP (kS tf) (sS tf) (wS tf) tn pn x) (2 ^ pn) dd)), (5, .int (nI (2 ^ pn - (dd + 1)))), (6, .int 0)] [1, 2, 3, 0, 4, 5, 6] dX6_whoAway_74 (by decide) rfl ?_
                refine v_iload C 6 dX6_whoAway_75 rfl ?_
                refine v_if_eq C 85 dX6_whoAway_77 (by decide) (fun c7 => ?_) (fun c7 => ?_)
                · skip
                  refine v_iload C 4 dX6_whoAway_85 rfl ?_
                  refine v_istore C [(0, .ref mo), (1, .int x), (2, .int y), (3, .int ((nI (dnC (waP (kS tf) (sS tf) (wS tf) tn pn x) (2 ^ pn) dd)) + 0)), (4, .int (dnF (waP (kS tf) (sS tf) (wS tf) tn pn x) (2 ^ pn) dd)), (5, .int (nI (2 ^ pn - (dd + 1)))), (6, .int 0)] [1, 2, 3, 4, 0, 5, 6] dX6_whoAway_87 (by decide) rfl ?_
                  refine v_iinc C (k := 5) ((nI (2 ^ pn - (dd + 1))) + (-1)) [(0, .ref mo), (1, .int x), (2, .int y), (3, .int ((nI (dnC (waP (kS tf) (sS tf) (wS tf) tn pn x) (2 ^ pn) dd)) + 0)), (4, .int (dnF (waP (kS tf) (sS tf) (wS tf) tn pn x) (2 ^ pn) dd)), (5, .int ((nI (2 ^ pn - (dd + 1))) + (-1))), (6, .int 0)] [1, 2, 3, 4, 5, 0, 6] dX6_whoAway_89 rfl ((by rfl)) (by decide) rfl ?_
                  refine v_goto C 33 dX6_whoAway_92 (by decide) ?_
                  refine V.lvs (lv' := [(0, .ref mo), (1, .int x), (2, .int y), (3, .int ((nI (dnC (waP (kS tf) (sS tf) (wS tf) tn pn x) (2 ^ pn) dd)) + 0)), (4, .int (dnF (waP (kS tf) (sS tf) (wS tf) tn pn x) (2 ^ pn) dd)), (5, .int ((nI (2 ^ pn - (dd + 1))) + (-1)))]) [0, 1, 2, 3, 4, 5] rfl ?_
                  exact ih33 (dd + 1) _ _ _ (by have hP : (waP (kS tf) (sS tf) (wS tf) tn pn x) (2 ^ pn - (dd + 1)) = false := decide_eq_false (by rw [← hpe]; exact c5); rw [dnC, if_neg (by rw [hP]; decide), show (0 : Int32) = nI 0 from rfl, nI_add, Nat.add_zero]) (by have hP : (waP (kS tf) (sS tf) (wS tf) tn pn x) (2 ^ pn - (dd + 1)) = false := decide_eq_false (by rw [← hpe]; exact c5); rw [dnF, if_neg (by rw [hP]; decide)]) (add_m1 _) (by omega) (by omega)
                · exact absurd c6 c7
              · exact absurd c6 (by decide)
            · skip
              refine v_iconst C (v := 1) dX6_whoAway_55 (by decide) ?_
              refine v_goto C 60 dX6_whoAway_56 (by decide) ?_
              refine v_istore C [(0, .ref mo), (1, .int x), (2, .int y), (3, .int (nI (dnC (waP (kS tf) (sS tf) (wS tf) tn pn x) (2 ^ pn) dd))), (4, .int (dnF (waP (kS tf) (sS tf) (wS tf) tn pn x) (2 ^ pn) dd)), (5, .int (nI (2 ^ pn - (dd + 1)))), (6, .int 1)] [1, 2, 3, 4, 5, 6, 0] dX6_whoAway_60 (by decide) rfl ?_
              refine v_iload_n C 3 dX6_whoAway_62 rfl ?_
              refine v_iload C 6 dX6_whoAway_63 rfl ?_
              refine v_if_eq C 72 dX6_whoAway_65 (by decide) (fun c8 => ?_) (fun c8 => ?_)
              · exact absurd c8 (by decide)
              · skip
                refine v_iconst C (v := 1) dX6_whoAway_68 (by decide) ?_
                refine v_goto C 73 dX6_whoAway_69 (by decide) ?_
                refine v_iadd C dX6_whoAway_73 ?_
                refine v_istore_n C [(0, .ref mo), (1, .int x), (2, .int y), (3, .int ((nI (dnC (waP (kS tf) (sS tf) (wS tf) tn pn x) (2 ^ pn) dd)) + 1)), (4, .int (dnF (waP (kS tf) (sS tf) (wS tf) tn pn x) (2 ^ pn) dd)), (5, .int (nI (2 ^ pn - (dd + 1)))), (6, .int 1)] [1, 2, 3, 0, 4, 5, 6] dX6_whoAway_74 (by decide) rfl ?_
                refine v_iload C 6 dX6_whoAway_75 rfl ?_
                refine v_if_eq C 85 dX6_whoAway_77 (by decide) (fun c9 => ?_) (fun c9 => ?_)
                · exact absurd c9 c8
                · skip
                  refine v_iload C 5 dX6_whoAway_80 rfl ?_
                  refine v_goto C 87 dX6_whoAway_82 (by decide) ?_
                  refine v_istore C [(0, .ref mo), (1, .int x), (2, .int y), (3, .int ((nI (dnC (waP (kS tf) (sS tf) (wS tf) tn pn x) (2 ^ pn) dd)) + 1)), (4, .int (nI (2 ^ pn - (dd + 1)))), (5, .int (nI (2 ^ pn - (dd + 1)))), (6, .int 1)] [1, 2, 3, 4, 0, 5, 6] dX6_whoAway_87 (by decide) rfl ?_
                  refine v_iinc C (k := 5) ((nI (2 ^ pn - (dd + 1))) + (-1)) [(0, .ref mo), (1, .int x), (2, .int y), (3, .int ((nI (dnC (waP (kS tf) (sS tf) (wS tf) tn pn x) (2 ^ pn) dd)) + 1)), (4, .int (nI (2 ^ pn - (dd + 1)))), (5, .int ((nI (2 ^ pn - (dd + 1))) + (-1))), (6, .int 1)] [1, 2, 3, 4, 5, 0, 6] dX6_whoAway_89 rfl ((by rfl)) (by decide) rfl ?_
                  refine v_goto C 33 dX6_whoAway_92 (by decide) ?_
                  refine V.lvs (lv' := [(0, .ref mo), (1, .int x), (2, .int y), (3, .int ((nI (dnC (waP (kS tf) (sS tf) (wS tf) tn pn x) (2 ^ pn) dd)) + 1)), (4, .int (nI (2 ^ pn - (dd + 1)))), (5, .int ((nI (2 ^ pn - (dd + 1))) + (-1)))]) [0, 1, 2, 3, 4, 5] rfl ?_
                  exact ih33 (dd + 1) _ _ _ (by have hP : (waP (kS tf) (sS tf) (wS tf) tn pn x) (2 ^ pn - (dd + 1)) = true := decide_eq_true (by rw [← hpe]; exact c5); rw [dnC, if_pos hP, nI_1]) (by have hP : (waP (kS tf) (sS tf) (wS tf) tn pn x) (2 ^ pn - (dd + 1)) = true := decide_eq_true (by rw [← hpe]; exact c5); rw [dnF, if_pos hP]) (add_m1 _) (by omega) (by omega)
      exact L33 _ 0 _ _ _ (rfl) (rfl) (by rw [Nat.sub_zero]; exact (pk_sub (a := 2 ^ pn) (b := 1) (by omega)).symm) (by omega) (Nat.lt_succ_self _)
    · skip
      refine v_ldc C (v := -1000001) (by decide +kernel) dX6_whoAway_18 ?_
      exact v_iret C E (rfl) (by first | rfl | (simp only [← inI_01, c1, c2, ↓reduceIte, Bool.false_eq_true, reduceCtorEq, Bool.and_true, Bool.true_and, Bool.and_false, Bool.false_and]; done) | (simp [← inI_01, c1, c2]; done) | (simp_all [← inI_01]; done)) dX6_whoAway_20
  · skip
    refine v_ldc C (v := -1000002) (by decide +kernel) dX6_whoAway_7 ?_
    exact v_iret C E (rfl) (by first | rfl | (simp only [← inI_01, c1, ↓reduceIte, Bool.false_eq_true, reduceCtorEq, Bool.and_true, Bool.true_and, Bool.and_false, Bool.false_and]; done) | (simp [← inI_01, c1]; done) | (simp_all [← inI_01]; done)) dX6_whoAway_9
