theorem kX6_colds : KD yX6_colds wsX6_colds cX6_colds 10 (some .int) 3 := ⟨⟨_, rfl⟩, by decide, by decide +kernel, by decide +kernel, by decide +kernel⟩
theorem in_X6_colds_X6 : ∀ w ∈ wsX60, w ∈ wsX6_colds := by decide +kernel
theorem fl_X6_colds_129 : FL RX6 wsX6_colds RX6 RX6 TX6 22 6 4 129 := ⟨⟨in_X6_colds_X6, rfl, by decide, rfl⟩, by decide +kernel⟩
theorem fl_X6_colds_19 : FL RX6 wsX6_colds RX6 RX6 TX6 22 6 5 19 := ⟨⟨in_X6_colds_X6, rfl, by decide, rfl⟩, by decide +kernel⟩
set_option maxHeartbeats 4000000 in
set_option maxRecDepth 100000 in
theorem c_mcolds (l : Launch) (D : va_G) (cs : Nat → ClassId) {mo : Nat} {ml : Nat} {mz : Nat} {mi : Nat} {mt : Nat} {mv : Nat} {mp : Nat} {md : Nat} {mc : Nat} {mk : Nat} {mq : Nat} {mr : Nat} {su : Int32} {it : Bool} {nby : Int32} {lt : Int32} {pl : Int32} {tok : Int32} {va : Int32} {be : Int32} {wr : Int32} {am : Int32} {td : Int32} {tf : Nat → Int32} {pn : Nat} {tn : Nat} {x : Int32} {y : Int32} {z : Int32} {thn : Nat} (hte : tf 1 = nI tn) (hti : tn ≤ 8) (hS : ∀ t, s64 (tf (13 + t))) (hK : ∀ t, t < tn → kok (tf (5 + t))) (hpe : tf 0 = nI pn) (hpn : pn ≤ 6) (hth : thI (nI pn) (tf 4) = nI thn) (hthp : thn < 2 ^ pn) : CT l D (tz cs) yX6_colds wsX6_colds ({ frames := 3, cells := 0, slots := 0, locals := 72 }) [.ref mo, .int x, .int y, .int z] [(mo, .inr (6, [.ref ml, .ref mz, .ref mi, .int su, .int (b2 it), .ref mt, .ref mv, .ref mp, .int nby, .int lt, .int pl, .int tok, .int va, .int be, .int wr, .ref md, .ref mc, .int am, .ref mk, .ref mq, .ref mr, .int td])), (mt, .inl (cs 0, 29, .inl tf))] (some (.int (if it = true then (if (lkF x && zo z) = true then (if inI y 0 10 = true then frI (coS (wN (kS tf) (sS tf) (wS tf) tn) x y thn (2 ^ pn)) (powI 10 (pop thn)) z else -1000001) else -1000001) else -1000002))) [(mo, .inr (6, [.ref ml, .ref mz, .ref mi, .int su, .int (b2 it), .ref mt, .ref mv, .ref mp, .int nby, .int lt, .int pl, .int tok, .int va, .int be, .int wr, .ref md, .ref mc, .int am, .ref mk, .ref mq, .ref mr, .int td])), (mt, .inl (cs 0, 29, .inl tf))] := by
  refine CT.of kX6_colds (Nat.le_of_ble_eq_true rfl) ?_
  intro p e s m below meth c A C E
  have C : VOk p s m _ c cX6_colds 10 wsX6_colds RX6 D (tz cs) A s.heap := C
  refine V.lvs (lv' := [(0, .ref mo), (1, .int x), (2, .int y), (3, .int z)]) [0, 1, 2, 3] rfl ?_
  have hpw := pw64 pn hpn
  refine v_aload_n C 0 dX6_colds_0 rfl ?_
  refine v_get C (v := .int (b2 it)) fl_X6_colds_129 0 rfl rfl dX6_colds_1 ?_
  refine v_if_neB C 10 dX6_colds_4 (by decide) (fun c1 => ?_) (fun c1 => ?_)
  · skip
    refine v_iload_n C 1 dX6_colds_10 rfl ?_
    refine v_iload_n C 3 dX6_colds_11 rfl ?_
    refine v_callS C [.int x, .int z] [] kX6_isMuch gX6_colds_X6_isMuch (c_isMuch l D cs (v := x) (w := z) ) ⟨Nat.le_of_ble_eq_true rfl, Nat.le_of_ble_eq_true rfl⟩ ⟨rfl, rfl⟩ ⟨Nat.zero_le _, Nat.zero_le _⟩ rfl rfl (Nat.le_of_ble_eq_true rfl) [] [(mo, .inr (6, [.ref ml, .ref mz, .ref mi, .int su, .int (b2 it), .ref mt, .ref mv, .ref mp, .int nby, .int lt, .int pl, .int tok, .int va, .int be, .int wr, .ref md, .ref mc, .int am, .ref mk, .ref mq, .ref mr, .int td])), (mt, .inl (cs 0, 29, .inl tf))] rfl (by decide) rfl (rfl) dX6_colds_12 ?_
    refine V.sts (st' := [.int (b2 (lkF x && inI z 0 1))]) rfl ?_
    refine v_if_eqB C 30 dX6_colds_15 (by decide) (fun c2 => ?_) (fun c2 => ?_)
    · skip
      refine v_ldc C (v := -1000001) (by decide +kernel) dX6_colds_30 ?_
      exact v_iret C E (rfl) (by first | rfl | (simp only [frI, ← inI_01, c1, c2, ↓reduceIte, Bool.false_eq_true, reduceCtorEq, Bool.and_true, Bool.true_and, Bool.and_false, Bool.false_and]; done) | (simp [frI, ← inI_01, c1, c2]; done) | (simp_all [frI, ← inI_01]; done)) dX6_colds_32
    · skip
      refine v_iload_n C 2 dX6_colds_18 rfl ?_
      refine v_i2l C dX6_colds_19 ?_
      refine v_lconst C (v := 0) dX6_colds_20 (by decide) ?_
      refine v_ldc2 C (v := 10) (by decide +kernel) dX6_colds_21 ?_
      refine v_callS C [.long (Int32.toInt64 y), .long 0, .long 10] [] kX6_in gX6_colds_X6_in (c_inI l D cs (x := y) (a := 0) (b := 10) (lo := 0) (hi := 10) (by decide) (by decide)) ⟨Nat.le_of_ble_eq_true rfl, Nat.le_of_ble_eq_true rfl⟩ ⟨rfl, rfl⟩ ⟨Nat.zero_le _, Nat.zero_le _⟩ rfl rfl (Nat.le_of_ble_eq_true rfl) [] [(mo, .inr (6, [.ref ml, .ref mz, .ref mi, .int su, .int (b2 it), .ref mt, .ref mv, .ref mp, .int nby, .int lt, .int pl, .int tok, .int va, .int be, .int wr, .ref md, .ref mc, .int am, .ref mk, .ref mq, .ref mr, .int td])), (mt, .inl (cs 0, 29, .inl tf))] rfl (by decide) rfl (rfl) dX6_colds_24 ?_
      refine V.sts (st' := [.int (b2 (inI y 0 10))]) rfl ?_
      refine v_if_neB C 33 dX6_colds_27 (by decide) (fun c3 => ?_) (fun c3 => ?_)
      · skip
        refine v_aload_n C 0 dX6_colds_33 rfl ?_
        refine v_callV (qi := 0) C [] [] kX6_here gX6_colds_X6_here (c_mhere l D cs (mo := mo) (ml := ml) (mz := mz) (mi := mi) (mt := mt) (mv := mv) (mp := mp) (md := md) (mc := mc) (mk := mk) (mq := mq) (mr := mr) (su := su) (it := it) (nby := nby) (lt := lt) (pl := pl) (tok := tok) (va := va) (be := be) (wr := wr) (am := am) (td := td) (tf := tf) ) ⟨Nat.le_of_ble_eq_true rfl, Nat.le_of_ble_eq_true rfl⟩ ⟨rfl, rfl⟩ ⟨Nat.zero_le _, Nat.zero_le _⟩ rfl 0 rfl rfl rfl rfl (Nat.le_of_ble_eq_true rfl) [0, 1] [(mo, .inr (6, [.ref ml, .ref mz, .ref mi, .int su, .int (b2 it), .ref mt, .ref mv, .ref mp, .int nby, .int lt, .int pl, .int tok, .int va, .int be, .int wr, .ref md, .ref mc, .int am, .ref mk, .ref mq, .ref mr, .int td])), (mt, .inl (cs 0, 29, .inl tf))] rfl (by decide) (show [mo, mt] = [mo, mt] from rfl) (rfl) dX6_colds_34 ?_
        refine V.sts (st' := [.int (thI (tf 0) (tf 4))]) rfl ?_
        refine V.topr (y := nI thn) (by rw [hpe]; exact hth) ?_
        refine v_istore C [(0, .ref mo), (1, .int x), (2, .int y), (3, .int z), (4, .int (nI thn))] [1, 2, 3, 4, 0] dX6_colds_37 (by decide) rfl ?_
        refine v_iconst C (v := 0) dX6_colds_39 (by decide) ?_
        refine v_istore C [(0, .ref mo), (1, .int x), (2, .int y), (3, .int z), (4, .int (nI thn)), (5, .int 0)] [1, 2, 3, 4, 5, 0] dX6_colds_40 (by decide) rfl ?_
        refine v_iconst C (v := 1) dX6_colds_42 (by decide) ?_
        refine v_istore C [(0, .ref mo), (1, .int x), (2, .int y), (3, .int z), (4, .int (nI thn)), (5, .int 0), (6, .int 1)] [1, 2, 3, 4, 5, 6, 0] dX6_colds_43 (by decide) rfl ?_
        refine v_iconst C (v := 0) dX6_colds_45 (by decide) ?_
        refine v_istore C [(0, .ref mo), (1, .int x), (2, .int y), (3, .int z), (4, .int (nI thn)), (5, .int 0), (6, .int 1), (7, .int 0)] [1, 2, 3, 4, 5, 6, 7, 0] dX6_colds_46 (by decide) rfl ?_
        have L48 : ∀ (n : Nat) (k : Nat) (y0 : Int32) (y1 : Int32), y0 = (powI 10 k) → y1 = (nI k) → (k ≤ pop thn) → (pop thn - k) < n → V p l e ({ frames := 3, cells := 0, slots := 0, locals := 72 }) s m (List.toArray [.ref mo, .int x, .int y, .int z]) below meth c 0 0 (MQ below (vq_Q (some (.int (if it = true then (if (lkF x && zo z) = true then (if inI y 0 10 = true then frI (coS (wN (kS tf) (sS tf) (wS tf) tn) x y thn (2 ^ pn)) (powI 10 (pop thn)) z else -1000001) else -1000001) else -1000002))) D [(mo, .inr (6, [.ref ml, .ref mz, .ref mi, .int su, .int (b2 it), .ref mt, .ref mv, .ref mp, .int nby, .int lt, .int pl, .int tok, .int va, .int be, .int wr, .ref md, .ref mc, .int am, .ref mk, .ref mq, .ref mr, .int td])), (mt, .inl (cs 0, 29, .inl tf))] [(mo, .inr (6, [.ref ml, .ref mz, .ref mi, .int su, .int (b2 it), .ref mt, .ref mv, .ref mp, .int nby, .int lt, .int pl, .int tok, .int va, .int be, .int wr, .ref md, .ref mc, .int am, .ref mk, .ref mq, .ref mr, .int td])), (mt, .inl (cs 0, 29, .inl tf))] s.heap.size) (List.toArray [.ref mo, .int x, .int y, .int z]) s 0 0 (va_A [(mo, .inr (6, [.ref ml, .ref mz, .ref mi, .int su, .int (b2 it), .ref mt, .ref mv, .ref mp, .int nby, .int lt, .int pl, .int tok, .int va, .int be, .int wr, .ref md, .ref mc, .int am, .ref mk, .ref mq, .ref mr, .int td])), (mt, .inl (cs 0, 29, .inl tf))] s.heap.size)) 10 D A s.heap 48 [(0, .ref mo), (1, .int x), (2, .int y), (3, .int z), (4, .int (nI thn)), (5, .int 0), (6, .int y0), (7, .int y1)] [] [(mo, .inr (6, [.ref ml, .ref mz, .ref mi, .int su, .int (b2 it), .ref mt, .ref mv, .ref mp, .int nby, .int lt, .int pl, .int tok, .int va, .int be, .int wr, .ref md, .ref mc, .int am, .ref mk, .ref mq, .ref mr, .int td])), (mt, .inl (cs 0, 29, .inl tf))] := by
          intro n
          induction n with
          | zero =>
            intros; omega
          | succ n ih48 =>
            intro k y0 y1 ey0 ey1 hk hn
            subst ey0
            subst ey1
            refine v_iload C 7 dX6_colds_48 rfl ?_
            refine v_iload C 4 dX6_colds_50 rfl ?_
            refine v_callS C [.int (nI thn)] [.int (nI k)] kX6_ones gX6_colds_X6_ones (c_ones l D cs (x := nI thn) (by first | exact ⟨i, by omega, rfl⟩ | exact ⟨thn, by omega, rfl⟩)) ⟨Nat.le_of_ble_eq_true rfl, Nat.le_of_ble_eq_true rfl⟩ ⟨rfl, rfl⟩ ⟨Nat.zero_le _, Nat.zero_le _⟩ rfl rfl (Nat.le_of_ble_eq_true rfl) [] [(mo, .inr (6, [.ref ml, .ref mz, .ref mi, .int su, .int (b2 it), .ref mt, .ref mv, .ref mp, .int nby, .int lt, .int pl, .int tok, .int va, .int be, .int wr, .ref md, .ref mc, .int am, .ref mk, .ref mq, .ref mr, .int td])), (mt, .inl (cs 0, 29, .inl tf))] rfl (by decide) rfl (rfl) dX6_colds_52 ?_
            refine V.sts (st' := [.int (pcI (nI thn)), .int (nI k)]) rfl ?_
            refine V.topr (y := nI (pop thn)) (pc_nI (by omega)) ?_
            refine v_icmp_ge C 71 dX6_colds_55 (by decide) (fun c4 => ?_) (fun c4 => ?_)
            · skip
              have hgek : pop thn ≤ k := le_nI c4 (by have h9 := pop_le thn; omega) (by have h9 := pop_le thn; omega)
              have hsub : k = pop thn := by omega
              subst hsub
              refine v_iconst C (v := 0) dX6_colds_71 (by decide) ?_
              refine v_istore C [(0, .ref mo), (1, .int x), (2, .int y), (3, .int z), (4, .int (nI thn)), (5, .int 0), (6, .int (powI 10 (pop thn))), (7, .int 0)] [1, 2, 3, 4, 5, 6, 7, 0] dX6_colds_72 (by decide) rfl ?_
              have L74 : ∀ (n : Nat) (i : Nat) (y0 : Int32) (y1 : Int32), y0 = (coS (wN (kS tf) (sS tf) (wS tf) tn) x y thn i) → y1 = (nI i) → (i ≤ 2 ^ pn) → (2 ^ pn - i) < n → V p l e ({ frames := 3, cells := 0, slots := 0, locals := 72 }) s m (List.toArray [.ref mo, .int x, .int y, .int z]) below meth c 0 0 (MQ below (vq_Q (some (.int (if it = true then (if (lkF x && zo z) = true then (if inI y 0 10 = true then frI (coS (wN (kS tf) (sS tf) (wS tf) tn) x y thn (2 ^ pn)) (powI 10 (pop thn)) z else -1000001) else -1000001) else -1000002))) D [(mo, .inr (6, [.ref ml, .ref mz, .ref mi, .int su, .int (b2 it), .ref mt, .ref mv, .ref mp, .int nby, .int lt, .int pl, .int tok, .int va, .int be, .int wr, .ref md, .ref mc, .int am, .ref mk, .ref mq, .ref mr, .int td])), (mt, .inl (cs 0, 29, .inl tf))] [(mo, .inr (6, [.ref ml, .ref mz, .ref mi, .int su, .int (b2 it), .ref mt, .ref mv, .ref mp, .int nby, .int lt, .int pl, .int tok, .int va, .int be, .int wr, .ref md, .ref mc, .int am, .ref mk, .ref mq, .ref mr, .int td])), (mt, .inl (cs 0, 29, .inl tf))] s.heap.size) (List.toArray [.ref mo, .int x, .int y, .int z]) s 0 0 (va_A [(mo, .inr (6, [.ref ml, .ref mz, .ref mi, .int su, .int (b2 it), .ref mt, .ref mv, .ref mp, .int nby, .int lt, .int pl, .int tok, .int va, .int be, .int wr, .ref md, .ref mc, .int am, .ref mk, .ref mq, .ref mr, .int td])), (mt, .inl (cs 0, 29, .inl tf))] s.heap.size)) 10 D A s.heap 74 [(0, .ref mo), (1, .int x), (2, .int y), (3, .int z), (4, .int (nI thn)), (5, .int y0), (6, .int (powI 10 (pop thn))), (7, .int y1)] [] [(mo, .inr (6, [.ref ml, .ref mz, .ref mi, .int su, .int (b2 it), .ref mt, .ref mv, .ref mp, .int nby, .int lt, .int pl, .int tok, .int va, .int be, .int wr, .ref md, .ref mc, .int am, .ref mk, .ref mq, .ref mr, .int td])), (mt, .inl (cs 0, 29, .inl tf))] := by
                intro n
                induction n with
                | zero =>
                  intros; omega
                | succ n ih74 =>
                  intro i y0 y1 ey0 ey1 hi hn
                  subst ey0
                  subst ey1
                  refine v_iload C 7 dX6_colds_74 rfl ?_
                  refine v_aload_n C 0 dX6_colds_76 rfl ?_
                  refine v_callV (qi := 0) C [] [.int (nI i)] kX6_all gX6_colds_X6_all (c_mall l D cs (mo := mo) (ml := ml) (mz := mz) (mi := mi) (mt := mt) (mv := mv) (mp := mp) (md := md) (mc := mc) (mk := mk) (mq := mq) (mr := mr) (su := su) (it := it) (nby := nby) (lt := lt) (pl := pl) (tok := tok) (va := va) (be := be) (wr := wr) (am := am) (td := td) (tf := tf) ) ⟨Nat.le_of_ble_eq_true rfl, Nat.le_of_ble_eq_true rfl⟩ ⟨rfl, rfl⟩ ⟨Nat.zero_le _, Nat.zero_le _⟩ rfl 0 rfl rfl rfl rfl (Nat.le_of_ble_eq_true rfl) [0, 1] [(mo, .inr (6, [.ref ml, .ref mz, .ref mi, .int su, .int (b2 it), .ref mt, .ref mv, .ref mp, .int nby, .int lt, .int pl, .int tok, .int va, .int be, .int wr, .ref md, .ref mc, .int am, .ref mk, .ref mq, .ref mr, .int td])), (mt, .inl (cs 0, 29, .inl tf))] rfl (by decide) (show [mo, mt] = [mo, mt] from rfl) (rfl) dX6_colds_77 ?_
                  refine V.sts (st' := [.int (allI (tf 0)), .int (nI i)]) rfl ?_
                  refine V.topr (y := nI (2 ^ pn - 1)) (by rw [hpe]; exact all_nI pn hpn) ?_
                  refine v_icmp_gt C 180 dX6_colds_80 (by decide) (fun c5 => ?_) (fun c5 => ?_)
                  · skip
                    have hge : 2 ^ pn - 1 < i := lt_nI c5 (by omega) (by omega)
                    have hsub : i = 2 ^ pn := by omega
                    subst hsub
                    refine v_iload C 5 dX6_colds_180 rfl ?_
                    refine v_iload C 6 dX6_colds_182 rfl ?_
                    refine v_callS C [.int (coS (wN (kS tf) (sS tf) (wS tf) tn) x y thn (2 ^ pn)), .int (powI 10 (pop thn))] [] kX6_common gX6_colds_X6_common (c_mcommon l D cs (a := (coS (wN (kS tf) (sS tf) (wS tf) tn) x y thn (2 ^ pn))) (b := (powI 10 (pop thn))) ) ⟨Nat.le_of_ble_eq_true rfl, Nat.le_of_ble_eq_true rfl⟩ ⟨rfl, rfl⟩ ⟨Nat.zero_le _, Nat.zero_le _⟩ rfl rfl (Nat.le_of_ble_eq_true rfl) [] [(mo, .inr (6, [.ref ml, .ref mz, .ref mi, .int su, .int (b2 it), .ref mt, .ref mv, .ref mp, .int nby, .int lt, .int pl, .int tok, .int va, .int be, .int wr, .ref md, .ref mc, .int am, .ref mk, .ref mq, .ref mr, .int td])), (mt, .inl (cs 0, 29, .inl tf))] rfl (by decide) rfl (rfl) dX6_colds_184 ?_
                    refine V.sts (st' := [.int (euc 100 (abI (coS (wN (kS tf) (sS tf) (wS tf) tn) x y thn (2 ^ pn))) (powI 10 (pop thn)))]) rfl ?_
                    refine v_istore C [(0, .ref mo), (1, .int x), (2, .int y), (3, .int z), (4, .int (nI thn)), (5, .int (coS (wN (kS tf) (sS tf) (wS tf) tn) x y thn (2 ^ pn))), (6, .int (powI 10 (pop thn))), (7, .int (euc 100 (abI (coS (wN (kS tf) (sS tf) (wS tf) tn) x y thn (2 ^ pn))) (powI 10 (pop thn))))] [1, 2, 3, 4, 5, 6, 7, 0] dX6_colds_187 (by decide) rfl ?_
                    have hne : ¬ euc 100 (abI (coS (wN (kS tf) (sS tf) (wS tf) tn) x y thn (2 ^ pn))) (powI 10 (pop thn)) = 0 := euc_ne 100 _ _ (eud_all _ _) (fun z => pow10_ne (pop thn) (pop_le thn) z.2)
                    refine v_iload_n C 3 dX6_colds_189 rfl ?_
                    refine v_if_ne C 201 dX6_colds_190 (by decide) (fun c6 => ?_) (fun c6 => ?_)
                    · skip
                      refine v_iload C 6 dX6_colds_201 rfl ?_
                      refine v_iload C 7 dX6_colds_203 rfl ?_
                      refine v_idiv C dX6_colds_205 (hne) ?_
                      exact v_iret C E (rfl) (by first | rfl | (simp only [frI, ← inI_01, c1, c2, c3, c4, Int32.not_lt.mpr c4, c5, Int32.not_le.mpr c5, c6, hne, ↓reduceIte, Bool.false_eq_true, reduceCtorEq, Bool.and_true, Bool.true_and, Bool.and_false, Bool.false_and]; done) | (simp [frI, ← inI_01, c1, c2, c3, c4, Int32.not_lt.mpr c4, c5, Int32.not_le.mpr c5, c6, hne]; done) | (simp_all [frI, ← inI_01]; done)) dX6_colds_206
                    · skip
                      refine v_iload C 5 dX6_colds_193 rfl ?_
                      refine v_iload C 7 dX6_colds_195 rfl ?_
                      refine v_idiv C dX6_colds_197 (hne) ?_
                      refine v_goto C 206 dX6_colds_198 (by decide) ?_
                      exact v_iret C E (rfl) (by first | rfl | (simp only [frI, ← inI_01, c1, c2, c3, c4, Int32.not_lt.mpr c4, c5, Int32.not_le.mpr c5, c6, hne, ↓reduceIte, Bool.false_eq_true, reduceCtorEq, Bool.and_true, Bool.true_and, Bool.and_false, Bool.false_and]; done) | (simp [frI, ← inI_01, c1, c2, c3, c4, Int32.not_lt.mpr c4, c5, Int32.not_le.mpr c5, c6, hne]; done) | (simp_all [frI, ← inI_01]; done)) dX6_colds_206
                  · skip
                    have hlt : i < 2 ^ pn := by have h9 := nlt_nI c5 (by omega) (by omega); omega
                    refine v_iload C 7 dX6_colds_83 rfl ?_
                    refine v_iload C 4 dX6_colds_85 rfl ?_
                    refine v_iconst C (v := -1) dX6_colds_87 (by decide) ?_
                    refine v_ixor C dX6_colds_88 ?_
                    refine v_iand C dX6_colds_89 ?_
                    refine v_if_ne C 174 dX6_colds_90 (by decide) (fun c7 => ?_) (fun c7 => ?_)
                    · skip
                      refine v_iinc C (k := 7) (nI (i + 1)) [(0, .ref mo), (1, .int x), (2, .int y), (3, .int z), (4, .int (nI thn)), (5, .int (coS (wN (kS tf) (sS tf) (wS tf) tn) x y thn i)), (6, .int (powI 10 (pop thn))), (7, .int (nI (i + 1)))] [1, 2, 3, 4, 5, 6, 7, 0] dX6_colds_174 rfl (nI_inc _) (by decide) rfl ?_
                      refine v_goto C 74 dX6_colds_177 (by decide) ?_
                      exact ih74 (i + 1) _ _ (by first | (rw [← ptS_all (c := y) hpn hlt hthp (by assumption)]; simp only [coS, wN, ptS_all (c := y) hpn hlt hthp (by assumption), c1, c2, c3, c4, Int32.not_lt.mpr c4, c5, Int32.not_lt.mp c5, c7, ↓reduceIte, Int32.add_zero]; done) | (simp only [coS, wN, ptS_all (c := y) hpn hlt hthp (by assumption), c1, c2, c3, c4, Int32.not_lt.mpr c4, c5, Int32.not_lt.mp c5, c7, ↓reduceIte, Int32.add_zero]; done) | (simp only [coS, wN, c1, c2, c3, c4, Int32.not_lt.mpr c4, c5, Int32.not_lt.mp c5, c7, ↓reduceIte, Int32.add_zero]; done)) (rfl) (by omega) (by omega)
                    · skip
                      refine v_iconst C (v := 1) dX6_colds_93 (by decide) ?_
                      refine v_istore C [(0, .ref mo), (1, .int x), (2, .int y), (3, .int z), (4, .int (nI thn)), (5, .int (coS (wN (kS tf) (sS tf) (wS tf) tn) x y thn i)), (6, .int (powI 10 (pop thn))), (7, .int (nI i)), (8, .int 1)] [1, 2, 3, 4, 5, 6, 7, 8, 0] dX6_colds_94 (by decide) rfl ?_
                      refine v_iconst C (v := 0) dX6_colds_96 (by decide) ?_
                      refine v_istore C [(0, .ref mo), (1, .int x), (2, .int y), (3, .int z), (4, .int (nI thn)), (5, .int (coS (wN (kS tf) (sS tf) (wS tf) tn) x y thn i)), (6, .int (powI 10 (pop thn))), (7, .int (nI i)), (8, .int 1), (9, .int 0)] [1, 2, 3, 4, 5, 6, 7, 8, 9, 0] dX6_colds_97 (by decide) rfl ?_
                      have L99 : ∀ (n : Nat) (k : Nat) (y0 : Int32) (y1 : Int32), y0 = (ptS y i thn k) → y1 = (nI k) → (k ≤ pn) → (pn - k) < n → V p l e ({ frames := 3, cells := 0, slots := 0, locals := 72 }) s m (List.toArray [.ref mo, .int x, .int y, .int z]) below meth c 0 0 (MQ below (vq_Q (some (.int (if it = true then (if (lkF x && zo z) = true then (if inI y 0 10 = true then frI (coS (wN (kS tf) (sS tf) (wS tf) tn) x y thn (2 ^ pn)) (powI 10 (pop thn)) z else -1000001) else -1000001) else -1000002))) D [(mo, .inr (6, [.ref ml, .ref mz, .ref mi, .int su, .int (b2 it), .ref mt, .ref mv, .ref mp, .int nby, .int lt, .int pl, .int tok, .int va, .int be, .int wr, .ref md, .ref mc, .int am, .ref mk, .ref mq, .ref mr, .int td])), (mt, .inl (cs 0, 29, .inl tf))] [(mo, .inr (6, [.ref ml, .ref mz, .ref mi, .int su, .int (b2 it), .ref mt, .ref mv, .ref mp, .int nby, .int lt, .int pl, .int tok, .int va, .int be, .int wr, .ref md, .ref mc, .int am, .ref mk, .ref mq, .ref mr, .int td])), (mt, .inl (cs 0, 29, .inl tf))] s.heap.size) (List.toArray [.ref mo, .int x, .int y, .int z]) s 0 0 (va_A [(mo, .inr (6, [.ref ml, .ref mz, .ref mi, .int su, .int (b2 it), .ref mt, .ref mv, .ref mp, .int nby, .int lt, .int pl, .int tok, .int va, .int be, .int wr, .ref md, .ref mc, .int am, .ref mk, .ref mq, .ref mr, .int td])), (mt, .inl (cs 0, 29, .inl tf))] s.heap.size)) 10 D A s.heap 99 [(0, .ref mo), (1, .int x), (2, .int y), (3, .int z), (4, .int (nI thn)), (5, .int (coS (wN (kS tf) (sS tf) (wS tf) tn) x y thn i)), (6, .int (powI 10 (pop thn))), (7, .int (nI i)), (8, .int y0), (9, .int y1)] [] [(mo, .inr (6, [.ref ml, .ref mz, .ref mi, .int su, .int (b2 it), .ref mt, .ref mv, .ref mp, .int nby, .int lt, .int pl, .int tok, .int va, .int be, .int wr, .ref md, .ref mc, .int am, .ref mk, .ref mq, .ref mr, .int td])), (mt, .inl (cs 0, 29, .inl tf))] := by
                        intro n
                        induction n with
                        | zero =>
                          intros; omega
                        | succ n ih99 =>
                          intro k y0 y1 ey0 ey1 hk hn
                          subst ey0
                          subst ey1
                          refine v_iload C 9 dX6_colds_99 rfl ?_
                          refine v_aload_n C 0 dX6_colds_101 rfl ?_
                          refine v_get C (v := .ref mt) fl_X6_colds_19 0 rfl rfl dX6_colds_102 ?_
                          refine v_iconst C (v := 0) dX6_colds_105 (by decide) ?_
                          refine v_iald C 1 0 rfl rfl (tf 0) (rfl) (vp_in_nI (n := 0) (N := 29) (by decide) (by decide)) dX6_colds_106 ?_
                          refine V.topr (y := nI pn) (hpe) ?_
                          refine v_icmp_ge C 153 dX6_colds_107 (by decide) (fun c8 => ?_) (fun c8 => ?_)
                          · skip
                            have hgep : pn ≤ k := le_nI c8 (by omega) (by omega)
                            have hsub : pn = k := by omega
                            subst hsub
                            refine v_iload C 5 dX6_colds_153 rfl ?_
                            refine v_aload_n C 0 dX6_colds_155 rfl ?_
                            refine v_iload C 7 dX6_colds_156 rfl ?_
                            refine v_callV (qi := 0) C [.int (nI i)] [.int (coS (wN (kS tf) (sS tf) (wS tf) tn) x y thn i)] kX6_worthOf gX6_colds_X6_worthOf (c_mworthOf l D cs (mo := mo) (ml := ml) (mz := mz) (mi := mi) (mt := mt) (mv := mv) (mp := mp) (md := md) (mc := mc) (mk := mk) (mq := mq) (mr := mr) (su := su) (it := it) (nby := nby) (lt := lt) (pl := pl) (tok := tok) (va := va) (be := be) (wr := wr) (am := am) (td := td) (tf := tf) (tn := tn) (th := (nI i)) (by first | assumption | omega) (by first | assumption | omega) (by first | assumption | omega) (by first | assumption | omega)) ⟨Nat.le_of_ble_eq_true rfl, Nat.le_of_ble_eq_true rfl⟩ ⟨rfl, rfl⟩ ⟨Nat.zero_le _, Nat.zero_le _⟩ rfl 0 rfl rfl rfl rfl (Nat.le_of_ble_eq_true rfl) [0, 1] [(mo, .inr (6, [.ref ml, .ref mz, .ref mi, .int su, .int (b2 it), .ref mt, .ref mv, .ref mp, .int nby, .int lt, .int pl, .int tok, .int va, .int be, .int wr, .ref md, .ref mc, .int am, .ref mk, .ref mq, .ref mr, .int td])), (mt, .inl (cs 0, 29, .inl tf))] rfl (by decide) (show [mo, mt] = [mo, mt] from rfl) (rfl) dX6_colds_158 ?_
                            refine V.sts (st' := [.int (wsum (kS tf) (sS tf) (wS tf) (nI i) tn), .int (coS (wN (kS tf) (sS tf) (wS tf) tn) x y thn i)]) rfl ?_
                            refine v_iload_n C 1 dX6_colds_161 rfl ?_
                            refine v_icmp_lt C 170 dX6_colds_162 (by decide) (fun c9 => ?_) (fun c9 => ?_)
                            · skip
                              refine v_iconst C (v := 0) dX6_colds_170 (by decide) ?_
                              refine v_iadd C dX6_colds_171 ?_
                              refine v_istore C [(0, .ref mo), (1, .int x), (2, .int y), (3, .int z), (4, .int (nI thn)), (5, .int ((coS (wN (kS tf) (sS tf) (wS tf) tn) x y thn i) + 0)), (6, .int (powI 10 (pop thn))), (7, .int (nI i)), (8, .int (ptS y i thn pn)), (9, .int (nI pn))] [1, 2, 3, 4, 5, 0, 6, 7, 8, 9] dX6_colds_172 (by decide) rfl ?_
                              refine v_iinc C (k := 7) (nI (i + 1)) [(0, .ref mo), (1, .int x), (2, .int y), (3, .int z), (4, .int (nI thn)), (5, .int ((coS (wN (kS tf) (sS tf) (wS tf) tn) x y thn i) + 0)), (6, .int (powI 10 (pop thn))), (7, .int (nI (i + 1))), (8, .int (ptS y i thn pn)), (9, .int (nI pn))] [1, 2, 3, 4, 5, 6, 7, 0, 8, 9] dX6_colds_174 rfl (nI_inc _) (by decide) rfl ?_
                              refine v_goto C 74 dX6_colds_177 (by decide) ?_
                              refine V.lvs (lv' := [(0, .ref mo), (1, .int x), (2, .int y), (3, .int z), (4, .int (nI thn)), (5, .int ((coS (wN (kS tf) (sS tf) (wS tf) tn) x y thn i) + 0)), (6, .int (powI 10 (pop thn))), (7, .int (nI (i + 1)))]) [0, 1, 2, 3, 4, 5, 6, 7] rfl ?_
                              exact ih74 (i + 1) _ _ (by first | (rw [← ptS_all (c := y) hpn hlt hthp (by assumption)]; simp only [coS, wN, ptS_all (c := y) hpn hlt hthp (by assumption), c1, c2, c3, c4, Int32.not_lt.mpr c4, c5, Int32.not_lt.mp c5, c7, c8, Int32.not_lt.mpr c8, c9, Int32.not_le.mpr c9, ↓reduceIte, Int32.add_zero]; done) | (simp only [coS, wN, ptS_all (c := y) hpn hlt hthp (by assumption), c1, c2, c3, c4, Int32.not_lt.mpr c4, c5, Int32.not_lt.mp c5, c7, c8, Int32.not_lt.mpr c8, c9, Int32.not_le.mpr c9, ↓reduceIte, Int32.add_zero]; done) | (simp only [coS, wN, c1, c2, c3, c4, Int32.not_lt.mpr c4, c5, Int32.not_lt.mp c5, c7, c8, Int32.not_lt.mpr c8, c9, Int32.not_le.mpr c9, ↓reduceIte, Int32.add_zero]; done)) (rfl) (by omega) (by omega)
                            · skip
                              refine v_iload C 8 dX6_colds_165 rfl ?_
                              refine v_goto C 171 dX6_colds_167 (by decide) ?_
                              refine v_iadd C dX6_colds_171 ?_
                              refine v_istore C [(0, .ref mo), (1, .int x), (2, .int y), (3, .int z), (4, .int (nI thn)), (5, .int ((coS (wN (kS tf) (sS tf) (wS tf) tn) x y thn i) + (ptS y i thn pn))), (6, .int (powI 10 (pop thn))), (7, .int (nI i)), (8, .int (ptS y i thn pn)), (9, .int (nI pn))] [1, 2, 3, 4, 5, 0, 6, 7, 8, 9] dX6_colds_172 (by decide) rfl ?_
                              refine v_iinc C (k := 7) (nI (i + 1)) [(0, .ref mo), (1, .int x), (2, .int y), (3, .int z), (4, .int (nI thn)), (5, .int ((coS (wN (kS tf) (sS tf) (wS tf) tn) x y thn i) + (ptS y i thn pn))), (6, .int (powI 10 (pop thn))), (7, .int (nI (i + 1))), (8, .int (ptS y i thn pn)), (9, .int (nI pn))] [1, 2, 3, 4, 5, 6, 7, 0, 8, 9] dX6_colds_174 rfl (nI_inc _) (by decide) rfl ?_
                              refine v_goto C 74 dX6_colds_177 (by decide) ?_
                              refine V.lvs (lv' := [(0, .ref mo), (1, .int x), (2, .int y), (3, .int z), (4, .int (nI thn)), (5, .int ((coS (wN (kS tf) (sS tf) (wS tf) tn) x y thn i) + (ptS y i thn pn))), (6, .int (powI 10 (pop thn))), (7, .int (nI (i + 1)))]) [0, 1, 2, 3, 4, 5, 6, 7] rfl ?_
                              exact ih74 (i + 1) _ _ (by first | (rw [← ptS_all (c := y) hpn hlt hthp (by assumption)]; simp only [coS, wN, ptS_all (c := y) hpn hlt hthp (by assumption), c1, c2, c3, c4, Int32.not_lt.mpr c4, c5, Int32.not_lt.mp c5, c7, c8, Int32.not_lt.mpr c8, c9, Int32.not_lt.mp c9, ↓reduceIte, Int32.add_zero]; done) | (simp only [coS, wN, ptS_all (c := y) hpn hlt hthp (by assumption), c1, c2, c3, c4, Int32.not_lt.mpr c4, c5, Int32.not_lt.mp c5, c7, c8, Int32.not_lt.mpr c8, c9, Int32.not_lt.mp c9, ↓reduceIte, Int32.add_zero]; done) | (simp only [coS, wN, c1, c2, c3, c4, Int32.not_lt.mpr c4, c5, Int32.not_lt.mp c5, c7, c8, Int32.not_lt.mpr c8, c9, Int32.not_lt.mp c9, ↓reduceIte, Int32.add_zero]; done)) (rfl) (by omega) (by omega)
                          · skip
                            have hltp : k < pn := nle_nI c8 (by omega) (by omega)
                            refine v_iload C 8 dX6_colds_110 rfl ?_
                            refine v_iload C 7 dX6_colds_112 rfl ?_
                            refine v_iload C 9 dX6_colds_114 rfl ?_
                            refine v_callS C [.int (nI i), .int (nI k)] [.int (ptS y i thn k)] kX6_has gX6_colds_X6_has (c_mhas l D cs (x := (nI i)) (q := (nI k)) ) ⟨Nat.le_of_ble_eq_true rfl, Nat.le_of_ble_eq_true rfl⟩ ⟨rfl, rfl⟩ ⟨Nat.zero_le _, Nat.zero_le _⟩ rfl rfl (Nat.le_of_ble_eq_true rfl) [] [(mo, .inr (6, [.ref ml, .ref mz, .ref mi, .int su, .int (b2 it), .ref mt, .ref mv, .ref mp, .int nby, .int lt, .int pl, .int tok, .int va, .int be, .int wr, .ref md, .ref mc, .int am, .ref mk, .ref mq, .ref mr, .int td])), (mt, .inl (cs 0, 29, .inl tf))] rfl (by decide) rfl (rfl) dX6_colds_116 ?_
                            refine V.sts (st' := [.int (b2 (hasB (nI i) (nI k))), .int (ptS y i thn k)]) rfl ?_
                            refine v_if_eqB C 129 dX6_colds_119 (by decide) (fun c10 => ?_) (fun c10 => ?_)
                            · skip
                              refine v_iload C 4 dX6_colds_129 rfl ?_
                              refine v_iload C 9 dX6_colds_131 rfl ?_
                              refine v_callS C [.int (nI thn), .int (nI k)] [.int (ptS y i thn k)] kX6_has gX6_colds_X6_has (c_mhas l D cs (x := nI thn) (q := (nI k)) ) ⟨Nat.le_of_ble_eq_true rfl, Nat.le_of_ble_eq_true rfl⟩ ⟨rfl, rfl⟩ ⟨Nat.zero_le _, Nat.zero_le _⟩ rfl rfl (Nat.le_of_ble_eq_true rfl) [] [(mo, .inr (6, [.ref ml, .ref mz, .ref mi, .int su, .int (b2 it), .ref mt, .ref mv, .ref mp, .int nby, .int lt, .int pl, .int tok, .int va, .int be, .int wr, .ref md, .ref mc, .int am, .ref mk, .ref mq, .ref mr, .int td])), (mt, .inl (cs 0, 29, .inl tf))] rfl (by decide) rfl (rfl) dX6_colds_133 ?_
                              refine V.sts (st' := [.int (b2 (hasB (nI thn) (nI k))), .int (ptS y i thn k)]) rfl ?_
                              refine v_if_eqB C 143 dX6_colds_136 (by decide) (fun c11 => ?_) (fun c11 => ?_)
                              · skip
                                refine v_iconst C (v := 1) dX6_colds_143 (by decide) ?_
                                refine v_imul C dX6_colds_144 ?_
                                refine v_istore C [(0, .ref mo), (1, .int x), (2, .int y), (3, .int z), (4, .int (nI thn)), (5, .int (coS (wN (kS tf) (sS tf) (wS tf) tn) x y thn i)), (6, .int (powI 10 (pop thn))), (7, .int (nI i)), (8, .int ((ptS y i thn k) * 1)), (9, .int (nI k))] [1, 2, 3, 4, 5, 6, 7, 8, 0, 9] dX6_colds_145 (by decide) rfl ?_
                                refine v_iinc C (k := 9) (nI (k + 1)) [(0, .ref mo), (1, .int x), (2, .int y), (3, .int z), (4, .int (nI thn)), (5, .int (coS (wN (kS tf) (sS tf) (wS tf) tn) x y thn i)), (6, .int (powI 10 (pop thn))), (7, .int (nI i)), (8, .int ((ptS y i thn k) * 1)), (9, .int (nI (k + 1)))] [1, 2, 3, 4, 5, 6, 7, 8, 9, 0] dX6_colds_147 rfl (nI_inc _) (by decide) rfl ?_
                                refine v_goto C 99 dX6_colds_150 (by decide) ?_
                                exact ih99 (k + 1) _ _ (by simp only [ptS, c1, c2, c3, c4, Int32.not_lt.mpr c4, c5, Int32.not_lt.mp c5, c7, c8, Int32.not_le.mp c8, c10, c11, decide_true, decide_false, ↓reduceIte, Bool.false_eq_true]) (rfl) (by first | assumption | omega) (by omega)
                              · skip
                                refine v_iload_n C 2 dX6_colds_139 rfl ?_
                                refine v_goto C 144 dX6_colds_140 (by decide) ?_
                                refine v_imul C dX6_colds_144 ?_
                                refine v_istore C [(0, .ref mo), (1, .int x), (2, .int y), (3, .int z), (4, .int (nI thn)), (5, .int (coS (wN (kS tf) (sS tf) (wS tf) tn) x y thn i)), (6, .int (powI 10 (pop thn))), (7, .int (nI i)), (8, .int ((ptS y i thn k) * y)), (9, .int (nI k))] [1, 2, 3, 4, 5, 6, 7, 8, 0, 9] dX6_colds_145 (by decide) rfl ?_
                                refine v_iinc C (k := 9) (nI (k + 1)) [(0, .ref mo), (1, .int x), (2, .int y), (3, .int z), (4, .int (nI thn)), (5, .int (coS (wN (kS tf) (sS tf) (wS tf) tn) x y thn i)), (6, .int (powI 10 (pop thn))), (7, .int (nI i)), (8, .int ((ptS y i thn k) * y)), (9, .int (nI (k + 1)))] [1, 2, 3, 4, 5, 6, 7, 8, 9, 0] dX6_colds_147 rfl (nI_inc _) (by decide) rfl ?_
                                refine v_goto C 99 dX6_colds_150 (by decide) ?_
                                exact ih99 (k + 1) _ _ (by simp only [ptS, c1, c2, c3, c4, Int32.not_lt.mpr c4, c5, Int32.not_lt.mp c5, c7, c8, Int32.not_le.mp c8, c10, c11, decide_true, decide_false, ↓reduceIte, Bool.false_eq_true]) (rfl) (by first | assumption | omega) (by omega)
                            · skip
                              refine v_bipush C (v := 10) dX6_colds_122 (by decide) ?_
                              refine v_iload_n C 2 dX6_colds_124 rfl ?_
                              refine v_isub C dX6_colds_125 ?_
                              refine v_goto C 144 dX6_colds_126 (by decide) ?_
                              refine v_imul C dX6_colds_144 ?_
                              refine v_istore C [(0, .ref mo), (1, .int x), (2, .int y), (3, .int z), (4, .int (nI thn)), (5, .int (coS (wN (kS tf) (sS tf) (wS tf) tn) x y thn i)), (6, .int (powI 10 (pop thn))), (7, .int (nI i)), (8, .int ((ptS y i thn k) * (10 - y))), (9, .int (nI k))] [1, 2, 3, 4, 5, 6, 7, 8, 0, 9] dX6_colds_145 (by decide) rfl ?_
                              refine v_iinc C (k := 9) (nI (k + 1)) [(0, .ref mo), (1, .int x), (2, .int y), (3, .int z), (4, .int (nI thn)), (5, .int (coS (wN (kS tf) (sS tf) (wS tf) tn) x y thn i)), (6, .int (powI 10 (pop thn))), (7, .int (nI i)), (8, .int ((ptS y i thn k) * (10 - y))), (9, .int (nI (k + 1)))] [1, 2, 3, 4, 5, 6, 7, 8, 9, 0] dX6_colds_147 rfl (nI_inc _) (by decide) rfl ?_
                              refine v_goto C 99 dX6_colds_150 (by decide) ?_
                              exact ih99 (k + 1) _ _ (by simp only [ptS, c1, c2, c3, c4, Int32.not_lt.mpr c4, c5, Int32.not_lt.mp c5, c7, c8, Int32.not_le.mp c8, c10, decide_true, decide_false, ↓reduceIte, Bool.false_eq_true]) (rfl) (by first | assumption | omega) (by omega)
                      exact L99 _ 0 _ _ (rfl) (rfl) (by first | assumption | omega) (Nat.lt_succ_self _)
              exact L74 _ 0 _ _ (rfl) (rfl) (by omega) (Nat.lt_succ_self _)
            · skip
              have hltk : k < pop thn := nle_nI c4 (by have h9 := pop_le thn; omega) (by have h9 := pop_le thn; omega)
              refine v_iload C 6 dX6_colds_58 rfl ?_
              refine v_bipush C (v := 10) dX6_colds_60 (by decide) ?_
              refine v_imul C dX6_colds_62 ?_
              refine v_istore C [(0, .ref mo), (1, .int x), (2, .int y), (3, .int z), (4, .int (nI thn)), (5, .int 0), (6, .int ((powI 10 k) * 10)), (7, .int (nI k))] [1, 2, 3, 4, 5, 6, 0, 7] dX6_colds_63 (by decide) rfl ?_
              refine v_iinc C (k := 7) (nI (k + 1)) [(0, .ref mo), (1, .int x), (2, .int y), (3, .int z), (4, .int (nI thn)), (5, .int 0), (6, .int ((powI 10 k) * 10)), (7, .int (nI (k + 1)))] [1, 2, 3, 4, 5, 6, 7, 0] dX6_colds_65 rfl (nI_inc _) (by decide) rfl ?_
              refine v_goto C 48 dX6_colds_68 (by decide) ?_
              exact ih48 (k + 1) _ _ (rfl) (rfl) (by first | assumption | omega) (by omega)
        exact L48 _ 0 _ _ (rfl) (rfl) (by first | assumption | omega) (Nat.lt_succ_self _)
      · skip
        refine v_ldc C (v := -1000001) (by decide +kernel) dX6_colds_30 ?_
        exact v_iret C E (rfl) (by first | rfl | (simp only [frI, ← inI_01, c1, c2, c3, ↓reduceIte, Bool.false_eq_true, reduceCtorEq, Bool.and_true, Bool.true_and, Bool.and_false, Bool.false_and]; done) | (simp [frI, ← inI_01, c1, c2, c3]; done) | (simp_all [frI, ← inI_01]; done)) dX6_colds_32
  · skip
    refine v_ldc C (v := -1000002) (by decide +kernel) dX6_colds_7 ?_
    exact v_iret C E (rfl) (by first | rfl | (simp only [frI, ← inI_01, c1, ↓reduceIte, Bool.false_eq_true, reduceCtorEq, Bool.and_true, Bool.true_and, Bool.and_false, Bool.false_and]; done) | (simp [frI, ← inI_01, c1]; done) | (simp_all [frI, ← inI_01]; done)) dX6_colds_9
