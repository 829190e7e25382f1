theorem kX6_enough : KD yX6_enough wsX6_enough cX6_enough 6 (some .int) 2 := ⟨⟨_, rfl⟩, by decide, by decide +kernel, by decide +kernel, by decide +kernel⟩
theorem in_X6_enough_X6 : ∀ w ∈ wsX60, w ∈ wsX6_enough := by decide +kernel
theorem fl_X6_enough_129 : FL RX6 wsX6_enough RX6 RX6 TX6 22 6 4 129 := ⟨⟨in_X6_enough_X6, rfl, by decide, rfl⟩, by decide +kernel⟩
set_option maxHeartbeats 4000000 in
set_option maxRecDepth 100000 in
theorem c_menough (l : Launch) (D : va_G) (cs : Nat → ClassId) {mo : Nat} {ml : Nat} {mz : Nat} {mi : Nat} {mt : Nat} {mv : Nat} {mp : Nat} {md : Nat} {mc : Nat} {mk : Nat} {mq : Nat} {mr : Nat} {su : Int32} {it : Bool} {nby : Int32} {lt : Int32} {pl : Int32} {tok : Int32} {va : Int32} {be : Int32} {wr : Int32} {am : Int32} {td : Int32} {tf : Nat → Int32} {pn : Nat} {tn : Nat} {x : Int32} {y : Int32} (hte : tf 1 = nI tn) (hti : tn ≤ 8) (hS : ∀ t, s64 (tf (13 + t))) (hK : ∀ t, t < tn → kok (tf (5 + t))) (hpe : tf 0 = nI pn) (hpn : pn ≤ 6) : CT l D (tz cs) yX6_enough wsX6_enough ({ frames := 3, cells := 0, slots := 0, locals := 72 }) [.ref mo, .int x, .int y] [(mo, .inr (6, [.ref ml, .ref mz, .ref mi, .int su, .int (b2 it), .ref mt, .ref mv, .ref mp, .int nby, .int lt, .int pl, .int tok, .int va, .int be, .int wr, .ref md, .ref mc, .int am, .ref mk, .ref mq, .ref mr, .int td])), (mt, .inl (cs 0, 29, .inl tf))] (some (.int (if it = true then (if (lkF x && zo y) = true then (if y = 0 then (enS (wN (kS tf) (sS tf) (wS tf) tn) x (2 ^ pn)).1 else (enS (wN (kS tf) (sS tf) (wS tf) tn) x (2 ^ pn)).2) else -1000001) else -1000002))) [(mo, .inr (6, [.ref ml, .ref mz, .ref mi, .int su, .int (b2 it), .ref mt, .ref mv, .ref mp, .int nby, .int lt, .int pl, .int tok, .int va, .int be, .int wr, .ref md, .ref mc, .int am, .ref mk, .ref mq, .ref mr, .int td])), (mt, .inl (cs 0, 29, .inl tf))] := by
  refine CT.of kX6_enough (Nat.le_of_ble_eq_true rfl) ?_
  intro p e s m below meth c A C E
  have C : VOk p s m _ c cX6_enough 6 wsX6_enough RX6 D (tz cs) A s.heap := C
  refine V.lvs (lv' := [(0, .ref mo), (1, .int x), (2, .int y)]) [0, 1, 2] rfl ?_
  have hpw := pw64 pn hpn
  refine v_aload_n C 0 dX6_enough_0 rfl ?_
  refine v_get C (v := .int (b2 it)) fl_X6_enough_129 0 rfl rfl dX6_enough_1 ?_
  refine v_if_neB C 10 dX6_enough_4 (by decide) (fun c1 => ?_) (fun c1 => ?_)
  · skip
    refine v_iload_n C 1 dX6_enough_10 rfl ?_
    refine v_iload_n C 2 dX6_enough_11 rfl ?_
    refine v_callS C [.int x, .int y] [] kX6_isMuch gX6_enough_X6_isMuch (c_isMuch l D cs (v := x) (w := y) ) ⟨Nat.le_of_ble_eq_true rfl, Nat.le_of_ble_eq_true rfl⟩ ⟨rfl, rfl⟩ ⟨Nat.zero_le _, Nat.zero_le _⟩ rfl rfl (Nat.le_of_ble_eq_true rfl) [] [(mo, .inr (6, [.ref ml, .ref mz, .ref mi, .int su, .int (b2 it), .ref mt, .ref mv, .ref mp, .int nby, .int lt, .int pl, .int tok, .int va, .int be, .int wr, .ref md, .ref mc, .int am, .ref mk, .ref mq, .ref mr, .int td])), (mt, .inl (cs 0, 29, .inl tf))] rfl (by decide) rfl (rfl) dX6_enough_12 ?_
    refine V.sts (st' := [.int (b2 (lkF x && inI y 0 1))]) rfl ?_
    refine v_if_neB C 21 dX6_enough_15 (by decide) (fun c2 => ?_) (fun c2 => ?_)
    · skip
      refine v_iconst C (v := -1) dX6_enough_21 (by decide) ?_
      refine v_istore_n C [(0, .ref mo), (1, .int x), (2, .int y), (3, .int (-1))] [1, 2, 3, 0] dX6_enough_22 (by decide) rfl ?_
      refine v_iconst C (v := 0) dX6_enough_23 (by decide) ?_
      refine v_istore C [(0, .ref mo), (1, .int x), (2, .int y), (3, .int (-1)), (4, .int 0)] [1, 2, 3, 4, 0] dX6_enough_24 (by decide) rfl ?_
      have L26 : ∀ (n : Nat) (i : Nat) (y0 : Int32) (y1 : Int32), y0 = (mB (enS (wN (kS tf) (sS tf) (wS tf) tn) x i).2) → y1 = (nI i) → (i ≤ 2 ^ pn) → (2 ^ pn - i) < n → V p l e ({ frames := 3, cells := 0, slots := 0, locals := 72 }) s m (List.toArray [.ref mo, .int x, .int y]) below meth c 0 0 (MQ below (vq_Q (some (.int (if it = true then (if (lkF x && zo y) = true then (if y = 0 then (enS (wN (kS tf) (sS tf) (wS tf) tn) x (2 ^ pn)).1 else (enS (wN (kS tf) (sS tf) (wS tf) tn) x (2 ^ pn)).2) else -1000001) else -1000002))) D [(mo, .inr (6, [.ref ml, .ref mz, .ref mi, .int su, .int (b2 it), .ref mt, .ref mv, .ref mp, .int nby, .int lt, .int pl, .int tok, .int va, .int be, .int wr, .ref md, .ref mc, .int am, .ref mk, .ref mq, .ref mr, .int td])), (mt, .inl (cs 0, 29, .inl tf))] [(mo, .inr (6, [.ref ml, .ref mz, .ref mi, .int su, .int (b2 it), .ref mt, .ref mv, .ref mp, .int nby, .int lt, .int pl, .int tok, .int va, .int be, .int wr, .ref md, .ref mc, .int am, .ref mk, .ref mq, .ref mr, .int td])), (mt, .inl (cs 0, 29, .inl tf))] s.heap.size) (List.toArray [.ref mo, .int x, .int y]) s 0 0 (va_A [(mo, .inr (6, [.ref ml, .ref mz, .ref mi, .int su, .int (b2 it), .ref mt, .ref mv, .ref mp, .int nby, .int lt, .int pl, .int tok, .int va, .int be, .int wr, .ref md, .ref mc, .int am, .ref mk, .ref mq, .ref mr, .int td])), (mt, .inl (cs 0, 29, .inl tf))] s.heap.size)) 6 D A s.heap 26 [(0, .ref mo), (1, .int x), (2, .int y), (3, .int y0), (4, .int y1)] [] [(mo, .inr (6, [.ref ml, .ref mz, .ref mi, .int su, .int (b2 it), .ref mt, .ref mv, .ref mp, .int nby, .int lt, .int pl, .int tok, .int va, .int be, .int wr, .ref md, .ref mc, .int am, .ref mk, .ref mq, .ref mr, .int td])), (mt, .inl (cs 0, 29, .inl tf))] := by
        intro n
        induction n with
        | zero =>
          intros; omega
        | succ n ih26 =>
          intro i y0 y1 ey0 ey1 hi hn
          subst ey0
          subst ey1
          refine v_iload C 4 dX6_enough_26 rfl ?_
          refine v_aload_n C 0 dX6_enough_28 rfl ?_
          refine v_callV (qi := 0) C [] [.int (nI i)] kX6_all gX6_enough_X6_all (c_mall l D cs (mo := mo) (ml := ml) (mz := mz) (mi := mi) (mt := mt) (mv := mv) (mp := mp) (md := md) (mc := mc) (mk := mk) (mq := mq) (mr := mr) (su := su) (it := it) (nby := nby) (lt := lt) (pl := pl) (tok := tok) (va := va) (be := be) (wr := wr) (am := am) (td := td) (tf := tf) ) ⟨Nat.le_of_ble_eq_true rfl, Nat.le_of_ble_eq_true rfl⟩ ⟨rfl, rfl⟩ ⟨Nat.zero_le _, Nat.zero_le _⟩ rfl 0 rfl rfl rfl rfl (Nat.le_of_ble_eq_true rfl) [0, 1] [(mo, .inr (6, [.ref ml, .ref mz, .ref mi, .int su, .int (b2 it), .ref mt, .ref mv, .ref mp, .int nby, .int lt, .int pl, .int tok, .int va, .int be, .int wr, .ref md, .ref mc, .int am, .ref mk, .ref mq, .ref mr, .int td])), (mt, .inl (cs 0, 29, .inl tf))] rfl (by decide) (show [mo, mt] = [mo, mt] from rfl) (rfl) dX6_enough_29 ?_
          refine V.sts (st' := [.int (allI (tf 0)), .int (nI i)]) rfl ?_
          refine V.topr (y := nI (2 ^ pn - 1)) (by rw [hpe]; exact all_nI pn hpn) ?_
          refine v_icmp_gt C 86 dX6_enough_32 (by decide) (fun c3 => ?_) (fun c3 => ?_)
          · skip
            have hge : 2 ^ pn - 1 < i := lt_nI c3 (by omega) (by omega)
            have hsub : i = 2 ^ pn := by omega
            subst hsub
            rcases enS_inv (wN (kS tf) (sS tf) (wS tf) tn) x (2 ^ pn) with hE | ⟨j, hj, hE⟩
            · skip
              refine V.lvs (lv' := [(0, .ref mo), (1, .int x), (2, .int y), (3, .int (-1)), (4, .int (nI (2 ^ pn)))]) [0, 1, 2, 3, 4] (by rw [show ((mB (enS (wN (kS tf) (sS tf) (wS tf) tn) x (2 ^ pn)).2) : Int32) = (-1) from by rw [hE]; rfl]; rfl) ?_
              refine v_iload_n C 3 dX6_enough_86 rfl ?_
              refine v_if_ge C 95 dX6_enough_87 (by decide) (fun c4 => ?_) (fun c4 => ?_)
              · exact absurd c4 (by decide)
              · skip
                refine v_ldc C (v := -1000000) (by decide +kernel) dX6_enough_90 ?_
                refine v_goto C 107 dX6_enough_92 (by decide) ?_
                exact v_iret C E (rfl) (by have hk1 := (Bool.and_eq_true_iff.mp c2).1; first | (simp only [hE, c1, c2, c3, Int32.not_le.mpr c3, c4, Int32.not_le.mp c4, ↓reduceIte, ← inI_01, show inI (0 : Int32) 0 1 = true from by decide, hk1, Bool.true_and]; done) | (simp only [hE, c1, c2, c3, Int32.not_le.mpr c3, c4, Int32.not_le.mp c4, ↓reduceIte, ← inI_01, ite_self]; done)) dX6_enough_107
            · skip
              refine V.lvs (lv' := [(0, .ref mo), (1, .int x), (2, .int y), (3, .int (nI j)), (4, .int (nI (2 ^ pn)))]) [0, 1, 2, 3, 4] (by rw [show ((mB (enS (wN (kS tf) (sS tf) (wS tf) tn) x (2 ^ pn)).2) : Int32) = (nI j) from by rw [hE]; exact mB_nI (by omega)]; rfl) ?_
              refine v_iload_n C 3 dX6_enough_86 rfl ?_
              refine v_if_ge C 95 dX6_enough_87 (by decide) (fun c5 => ?_) (fun c5 => ?_)
              · skip
                refine v_iload_n C 2 dX6_enough_95 rfl ?_
                refine v_if_ne C 106 dX6_enough_96 (by decide) (fun c6 => ?_) (fun c6 => ?_)
                · skip
                  refine v_iload_n C 3 dX6_enough_106 rfl ?_
                  exact v_iret C E (rfl) (by have hk1 := (Bool.and_eq_true_iff.mp c2).1; first | (simp only [hE, c1, c2, c3, Int32.not_le.mpr c3, c5, Int32.not_lt.mpr c5, c6, ↓reduceIte, ← inI_01, show inI (0 : Int32) 0 1 = true from by decide, hk1, Bool.true_and]; done) | (simp only [hE, c1, c2, c3, Int32.not_le.mpr c3, c5, Int32.not_lt.mpr c5, c6, ↓reduceIte, ← inI_01, ite_self]; done)) dX6_enough_107
                · skip
                  refine v_iload_n C 3 dX6_enough_99 rfl ?_
                  refine v_callS C [.int (nI j)] [] kX6_ones gX6_enough_X6_ones (c_ones l D cs (x := (nI j)) (by first | exact ⟨i, by omega, rfl⟩ | exact ⟨j, by omega, rfl⟩)) ⟨Nat.le_of_ble_eq_true rfl, Nat.le_of_ble_eq_true rfl⟩ ⟨rfl, rfl⟩ ⟨Nat.zero_le _, Nat.zero_le _⟩ rfl rfl (Nat.le_of_ble_eq_true rfl) [] [(mo, .inr (6, [.ref ml, .ref mz, .ref mi, .int su, .int (b2 it), .ref mt, .ref mv, .ref mp, .int nby, .int lt, .int pl, .int tok, .int va, .int be, .int wr, .ref md, .ref mc, .int am, .ref mk, .ref mq, .ref mr, .int td])), (mt, .inl (cs 0, 29, .inl tf))] rfl (by decide) rfl (rfl) dX6_enough_100 ?_
                  refine V.sts (st' := [.int (pcI (nI j))]) rfl ?_
                  refine V.topr (y := nI (pop j)) (pc_nI (by omega)) ?_
                  refine v_goto C 107 dX6_enough_103 (by decide) ?_
                  exact v_iret C E (rfl) (by have hk1 := (Bool.and_eq_true_iff.mp c2).1; first | (simp only [hE, c1, c2, c3, Int32.not_le.mpr c3, c5, Int32.not_lt.mpr c5, c6, ↓reduceIte, ← inI_01, show inI (0 : Int32) 0 1 = true from by decide, hk1, Bool.true_and]; done) | (simp only [hE, c1, c2, c3, Int32.not_le.mpr c3, c5, Int32.not_lt.mpr c5, c6, ↓reduceIte, ← inI_01, ite_self]; done)) dX6_enough_107
              · exact absurd (nI_pos' (by omega)) c5
          · skip
            have hlt : i < 2 ^ pn := by have h9 := nlt_nI c3 (by omega) (by omega); omega
            rcases enS_inv (wN (kS tf) (sS tf) (wS tf) tn) x i with hE | ⟨j, hj, hE⟩
            · skip
              refine V.lvs (lv' := [(0, .ref mo), (1, .int x), (2, .int y), (3, .int (-1)), (4, .int (nI i))]) [0, 1, 2, 3, 4] (by rw [show ((mB (enS (wN (kS tf) (sS tf) (wS tf) tn) x i).2) : Int32) = (-1) from by rw [hE]; rfl]; rfl) ?_
              refine v_iload_n C 3 dX6_enough_35 rfl ?_
              refine v_if_lt C 51 dX6_enough_36 (by decide) (fun c7 => ?_) (fun c7 => ?_)
              · skip
                refine v_iconst C (v := 1) dX6_enough_51 (by decide) ?_
                refine v_goto C 56 dX6_enough_52 (by decide) ?_
                refine v_istore C [(0, .ref mo), (1, .int x), (2, .int y), (3, .int (-1)), (4, .int (nI i)), (5, .int 1)] [1, 2, 3, 4, 5, 0] dX6_enough_56 (by decide) rfl ?_
                refine v_iload C 5 dX6_enough_58 rfl ?_
                refine v_if_eq C 78 dX6_enough_60 (by decide) (fun c8 => ?_) (fun c8 => ?_)
                · exact absurd c8 (by decide)
                · skip
                  refine v_aload_n C 0 dX6_enough_63 rfl ?_
                  refine v_iload C 4 dX6_enough_64 rfl ?_
                  refine v_callV (qi := 0) C [.int (nI i)] [] kX6_worthOf gX6_enough_X6_worthOf (c_mworthOf l D cs (mo := mo) (ml := ml) (mz := mz) (mi := mi) (mt := mt) (mv := mv) (mp := mp) (md := md) (mc := mc) (mk := mk) (mq := mq) (mr := mr) (su := su) (it := it) (nby := nby) (lt := lt) (pl := pl) (tok := tok) (va := va) (be := be) (wr := wr) (am := am) (td := td) (tf := tf) (tn := tn) (th := (nI i)) (by first | assumption | omega) (by first | assumption | omega) (by first | assumption | omega) (by first | assumption | omega)) ⟨Nat.le_of_ble_eq_true rfl, Nat.le_of_ble_eq_true rfl⟩ ⟨rfl, rfl⟩ ⟨Nat.zero_le _, Nat.zero_le _⟩ rfl 0 rfl rfl rfl rfl (Nat.le_of_ble_eq_true rfl) [0, 1] [(mo, .inr (6, [.ref ml, .ref mz, .ref mi, .int su, .int (b2 it), .ref mt, .ref mv, .ref mp, .int nby, .int lt, .int pl, .int tok, .int va, .int be, .int wr, .ref md, .ref mc, .int am, .ref mk, .ref mq, .ref mr, .int td])), (mt, .inl (cs 0, 29, .inl tf))] rfl (by decide) (show [mo, mt] = [mo, mt] from rfl) (rfl) dX6_enough_66 ?_
                  refine V.sts (st' := [.int (wsum (kS tf) (sS tf) (wS tf) (nI i) tn)]) rfl ?_
                  refine v_iload_n C 1 dX6_enough_69 rfl ?_
                  refine v_icmp_lt C 78 dX6_enough_70 (by decide) (fun c9 => ?_) (fun c9 => ?_)
                  · skip
                    refine v_iload_n C 3 dX6_enough_78 rfl ?_
                    refine v_istore_n C [(0, .ref mo), (1, .int x), (2, .int y), (3, .int (-1)), (4, .int (nI i)), (5, .int 1)] [1, 2, 3, 0, 4, 5] dX6_enough_79 (by decide) rfl ?_
                    refine v_iinc C (k := 4) (nI (i + 1)) [(0, .ref mo), (1, .int x), (2, .int y), (3, .int (-1)), (4, .int (nI (i + 1))), (5, .int 1)] [1, 2, 3, 4, 0, 5] dX6_enough_80 rfl (nI_inc _) (by decide) rfl ?_
                    refine v_goto C 26 dX6_enough_83 (by decide) ?_
                    refine V.lvs (lv' := [(0, .ref mo), (1, .int x), (2, .int y), (3, .int (-1)), (4, .int (nI (i + 1)))]) [0, 1, 2, 3, 4] rfl ?_
                    exact ih26 (i + 1) _ _ (by simp only [enS, hE, wN, c1, c2, c3, Int32.not_lt.mp c3, c7, Int32.not_le.mpr c7, c8, c9, Int32.not_le.mpr c9, ↓reduceIte, mB]) (rfl) (by omega) (by omega)
                  · skip
                    refine v_iload C 4 dX6_enough_73 rfl ?_
                    refine v_goto C 79 dX6_enough_75 (by decide) ?_
                    refine v_istore_n C [(0, .ref mo), (1, .int x), (2, .int y), (3, .int (nI i)), (4, .int (nI i)), (5, .int 1)] [1, 2, 3, 0, 4, 5] dX6_enough_79 (by decide) rfl ?_
                    refine v_iinc C (k := 4) (nI (i + 1)) [(0, .ref mo), (1, .int x), (2, .int y), (3, .int (nI i)), (4, .int (nI (i + 1))), (5, .int 1)] [1, 2, 3, 4, 0, 5] dX6_enough_80 rfl (nI_inc _) (by decide) rfl ?_
                    refine v_goto C 26 dX6_enough_83 (by decide) ?_
                    refine V.lvs (lv' := [(0, .ref mo), (1, .int x), (2, .int y), (3, .int (nI i)), (4, .int (nI (i + 1)))]) [0, 1, 2, 3, 4] rfl ?_
                    exact ih26 (i + 1) _ _ (by have hNi : ¬ nI i = -1000000 := nI_ne_none (by omega); first | (simp only [enS, hE, wN, c1, c2, c3, Int32.not_lt.mp c3, c7, Int32.not_le.mpr c7, c8, c9, Int32.not_lt.mp c9, hNi, ↓reduceIte, mB]; done) | (have hN : ¬ nI j = -1000000 := nI_ne_none (by omega); simp only [enS, hE, wN, c1, c2, c3, Int32.not_lt.mp c3, c7, Int32.not_le.mpr c7, c8, c9, Int32.not_lt.mp c9, hNi, hN, ↓reduceIte, mB]; done)) (rfl) (by omega) (by omega)
              · exact absurd c7 (by decide)
            · skip
              refine V.lvs (lv' := [(0, .ref mo), (1, .int x), (2, .int y), (3, .int (nI j)), (4, .int (nI i))]) [0, 1, 2, 3, 4] (by rw [show ((mB (enS (wN (kS tf) (sS tf) (wS tf) tn) x i).2) : Int32) = (nI j) from by rw [hE]; exact mB_nI (by omega)]; rfl) ?_
              refine v_iload_n C 3 dX6_enough_35 rfl ?_
              refine v_if_lt C 51 dX6_enough_36 (by decide) (fun c10 => ?_) (fun c10 => ?_)
              · exact absurd c10 (nI_pos (by omega))
              · skip
                refine v_iload C 4 dX6_enough_39 rfl ?_
                refine v_callS C [.int (nI i)] [] kX6_ones gX6_enough_X6_ones (c_ones l D cs (x := (nI i)) (by first | exact ⟨i, by omega, rfl⟩ | exact ⟨j, by omega, rfl⟩)) ⟨Nat.le_of_ble_eq_true rfl, Nat.le_of_ble_eq_true rfl⟩ ⟨rfl, rfl⟩ ⟨Nat.zero_le _, Nat.zero_le _⟩ rfl rfl (Nat.le_of_ble_eq_true rfl) [] [(mo, .inr (6, [.ref ml, .ref mz, .ref mi, .int su, .int (b2 it), .ref mt, .ref mv, .ref mp, .int nby, .int lt, .int pl, .int tok, .int va, .int be, .int wr, .ref md, .ref mc, .int am, .ref mk, .ref mq, .ref mr, .int td])), (mt, .inl (cs 0, 29, .inl tf))] rfl (by decide) rfl (rfl) dX6_enough_41 ?_
                refine V.sts (st' := [.int (pcI (nI i))]) rfl ?_
                refine V.topr (y := nI (pop i)) (pc_nI (by omega)) ?_
                refine v_iload_n C 3 dX6_enough_44 rfl ?_
                refine v_callS C [.int (nI j)] [.int (nI (pop i))] kX6_ones gX6_enough_X6_ones (c_ones l D cs (x := (nI j)) (by first | exact ⟨i, by omega, rfl⟩ | exact ⟨j, by omega, rfl⟩)) ⟨Nat.le_of_ble_eq_true rfl, Nat.le_of_ble_eq_true rfl⟩ ⟨rfl, rfl⟩ ⟨Nat.zero_le _, Nat.zero_le _⟩ rfl rfl (Nat.le_of_ble_eq_true rfl) [] [(mo, .inr (6, [.ref ml, .ref mz, .ref mi, .int su, .int (b2 it), .ref mt, .ref mv, .ref mp, .int nby, .int lt, .int pl, .int tok, .int va, .int be, .int wr, .ref md, .ref mc, .int am, .ref mk, .ref mq, .ref mr, .int td])), (mt, .inl (cs 0, 29, .inl tf))] rfl (by decide) rfl (rfl) dX6_enough_45 ?_
                refine V.sts (st' := [.int (pcI (nI j)), .int (nI (pop i))]) rfl ?_
                refine V.topr (y := nI (pop j)) (pc_nI (by omega)) ?_
                refine v_icmp_ge C 55 dX6_enough_48 (by decide) (fun c11 => ?_) (fun c11 => ?_)
                · skip
                  refine v_iconst C (v := 0) dX6_enough_55 (by decide) ?_
                  refine v_istore C [(0, .ref mo), (1, .int x), (2, .int y), (3, .int (nI j)), (4, .int (nI i)), (5, .int 0)] [1, 2, 3, 4, 5, 0] dX6_enough_56 (by decide) rfl ?_
                  refine v_iload C 5 dX6_enough_58 rfl ?_
                  refine v_if_eq C 78 dX6_enough_60 (by decide) (fun c12 => ?_) (fun c12 => ?_)
                  · skip
                    refine v_iload_n C 3 dX6_enough_78 rfl ?_
                    refine v_istore_n C [(0, .ref mo), (1, .int x), (2, .int y), (3, .int (nI j)), (4, .int (nI i)), (5, .int 0)] [1, 2, 3, 0, 4, 5] dX6_enough_79 (by decide) rfl ?_
                    refine v_iinc C (k := 4) (nI (i + 1)) [(0, .ref mo), (1, .int x), (2, .int y), (3, .int (nI j)), (4, .int (nI (i + 1))), (5, .int 0)] [1, 2, 3, 4, 0, 5] dX6_enough_80 rfl (nI_inc _) (by decide) rfl ?_
                    refine v_goto C 26 dX6_enough_83 (by decide) ?_
                    refine V.lvs (lv' := [(0, .ref mo), (1, .int x), (2, .int y), (3, .int (nI j)), (4, .int (nI (i + 1)))]) [0, 1, 2, 3, 4] rfl ?_
                    exact ih26 (i + 1) _ _ (by have hN : ¬ nI j = -1000000 := nI_ne_none (by omega); rcases Decidable.em (wsum (kS tf) (sS tf) (wS tf) (nI i) tn < x) with hw | hw <;> simp only [enS, hE, wN, hw, c1, c2, c3, Int32.not_lt.mp c3, c10, Int32.not_lt.mp c10, c11, Int32.not_lt.mpr c11, c12, hN, ↓reduceIte, mB]) (rfl) (by omega) (by omega)
                  · exact absurd c12 (by decide)
                · skip
                  refine v_iconst C (v := 1) dX6_enough_51 (by decide) ?_
                  refine v_goto C 56 dX6_enough_52 (by decide) ?_
                  refine v_istore C [(0, .ref mo), (1, .int x), (2, .int y), (3, .int (nI j)), (4, .int (nI i)), (5, .int 1)] [1, 2, 3, 4, 5, 0] dX6_enough_56 (by decide) rfl ?_
                  refine v_iload C 5 dX6_enough_58 rfl ?_
                  refine v_if_eq C 78 dX6_enough_60 (by decide) (fun c13 => ?_) (fun c13 => ?_)
                  · exact absurd c13 (by decide)
                  · skip
                    refine v_aload_n C 0 dX6_enough_63 rfl ?_
                    refine v_iload C 4 dX6_enough_64 rfl ?_
                    refine v_callV (qi := 0) C [.int (nI i)] [] kX6_worthOf gX6_enough_X6_worthOf (c_mworthOf l D cs (mo := mo) (ml := ml) (mz := mz) (mi := mi) (mt := mt) (mv := mv) (mp := mp) (md := md) (mc := mc) (mk := mk) (mq := mq) (mr := mr) (su := su) (it := it) (nby := nby) (lt := lt) (pl := pl) (tok := tok) (va := va) (be := be) (wr := wr) (am := am) (td := td) (tf := tf) (tn := tn) (th := (nI i)) (by first | assumption | omega) (by first | assumption | omega) (by first | assumption | omega) (by first | assumption | omega)) ⟨Nat.le_of_ble_eq_true rfl, Nat.le_of_ble_eq_true rfl⟩ ⟨rfl, rfl⟩ ⟨Nat.zero_le _, Nat.zero_le _⟩ rfl 0 rfl rfl rfl rfl (Nat.le_of_ble_eq_true rfl) [0, 1] [(mo, .inr (6, [.ref ml, .ref mz, .ref mi, .int su, .int (b2 it), .ref mt, .ref mv, .ref mp, .int nby, .int lt, .int pl, .int tok, .int va, .int be, .int wr, .ref md, .ref mc, .int am, .ref mk, .ref mq, .ref mr, .int td])), (mt, .inl (cs 0, 29, .inl tf))] rfl (by decide) (show [mo, mt] = [mo, mt] from rfl) (rfl) dX6_enough_66 ?_
                    refine V.sts (st' := [.int (wsum (kS tf) (sS tf) (wS tf) (nI i) tn)]) rfl ?_
                    refine v_iload_n C 1 dX6_enough_69 rfl ?_
                    refine v_icmp_lt C 78 dX6_enough_70 (by decide) (fun c14 => ?_) (fun c14 => ?_)
                    · skip
                      refine v_iload_n C 3 dX6_enough_78 rfl ?_
                      refine v_istore_n C [(0, .ref mo), (1, .int x), (2, .int y), (3, .int (nI j)), (4, .int (nI i)), (5, .int 1)] [1, 2, 3, 0, 4, 5] dX6_enough_79 (by decide) rfl ?_
                      refine v_iinc C (k := 4) (nI (i + 1)) [(0, .ref mo), (1, .int x), (2, .int y), (3, .int (nI j)), (4, .int (nI (i + 1))), (5, .int 1)] [1, 2, 3, 4, 0, 5] dX6_enough_80 rfl (nI_inc _) (by decide) rfl ?_
                      refine v_goto C 26 dX6_enough_83 (by decide) ?_
                      refine V.lvs (lv' := [(0, .ref mo), (1, .int x), (2, .int y), (3, .int (nI j)), (4, .int (nI (i + 1)))]) [0, 1, 2, 3, 4] rfl ?_
                      exact ih26 (i + 1) _ _ (by have hN : ¬ nI j = -1000000 := nI_ne_none (by omega); simp only [enS, hE, wN, c1, c2, c3, Int32.not_lt.mp c3, c10, Int32.not_lt.mp c10, c11, Int32.not_le.mp c11, c13, c14, Int32.not_le.mpr c14, hN, ↓reduceIte, mB]) (rfl) (by omega) (by omega)
                    · skip
                      refine v_iload C 4 dX6_enough_73 rfl ?_
                      refine v_goto C 79 dX6_enough_75 (by decide) ?_
                      refine v_istore_n C [(0, .ref mo), (1, .int x), (2, .int y), (3, .int (nI i)), (4, .int (nI i)), (5, .int 1)] [1, 2, 3, 0, 4, 5] dX6_enough_79 (by decide) rfl ?_
                      refine v_iinc C (k := 4) (nI (i + 1)) [(0, .ref mo), (1, .int x), (2, .int y), (3, .int (nI i)), (4, .int (nI (i + 1))), (5, .int 1)] [1, 2, 3, 4, 0, 5] dX6_enough_80 rfl (nI_inc _) (by decide) rfl ?_
                      refine v_goto C 26 dX6_enough_83 (by decide) ?_
                      refine V.lvs (lv' := [(0, .ref mo), (1, .int x), (2, .int y), (3, .int (nI i)), (4, .int (nI (i + 1)))]) [0, 1, 2, 3, 4] rfl ?_
                      exact ih26 (i + 1) _ _ (by have hNi : ¬ nI i = -1000000 := nI_ne_none (by omega); first | (simp only [enS, hE, wN, c1, c2, c3, Int32.not_lt.mp c3, c10, Int32.not_lt.mp c10, c11, Int32.not_le.mp c11, c13, c14, Int32.not_lt.mp c14, hNi, ↓reduceIte, mB]; done) | (have hN : ¬ nI j = -1000000 := nI_ne_none (by omega); simp only [enS, hE, wN, c1, c2, c3, Int32.not_lt.mp c3, c10, Int32.not_lt.mp c10, c11, Int32.not_le.mp c11, c13, c14, Int32.not_lt.mp c14, hNi, hN, ↓reduceIte, mB]; done)) (rfl) (by omega) (by omega)
      exact L26 _ 0 _ _ (rfl) (rfl) (by omega) (Nat.lt_succ_self _)
    · skip
      refine v_ldc C (v := -1000001) (by decide +kernel) dX6_enough_18 ?_
      exact v_iret C E (rfl) (by first | rfl | (simp only [← inI_01, c1, c2, ↓reduceIte, Bool.false_eq_true, reduceCtorEq, Bool.and_true, Bool.true_and, Bool.and_false, Bool.false_and]; done) | (simp [← inI_01, c1, c2]; done) | (simp_all [← inI_01]; done)) dX6_enough_20
  · skip
    refine v_ldc C (v := -1000002) (by decide +kernel) dX6_enough_7 ?_
    exact v_iret C E (rfl) (by first | rfl | (simp only [← inI_01, c1, ↓reduceIte, Bool.false_eq_true, reduceCtorEq, Bool.and_true, Bool.true_and, Bool.and_false, Bool.false_and]; done) | (simp [← inI_01, c1]; done) | (simp_all [← inI_01]; done)) dX6_enough_9
theorem kX6_best : KD yX6_best wsX6_best cX6_best 5 (some .int) 1 := ⟨⟨_, rfl⟩, by decide, by decide +kernel, by decide +kernel, by decide +kernel⟩
theorem in_X6_best_X6 : ∀ w ∈ wsX60, w ∈ wsX6_best := by decide +kernel
theorem fl_X6_best_129 : FL RX6 wsX6_best RX6 RX6 TX6 22 6 4 129 := ⟨⟨in_X6_best_X6, rfl, by decide, rfl⟩, by decide +kernel⟩
set_option maxHeartbeats 4000000 in
set_option maxRecDepth 100000 in
theorem c_mbest (l : Launch) (D : va_G) (cs : Nat → ClassId) {mo : Nat} {ml : Nat} {mz : Nat} {mi : Nat} {mt : Nat} {mv : Nat} {mp : Nat} {md : Nat} {mc : Nat} {mk : Nat} {mq : Nat} {mr : Nat} {su : Int32} {it : Bool} {nby : Int32} {lt : Int32} {pl : Int32} {tok : Int32} {va : Int32} {be : Int32} {wr : Int32} {am : Int32} {td : Int32} {tf : Nat → Int32} {pn : Nat} {tn : Nat} {x : Int32} (hte : tf 1 = nI tn) (hti : tn ≤ 8) (hS : ∀ t, s64 (tf (13 + t))) (hK : ∀ t, t < tn → kok (tf (5 + t))) (hpe : tf 0 = nI pn) (hpn : pn ≤ 6) (hB : ∀ x : Int32, wbd (wsum (kS tf) (sS tf) (wS tf) x tn)) : CT l D (tz cs) yX6_best wsX6_best ({ frames := 3, cells := 0, slots := 0, locals := 72 }) [.ref mo, .int x] [(mo, .inr (6, [.ref ml, .ref mz, .ref mi, .int su, .int (b2 it), .ref mt, .ref mv, .ref mp, .int nby, .int lt, .int pl, .int tok, .int va, .int be, .int wr, .ref md, .ref mc, .int am, .ref mk, .ref mq, .ref mr, .int td])), (mt, .inl (cs 0, 29, .inl tf))] (some (.int (if it = true then (if zo x = true then (if x = 0 then (beS (wN (kS tf) (sS tf) (wS tf) tn) (2 ^ pn - 1)).1 else (beS (wN (kS tf) (sS tf) (wS tf) tn) (2 ^ pn - 1)).2) else -1000001) else -1000002))) [(mo, .inr (6, [.ref ml, .ref mz, .ref mi, .int su, .int (b2 it), .ref mt, .ref mv, .ref mp, .int nby, .int lt, .int pl, .int tok, .int va, .int be, .int wr, .ref md, .ref mc, .int am, .ref mk, .ref mq, .ref mr, .int td])), (mt, .inl (cs 0, 29, .inl tf))] := by
  refine CT.of kX6_best (Nat.le_of_ble_eq_true rfl) ?_
  intro p e s m below meth c A C E
  have C : VOk p s m _ c cX6_best 5 wsX6_best RX6 D (tz cs) A s.heap := C
  refine V.lvs (lv' := [(0, .ref mo), (1, .int x)]) [0, 1] rfl ?_
  have hpw := pw64 pn hpn
  refine v_aload_n C 0 dX6_best_0 rfl ?_
  refine v_get C (v := .int (b2 it)) fl_X6_best_129 0 rfl rfl dX6_best_1 ?_
  refine v_if_neB C 10 dX6_best_4 (by decide) (fun c1 => ?_) (fun c1 => ?_)
  · skip
    refine v_iload_n C 1 dX6_best_10 rfl ?_
    refine v_i2l C dX6_best_11 ?_
    refine v_lconst C (v := 0) dX6_best_12 (by decide) ?_
    refine v_lconst C (v := 1) dX6_best_13 (by decide) ?_
    refine v_callS C [.long (Int32.toInt64 x), .long 0, .long 1] [] kX6_in gX6_best_X6_in (c_inI l D cs (x := x) (a := 0) (b := 1) (lo := 0) (hi := 1) (by decide) (by decide)) ⟨Nat.le_of_ble_eq_true rfl, Nat.le_of_ble_eq_true rfl⟩ ⟨rfl, rfl⟩ ⟨Nat.zero_le _, Nat.zero_le _⟩ rfl rfl (Nat.le_of_ble_eq_true rfl) [] [(mo, .inr (6, [.ref ml, .ref mz, .ref mi, .int su, .int (b2 it), .ref mt, .ref mv, .ref mp, .int nby, .int lt, .int pl, .int tok, .int va, .int be, .int wr, .ref md, .ref mc, .int am, .ref mk, .ref mq, .ref mr, .int td])), (mt, .inl (cs 0, 29, .inl tf))] rfl (by decide) rfl (rfl) dX6_best_14 ?_
    refine V.sts (st' := [.int (b2 (inI x 0 1))]) rfl ?_
    refine v_if_neB C 23 dX6_best_17 (by decide) (fun c2 => ?_) (fun c2 => ?_)
    · skip
      refine v_iconst C (v := 0) dX6_best_23 (by decide) ?_
      refine v_istore_n C [(0, .ref mo), (1, .int x), (2, .int 0)] [1, 2, 0] dX6_best_24 (by decide) rfl ?_
      refine v_iconst C (v := 1) dX6_best_25 (by decide) ?_
      refine v_istore_n C [(0, .ref mo), (1, .int x), (2, .int 0), (3, .int 1)] [1, 2, 3, 0] dX6_best_26 (by decide) rfl ?_
      have L27 : ∀ (n : Nat) (i : Nat) (y0 : Int32) (y1 : Int32), y0 = ((beS (wN (kS tf) (sS tf) (wS tf) tn) i).1) → y1 = (nI (i + 1)) → (i + 1 ≤ 2 ^ pn) → (2 ^ pn - i) < n → V p l e ({ frames := 3, cells := 0, slots := 0, locals := 72 }) s m (List.toArray [.ref mo, .int x]) below meth c 0 0 (MQ below (vq_Q (some (.int (if it = true then (if zo x = true then (if x = 0 then (beS (wN (kS tf) (sS tf) (wS tf) tn) (2 ^ pn - 1)).1 else (beS (wN (kS tf) (sS tf) (wS tf) tn) (2 ^ pn - 1)).2) else -1000001) else -1000002))) D [(mo, .inr (6, [.ref ml, .ref mz, .ref mi, .int su, .int (b2 it), .ref mt, .ref mv, .ref mp, .int nby, .int lt, .int pl, .int tok, .int va, .int be, .int wr, .ref md, .ref mc, .int am, .ref mk, .ref mq, .ref mr, .int td])), (mt, .inl (cs 0, 29, .inl tf))] [(mo, .inr (6, [.ref ml, .ref mz, .ref mi, .int su, .int (b2 it), .ref mt, .ref mv, .ref mp, .int nby, .int lt, .int pl, .int tok, .int va, .int be, .int wr, .ref md, .ref mc, .int am, .ref mk, .ref mq, .ref mr, .int td])), (mt, .inl (cs 0, 29, .inl tf))] s.heap.size) (List.toArray [.ref mo, .int x]) s 0 0 (va_A [(mo, .inr (6, [.ref ml, .ref mz, .ref mi, .int su, .int (b2 it), .ref mt, .ref mv, .ref mp, .int nby, .int lt, .int pl, .int tok, .int va, .int be, .int wr, .ref md, .ref mc, .int am, .ref mk, .ref mq, .ref mr, .int td])), (mt, .inl (cs 0, 29, .inl tf))] s.heap.size)) 5 D A s.heap 27 [(0, .ref mo), (1, .int x), (2, .int y0), (3, .int y1)] [] [(mo, .inr (6, [.ref ml, .ref mz, .ref mi, .int su, .int (b2 it), .ref mt, .ref mv, .ref mp, .int nby, .int lt, .int pl, .int tok, .int va, .int be, .int wr, .ref md, .ref mc, .int am, .ref mk, .ref mq, .ref mr, .int td])), (mt, .inl (cs 0, 29, .inl tf))] := by
        intro n
        induction n with
        | zero =>
          intros; omega
        | succ n ih27 =>
          intro i y0 y1 ey0 ey1 hi hn
          subst ey0
          subst ey1
          refine v_iload_n C 3 dX6_best_27 rfl ?_
          refine v_aload_n C 0 dX6_best_28 rfl ?_
          refine v_callV (qi := 0) C [] [.int (nI (i + 1))] kX6_all gX6_best_X6_all (c_mall l D cs (mo := mo) (ml := ml) (mz := mz) (mi := mi) (mt := mt) (mv := mv) (mp := mp) (md := md) (mc := mc) (mk := mk) (mq := mq) (mr := mr) (su := su) (it := it) (nby := nby) (lt := lt) (pl := pl) (tok := tok) (va := va) (be := be) (wr := wr) (am := am) (td := td) (tf := tf) ) ⟨Nat.le_of_ble_eq_true rfl, Nat.le_of_ble_eq_true rfl⟩ ⟨rfl, rfl⟩ ⟨Nat.zero_le _, Nat.zero_le _⟩ rfl 0 rfl rfl rfl rfl (Nat.le_of_ble_eq_true rfl) [0, 1] [(mo, .inr (6, [.ref ml, .ref mz, .ref mi, .int su, .int (b2 it), .ref mt, .ref mv, .ref mp, .int nby, .int lt, .int pl, .int tok, .int va, .int be, .int wr, .ref md, .ref mc, .int am, .ref mk, .ref mq, .ref mr, .int td])), (mt, .inl (cs 0, 29, .inl tf))] rfl (by decide) (show [mo, mt] = [mo, mt] from rfl) (rfl) dX6_best_29 ?_
          refine V.sts (st' := [.int (allI (tf 0)), .int (nI (i + 1))]) rfl ?_
          refine V.topr (y := nI (2 ^ pn - 1)) (by rw [hpe]; exact all_nI pn hpn) ?_
          refine v_icmp_gt C 81 dX6_best_32 (by decide) (fun c3 => ?_) (fun c3 => ?_)
          · skip
            have hge : 2 ^ pn - 1 < i + 1 := lt_nI c3 (by omega) (by omega)
            have hsub : i = 2 ^ pn - 1 := by omega
            subst hsub
            obtain ⟨j, hj, hE⟩ := beS_inv (wN (kS tf) (sS tf) (wS tf) tn) (2 ^ pn - 1)
            · skip
              refine V.lvs (lv' := [(0, .ref mo), (1, .int x), (2, .int (nI j)), (3, .int (nI ((2 ^ pn - 1) + 1)))]) [0, 1, 2, 3] (by rw [show (((beS (wN (kS tf) (sS tf) (wS tf) tn) (2 ^ pn - 1)).1) : Int32) = (nI j) from by rw [hE]]; rfl) ?_
              refine v_iload_n C 1 dX6_best_81 rfl ?_
              refine v_if_ne C 89 dX6_best_82 (by decide) (fun c4 => ?_) (fun c4 => ?_)
              · skip
                refine v_aload_n C 0 dX6_best_89 rfl ?_
                refine v_iload_n C 2 dX6_best_90 rfl ?_
                refine v_callV (qi := 0) C [.int (nI j)] [] kX6_worthOf gX6_best_X6_worthOf (c_mworthOf l D cs (mo := mo) (ml := ml) (mz := mz) (mi := mi) (mt := mt) (mv := mv) (mp := mp) (md := md) (mc := mc) (mk := mk) (mq := mq) (mr := mr) (su := su) (it := it) (nby := nby) (lt := lt) (pl := pl) (tok := tok) (va := va) (be := be) (wr := wr) (am := am) (td := td) (tf := tf) (tn := tn) (th := (nI j)) (by first | assumption | omega) (by first | assumption | omega) (by first | assumption | omega) (by first | assumption | omega)) ⟨Nat.le_of_ble_eq_true rfl, Nat.le_of_ble_eq_true rfl⟩ ⟨rfl, rfl⟩ ⟨Nat.zero_le _, Nat.zero_le _⟩ rfl 0 rfl rfl rfl rfl (Nat.le_of_ble_eq_true rfl) [0, 1] [(mo, .inr (6, [.ref ml, .ref mz, .ref mi, .int su, .int (b2 it), .ref mt, .ref mv, .ref mp, .int nby, .int lt, .int pl, .int tok, .int va, .int be, .int wr, .ref md, .ref mc, .int am, .ref mk, .ref mq, .ref mr, .int td])), (mt, .inl (cs 0, 29, .inl tf))] rfl (by decide) (show [mo, mt] = [mo, mt] from rfl) (rfl) dX6_best_91 ?_
                refine V.sts (st' := [.int (wsum (kS tf) (sS tf) (wS tf) (nI j) tn)]) rfl ?_
                exact v_iret C E (rfl) (by simp only [hE, wN, c1, c2, c3, Int32.not_le.mpr c3, c4, ↓reduceIte, ← inI_01, show inI (0 : Int32) 0 1 = true from by decide]) dX6_best_94
              · skip
                refine v_iload_n C 2 dX6_best_85 rfl ?_
                refine v_goto C 94 dX6_best_86 (by decide) ?_
                exact v_iret C E (rfl) (by simp only [hE, wN, c1, c2, c3, Int32.not_le.mpr c3, c4, ↓reduceIte, ← inI_01, show inI (0 : Int32) 0 1 = true from by decide]) dX6_best_94
          · skip
            have hlt : i + 1 < 2 ^ pn := by have h9 := nlt_nI c3 (by omega) (by omega); omega
            obtain ⟨j, hj, hE⟩ := beS_inv (wN (kS tf) (sS tf) (wS tf) tn) i
            · skip
              refine V.lvs (lv' := [(0, .ref mo), (1, .int x), (2, .int (nI j)), (3, .int (nI (i + 1)))]) [0, 1, 2, 3] (by rw [show (((beS (wN (kS tf) (sS tf) (wS tf) tn) i).1) : Int32) = (nI j) from by rw [hE]]; rfl) ?_
              refine v_aload_n C 0 dX6_best_35 rfl ?_
              refine v_iload_n C 3 dX6_best_36 rfl ?_
              refine v_callV (qi := 0) C [.int (nI (i + 1))] [] kX6_worthOf gX6_best_X6_worthOf (c_mworthOf l D cs (mo := mo) (ml := ml) (mz := mz) (mi := mi) (mt := mt) (mv := mv) (mp := mp) (md := md) (mc := mc) (mk := mk) (mq := mq) (mr := mr) (su := su) (it := it) (nby := nby) (lt := lt) (pl := pl) (tok := tok) (va := va) (be := be) (wr := wr) (am := am) (td := td) (tf := tf) (tn := tn) (th := (nI (i + 1))) (by first | assumption | omega) (by first | assumption | omega) (by first | assumption | omega) (by first | assumption | omega)) ⟨Nat.le_of_ble_eq_true rfl, Nat.le_of_ble_eq_true rfl⟩ ⟨rfl, rfl⟩ ⟨Nat.zero_le _, Nat.zero_le _⟩ rfl 0 rfl rfl rfl rfl (Nat.le_of_ble_eq_true rfl) [0, 1] [(mo, .inr (6, [.ref ml, .ref mz, .ref mi, .int su, .int (b2 it), .ref mt, .ref mv, .ref mp, .int nby, .int lt, .int pl, .int tok, .int va, .int be, .int wr, .ref md, .ref mc, .int am, .ref mk, .ref mq, .ref mr, .int td])), (mt, .inl (cs 0, 29, .inl tf))] rfl (by decide) (show [mo, mt] = [mo, mt] from rfl) (rfl) dX6_best_37 ?_
              refine V.sts (st' := [.int (wsum (kS tf) (sS tf) (wS tf) (nI (i + 1)) tn)]) rfl ?_
              refine v_aload_n C 0 dX6_best_40 rfl ?_
              refine v_iload_n C 2 dX6_best_41 rfl ?_
              refine v_callV (qi := 0) C [.int (nI j)] [.int (wsum (kS tf) (sS tf) (wS tf) (nI (i + 1)) tn)] kX6_worthOf gX6_best_X6_worthOf (c_mworthOf l D cs (mo := mo) (ml := ml) (mz := mz) (mi := mi) (mt := mt) (mv := mv) (mp := mp) (md := md) (mc := mc) (mk := mk) (mq := mq) (mr := mr) (su := su) (it := it) (nby := nby) (lt := lt) (pl := pl) (tok := tok) (va := va) (be := be) (wr := wr) (am := am) (td := td) (tf := tf) (tn := tn) (th := (nI j)) (by first | assumption | omega) (by first | assumption | omega) (by first | assumption | omega) (by first | assumption | omega)) ⟨Nat.le_of_ble_eq_true rfl, Nat.le_of_ble_eq_true rfl⟩ ⟨rfl, rfl⟩ ⟨Nat.zero_le _, Nat.zero_le _⟩ rfl 0 rfl rfl rfl rfl (Nat.le_of_ble_eq_true rfl) [0, 1] [(mo, .inr (6, [.ref ml, .ref mz, .ref mi, .int su, .int (b2 it), .ref mt, .ref mv, .ref mp, .int nby, .int lt, .int pl, .int tok, .int va, .int be, .int wr, .ref md, .ref mc, .int am, .ref mk, .ref mq, .ref mr, .int td])), (mt, .inl (cs 0, 29, .inl tf))] rfl (by decide) (show [mo, mt] = [mo, mt] from rfl) (rfl) dX6_best_42 ?_
              refine V.sts (st' := [.int (wsum (kS tf) (sS tf) (wS tf) (nI j) tn), .int (wsum (kS tf) (sS tf) (wS tf) (nI (i + 1)) tn)]) rfl ?_
              refine v_isub C dX6_best_45 ?_
              refine v_istore C [(0, .ref mo), (1, .int x), (2, .int (nI j)), (3, .int (nI (i + 1))), (4, .int ((wsum (kS tf) (sS tf) (wS tf) (nI (i + 1)) tn) - (wsum (kS tf) (sS tf) (wS tf) (nI j) tn)))] [1, 2, 3, 4, 0] dX6_best_46 (by decide) rfl ?_
              refine v_iload C 4 dX6_best_48 rfl ?_
              refine v_if_gt C 69 dX6_best_50 (by decide) (fun c5 => ?_) (fun c5 => ?_)
              · skip
                refine v_iload_n C 3 dX6_best_69 rfl ?_
                refine v_goto C 74 dX6_best_70 (by decide) ?_
                refine v_istore_n C [(0, .ref mo), (1, .int x), (2, .int (nI (i + 1))), (3, .int (nI (i + 1))), (4, .int ((wsum (kS tf) (sS tf) (wS tf) (nI (i + 1)) tn) - (wsum (kS tf) (sS tf) (wS tf) (nI j) tn)))] [1, 2, 0, 3, 4] dX6_best_74 (by decide) rfl ?_
                refine v_iinc C (k := 3) (nI ((i + 1) + 1)) [(0, .ref mo), (1, .int x), (2, .int (nI (i + 1))), (3, .int (nI ((i + 1) + 1))), (4, .int ((wsum (kS tf) (sS tf) (wS tf) (nI (i + 1)) tn) - (wsum (kS tf) (sS tf) (wS tf) (nI j) tn)))] [1, 2, 3, 0, 4] dX6_best_75 rfl (nI_inc _) (by decide) rfl ?_
                refine v_goto C 27 dX6_best_78 (by decide) ?_
                refine V.lvs (lv' := [(0, .ref mo), (1, .int x), (2, .int (nI (i + 1))), (3, .int (nI ((i + 1) + 1)))]) [0, 1, 2, 3] rfl ?_
                exact ih27 (i + 1) _ _ (by have hs := wbd_sub (hB (nI (i + 1))) (hB (nI j)); simp only [hs.1, hs.2] at c3 c5; first | (simp only [beS, hE, wN, c1, c2, c3, Int32.not_lt.mp c3, c5, Int32.not_le.mpr c5, Int32.lt_irrefl, pc_nI (show j < 2 ^ 31 by omega), ↓reduceIte]; done) | (simp [beS, hE, wN, c1, c2, c3, Int32.not_lt.mp c3, c5, Int32.not_le.mpr c5, pc_nI (show j < 2 ^ 31 by omega)]; done)) (rfl) (by omega) (by omega)
              · skip
                refine v_iload C 4 dX6_best_53 rfl ?_
                refine v_if_ne C 73 dX6_best_55 (by decide) (fun c6 => ?_) (fun c6 => ?_)
                · skip
                  refine v_iload_n C 2 dX6_best_73 rfl ?_
                  refine v_istore_n C [(0, .ref mo), (1, .int x), (2, .int (nI j)), (3, .int (nI (i + 1))), (4, .int ((wsum (kS tf) (sS tf) (wS tf) (nI (i + 1)) tn) - (wsum (kS tf) (sS tf) (wS tf) (nI j) tn)))] [1, 2, 0, 3, 4] dX6_best_74 (by decide) rfl ?_
                  refine v_iinc C (k := 3) (nI ((i + 1) + 1)) [(0, .ref mo), (1, .int x), (2, .int (nI j)), (3, .int (nI ((i + 1) + 1))), (4, .int ((wsum (kS tf) (sS tf) (wS tf) (nI (i + 1)) tn) - (wsum (kS tf) (sS tf) (wS tf) (nI j) tn)))] [1, 2, 3, 0, 4] dX6_best_75 rfl (nI_inc _) (by decide) rfl ?_
                  refine v_goto C 27 dX6_best_78 (by decide) ?_
                  refine V.lvs (lv' := [(0, .ref mo), (1, .int x), (2, .int (nI j)), (3, .int (nI ((i + 1) + 1)))]) [0, 1, 2, 3] rfl ?_
                  exact ih27 (i + 1) _ _ (by have hs := wbd_sub (hB (nI (i + 1))) (hB (nI j)); simp only [hs.1, hs.2] at c3 c5 c6; first | (simp only [beS, hE, wN, c1, c2, c3, Int32.not_lt.mp c3, c5, Int32.not_lt.mp c5, c6, Int32.lt_irrefl, pc_nI (show j < 2 ^ 31 by omega), ↓reduceIte]; done) | (simp [beS, hE, wN, c1, c2, c3, Int32.not_lt.mp c3, c5, Int32.not_lt.mp c5, c6, pc_nI (show j < 2 ^ 31 by omega)]; done)) (rfl) (by omega) (by omega)
                · skip
                  refine v_iload_n C 3 dX6_best_58 rfl ?_
                  refine v_callS C [.int (nI (i + 1))] [] kX6_ones gX6_best_X6_ones (c_ones l D cs (x := (nI (i + 1))) (by first | exact ⟨i + 1, by omega, rfl⟩ | exact ⟨j, by omega, rfl⟩)) ⟨Nat.le_of_ble_eq_true rfl, Nat.le_of_ble_eq_true rfl⟩ ⟨rfl, rfl⟩ ⟨Nat.zero_le _, Nat.zero_le _⟩ rfl rfl (Nat.le_of_ble_eq_true rfl) [] [(mo, .inr (6, [.ref ml, .ref mz, .ref mi, .int su, .int (b2 it), .ref mt, .ref mv, .ref mp, .int nby, .int lt, .int pl, .int tok, .int va, .int be, .int wr, .ref md, .ref mc, .int am, .ref mk, .ref mq, .ref mr, .int td])), (mt, .inl (cs 0, 29, .inl tf))] rfl (by decide) rfl (rfl) dX6_best_59 ?_
                  refine V.sts (st' := [.int (pcI (nI (i + 1)))]) rfl ?_
                  refine V.topr (y := nI (pop (i + 1))) (pc_nI (by omega)) ?_
                  refine v_iload_n C 2 dX6_best_62 rfl ?_
                  refine v_callS C [.int (nI j)] [.int (nI (pop (i + 1)))] kX6_ones gX6_best_X6_ones (c_ones l D cs (x := (nI j)) (by first | exact ⟨i + 1, by omega, rfl⟩ | exact ⟨j, by omega, rfl⟩)) ⟨Nat.le_of_ble_eq_true rfl, Nat.le_of_ble_eq_true rfl⟩ ⟨rfl, rfl⟩ ⟨Nat.zero_le _, Nat.zero_le _⟩ rfl rfl (Nat.le_of_ble_eq_true rfl) [] [(mo, .inr (6, [.ref ml, .ref mz, .ref mi, .int su, .int (b2 it), .ref mt, .ref mv, .ref mp, .int nby, .int lt, .int pl, .int tok, .int va, .int be, .int wr, .ref md, .ref mc, .int am, .ref mk, .ref mq, .ref mr, .int td])), (mt, .inl (cs 0, 29, .inl tf))] rfl (by decide) rfl (rfl) dX6_best_63 ?_
                  refine V.sts (st' := [.int (pcI (nI j)), .int (nI (pop (i + 1)))]) rfl ?_
                  refine V.topr (y := nI (pop j)) (pc_nI (by omega)) ?_
                  refine v_icmp_ge C 73 dX6_best_66 (by decide) (fun c7 => ?_) (fun c7 => ?_)
                  · skip
                    refine v_iload_n C 2 dX6_best_73 rfl ?_
                    refine v_istore_n C [(0, .ref mo), (1, .int x), (2, .int (nI j)), (3, .int (nI (i + 1))), (4, .int ((wsum (kS tf) (sS tf) (wS tf) (nI (i + 1)) tn) - (wsum (kS tf) (sS tf) (wS tf) (nI j) tn)))] [1, 2, 0, 3, 4] dX6_best_74 (by decide) rfl ?_
                    refine v_iinc C (k := 3) (nI ((i + 1) + 1)) [(0, .ref mo), (1, .int x), (2, .int (nI j)), (3, .int (nI ((i + 1) + 1))), (4, .int ((wsum (kS tf) (sS tf) (wS tf) (nI (i + 1)) tn) - (wsum (kS tf) (sS tf) (wS tf) (nI j) tn)))] [1, 2, 3, 0, 4] dX6_best_75 rfl (nI_inc _) (by decide) rfl ?_
                    refine v_goto C 27 dX6_best_78 (by decide) ?_
                    refine V.lvs (lv' := [(0, .ref mo), (1, .int x), (2, .int (nI j)), (3, .int (nI ((i + 1) + 1)))]) [0, 1, 2, 3] rfl ?_
                    exact ih27 (i + 1) _ _ (by have hs := wbd_sub (hB (nI (i + 1))) (hB (nI j)); simp only [hs.1, hs.2] at c3 c5 c6; first | (simp only [beS, hE, wN, c1, c2, c3, Int32.not_lt.mp c3, c5, Int32.not_lt.mp c5, c6, c7, Int32.not_lt.mpr c7, Int32.lt_irrefl, pc_nI (show j < 2 ^ 31 by omega), ↓reduceIte]; done) | (simp [beS, hE, wN, c1, c2, c3, Int32.not_lt.mp c3, c5, Int32.not_lt.mp c5, c6, c7, Int32.not_lt.mpr c7, pc_nI (show j < 2 ^ 31 by omega)]; done)) (rfl) (by omega) (by omega)
                  · skip
                    refine v_iload_n C 3 dX6_best_69 rfl ?_
                    refine v_goto C 74 dX6_best_70 (by decide) ?_
                    refine v_istore_n C [(0, .ref mo), (1, .int x), (2, .int (nI (i + 1))), (3, .int (nI (i + 1))), (4, .int ((wsum (kS tf) (sS tf) (wS tf) (nI (i + 1)) tn) - (wsum (kS tf) (sS tf) (wS tf) (nI j) tn)))] [1, 2, 0, 3, 4] dX6_best_74 (by decide) rfl ?_
                    refine v_iinc C (k := 3) (nI ((i + 1) + 1)) [(0, .ref mo), (1, .int x), (2, .int (nI (i + 1))), (3, .int (nI ((i + 1) + 1))), (4, .int ((wsum (kS tf) (sS tf) (wS tf) (nI (i + 1)) tn) - (wsum (kS tf) (sS tf) (wS tf) (nI j) tn)))] [1, 2, 3, 0, 4] dX6_best_75 rfl (nI_inc _) (by decide) rfl ?_
                    refine v_goto C 27 dX6_best_78 (by decide) ?_
                    refine V.lvs (lv' := [(0, .ref mo), (1, .int x), (2, .int (nI (i + 1))), (3, .int (nI ((i + 1) + 1)))]) [0, 1, 2, 3] rfl ?_
                    exact ih27 (i + 1) _ _ (by have hs := wbd_sub (hB (nI (i + 1))) (hB (nI j)); simp only [hs.1, hs.2] at c3 c5 c6; first | (simp only [beS, hE, wN, c1, c2, c3, Int32.not_lt.mp c3, c5, Int32.not_lt.mp c5, c6, c7, Int32.not_le.mp c7, Int32.lt_irrefl, pc_nI (show j < 2 ^ 31 by omega), ↓reduceIte]; done) | (simp [beS, hE, wN, c1, c2, c3, Int32.not_lt.mp c3, c5, Int32.not_lt.mp c5, c6, c7, Int32.not_le.mp c7, pc_nI (show j < 2 ^ 31 by omega)]; done)) (rfl) (by omega) (by omega)
      exact L27 _ 0 _ _ (rfl) (rfl) (by omega) (Nat.lt_succ_self _)
    · skip
      refine v_ldc C (v := -1000001) (by decide +kernel) dX6_best_20 ?_
      exact v_iret C E (rfl) (by first | rfl | (simp only [← inI_01, c1, c2, ↓reduceIte, Bool.false_eq_true, reduceCtorEq, Bool.and_true, Bool.true_and, Bool.and_false, Bool.false_and]; done) | (simp [← inI_01, c1, c2]; done) | (simp_all [← inI_01]; done)) dX6_best_22
  · skip
    refine v_ldc C (v := -1000002) (by decide +kernel) dX6_best_7 ?_
    exact v_iret C E (rfl) (by first | rfl | (simp only [← inI_01, c1, ↓reduceIte, Bool.false_eq_true, reduceCtorEq, Bool.and_true, Bool.true_and, Bool.and_false, Bool.false_and]; done) | (simp [← inI_01, c1]; done) | (simp_all [← inI_01]; done)) dX6_best_9
theorem kX6_bring : KD yX6_bring wsX6_bring cX6_bring 5 (some .int) 1 := ⟨⟨_, rfl⟩, by decide, by decide +kernel, by decide +kernel, by decide +kernel⟩
theorem in_X6_bring_X6 : ∀ w ∈ wsX60, w ∈ wsX6_bring := by decide +kernel
theorem fl_X6_bring_129 : FL RX6 wsX6_bring RX6 RX6 TX6 22 6 4 129 := ⟨⟨in_X6_bring_X6, rfl, by decide, rfl⟩, by decide +kernel⟩
theorem fl_X6_bring_19 : FL RX6 wsX6_bring RX6 RX6 TX6 22 6 5 19 := ⟨⟨in_X6_bring_X6, rfl, by decide, rfl⟩, by decide +kernel⟩
set_option maxHeartbeats 4000000 in
set_option maxRecDepth 100000 in
theorem c_mbring (l : Launch) (D : va_G) (cs : Nat → ClassId) {mo : Nat} {ml : Nat} {mz : Nat} {mi : Nat} {mt : Nat} {mv : Nat} {mp : Nat} {md : Nat} {mc : Nat} {mk : Nat} {mq : Nat} {mr : Nat} {su : Int32} {it : Bool} {nby : Int32} {lt : Int32} {pl : Int32} {tok : Int32} {va : Int32} {be : Int32} {wr : Int32} {am : Int32} {td : Int32} {tf : Nat → Int32} {pn : Nat} {tn : Nat} {x : Int32} (hte : tf 1 = nI tn) (hti : tn ≤ 8) (hS : ∀ t, s64 (tf (13 + t))) (hK : ∀ t, t < tn → kok (tf (5 + t))) (hpe : tf 0 = nI pn) (hpn : pn ≤ 6) : CT l D (tz cs) yX6_bring wsX6_bring ({ frames := 4, cells := 0, slots := 0, locals := 94 }) [.ref mo, .int x] [(mo, .inr (6, [.ref ml, .ref mz, .ref mi, .int su, .int (b2 it), .ref mt, .ref mv, .ref mp, .int nby, .int lt, .int pl, .int tok, .int va, .int be, .int wr, .ref md, .ref mc, .int am, .ref mk, .ref mq, .ref mr, .int td])), (mt, .inl (cs 0, 29, .inl tf))] (some (.int (if it = true then (if zo x = true then (if x = 0 then (brS (kS tf) (sS tf) (wS tf) tn (tf 4) (thI (tf 0) (tf 4)) pn).1 else (brS (kS tf) (sS tf) (wS tf) tn (tf 4) (thI (tf 0) (tf 4)) pn).2) else -1000001) else -1000002))) [(mo, .inr (6, [.ref ml, .ref mz, .ref mi, .int su, .int (b2 it), .ref mt, .ref mv, .ref mp, .int nby, .int lt, .int pl, .int tok, .int va, .int be, .int wr, .ref md, .ref mc, .int am, .ref mk, .ref mq, .ref mr, .int td])), (mt, .inl (cs 0, 29, .inl tf))] := by
  refine CT.of kX6_bring (Nat.le_of_ble_eq_true rfl) ?_
  intro p e s m below meth c A C E
  have C : VOk p s m _ c cX6_bring 5 wsX6_bring RX6 D (tz cs) A s.heap := C
  refine V.lvs (lv' := [(0, .ref mo), (1, .int x)]) [0, 1] rfl ?_
  have hpw := pw64 pn hpn
  refine v_aload_n C 0 dX6_bring_0 rfl ?_
  refine v_get C (v := .int (b2 it)) fl_X6_bring_129 0 rfl rfl dX6_bring_1 ?_
  refine v_if_neB C 10 dX6_bring_4 (by decide) (fun c1 => ?_) (fun c1 => ?_)
  · skip
    refine v_iload_n C 1 dX6_bring_10 rfl ?_
    refine v_i2l C dX6_bring_11 ?_
    refine v_lconst C (v := 0) dX6_bring_12 (by decide) ?_
    refine v_lconst C (v := 1) dX6_bring_13 (by decide) ?_
    refine v_callS C [.long (Int32.toInt64 x), .long 0, .long 1] [] kX6_in gX6_bring_X6_in (c_inI l D cs (x := x) (a := 0) (b := 1) (lo := 0) (hi := 1) (by decide) (by decide)) ⟨Nat.le_of_ble_eq_true rfl, Nat.le_of_ble_eq_true rfl⟩ ⟨rfl, rfl⟩ ⟨Nat.zero_le _, Nat.zero_le _⟩ rfl rfl (Nat.le_of_ble_eq_true rfl) [] [(mo, .inr (6, [.ref ml, .ref mz, .ref mi, .int su, .int (b2 it), .ref mt, .ref mv, .ref mp, .int nby, .int lt, .int pl, .int tok, .int va, .int be, .int wr, .ref md, .ref mc, .int am, .ref mk, .ref mq, .ref mr, .int td])), (mt, .inl (cs 0, 29, .inl tf))] rfl (by decide) rfl (rfl) dX6_bring_14 ?_
    refine V.sts (st' := [.int (b2 (inI x 0 1))]) rfl ?_
    refine v_if_neB C 23 dX6_bring_17 (by decide) (fun c2 => ?_) (fun c2 => ?_)
    · skip
      refine v_ldc C (v := -1000000) (by decide +kernel) dX6_bring_23 ?_
      refine v_istore_n C [(0, .ref mo), (1, .int x), (2, .int (-1000000))] [1, 2, 0] dX6_bring_25 (by decide) rfl ?_
      refine v_iconst C (v := 0) dX6_bring_26 (by decide) ?_
      refine v_istore_n C [(0, .ref mo), (1, .int x), (2, .int (-1000000)), (3, .int 0)] [1, 2, 3, 0] dX6_bring_27 (by decide) rfl ?_
      have L28 : ∀ (n : Nat) (i : Nat) (y0 : Int32) (y1 : Int32), y0 = ((brS (kS tf) (sS tf) (wS tf) tn (tf 4) (thI (tf 0) (tf 4)) i).1) → y1 = (nI i) → (i ≤ pn) → (pn - i) < n → V p l e ({ frames := 4, cells := 0, slots := 0, locals := 94 }) s m (List.toArray [.ref mo, .int x]) below meth c 0 0 (MQ below (vq_Q (some (.int (if it = true then (if zo x = true then (if x = 0 then (brS (kS tf) (sS tf) (wS tf) tn (tf 4) (thI (tf 0) (tf 4)) pn).1 else (brS (kS tf) (sS tf) (wS tf) tn (tf 4) (thI (tf 0) (tf 4)) pn).2) else -1000001) else -1000002))) D [(mo, .inr (6, [.ref ml, .ref mz, .ref mi, .int su, .int (b2 it), .ref mt, .ref mv, .ref mp, .int nby, .int lt, .int pl, .int tok, .int va, .int be, .int wr, .ref md, .ref mc, .int am, .ref mk, .ref mq, .ref mr, .int td])), (mt, .inl (cs 0, 29, .inl tf))] [(mo, .inr (6, [.ref ml, .ref mz, .ref mi, .int su, .int (b2 it), .ref mt, .ref mv, .ref mp, .int nby, .int lt, .int pl, .int tok, .int va, .int be, .int wr, .ref md, .ref mc, .int am, .ref mk, .ref mq, .ref mr, .int td])), (mt, .inl (cs 0, 29, .inl tf))] s.heap.size) (List.toArray [.ref mo, .int x]) s 0 0 (va_A [(mo, .inr (6, [.ref ml, .ref mz, .ref mi, .int su, .int (b2 it), .ref mt, .ref mv, .ref mp, .int nby, .int lt, .int pl, .int tok, .int va, .int be, .int wr, .ref md, .ref mc, .int am, .ref mk, .ref mq, .ref mr, .int td])), (mt, .inl (cs 0, 29, .inl tf))] s.heap.size)) 5 D A s.heap 28 [(0, .ref mo), (1, .int x), (2, .int y0), (3, .int y1)] [] [(mo, .inr (6, [.ref ml, .ref mz, .ref mi, .int su, .int (b2 it), .ref mt, .ref mv, .ref mp, .int nby, .int lt, .int pl, .int tok, .int va, .int be, .int wr, .ref md, .ref mc, .int am, .ref mk, .ref mq, .ref mr, .int td])), (mt, .inl (cs 0, 29, .inl tf))] := by
        intro n
        induction n with
        | zero =>
          intros; omega
        | succ n ih28 =>
          intro i y0 y1 ey0 ey1 hi hn
          subst ey0
          subst ey1
          refine v_iload_n C 3 dX6_bring_28 rfl ?_
          refine v_aload_n C 0 dX6_bring_29 rfl ?_
          refine v_get C (v := .ref mt) fl_X6_bring_19 0 rfl rfl dX6_bring_30 ?_
          refine v_iconst C (v := 0) dX6_bring_33 (by decide) ?_
          refine v_iald C 1 0 rfl rfl (tf 0) (rfl) (vp_in_nI (n := 0) (N := 29) (by decide) (by decide)) dX6_bring_34 ?_
          refine V.topr (y := nI pn) (hpe) ?_
          refine v_icmp_ge C 92 dX6_bring_35 (by decide) (fun c3 => ?_) (fun c3 => ?_)
          · skip
            have hge : pn ≤ i := le_nI c3 (by omega) (by omega)
            have hsub : pn = i := by omega
            subst hsub
            rcases brS_inv (kS tf) (sS tf) (wS tf) tn (tf 4) (thI (tf 0) (tf 4)) pn with hE | ⟨j, hj, hE⟩
            · skip
              refine V.lvs (lv' := [(0, .ref mo), (1, .int x), (2, .int (-1000000)), (3, .int (nI pn))]) [0, 1, 2, 3] (by rw [show (((brS (kS tf) (sS tf) (wS tf) tn (tf 4) (thI (tf 0) (tf 4)) pn).1) : Int32) = (-1000000) from by rw [hE]]; rfl) ?_
              refine v_iload_n C 2 dX6_bring_92 rfl ?_
              refine v_if_lt C 100 dX6_bring_93 (by decide) (fun c4 => ?_) (fun c4 => ?_)
              · skip
                refine v_iload_n C 2 dX6_bring_100 rfl ?_
                refine v_goto C 113 dX6_bring_101 (by decide) ?_
                exact v_iret C E (rfl) (by first | (simp only [hE, c1, c2, c3, Int32.not_lt.mpr c3, c4, Int32.not_le.mpr c4, ↓reduceIte, ← inI_01, show inI (0 : Int32) 0 1 = true from by decide]; done) | (simp only [hE, c1, c2, c3, Int32.not_lt.mpr c3, c4, Int32.not_le.mpr c4, ↓reduceIte, ← inI_01, show inI (0 : Int32) 0 1 = true from by decide, ite_self]; done)) dX6_bring_113
              · exact absurd c4 (by decide)
            · skip
              refine V.lvs (lv' := [(0, .ref mo), (1, .int x), (2, .int (nI j)), (3, .int (nI pn))]) [0, 1, 2, 3] (by rw [show (((brS (kS tf) (sS tf) (wS tf) tn (tf 4) (thI (tf 0) (tf 4)) pn).1) : Int32) = (nI j) from by rw [hE]]; rfl) ?_
              refine v_iload_n C 2 dX6_bring_92 rfl ?_
              refine v_if_lt C 100 dX6_bring_93 (by decide) (fun c5 => ?_) (fun c5 => ?_)
              · exact absurd c5 (nI_pos (by omega))
              · skip
                refine v_iload_n C 1 dX6_bring_96 rfl ?_
                refine v_if_ne C 104 dX6_bring_97 (by decide) (fun c6 => ?_) (fun c6 => ?_)
                · skip
                  refine v_aload_n C 0 dX6_bring_104 rfl ?_
                  refine v_iload_n C 2 dX6_bring_105 rfl ?_
                  refine v_aload_n C 0 dX6_bring_106 rfl ?_
                  refine v_callV (qi := 0) C [] [.int (nI j), .ref mo] kX6_here gX6_bring_X6_here (c_mhere l D cs (mo := mo) (ml := ml) (mz := mz) (mi := mi) (mt := mt) (mv := mv) (mp := mp) (md := md) (mc := mc) (mk := mk) (mq := mq) (mr := mr) (su := su) (it := it) (nby := nby) (lt := lt) (pl := pl) (tok := tok) (va := va) (be := be) (wr := wr) (am := am) (td := td) (tf := tf) ) ⟨Nat.le_of_ble_eq_true rfl, Nat.le_of_ble_eq_true rfl⟩ ⟨rfl, rfl⟩ ⟨Nat.zero_le _, Nat.zero_le _⟩ rfl 0 rfl rfl rfl rfl (Nat.le_of_ble_eq_true rfl) [0, 1] [(mo, .inr (6, [.ref ml, .ref mz, .ref mi, .int su, .int (b2 it), .ref mt, .ref mv, .ref mp, .int nby, .int lt, .int pl, .int tok, .int va, .int be, .int wr, .ref md, .ref mc, .int am, .ref mk, .ref mq, .ref mr, .int td])), (mt, .inl (cs 0, 29, .inl tf))] rfl (by decide) (show [mo, mt] = [mo, mt] from rfl) (rfl) dX6_bring_107 ?_
                  refine V.sts (st' := [.int (thI (tf 0) (tf 4)), .int (nI j), .ref mo]) rfl ?_
                  refine v_callV (qi := 0) C [.int (nI j), .int (thI (tf 0) (tf 4))] [] kX6_addsTo gX6_bring_X6_addsTo (c_maddsTo l D cs (mo := mo) (ml := ml) (mz := mz) (mi := mi) (mt := mt) (mv := mv) (mp := mp) (md := md) (mc := mc) (mk := mk) (mq := mq) (mr := mr) (su := su) (it := it) (nby := nby) (lt := lt) (pl := pl) (tok := tok) (va := va) (be := be) (wr := wr) (am := am) (td := td) (tf := tf) (tn := tn) (q := (nI j)) (x := (thI (tf 0) (tf 4))) (by first | assumption | omega) (by first | assumption | omega) (by first | assumption | omega) (by first | assumption | omega)) ⟨Nat.le_of_ble_eq_true rfl, Nat.le_of_ble_eq_true rfl⟩ ⟨rfl, rfl⟩ ⟨Nat.zero_le _, Nat.zero_le _⟩ rfl 0 rfl rfl rfl rfl (Nat.le_of_ble_eq_true rfl) [0, 1] [(mo, .inr (6, [.ref ml, .ref mz, .ref mi, .int su, .int (b2 it), .ref mt, .ref mv, .ref mp, .int nby, .int lt, .int pl, .int tok, .int va, .int be, .int wr, .ref md, .ref mc, .int am, .ref mk, .ref mq, .ref mr, .int td])), (mt, .inl (cs 0, 29, .inl tf))] rfl (by decide) (show [mo, mt] = [mo, mt] from rfl) (rfl) dX6_bring_110 ?_
                  refine V.sts (st' := [.int (adI (kS tf) (sS tf) (wS tf) tn (thI (tf 0) (tf 4)) (nI j))]) rfl ?_
                  exact v_iret C E (rfl) (by first | (simp only [hE, c1, c2, c3, Int32.not_lt.mpr c3, c5, Int32.not_lt.mp c5, c6, ↓reduceIte, ← inI_01, show inI (0 : Int32) 0 1 = true from by decide]; done) | (simp only [hE, c1, c2, c3, Int32.not_lt.mpr c3, c5, Int32.not_lt.mp c5, c6, ↓reduceIte, ← inI_01, show inI (0 : Int32) 0 1 = true from by decide, ite_self]; done)) dX6_bring_113
                · skip
                  refine v_iload_n C 2 dX6_bring_100 rfl ?_
                  refine v_goto C 113 dX6_bring_101 (by decide) ?_
                  exact v_iret C E (rfl) (by first | (simp only [hE, c1, c2, c3, Int32.not_lt.mpr c3, c5, Int32.not_lt.mp c5, c6, ↓reduceIte, ← inI_01, show inI (0 : Int32) 0 1 = true from by decide]; done) | (simp only [hE, c1, c2, c3, Int32.not_lt.mpr c3, c5, Int32.not_lt.mp c5, c6, ↓reduceIte, ← inI_01, show inI (0 : Int32) 0 1 = true from by decide, ite_self]; done)) dX6_bring_113
          · skip
            have hlt : i < pn := nle_nI c3 (by omega) (by omega)
            rcases brS_inv (kS tf) (sS tf) (wS tf) tn (tf 4) (thI (tf 0) (tf 4)) i with hE | ⟨j, hj, hE⟩
            · skip
              refine V.lvs (lv' := [(0, .ref mo), (1, .int x), (2, .int (-1000000)), (3, .int (nI i))]) [0, 1, 2, 3] (by rw [show (((brS (kS tf) (sS tf) (wS tf) tn (tf 4) (thI (tf 0) (tf 4)) i).1) : Int32) = (-1000000) from by rw [hE]]; rfl) ?_
              refine v_aload_n C 0 dX6_bring_38 rfl ?_
              refine v_get C (v := .ref mt) fl_X6_bring_19 0 rfl rfl dX6_bring_39 ?_
              refine v_iconst C (v := 4) dX6_bring_42 (by decide) ?_
              refine v_iald C 1 0 rfl rfl (tf 4) (rfl) (vp_in_nI (n := 4) (N := 29) (by decide) (by decide)) dX6_bring_43 ?_
              refine v_iload_n C 3 dX6_bring_44 rfl ?_
              refine v_callS C [.int (tf 4), .int (nI i)] [] kX6_has gX6_bring_X6_has (c_mhas l D cs (x := tf 4) (q := (nI i)) ) ⟨Nat.le_of_ble_eq_true rfl, Nat.le_of_ble_eq_true rfl⟩ ⟨rfl, rfl⟩ ⟨Nat.zero_le _, Nat.zero_le _⟩ rfl rfl (Nat.le_of_ble_eq_true rfl) [] [(mo, .inr (6, [.ref ml, .ref mz, .ref mi, .int su, .int (b2 it), .ref mt, .ref mv, .ref mp, .int nby, .int lt, .int pl, .int tok, .int va, .int be, .int wr, .ref md, .ref mc, .int am, .ref mk, .ref mq, .ref mr, .int td])), (mt, .inl (cs 0, 29, .inl tf))] rfl (by decide) rfl (rfl) dX6_bring_45 ?_
              refine V.sts (st' := [.int (b2 (hasB (tf 4) (nI i)))]) rfl ?_
              refine v_istore C [(0, .ref mo), (1, .int x), (2, .int (-1000000)), (3, .int (nI i)), (4, .int (b2 (hasB (tf 4) (nI i))))] [1, 2, 3, 4, 0] dX6_bring_48 (by decide) rfl ?_
              refine v_iload C 4 dX6_bring_50 rfl ?_
              refine v_if_eqB C 84 dX6_bring_52 (by decide) (fun c7 => ?_) (fun c7 => ?_)
              · skip
                refine v_iload_n C 2 dX6_bring_84 rfl ?_
                refine v_istore_n C [(0, .ref mo), (1, .int x), (2, .int (-1000000)), (3, .int (nI i)), (4, .int (b2 (hasB (tf 4) (nI i))))] [1, 2, 0, 3, 4] dX6_bring_85 (by decide) rfl ?_
                refine v_iinc C (k := 3) (nI (i + 1)) [(0, .ref mo), (1, .int x), (2, .int (-1000000)), (3, .int (nI (i + 1))), (4, .int (b2 (hasB (tf 4) (nI i))))] [1, 2, 3, 0, 4] dX6_bring_86 rfl (nI_inc _) (by decide) rfl ?_
                refine v_goto C 28 dX6_bring_89 (by decide) ?_
                refine V.lvs (lv' := [(0, .ref mo), (1, .int x), (2, .int (-1000000)), (3, .int (nI (i + 1)))]) [0, 1, 2, 3] rfl ?_
                exact ih28 (i + 1) _ _ (by first | (simp only [brS, hE, c1, c2, c3, Int32.not_le.mp c3, c7, ↓reduceIte, Bool.false_eq_true]; done) | (have hN : ¬ nI j = -1000000 := nI_ne_none (by omega); simp only [brS, hE, c1, c2, c3, Int32.not_le.mp c3, c7, hN, ↓reduceIte, Bool.false_eq_true]; done)) (rfl) (by first | assumption | omega) (by omega)
              · skip
                refine v_iload_n C 2 dX6_bring_55 rfl ?_
                refine v_if_lt C 80 dX6_bring_56 (by decide) (fun c8 => ?_) (fun c8 => ?_)
                · skip
                  refine v_iload_n C 3 dX6_bring_80 rfl ?_
                  refine v_goto C 85 dX6_bring_81 (by decide) ?_
                  refine v_istore_n C [(0, .ref mo), (1, .int x), (2, .int (nI i)), (3, .int (nI i)), (4, .int (b2 (hasB (tf 4) (nI i))))] [1, 2, 0, 3, 4] dX6_bring_85 (by decide) rfl ?_
                  refine v_iinc C (k := 3) (nI (i + 1)) [(0, .ref mo), (1, .int x), (2, .int (nI i)), (3, .int (nI (i + 1))), (4, .int (b2 (hasB (tf 4) (nI i))))] [1, 2, 3, 0, 4] dX6_bring_86 rfl (nI_inc _) (by decide) rfl ?_
                  refine v_goto C 28 dX6_bring_89 (by decide) ?_
                  refine V.lvs (lv' := [(0, .ref mo), (1, .int x), (2, .int (nI i)), (3, .int (nI (i + 1)))]) [0, 1, 2, 3] rfl ?_
                  exact ih28 (i + 1) _ _ (by first | (simp only [brS, hE, c1, c2, c3, Int32.not_le.mp c3, c7, c8, Int32.not_le.mpr c8, ↓reduceIte, Bool.false_eq_true]; done) | (have hN : ¬ nI j = -1000000 := nI_ne_none (by omega); simp only [brS, hE, c1, c2, c3, Int32.not_le.mp c3, c7, c8, Int32.not_le.mpr c8, hN, ↓reduceIte, Bool.false_eq_true]; done)) (rfl) (by first | assumption | omega) (by omega)
                · exact absurd c8 (by decide)
            · skip
              refine V.lvs (lv' := [(0, .ref mo), (1, .int x), (2, .int (nI j)), (3, .int (nI i))]) [0, 1, 2, 3] (by rw [show (((brS (kS tf) (sS tf) (wS tf) tn (tf 4) (thI (tf 0) (tf 4)) i).1) : Int32) = (nI j) from by rw [hE]]; rfl) ?_
              refine v_aload_n C 0 dX6_bring_38 rfl ?_
              refine v_get C (v := .ref mt) fl_X6_bring_19 0 rfl rfl dX6_bring_39 ?_
              refine v_iconst C (v := 4) dX6_bring_42 (by decide) ?_
              refine v_iald C 1 0 rfl rfl (tf 4) (rfl) (vp_in_nI (n := 4) (N := 29) (by decide) (by decide)) dX6_bring_43 ?_
              refine v_iload_n C 3 dX6_bring_44 rfl ?_
              refine v_callS C [.int (tf 4), .int (nI i)] [] kX6_has gX6_bring_X6_has (c_mhas l D cs (x := tf 4) (q := (nI i)) ) ⟨Nat.le_of_ble_eq_true rfl, Nat.le_of_ble_eq_true rfl⟩ ⟨rfl, rfl⟩ ⟨Nat.zero_le _, Nat.zero_le _⟩ rfl rfl (Nat.le_of_ble_eq_true rfl) [] [(mo, .inr (6, [.ref ml, .ref mz, .ref mi, .int su, .int (b2 it), .ref mt, .ref mv, .ref mp, .int nby, .int lt, .int pl, .int tok, .int va, .int be, .int wr, .ref md, .ref mc, .int am, .ref mk, .ref mq, .ref mr, .int td])), (mt, .inl (cs 0, 29, .inl tf))] rfl (by decide) rfl (rfl) dX6_bring_45 ?_
              refine V.sts (st' := [.int (b2 (hasB (tf 4) (nI i)))]) rfl ?_
              refine v_istore C [(0, .ref mo), (1, .int x), (2, .int (nI j)), (3, .int (nI i)), (4, .int (b2 (hasB (tf 4) (nI i))))] [1, 2, 3, 4, 0] dX6_bring_48 (by decide) rfl ?_
              refine v_iload C 4 dX6_bring_50 rfl ?_
              refine v_if_eqB C 84 dX6_bring_52 (by decide) (fun c9 => ?_) (fun c9 => ?_)
              · skip
                refine v_iload_n C 2 dX6_bring_84 rfl ?_
                refine v_istore_n C [(0, .ref mo), (1, .int x), (2, .int (nI j)), (3, .int (nI i)), (4, .int (b2 (hasB (tf 4) (nI i))))] [1, 2, 0, 3, 4] dX6_bring_85 (by decide) rfl ?_
                refine v_iinc C (k := 3) (nI (i + 1)) [(0, .ref mo), (1, .int x), (2, .int (nI j)), (3, .int (nI (i + 1))), (4, .int (b2 (hasB (tf 4) (nI i))))] [1, 2, 3, 0, 4] dX6_bring_86 rfl (nI_inc _) (by decide) rfl ?_
                refine v_goto C 28 dX6_bring_89 (by decide) ?_
                refine V.lvs (lv' := [(0, .ref mo), (1, .int x), (2, .int (nI j)), (3, .int (nI (i + 1)))]) [0, 1, 2, 3] rfl ?_
                exact ih28 (i + 1) _ _ (by first | (simp only [brS, hE, c1, c2, c3, Int32.not_le.mp c3, c9, ↓reduceIte, Bool.false_eq_true]; done) | (have hN : ¬ nI j = -1000000 := nI_ne_none (by omega); simp only [brS, hE, c1, c2, c3, Int32.not_le.mp c3, c9, hN, ↓reduceIte, Bool.false_eq_true]; done)) (rfl) (by first | assumption | omega) (by omega)
              · skip
                refine v_iload_n C 2 dX6_bring_55 rfl ?_
                refine v_if_lt C 80 dX6_bring_56 (by decide) (fun c10 => ?_) (fun c10 => ?_)
                · exact absurd c10 (nI_pos (by omega))
                · skip
                  refine v_aload_n C 0 dX6_bring_59 rfl ?_
                  refine v_iload_n C 3 dX6_bring_60 rfl ?_
                  refine v_aload_n C 0 dX6_bring_61 rfl ?_
                  refine v_callV (qi := 0) C [] [.int (nI i), .ref mo] kX6_here gX6_bring_X6_here (c_mhere l D cs (mo := mo) (ml := ml) (mz := mz) (mi := mi) (mt := mt) (mv := mv) (mp := mp) (md := md) (mc := mc) (mk := mk) (mq := mq) (mr := mr) (su := su) (it := it) (nby := nby) (lt := lt) (pl := pl) (tok := tok) (va := va) (be := be) (wr := wr) (am := am) (td := td) (tf := tf) ) ⟨Nat.le_of_ble_eq_true rfl, Nat.le_of_ble_eq_true rfl⟩ ⟨rfl, rfl⟩ ⟨Nat.zero_le _, Nat.zero_le _⟩ rfl 0 rfl rfl rfl rfl (Nat.le_of_ble_eq_true rfl) [0, 1] [(mo, .inr (6, [.ref ml, .ref mz, .ref mi, .int su, .int (b2 it), .ref mt, .ref mv, .ref mp, .int nby, .int lt, .int pl, .int tok, .int va, .int be, .int wr, .ref md, .ref mc, .int am, .ref mk, .ref mq, .ref mr, .int td])), (mt, .inl (cs 0, 29, .inl tf))] rfl (by decide) (show [mo, mt] = [mo, mt] from rfl) (rfl) dX6_bring_62 ?_
                  refine V.sts (st' := [.int (thI (tf 0) (tf 4)), .int (nI i), .ref mo]) rfl ?_
                  refine v_callV (qi := 0) C [.int (nI i), .int (thI (tf 0) (tf 4))] [] kX6_addsTo gX6_bring_X6_addsTo (c_maddsTo l D cs (mo := mo) (ml := ml) (mz := mz) (mi := mi) (mt := mt) (mv := mv) (mp := mp) (md := md) (mc := mc) (mk := mk) (mq := mq) (mr := mr) (su := su) (it := it) (nby := nby) (lt := lt) (pl := pl) (tok := tok) (va := va) (be := be) (wr := wr) (am := am) (td := td) (tf := tf) (tn := tn) (q := (nI i)) (x := (thI (tf 0) (tf 4))) (by first | assumption | omega) (by first | assumption | omega) (by first | assumption | omega) (by first | assumption | omega)) ⟨Nat.le_of_ble_eq_true rfl, Nat.le_of_ble_eq_true rfl⟩ ⟨rfl, rfl⟩ ⟨Nat.zero_le _, Nat.zero_le _⟩ rfl 0 rfl rfl rfl rfl (Nat.le_of_ble_eq_true rfl) [0, 1] [(mo, .inr (6, [.ref ml, .ref mz, .ref mi, .int su, .int (b2 it), .ref mt, .ref mv, .ref mp, .int nby, .int lt, .int pl, .int tok, .int va, .int be, .int wr, .ref md, .ref mc, .int am, .ref mk, .ref mq, .ref mr, .int td])), (mt, .inl (cs 0, 29, .inl tf))] rfl (by decide) (show [mo, mt] = [mo, mt] from rfl) (rfl) dX6_bring_65 ?_
                  refine V.sts (st' := [.int (adI (kS tf) (sS tf) (wS tf) tn (thI (tf 0) (tf 4)) (nI i))]) rfl ?_
                  refine v_aload_n C 0 dX6_bring_68 rfl ?_
                  refine v_iload_n C 2 dX6_bring_69 rfl ?_
                  refine v_aload_n C 0 dX6_bring_70 rfl ?_
                  refine v_callV (qi := 0) C [] [.int (nI j), .ref mo, .int (adI (kS tf) (sS tf) (wS tf) tn (thI (tf 0) (tf 4)) (nI i))] kX6_here gX6_bring_X6_here (c_mhere l D cs (mo := mo) (ml := ml) (mz := mz) (mi := mi) (mt := mt) (mv := mv) (mp := mp) (md := md) (mc := mc) (mk := mk) (mq := mq) (mr := mr) (su := su) (it := it) (nby := nby) (lt := lt) (pl := pl) (tok := tok) (va := va) (be := be) (wr := wr) (am := am) (td := td) (tf := tf) ) ⟨Nat.le_of_ble_eq_true rfl, Nat.le_of_ble_eq_true rfl⟩ ⟨rfl, rfl⟩ ⟨Nat.zero_le _, Nat.zero_le _⟩ rfl 0 rfl rfl rfl rfl (Nat.le_of_ble_eq_true rfl) [0, 1] [(mo, .inr (6, [.ref ml, .ref mz, .ref mi, .int su, .int (b2 it), .ref mt, .ref mv, .ref mp, .int nby, .int lt, .int pl, .int tok, .int va, .int be, .int wr, .ref md, .ref mc, .int am, .ref mk, .ref mq, .ref mr, .int td])), (mt, .inl (cs 0, 29, .inl tf))] rfl (by decide) (show [mo, mt] = [mo, mt] from rfl) (rfl) dX6_bring_71 ?_
                  refine V.sts (st' := [.int (thI (tf 0) (tf 4)), .int (nI j), .ref mo, .int (adI (kS tf) (sS tf) (wS tf) tn (thI (tf 0) (tf 4)) (nI i))]) rfl ?_
                  refine v_callV (qi := 0) C [.int (nI j), .int (thI (tf 0) (tf 4))] [.int (adI (kS tf) (sS tf) (wS tf) tn (thI (tf 0) (tf 4)) (nI i))] kX6_addsTo gX6_bring_X6_addsTo (c_maddsTo l D cs (mo := mo) (ml := ml) (mz := mz) (mi := mi) (mt := mt) (mv := mv) (mp := mp) (md := md) (mc := mc) (mk := mk) (mq := mq) (mr := mr) (su := su) (it := it) (nby := nby) (lt := lt) (pl := pl) (tok := tok) (va := va) (be := be) (wr := wr) (am := am) (td := td) (tf := tf) (tn := tn) (q := (nI j)) (x := (thI (tf 0) (tf 4))) (by first | assumption | omega) (by first | assumption | omega) (by first | assumption | omega) (by first | assumption | omega)) ⟨Nat.le_of_ble_eq_true rfl, Nat.le_of_ble_eq_true rfl⟩ ⟨rfl, rfl⟩ ⟨Nat.zero_le _, Nat.zero_le _⟩ rfl 0 rfl rfl rfl rfl (Nat.le_of_ble_eq_true rfl) [0, 1] [(mo, .inr (6, [.ref ml, .ref mz, .ref mi, .int su, .int (b2 it), .ref mt, .ref mv, .ref mp, .int nby, .int lt, .int pl, .int tok, .int va, .int be, .int wr, .ref md, .ref mc, .int am, .ref mk, .ref mq, .ref mr, .int td])), (mt, .inl (cs 0, 29, .inl tf))] rfl (by decide) (show [mo, mt] = [mo, mt] from rfl) (rfl) dX6_bring_74 ?_
                  refine V.sts (st' := [.int (adI (kS tf) (sS tf) (wS tf) tn (thI (tf 0) (tf 4)) (nI j)), .int (adI (kS tf) (sS tf) (wS tf) tn (thI (tf 0) (tf 4)) (nI i))]) rfl ?_
                  refine v_icmp_le C 84 dX6_bring_77 (by decide) (fun c11 => ?_) (fun c11 => ?_)
                  · skip
                    refine v_iload_n C 2 dX6_bring_84 rfl ?_
                    refine v_istore_n C [(0, .ref mo), (1, .int x), (2, .int (nI j)), (3, .int (nI i)), (4, .int (b2 (hasB (tf 4) (nI i))))] [1, 2, 0, 3, 4] dX6_bring_85 (by decide) rfl ?_
                    refine v_iinc C (k := 3) (nI (i + 1)) [(0, .ref mo), (1, .int x), (2, .int (nI j)), (3, .int (nI (i + 1))), (4, .int (b2 (hasB (tf 4) (nI i))))] [1, 2, 3, 0, 4] dX6_bring_86 rfl (nI_inc _) (by decide) rfl ?_
                    refine v_goto C 28 dX6_bring_89 (by decide) ?_
                    refine V.lvs (lv' := [(0, .ref mo), (1, .int x), (2, .int (nI j)), (3, .int (nI (i + 1)))]) [0, 1, 2, 3] rfl ?_
                    exact ih28 (i + 1) _ _ (by first | (simp only [brS, hE, c1, c2, c3, Int32.not_le.mp c3, c9, c10, Int32.not_lt.mp c10, c11, Int32.not_lt.mpr c11, ↓reduceIte, Bool.false_eq_true]; done) | (have hN : ¬ nI j = -1000000 := nI_ne_none (by omega); simp only [brS, hE, c1, c2, c3, Int32.not_le.mp c3, c9, c10, Int32.not_lt.mp c10, c11, Int32.not_lt.mpr c11, hN, ↓reduceIte, Bool.false_eq_true]; done)) (rfl) (by first | assumption | omega) (by omega)
                  · skip
                    refine v_iload_n C 3 dX6_bring_80 rfl ?_
                    refine v_goto C 85 dX6_bring_81 (by decide) ?_
                    refine v_istore_n C [(0, .ref mo), (1, .int x), (2, .int (nI i)), (3, .int (nI i)), (4, .int (b2 (hasB (tf 4) (nI i))))] [1, 2, 0, 3, 4] dX6_bring_85 (by decide) rfl ?_
                    refine v_iinc C (k := 3) (nI (i + 1)) [(0, .ref mo), (1, .int x), (2, .int (nI i)), (3, .int (nI (i + 1))), (4, .int (b2 (hasB (tf 4) (nI i))))] [1, 2, 3, 0, 4] dX6_bring_86 rfl (nI_inc _) (by decide) rfl ?_
                    refine v_goto C 28 dX6_bring_89 (by decide) ?_
                    refine V.lvs (lv' := [(0, .ref mo), (1, .int x), (2, .int (nI i)), (3, .int (nI (i + 1)))]) [0, 1, 2, 3] rfl ?_
                    exact ih28 (i + 1) _ _ (by first | (simp only [brS, hE, c1, c2, c3, Int32.not_le.mp c3, c9, c10, Int32.not_lt.mp c10, c11, Int32.not_le.mp c11, ↓reduceIte, Bool.false_eq_true]; done) | (have hN : ¬ nI j = -1000000 := nI_ne_none (by omega); simp only [brS, hE, c1, c2, c3, Int32.not_le.mp c3, c9, c10, Int32.not_lt.mp c10, c11, Int32.not_le.mp c11, hN, ↓reduceIte, Bool.false_eq_true]; done)) (rfl) (by first | assumption | omega) (by omega)
      exact L28 _ 0 _ _ (rfl) (rfl) (by first | assumption | omega) (Nat.lt_succ_self _)
    · skip
      refine v_ldc C (v := -1000001) (by decide +kernel) dX6_bring_20 ?_
      exact v_iret C E (rfl) (by first | rfl | (simp only [← inI_01, c1, c2, ↓reduceIte, Bool.false_eq_true, reduceCtorEq, Bool.and_true, Bool.true_and, Bool.and_false, Bool.false_and]; done) | (simp [← inI_01, c1, c2]; done) | (simp_all [← inI_01]; done)) dX6_bring_22
  · skip
    refine v_ldc C (v := -1000002) (by decide +kernel) dX6_bring_7 ?_
    exact v_iret C E (rfl) (by first | rfl | (simp only [← inI_01, c1, ↓reduceIte, Bool.false_eq_true, reduceCtorEq, Bool.and_true, Bool.true_and, Bool.and_false, Bool.false_and]; done) | (simp [← inI_01, c1]; done) | (simp_all [← inI_01]; done)) dX6_bring_9
