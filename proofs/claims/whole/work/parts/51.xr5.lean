theorem kX6_together : KD yX6_together wsX6_together cX6_together 7 (some .int) 1 := ⟨⟨_, rfl⟩, by decide, by decide +kernel, by decide +kernel, by decide +kernel⟩
theorem in_X6_together_X6 : ∀ w ∈ wsX60, w ∈ wsX6_together := by decide +kernel
theorem fl_X6_together_129 : FL RX6 wsX6_together RX6 RX6 TX6 22 6 4 129 := ⟨⟨in_X6_together_X6, rfl, by decide, rfl⟩, by decide +kernel⟩
theorem fl_X6_together_19 : FL RX6 wsX6_together RX6 RX6 TX6 22 6 5 19 := ⟨⟨in_X6_together_X6, rfl, by decide, rfl⟩, by decide +kernel⟩
set_option maxHeartbeats 4000000 in
set_option maxRecDepth 100000 in
theorem c_mtogether (l : Launch) (D : va_G) (cs : Nat → ClassId) {mo : Nat} {ml : Nat} {mz : Nat} {mi : Nat} {mt : Nat} {mv : Nat} {mp : Nat} {md : Nat} {mc : Nat} {mk : Nat} {mq : Nat} {mr : Nat} {su : Int32} {it : Bool} {nby : Int32} {lt : Int32} {pl : Int32} {tok : Int32} {va : Int32} {be : Int32} {wr : Int32} {am : Int32} {td : Int32} {tf : Nat → Int32} {pn : Nat} {tn : Nat} {x : Int32} (hte : tf 1 = nI tn) (hti : tn ≤ 8) (hS : ∀ t, s64 (tf (13 + t))) (hK : ∀ t, t < tn → kok (tf (5 + t))) (hpe : tf 0 = nI pn) (hpn : pn ≤ 6) : CT l D (tz cs) yX6_together wsX6_together ({ frames := 4, cells := 0, slots := 0, locals := 93 }) [.ref mo, .int x] [(mo, .inr (6, [.ref ml, .ref mz, .ref mi, .int su, .int (b2 it), .ref mt, .ref mv, .ref mp, .int nby, .int lt, .int pl, .int tok, .int va, .int be, .int wr, .ref md, .ref mc, .int am, .ref mk, .ref mq, .ref mr, .int td])), (mt, .inl (cs 0, 29, .inl tf))] (some (.int (if it = true then (if zo x = true then (if x = 0 then nI (tmO (toP (kS tf) (sS tf) (wS tf) tn pn) pn pn).1 else (tmO (toP (kS tf) (sS tf) (wS tf) tn pn) pn pn).2) else -1000001) else -1000002))) [(mo, .inr (6, [.ref ml, .ref mz, .ref mi, .int su, .int (b2 it), .ref mt, .ref mv, .ref mp, .int nby, .int lt, .int pl, .int tok, .int va, .int be, .int wr, .ref md, .ref mc, .int am, .ref mk, .ref mq, .ref mr, .int td])), (mt, .inl (cs 0, 29, .inl tf))] := by
  refine CT.of kX6_together (Nat.le_of_ble_eq_true rfl) ?_
  intro p e s m below meth c A C E
  have C : VOk p s m _ c cX6_together 7 wsX6_together RX6 D (tz cs) A s.heap := C
  refine V.lvs (lv' := [(0, .ref mo), (1, .int x)]) [0, 1] rfl ?_
  have hpw := pw64 pn hpn
  refine v_aload_n C 0 dX6_together_0 rfl ?_
  refine v_get C (v := .int (b2 it)) fl_X6_together_129 0 rfl rfl dX6_together_1 ?_
  refine v_if_neB C 10 dX6_together_4 (by decide) (fun c1 => ?_) (fun c1 => ?_)
  · skip
    refine v_iload_n C 1 dX6_together_10 rfl ?_
    refine v_i2l C dX6_together_11 ?_
    refine v_lconst C (v := 0) dX6_together_12 (by decide) ?_
    refine v_lconst C (v := 1) dX6_together_13 (by decide) ?_
    refine v_callS C [.long (Int32.toInt64 x), .long 0, .long 1] [] kX6_in gX6_together_X6_in (c_inI l D cs (x := x) (a := 0) (b := 1) (lo := 0) (hi := 1) (by decide) (by decide)) ⟨Nat.le_of_ble_eq_true rfl, Nat.le_of_ble_eq_true rfl⟩ ⟨rfl, rfl⟩ ⟨Nat.zero_le _, Nat.zero_le _⟩ rfl rfl (Nat.le_of_ble_eq_true rfl) [] [(mo, .inr (6, [.ref ml, .ref mz, .ref mi, .int su, .int (b2 it), .ref mt, .ref mv, .ref mp, .int nby, .int lt, .int pl, .int tok, .int va, .int be, .int wr, .ref md, .ref mc, .int am, .ref mk, .ref mq, .ref mr, .int td])), (mt, .inl (cs 0, 29, .inl tf))] rfl (by decide) rfl (rfl) dX6_together_14 ?_
    refine V.sts (st' := [.int (b2 (inI x 0 1))]) rfl ?_
    refine v_if_neB C 23 dX6_together_17 (by decide) (fun c2 => ?_) (fun c2 => ?_)
    · skip
      refine v_iconst C (v := 0) dX6_together_23 (by decide) ?_
      refine v_istore_n C [(0, .ref mo), (1, .int x), (2, .int 0)] [1, 2, 0] dX6_together_24 (by decide) rfl ?_
      refine v_ldc C (v := -1000000) (by decide +kernel) dX6_together_25 ?_
      refine v_istore_n C [(0, .ref mo), (1, .int x), (2, .int 0), (3, .int (-1000000))] [1, 2, 3, 0] dX6_together_27 (by decide) rfl ?_
      refine v_aload_n C 0 dX6_together_28 rfl ?_
      refine v_get C (v := .ref mt) fl_X6_together_19 0 rfl rfl dX6_together_29 ?_
      refine v_iconst C (v := 0) dX6_together_32 (by decide) ?_
      refine v_iald C 1 0 rfl rfl (tf 0) (rfl) (vp_in_nI (n := 0) (N := 29) (by decide) (by decide)) dX6_together_33 ?_
      refine V.topr (y := nI pn) (hpe) ?_
      refine v_iconst C (v := 1) dX6_together_34 (by decide) ?_
      refine v_isub C dX6_together_35 ?_
      refine v_istore C [(0, .ref mo), (1, .int x), (2, .int 0), (3, .int (-1000000)), (4, .int ((nI pn) - 1))] [1, 2, 3, 4, 0] dX6_together_36 (by decide) rfl ?_
      have L38 : ∀ (n : Nat) (dd : Nat) (y0 : Int32) (y1 : Int32) (y2 : Int32), y0 = (nI (tmO (toP (kS tf) (sS tf) (wS tf) tn pn) pn dd).1) → y1 = ((tmO (toP (kS tf) (sS tf) (wS tf) tn pn) pn dd).2) → y2 = (nI (pn - dd) - 1) → (dd ≤ pn) → (pn - dd) < n → V p l e ({ frames := 4, cells := 0, slots := 0, locals := 93 }) s m (List.toArray [.ref mo, .int x]) below meth c 0 0 (MQ below (vq_Q (some (.int (if it = true then (if zo x = true then (if x = 0 then nI (tmO (toP (kS tf) (sS tf) (wS tf) tn pn) pn pn).1 else (tmO (toP (kS tf) (sS tf) (wS tf) tn pn) pn pn).2) else -1000001) else -1000002))) D [(mo, .inr (6, [.ref ml, .ref mz, .ref mi, .int su, .int (b2 it), .ref mt, .ref mv, .ref mp, .int nby, .int lt, .int pl, .int tok, .int va, .int be, .int wr, .ref md, .ref mc, .int am, .ref mk, .ref mq, .ref mr, .int td])), (mt, .inl (cs 0, 29, .inl tf))] [(mo, .inr (6, [.ref ml, .ref mz, .ref mi, .int su, .int (b2 it), .ref mt, .ref mv, .ref mp, .int nby, .int lt, .int pl, .int tok, .int va, .int be, .int wr, .ref md, .ref mc, .int am, .ref mk, .ref mq, .ref mr, .int td])), (mt, .inl (cs 0, 29, .inl tf))] s.heap.size) (List.toArray [.ref mo, .int x]) s 0 0 (va_A [(mo, .inr (6, [.ref ml, .ref mz, .ref mi, .int su, .int (b2 it), .ref mt, .ref mv, .ref mp, .int nby, .int lt, .int pl, .int tok, .int va, .int be, .int wr, .ref md, .ref mc, .int am, .ref mk, .ref mq, .ref mr, .int td])), (mt, .inl (cs 0, 29, .inl tf))] s.heap.size)) 7 D A s.heap 38 [(0, .ref mo), (1, .int x), (2, .int y0), (3, .int y1), (4, .int y2)] [] [(mo, .inr (6, [.ref ml, .ref mz, .ref mi, .int su, .int (b2 it), .ref mt, .ref mv, .ref mp, .int nby, .int lt, .int pl, .int tok, .int va, .int be, .int wr, .ref md, .ref mc, .int am, .ref mk, .ref mq, .ref mr, .int td])), (mt, .inl (cs 0, 29, .inl tf))] := by
        intro n
        induction n with
        | zero =>
          intros; omega
        | succ n ih38 =>
          intro dd y0 y1 y2 ey0 ey1 ey2 hd hn
          subst ey0
          subst ey1
          subst ey2
          refine v_iload C 4 dX6_together_38 rfl ?_
          refine v_if_lt C 148 dX6_together_40 (by decide) (fun c3 => ?_) (fun c3 => ?_)
          · skip
            have hge : pn ≤ dd := by rcases Nat.lt_or_ge dd pn with h9 | h9; exact absurd c3 (by rw [show pn - dd = (pn - (dd + 1)) + 1 by omega, nI_pred]; exact nI_pos (by omega)); exact h9
            have hsub : pn = dd := by omega
            subst hsub
            refine v_iload_n C 1 dX6_together_148 rfl ?_
            refine v_if_ne C 156 dX6_together_149 (by decide) (fun c4 => ?_) (fun c4 => ?_)
            · skip
              refine v_iload_n C 3 dX6_together_156 rfl ?_
              exact v_iret C E (rfl) (by first | rfl | (simp only [← inI_01, c1, c2, c3, Int32.not_le.mpr c3, c4, show inI (0 : Int32) 0 1 = true from by decide, ↓reduceIte, Bool.false_eq_true, reduceCtorEq, Bool.and_true, Bool.true_and, Bool.and_false, Bool.false_and]; done) | (simp [← inI_01, c1, c2, c3, Int32.not_le.mpr c3, c4, show inI (0 : Int32) 0 1 = true from by decide]; done) | (simp_all [← inI_01]; done)) dX6_together_157
            · skip
              refine v_iload_n C 2 dX6_together_152 rfl ?_
              refine v_goto C 157 dX6_together_153 (by decide) ?_
              exact v_iret C E (rfl) (by first | rfl | (simp only [← inI_01, c1, c2, c3, Int32.not_le.mpr c3, c4, show inI (0 : Int32) 0 1 = true from by decide, ↓reduceIte, Bool.false_eq_true, reduceCtorEq, Bool.and_true, Bool.true_and, Bool.and_false, Bool.false_and]; done) | (simp [← inI_01, c1, c2, c3, Int32.not_le.mpr c3, c4, show inI (0 : Int32) 0 1 = true from by decide]; done) | (simp_all [← inI_01]; done)) dX6_together_157
          · skip
            have hlt : dd < pn := by rcases Nat.lt_or_ge dd pn with h9 | h9; exact h9; exact absurd (by rw [show pn - dd = 0 by omega]; decide) c3
            have hset : nI (pn - dd) - 1 = nI (pn - (dd + 1)) := by rw [show pn - dd = (pn - (dd + 1)) + 1 by omega, nI_pred]
            refine V.lvs (lv' := [(0, .ref mo), (1, .int x), (2, .int (nI (tmO (toP (kS tf) (sS tf) (wS tf) tn pn) pn dd).1)), (3, .int ((tmO (toP (kS tf) (sS tf) (wS tf) tn pn) pn dd).2)), (4, .int (nI (pn - (dd + 1))))]) [0, 1, 2, 3, 4] (by rw [hset]; rfl) ?_
            refine v_aload_n C 0 dX6_together_43 rfl ?_
            refine v_get C (v := .ref mt) fl_X6_together_19 0 rfl rfl dX6_together_44 ?_
            refine v_iconst C (v := 0) dX6_together_47 (by decide) ?_
            refine v_iald C 1 0 rfl rfl (tf 0) (rfl) (vp_in_nI (n := 0) (N := 29) (by decide) (by decide)) dX6_together_48 ?_
            refine V.topr (y := nI pn) (hpe) ?_
            refine v_iconst C (v := 1) dX6_together_49 (by decide) ?_
            refine v_isub C dX6_together_50 ?_
            refine v_istore C [(0, .ref mo), (1, .int x), (2, .int (nI (tmO (toP (kS tf) (sS tf) (wS tf) tn pn) pn dd).1)), (3, .int ((tmO (toP (kS tf) (sS tf) (wS tf) tn pn) pn dd).2)), (4, .int (nI (pn - (dd + 1)))), (5, .int ((nI pn) - 1))] [1, 2, 3, 4, 5, 0] dX6_together_51 (by decide) rfl ?_
            have L53 : ∀ (n : Nat) (ee : Nat) (y0 : Int32) (y1 : Int32) (y2 : Int32), y0 = (nI (tmI (toP (kS tf) (sS tf) (wS tf) tn pn) pn (pn - (dd + 1)) (tmO (toP (kS tf) (sS tf) (wS tf) tn pn) pn dd) ee).1) → y1 = ((tmI (toP (kS tf) (sS tf) (wS tf) tn pn) pn (pn - (dd + 1)) (tmO (toP (kS tf) (sS tf) (wS tf) tn pn) pn dd) ee).2) → y2 = (nI (pn - 1 - ee)) → (ee ≤ dd) → (dd + 1 - ee) < n → V p l e ({ frames := 4, cells := 0, slots := 0, locals := 93 }) s m (List.toArray [.ref mo, .int x]) below meth c 0 0 (MQ below (vq_Q (some (.int (if it = true then (if zo x = true then (if x = 0 then nI (tmO (toP (kS tf) (sS tf) (wS tf) tn pn) pn pn).1 else (tmO (toP (kS tf) (sS tf) (wS tf) tn pn) pn pn).2) else -1000001) else -1000002))) D [(mo, .inr (6, [.ref ml, .ref mz, .ref mi, .int su, .int (b2 it), .ref mt, .ref mv, .ref mp, .int nby, .int lt, .int pl, .int tok, .int va, .int be, .int wr, .ref md, .ref mc, .int am, .ref mk, .ref mq, .ref mr, .int td])), (mt, .inl (cs 0, 29, .inl tf))] [(mo, .inr (6, [.ref ml, .ref mz, .ref mi, .int su, .int (b2 it), .ref mt, .ref mv, .ref mp, .int nby, .int lt, .int pl, .int tok, .int va, .int be, .int wr, .ref md, .ref mc, .int am, .ref mk, .ref mq, .ref mr, .int td])), (mt, .inl (cs 0, 29, .inl tf))] s.heap.size) (List.toArray [.ref mo, .int x]) s 0 0 (va_A [(mo, .inr (6, [.ref ml, .ref mz, .ref mi, .int su, .int (b2 it), .ref mt, .ref mv, .ref mp, .int nby, .int lt, .int pl, .int tok, .int va, .int be, .int wr, .ref md, .ref mc, .int am, .ref mk, .ref mq, .ref mr, .int td])), (mt, .inl (cs 0, 29, .inl tf))] s.heap.size)) 7 D A s.heap 53 [(0, .ref mo), (1, .int x), (2, .int y0), (3, .int y1), (4, .int (nI (pn - (dd + 1)))), (5, .int y2)] [] [(mo, .inr (6, [.ref ml, .ref mz, .ref mi, .int su, .int (b2 it), .ref mt, .ref mv, .ref mp, .int nby, .int lt, .int pl, .int tok, .int va, .int be, .int wr, .ref md, .ref mc, .int am, .ref mk, .ref mq, .ref mr, .int td])), (mt, .inl (cs 0, 29, .inl tf))] := by
              intro n
              induction n with
              | zero =>
                intros; omega
              | succ n ih53 =>
                intro ee y0 y1 y2 ey0 ey1 ey2 he hn
                subst ey0
                subst ey1
                subst ey2
                refine v_iload C 5 dX6_together_53 rfl ?_
                refine v_iload C 4 dX6_together_55 rfl ?_
                refine v_icmp_le C 142 dX6_together_57 (by decide) (fun c5 => ?_) (fun c5 => ?_)
                · skip
                  have hgee : dd ≤ ee := by have h9 := le_nI c5 (by omega) (by omega); omega
                  refine v_iinc C (k := 4) ((nI (pn - (dd + 1))) + (-1)) [(0, .ref mo), (1, .int x), (2, .int (nI (tmI (toP (kS tf) (sS tf) (wS tf) tn pn) pn (pn - (dd + 1)) (tmO (toP (kS tf) (sS tf) (wS tf) tn pn) pn dd) ee).1)), (3, .int ((tmI (toP (kS tf) (sS tf) (wS tf) tn pn) pn (pn - (dd + 1)) (tmO (toP (kS tf) (sS tf) (wS tf) tn pn) pn dd) ee).2)), (4, .int ((nI (pn - (dd + 1))) + (-1))), (5, .int (nI (pn - 1 - ee)))] [1, 2, 3, 4, 0, 5] dX6_together_142 rfl ((by rfl)) (by decide) rfl ?_
                  refine v_goto C 38 dX6_together_145 (by decide) ?_
                  refine V.lvs (lv' := [(0, .ref mo), (1, .int x), (2, .int (nI (tmI (toP (kS tf) (sS tf) (wS tf) tn pn) pn (pn - (dd + 1)) (tmO (toP (kS tf) (sS tf) (wS tf) tn pn) pn dd) ee).1)), (3, .int ((tmI (toP (kS tf) (sS tf) (wS tf) tn pn) pn (pn - (dd + 1)) (tmO (toP (kS tf) (sS tf) (wS tf) tn pn) pn dd) ee).2)), (4, .int ((nI (pn - (dd + 1))) + (-1)))]) [0, 1, 2, 3, 4] rfl ?_
                  exact ih38 (dd + 1) _ _ _ (by rw [tmO_s, show ee = dd by omega]) (by rw [tmO_s, show ee = dd by omega]) (add_m1 _) (by omega) (by omega)
                · skip
                  have hlte : ee < dd := by have h9 := nle_nI c5 (by omega) (by omega); omega
                  refine v_aload_n C 0 dX6_together_60 rfl ?_
                  refine v_iconst C (v := 1) dX6_together_61 (by decide) ?_
                  refine v_iload C 4 dX6_together_62 rfl ?_
                  refine v_ishl C dX6_together_64 ?_
                  refine v_callV (qi := 0) C [.int (1 <<< ((nI (pn - (dd + 1))) &&& 31))] [] kX6_missedBy gX6_together_X6_missedBy (c_mmissedBy l D cs (mo := mo) (ml := ml) (mz := mz) (mi := mi) (mt := mt) (mv := mv) (mp := mp) (md := md) (mc := mc) (mk := mk) (mq := mq) (mr := mr) (su := su) (it := it) (nby := nby) (lt := lt) (pl := pl) (tok := tok) (va := va) (be := be) (wr := wr) (am := am) (td := td) (tf := tf) (tn := tn) (x := (1 <<< ((nI (pn - (dd + 1))) &&& 31))) (by first | assumption | omega) (by first | assumption | omega) (by first | assumption | omega) (by first | assumption | omega)) ⟨Nat.le_of_ble_eq_true rfl, Nat.le_of_ble_eq_true rfl⟩ ⟨rfl, rfl⟩ ⟨Nat.zero_le _, Nat.zero_le _⟩ rfl 0 rfl rfl rfl rfl (Nat.le_of_ble_eq_true rfl) [0, 1] [(mo, .inr (6, [.ref ml, .ref mz, .ref mi, .int su, .int (b2 it), .ref mt, .ref mv, .ref mp, .int nby, .int lt, .int pl, .int tok, .int va, .int be, .int wr, .ref md, .ref mc, .int am, .ref mk, .ref mq, .ref mr, .int td])), (mt, .inl (cs 0, 29, .inl tf))] rfl (by decide) (show [mo, mt] = [mo, mt] from rfl) (rfl) dX6_together_65 ?_
                  refine V.sts (st' := [.int (loI (kS tf) (sS tf) (wS tf) tn (tf 0) (1 <<< ((nI (pn - (dd + 1))) &&& 31)))]) rfl ?_
                  refine v_if_ne C 102 dX6_together_68 (by decide) (fun c6 => ?_) (fun c6 => ?_)
                  · skip
                    refine v_iconst C (v := 0) dX6_together_102 (by decide) ?_
                    refine v_istore C [(0, .ref mo), (1, .int x), (2, .int (nI (tmI (toP (kS tf) (sS tf) (wS tf) tn pn) pn (pn - (dd + 1)) (tmO (toP (kS tf) (sS tf) (wS tf) tn pn) pn dd) ee).1)), (3, .int ((tmI (toP (kS tf) (sS tf) (wS tf) tn pn) pn (pn - (dd + 1)) (tmO (toP (kS tf) (sS tf) (wS tf) tn pn) pn dd) ee).2)), (4, .int (nI (pn - (dd + 1)))), (5, .int (nI (pn - 1 - ee))), (6, .int 0)] [1, 2, 3, 4, 5, 6, 0] dX6_together_103 (by decide) rfl ?_
                    refine v_iload_n C 2 dX6_together_105 rfl ?_
                    refine v_iload C 6 dX6_together_106 rfl ?_
                    refine v_if_eq C 115 dX6_together_108 (by decide) (fun c7 => ?_) (fun c7 => ?_)
                    · skip
                      refine v_iconst C (v := 0) dX6_together_115 (by decide) ?_
                      refine v_iadd C dX6_together_116 ?_
                      refine v_istore_n C [(0, .ref mo), (1, .int x), (2, .int ((nI (tmI (toP (kS tf) (sS tf) (wS tf) tn pn) pn (pn - (dd + 1)) (tmO (toP (kS tf) (sS tf) (wS tf) tn pn) pn dd) ee).1) + 0)), (3, .int ((tmI (toP (kS tf) (sS tf) (wS tf) tn pn) pn (pn - (dd + 1)) (tmO (toP (kS tf) (sS tf) (wS tf) tn pn) pn dd) ee).2)), (4, .int (nI (pn - (dd + 1)))), (5, .int (nI (pn - 1 - ee))), (6, .int 0)] [1, 2, 0, 3, 4, 5, 6] dX6_together_117 (by decide) rfl ?_
                      refine v_iload C 6 dX6_together_118 rfl ?_
                      refine v_if_eq C 134 dX6_together_120 (by decide) (fun c8 => ?_) (fun c8 => ?_)
                      · skip
                        refine v_iload_n C 3 dX6_together_134 rfl ?_
                        refine v_istore_n C [(0, .ref mo), (1, .int x), (2, .int ((nI (tmI (toP (kS tf) (sS tf) (wS tf) tn pn) pn (pn - (dd + 1)) (tmO (toP (kS tf) (sS tf) (wS tf) tn pn) pn dd) ee).1) + 0)), (3, .int ((tmI (toP (kS tf) (sS tf) (wS tf) tn pn) pn (pn - (dd + 1)) (tmO (toP (kS tf) (sS tf) (wS tf) tn pn) pn dd) ee).2)), (4, .int (nI (pn - (dd + 1)))), (5, .int (nI (pn - 1 - ee))), (6, .int 0)] [1, 2, 3, 0, 4, 5, 6] dX6_together_135 (by decide) rfl ?_
                        refine v_iinc C (k := 5) ((nI (pn - 1 - ee)) + (-1)) [(0, .ref mo), (1, .int x), (2, .int ((nI (tmI (toP (kS tf) (sS tf) (wS tf) tn pn) pn (pn - (dd + 1)) (tmO (toP (kS tf) (sS tf) (wS tf) tn pn) pn dd) ee).1) + 0)), (3, .int ((tmI (toP (kS tf) (sS tf) (wS tf) tn pn) pn (pn - (dd + 1)) (tmO (toP (kS tf) (sS tf) (wS tf) tn pn) pn dd) ee).2)), (4, .int (nI (pn - (dd + 1)))), (5, .int ((nI (pn - 1 - ee)) + (-1))), (6, .int 0)] [1, 2, 3, 4, 5, 0, 6] dX6_together_136 rfl ((by rfl)) (by decide) rfl ?_
                        refine v_goto C 53 dX6_together_139 (by decide) ?_
                        refine V.lvs (lv' := [(0, .ref mo), (1, .int x), (2, .int ((nI (tmI (toP (kS tf) (sS tf) (wS tf) tn pn) pn (pn - (dd + 1)) (tmO (toP (kS tf) (sS tf) (wS tf) tn pn) pn dd) ee).1) + 0)), (3, .int ((tmI (toP (kS tf) (sS tf) (wS tf) tn pn) pn (pn - (dd + 1)) (tmO (toP (kS tf) (sS tf) (wS tf) tn pn) pn dd) ee).2)), (4, .int (nI (pn - (dd + 1)))), (5, .int ((nI (pn - 1 - ee)) + (-1)))]) [0, 1, 2, 3, 4, 5] rfl ?_
                        exact ih53 (ee + 1) _ _ _ (by first | (simp only [tmI, toP, mtB, ← hpe, c6, decide_true, decide_false, Bool.and_true, Bool.true_and, Bool.and_false, Bool.false_and, Bool.false_eq_true, ↓reduceIte, nI_1]; done) | (simp only [tmI, toP, mtB, ← hpe, c6, decide_true, decide_false, Bool.and_true, Bool.true_and, Bool.and_false, Bool.false_and, Bool.false_eq_true, ↓reduceIte, Int32.add_zero]; done)) (by first | (simp only [tmI, toP, mtB, ← hpe, c6, decide_true, decide_false, Bool.and_true, Bool.true_and, Bool.and_false, Bool.false_and, Bool.false_eq_true, ↓reduceIte, nI_1]; done) | (simp only [tmI, toP, mtB, ← hpe, c6, decide_true, decide_false, Bool.and_true, Bool.true_and, Bool.and_false, Bool.false_and, Bool.false_eq_true, ↓reduceIte, Int32.add_zero]; done)) (by rw [show pn - 1 - ee = (pn - 1 - (ee + 1)) + 1 by omega, pk_m1]) (by omega) (by omega)
                      · exact absurd c7 c8
                    · exact absurd c7 (by decide)
                  · skip
                    refine v_aload_n C 0 dX6_together_71 rfl ?_
                    refine v_iconst C (v := 1) dX6_together_72 (by decide) ?_
                    refine v_iload C 5 dX6_together_73 rfl ?_
                    refine v_ishl C dX6_together_75 ?_
                    refine v_callV (qi := 0) C [.int (1 <<< ((nI (pn - 1 - ee)) &&& 31))] [] kX6_missedBy gX6_together_X6_missedBy (c_mmissedBy l D cs (mo := mo) (ml := ml) (mz := mz) (mi := mi) (mt := mt) (mv := mv) (mp := mp) (md := md) (mc := mc) (mk := mk) (mq := mq) (mr := mr) (su := su) (it := it) (nby := nby) (lt := lt) (pl := pl) (tok := tok) (va := va) (be := be) (wr := wr) (am := am) (td := td) (tf := tf) (tn := tn) (x := (1 <<< ((nI (pn - 1 - ee)) &&& 31))) (by first | assumption | omega) (by first | assumption | omega) (by first | assumption | omega) (by first | assumption | omega)) ⟨Nat.le_of_ble_eq_true rfl, Nat.le_of_ble_eq_true rfl⟩ ⟨rfl, rfl⟩ ⟨Nat.zero_le _, Nat.zero_le _⟩ rfl 0 rfl rfl rfl rfl (Nat.le_of_ble_eq_true rfl) [0, 1] [(mo, .inr (6, [.ref ml, .ref mz, .ref mi, .int su, .int (b2 it), .ref mt, .ref mv, .ref mp, .int nby, .int lt, .int pl, .int tok, .int va, .int be, .int wr, .ref md, .ref mc, .int am, .ref mk, .ref mq, .ref mr, .int td])), (mt, .inl (cs 0, 29, .inl tf))] rfl (by decide) (show [mo, mt] = [mo, mt] from rfl) (rfl) dX6_together_76 ?_
                    refine V.sts (st' := [.int (loI (kS tf) (sS tf) (wS tf) tn (tf 0) (1 <<< ((nI (pn - 1 - ee)) &&& 31)))]) rfl ?_
                    refine v_if_ne C 102 dX6_together_79 (by decide) (fun c9 => ?_) (fun c9 => ?_)
                    · skip
                      refine v_iconst C (v := 0) dX6_together_102 (by decide) ?_
                      refine v_istore C [(0, .ref mo), (1, .int x), (2, .int (nI (tmI (toP (kS tf) (sS tf) (wS tf) tn pn) pn (pn - (dd + 1)) (tmO (toP (kS tf) (sS tf) (wS tf) tn pn) pn dd) ee).1)), (3, .int ((tmI (toP (kS tf) (sS tf) (wS tf) tn pn) pn (pn - (dd + 1)) (tmO (toP (kS tf) (sS tf) (wS tf) tn pn) pn dd) ee).2)), (4, .int (nI (pn - (dd + 1)))), (5, .int (nI (pn - 1 - ee))), (6, .int 0)] [1, 2, 3, 4, 5, 6, 0] dX6_together_103 (by decide) rfl ?_
                      refine v_iload_n C 2 dX6_together_105 rfl ?_
                      refine v_iload C 6 dX6_together_106 rfl ?_
                      refine v_if_eq C 115 dX6_together_108 (by decide) (fun c10 => ?_) (fun c10 => ?_)
                      · skip
                        refine v_iconst C (v := 0) dX6_together_115 (by decide) ?_
                        refine v_iadd C dX6_together_116 ?_
                        refine v_istore_n C [(0, .ref mo), (1, .int x), (2, .int ((nI (tmI (toP (kS tf) (sS tf) (wS tf) tn pn) pn (pn - (dd + 1)) (tmO (toP (kS tf) (sS tf) (wS tf) tn pn) pn dd) ee).1) + 0)), (3, .int ((tmI (toP (kS tf) (sS tf) (wS tf) tn pn) pn (pn - (dd + 1)) (tmO (toP (kS tf) (sS tf) (wS tf) tn pn) pn dd) ee).2)), (4, .int (nI (pn - (dd + 1)))), (5, .int (nI (pn - 1 - ee))), (6, .int 0)] [1, 2, 0, 3, 4, 5, 6] dX6_together_117 (by decide) rfl ?_
                        refine v_iload C 6 dX6_together_118 rfl ?_
                        refine v_if_eq C 134 dX6_together_120 (by decide) (fun c11 => ?_) (fun c11 => ?_)
                        · skip
                          refine v_iload_n C 3 dX6_together_134 rfl ?_
                          refine v_istore_n C [(0, .ref mo), (1, .int x), (2, .int ((nI (tmI (toP (kS tf) (sS tf) (wS tf) tn pn) pn (pn - (dd + 1)) (tmO (toP (kS tf) (sS tf) (wS tf) tn pn) pn dd) ee).1) + 0)), (3, .int ((tmI (toP (kS tf) (sS tf) (wS tf) tn pn) pn (pn - (dd + 1)) (tmO (toP (kS tf) (sS tf) (wS tf) tn pn) pn dd) ee).2)), (4, .int (nI (pn - (dd + 1)))), (5, .int (nI (pn - 1 - ee))), (6, .int 0)] [1, 2, 3, 0, 4, 5, 6] dX6_together_135 (by decide) rfl ?_
                          refine v_iinc C (k := 5) ((nI (pn - 1 - ee)) + (-1)) [(0, .ref mo), (1, .int x), (2, .int ((nI (tmI (toP (kS tf) (sS tf) (wS tf) tn pn) pn (pn - (dd + 1)) (tmO (toP (kS tf) (sS tf) (wS tf) tn pn) pn dd) ee).1) + 0)), (3, .int ((tmI (toP (kS tf) (sS tf) (wS tf) tn pn) pn (pn - (dd + 1)) (tmO (toP (kS tf) (sS tf) (wS tf) tn pn) pn dd) ee).2)), (4, .int (nI (pn - (dd + 1)))), (5, .int ((nI (pn - 1 - ee)) + (-1))), (6, .int 0)] [1, 2, 3, 4, 5, 0, 6] dX6_together_136 rfl ((by rfl)) (by decide) rfl ?_
                          refine v_goto C 53 dX6_together_139 (by decide) ?_
                          refine V.lvs (lv' := [(0, .ref mo), (1, .int x), (2, .int ((nI (tmI (toP (kS tf) (sS tf) (wS tf) tn pn) pn (pn - (dd + 1)) (tmO (toP (kS tf) (sS tf) (wS tf) tn pn) pn dd) ee).1) + 0)), (3, .int ((tmI (toP (kS tf) (sS tf) (wS tf) tn pn) pn (pn - (dd + 1)) (tmO (toP (kS tf) (sS tf) (wS tf) tn pn) pn dd) ee).2)), (4, .int (nI (pn - (dd + 1)))), (5, .int ((nI (pn - 1 - ee)) + (-1)))]) [0, 1, 2, 3, 4, 5] rfl ?_
                          exact ih53 (ee + 1) _ _ _ (by first | (simp only [tmI, toP, mtB, ← hpe, c6, c9, decide_true, decide_false, Bool.and_true, Bool.true_and, Bool.and_false, Bool.false_and, Bool.false_eq_true, ↓reduceIte, nI_1]; done) | (simp only [tmI, toP, mtB, ← hpe, c6, c9, decide_true, decide_false, Bool.and_true, Bool.true_and, Bool.and_false, Bool.false_and, Bool.false_eq_true, ↓reduceIte, Int32.add_zero]; done)) (by first | (simp only [tmI, toP, mtB, ← hpe, c6, c9, decide_true, decide_false, Bool.and_true, Bool.true_and, Bool.and_false, Bool.false_and, Bool.false_eq_true, ↓reduceIte, nI_1]; done) | (simp only [tmI, toP, mtB, ← hpe, c6, c9, decide_true, decide_false, Bool.and_true, Bool.true_and, Bool.and_false, Bool.false_and, Bool.false_eq_true, ↓reduceIte, Int32.add_zero]; done)) (by rw [show pn - 1 - ee = (pn - 1 - (ee + 1)) + 1 by omega, pk_m1]) (by omega) (by omega)
                        · exact absurd c10 c11
                      · exact absurd c10 (by decide)
                    · skip
                      refine v_aload_n C 0 dX6_together_82 rfl ?_
                      refine v_iconst C (v := 1) dX6_together_83 (by decide) ?_
                      refine v_iload C 4 dX6_together_84 rfl ?_
                      refine v_ishl C dX6_together_86 ?_
                      refine v_iconst C (v := 1) dX6_together_87 (by decide) ?_
                      refine v_iload C 5 dX6_together_88 rfl ?_
                      refine v_ishl C dX6_together_90 ?_
                      refine v_ior C dX6_together_91 ?_
                      refine v_callV (qi := 0) C [.int ((1 <<< ((nI (pn - (dd + 1))) &&& 31)) ||| (1 <<< ((nI (pn - 1 - ee)) &&& 31)))] [] kX6_missedBy gX6_together_X6_missedBy (c_mmissedBy l D cs (mo := mo) (ml := ml) (mz := mz) (mi := mi) (mt := mt) (mv := mv) (mp := mp) (md := md) (mc := mc) (mk := mk) (mq := mq) (mr := mr) (su := su) (it := it) (nby := nby) (lt := lt) (pl := pl) (tok := tok) (va := va) (be := be) (wr := wr) (am := am) (td := td) (tf := tf) (tn := tn) (x := ((1 <<< ((nI (pn - (dd + 1))) &&& 31)) ||| (1 <<< ((nI (pn - 1 - ee)) &&& 31)))) (by first | assumption | omega) (by first | assumption | omega) (by first | assumption | omega) (by first | assumption | omega)) ⟨Nat.le_of_ble_eq_true rfl, Nat.le_of_ble_eq_true rfl⟩ ⟨rfl, rfl⟩ ⟨Nat.zero_le _, Nat.zero_le _⟩ rfl 0 rfl rfl rfl rfl (Nat.le_of_ble_eq_true rfl) [0, 1] [(mo, .inr (6, [.ref ml, .ref mz, .ref mi, .int su, .int (b2 it), .ref mt, .ref mv, .ref mp, .int nby, .int lt, .int pl, .int tok, .int va, .int be, .int wr, .ref md, .ref mc, .int am, .ref mk, .ref mq, .ref mr, .int td])), (mt, .inl (cs 0, 29, .inl tf))] rfl (by decide) (show [mo, mt] = [mo, mt] from rfl) (rfl) dX6_together_92 ?_
                      refine V.sts (st' := [.int (loI (kS tf) (sS tf) (wS tf) tn (tf 0) ((1 <<< ((nI (pn - (dd + 1))) &&& 31)) ||| (1 <<< ((nI (pn - 1 - ee)) &&& 31))))]) rfl ?_
                      refine v_if_le C 102 dX6_together_95 (by decide) (fun c12 => ?_) (fun c12 => ?_)
                      · skip
                        refine v_iconst C (v := 0) dX6_together_102 (by decide) ?_
                        refine v_istore C [(0, .ref mo), (1, .int x), (2, .int (nI (tmI (toP (kS tf) (sS tf) (wS tf) tn pn) pn (pn - (dd + 1)) (tmO (toP (kS tf) (sS tf) (wS tf) tn pn) pn dd) ee).1)), (3, .int ((tmI (toP (kS tf) (sS tf) (wS tf) tn pn) pn (pn - (dd + 1)) (tmO (toP (kS tf) (sS tf) (wS tf) tn pn) pn dd) ee).2)), (4, .int (nI (pn - (dd + 1)))), (5, .int (nI (pn - 1 - ee))), (6, .int 0)] [1, 2, 3, 4, 5, 6, 0] dX6_together_103 (by decide) rfl ?_
                        refine v_iload_n C 2 dX6_together_105 rfl ?_
                        refine v_iload C 6 dX6_together_106 rfl ?_
                        refine v_if_eq C 115 dX6_together_108 (by decide) (fun c13 => ?_) (fun c13 => ?_)
                        · skip
                          refine v_iconst C (v := 0) dX6_together_115 (by decide) ?_
                          refine v_iadd C dX6_together_116 ?_
                          refine v_istore_n C [(0, .ref mo), (1, .int x), (2, .int ((nI (tmI (toP (kS tf) (sS tf) (wS tf) tn pn) pn (pn - (dd + 1)) (tmO (toP (kS tf) (sS tf) (wS tf) tn pn) pn dd) ee).1) + 0)), (3, .int ((tmI (toP (kS tf) (sS tf) (wS tf) tn pn) pn (pn - (dd + 1)) (tmO (toP (kS tf) (sS tf) (wS tf) tn pn) pn dd) ee).2)), (4, .int (nI (pn - (dd + 1)))), (5, .int (nI (pn - 1 - ee))), (6, .int 0)] [1, 2, 0, 3, 4, 5, 6] dX6_together_117 (by decide) rfl ?_
                          refine v_iload C 6 dX6_together_118 rfl ?_
                          refine v_if_eq C 134 dX6_together_120 (by decide) (fun c14 => ?_) (fun c14 => ?_)
                          · skip
                            refine v_iload_n C 3 dX6_together_134 rfl ?_
                            refine v_istore_n C [(0, .ref mo), (1, .int x), (2, .int ((nI (tmI (toP (kS tf) (sS tf) (wS tf) tn pn) pn (pn - (dd + 1)) (tmO (toP (kS tf) (sS tf) (wS tf) tn pn) pn dd) ee).1) + 0)), (3, .int ((tmI (toP (kS tf) (sS tf) (wS tf) tn pn) pn (pn - (dd + 1)) (tmO (toP (kS tf) (sS tf) (wS tf) tn pn) pn dd) ee).2)), (4, .int (nI (pn - (dd + 1)))), (5, .int (nI (pn - 1 - ee))), (6, .int 0)] [1, 2, 3, 0, 4, 5, 6] dX6_together_135 (by decide) rfl ?_
                            refine v_iinc C (k := 5) ((nI (pn - 1 - ee)) + (-1)) [(0, .ref mo), (1, .int x), (2, .int ((nI (tmI (toP (kS tf) (sS tf) (wS tf) tn pn) pn (pn - (dd + 1)) (tmO (toP (kS tf) (sS tf) (wS tf) tn pn) pn dd) ee).1) + 0)), (3, .int ((tmI (toP (kS tf) (sS tf) (wS tf) tn pn) pn (pn - (dd + 1)) (tmO (toP (kS tf) (sS tf) (wS tf) tn pn) pn dd) ee).2)), (4, .int (nI (pn - (dd + 1)))), (5, .int ((nI (pn - 1 - ee)) + (-1))), (6, .int 0)] [1, 2, 3, 4, 5, 0, 6] dX6_together_136 rfl ((by rfl)) (by decide) rfl ?_
                            refine v_goto C 53 dX6_together_139 (by decide) ?_
                            refine V.lvs (lv' := [(0, .ref mo), (1, .int x), (2, .int ((nI (tmI (toP (kS tf) (sS tf) (wS tf) tn pn) pn (pn - (dd + 1)) (tmO (toP (kS tf) (sS tf) (wS tf) tn pn) pn dd) ee).1) + 0)), (3, .int ((tmI (toP (kS tf) (sS tf) (wS tf) tn pn) pn (pn - (dd + 1)) (tmO (toP (kS tf) (sS tf) (wS tf) tn pn) pn dd) ee).2)), (4, .int (nI (pn - (dd + 1)))), (5, .int ((nI (pn - 1 - ee)) + (-1)))]) [0, 1, 2, 3, 4, 5] rfl ?_
                            exact ih53 (ee + 1) _ _ _ (by first | (simp only [tmI, toP, mtB, ← hpe, c6, c9, c12, Int32.not_lt.mpr c12, decide_true, decide_false, Bool.and_true, Bool.true_and, Bool.and_false, Bool.false_and, Bool.false_eq_true, ↓reduceIte, nI_1]; done) | (simp only [tmI, toP, mtB, ← hpe, c6, c9, c12, Int32.not_lt.mpr c12, decide_true, decide_false, Bool.and_true, Bool.true_and, Bool.and_false, Bool.false_and, Bool.false_eq_true, ↓reduceIte, Int32.add_zero]; done)) (by first | (simp only [tmI, toP, mtB, ← hpe, c6, c9, c12, Int32.not_lt.mpr c12, decide_true, decide_false, Bool.and_true, Bool.true_and, Bool.and_false, Bool.false_and, Bool.false_eq_true, ↓reduceIte, nI_1]; done) | (simp only [tmI, toP, mtB, ← hpe, c6, c9, c12, Int32.not_lt.mpr c12, decide_true, decide_false, Bool.and_true, Bool.true_and, Bool.and_false, Bool.false_and, Bool.false_eq_true, ↓reduceIte, Int32.add_zero]; done)) (by rw [show pn - 1 - ee = (pn - 1 - (ee + 1)) + 1 by omega, pk_m1]) (by omega) (by omega)
                          · exact absurd c13 c14
                        · exact absurd c13 (by decide)
                      · skip
                        refine v_iconst C (v := 1) dX6_together_98 (by decide) ?_
                        refine v_goto C 103 dX6_together_99 (by decide) ?_
                        refine v_istore C [(0, .ref mo), (1, .int x), (2, .int (nI (tmI (toP (kS tf) (sS tf) (wS tf) tn pn) pn (pn - (dd + 1)) (tmO (toP (kS tf) (sS tf) (wS tf) tn pn) pn dd) ee).1)), (3, .int ((tmI (toP (kS tf) (sS tf) (wS tf) tn pn) pn (pn - (dd + 1)) (tmO (toP (kS tf) (sS tf) (wS tf) tn pn) pn dd) ee).2)), (4, .int (nI (pn - (dd + 1)))), (5, .int (nI (pn - 1 - ee))), (6, .int 1)] [1, 2, 3, 4, 5, 6, 0] dX6_together_103 (by decide) rfl ?_
                        refine v_iload_n C 2 dX6_together_105 rfl ?_
                        refine v_iload C 6 dX6_together_106 rfl ?_
                        refine v_if_eq C 115 dX6_together_108 (by decide) (fun c15 => ?_) (fun c15 => ?_)
                        · exact absurd c15 (by decide)
                        · skip
                          refine v_iconst C (v := 1) dX6_together_111 (by decide) ?_
                          refine v_goto C 116 dX6_together_112 (by decide) ?_
                          refine v_iadd C dX6_together_116 ?_
                          refine v_istore_n C [(0, .ref mo), (1, .int x), (2, .int ((nI (tmI (toP (kS tf) (sS tf) (wS tf) tn pn) pn (pn - (dd + 1)) (tmO (toP (kS tf) (sS tf) (wS tf) tn pn) pn dd) ee).1) + 1)), (3, .int ((tmI (toP (kS tf) (sS tf) (wS tf) tn pn) pn (pn - (dd + 1)) (tmO (toP (kS tf) (sS tf) (wS tf) tn pn) pn dd) ee).2)), (4, .int (nI (pn - (dd + 1)))), (5, .int (nI (pn - 1 - ee))), (6, .int 1)] [1, 2, 0, 3, 4, 5, 6] dX6_together_117 (by decide) rfl ?_
                          refine v_iload C 6 dX6_together_118 rfl ?_
                          refine v_if_eq C 134 dX6_together_120 (by decide) (fun c16 => ?_) (fun c16 => ?_)
                          · exact absurd c16 c15
                          · skip
                            refine v_bipush C (v := 10) dX6_together_123 (by decide) ?_
                            refine v_iload C 4 dX6_together_125 rfl ?_
                            refine v_imul C dX6_together_127 ?_
                            refine v_iload C 5 dX6_together_128 rfl ?_
                            refine v_iadd C dX6_together_130 ?_
                            refine v_goto C 135 dX6_together_131 (by decide) ?_
                            refine v_istore_n C [(0, .ref mo), (1, .int x), (2, .int ((nI (tmI (toP (kS tf) (sS tf) (wS tf) tn pn) pn (pn - (dd + 1)) (tmO (toP (kS tf) (sS tf) (wS tf) tn pn) pn dd) ee).1) + 1)), (3, .int ((10 * (nI (pn - (dd + 1)))) + (nI (pn - 1 - ee)))), (4, .int (nI (pn - (dd + 1)))), (5, .int (nI (pn - 1 - ee))), (6, .int 1)] [1, 2, 3, 0, 4, 5, 6] dX6_together_135 (by decide) rfl ?_
                            refine v_iinc C (k := 5) ((nI (pn - 1 - ee)) + (-1)) [(0, .ref mo), (1, .int x), (2, .int ((nI (tmI (toP (kS tf) (sS tf) (wS tf) tn pn) pn (pn - (dd + 1)) (tmO (toP (kS tf) (sS tf) (wS tf) tn pn) pn dd) ee).1) + 1)), (3, .int ((10 * (nI (pn - (dd + 1)))) + (nI (pn - 1 - ee)))), (4, .int (nI (pn - (dd + 1)))), (5, .int ((nI (pn - 1 - ee)) + (-1))), (6, .int 1)] [1, 2, 3, 4, 5, 0, 6] dX6_together_136 rfl ((by rfl)) (by decide) rfl ?_
                            refine v_goto C 53 dX6_together_139 (by decide) ?_
                            refine V.lvs (lv' := [(0, .ref mo), (1, .int x), (2, .int ((nI (tmI (toP (kS tf) (sS tf) (wS tf) tn pn) pn (pn - (dd + 1)) (tmO (toP (kS tf) (sS tf) (wS tf) tn pn) pn dd) ee).1) + 1)), (3, .int ((10 * (nI (pn - (dd + 1)))) + (nI (pn - 1 - ee)))), (4, .int (nI (pn - (dd + 1)))), (5, .int ((nI (pn - 1 - ee)) + (-1)))]) [0, 1, 2, 3, 4, 5] rfl ?_
                            exact ih53 (ee + 1) _ _ _ (by first | (simp only [tmI, toP, mtB, ← hpe, c6, c9, c12, Int32.not_le.mp c12, decide_true, decide_false, Bool.and_true, Bool.true_and, Bool.and_false, Bool.false_and, Bool.false_eq_true, ↓reduceIte, nI_1]; done) | (simp only [tmI, toP, mtB, ← hpe, c6, c9, c12, Int32.not_le.mp c12, decide_true, decide_false, Bool.and_true, Bool.true_and, Bool.and_false, Bool.false_and, Bool.false_eq_true, ↓reduceIte, Int32.add_zero]; done)) (by first | (simp only [tmI, toP, mtB, ← hpe, c6, c9, c12, Int32.not_le.mp c12, decide_true, decide_false, Bool.and_true, Bool.true_and, Bool.and_false, Bool.false_and, Bool.false_eq_true, ↓reduceIte, nI_1]; done) | (simp only [tmI, toP, mtB, ← hpe, c6, c9, c12, Int32.not_le.mp c12, decide_true, decide_false, Bool.and_true, Bool.true_and, Bool.and_false, Bool.false_and, Bool.false_eq_true, ↓reduceIte, Int32.add_zero]; done)) (by rw [show pn - 1 - ee = (pn - 1 - (ee + 1)) + 1 by omega, pk_m1]) (by omega) (by omega)
            exact L53 _ 0 _ _ _ (rfl) (rfl) (by rw [Nat.sub_zero]; exact pk_sub (a := pn) (b := 1) (by omega)) (Nat.zero_le _) (Nat.lt_succ_self _)
      exact L38 _ 0 _ _ _ (rfl) (rfl) (by rw [Nat.sub_zero]) (by first | assumption | omega) (Nat.lt_succ_self _)
    · skip
      refine v_ldc C (v := -1000001) (by decide +kernel) dX6_together_20 ?_
      exact v_iret C E (rfl) (by first | rfl | (simp only [← inI_01, c1, c2, show inI (0 : Int32) 0 1 = true from by decide, ↓reduceIte, Bool.false_eq_true, reduceCtorEq, Bool.and_true, Bool.true_and, Bool.and_false, Bool.false_and]; done) | (simp [← inI_01, c1, c2, show inI (0 : Int32) 0 1 = true from by decide]; done) | (simp_all [← inI_01]; done)) dX6_together_22
  · skip
    refine v_ldc C (v := -1000002) (by decide +kernel) dX6_together_7 ?_
    exact v_iret C E (rfl) (by first | rfl | (simp only [← inI_01, c1, show inI (0 : Int32) 0 1 = true from by decide, ↓reduceIte, Bool.false_eq_true, reduceCtorEq, Bool.and_true, Bool.true_and, Bool.and_false, Bool.false_and]; done) | (simp [← inI_01, c1, show inI (0 : Int32) 0 1 = true from by decide]; done) | (simp_all [← inI_01]; done)) dX6_together_9
