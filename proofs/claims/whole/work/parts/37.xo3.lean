theorem kX6_image : KD yX6_image wsX6_image cX6_image 3 (some .int) 1 := ⟨⟨_, rfl⟩, by decide, by decide +kernel, by decide +kernel, by decide +kernel⟩
theorem in_X6_image_X6 : ∀ w ∈ wsX60, w ∈ wsX6_image := by decide +kernel
theorem fl_X6_image_129 : FL RX6 wsX6_image RX6 RX6 TX6 22 6 4 129 := ⟨⟨in_X6_image_X6, rfl, by decide, rfl⟩, by decide +kernel⟩
set_option maxHeartbeats 4000000 in
set_option maxRecDepth 100000 in
theorem c_mimageNo (l : Launch) (D : va_G) (cs : Nat → ClassId) {mo : Nat} {ml : Nat} {mz : Nat} {mi : Nat} {mt : Nat} {mv : Nat} {mp : Nat} {md : Nat} {mc : Nat} {mk : Nat} {mq : Nat} {mr : Nat} {su : Int32} {it : Bool} {nby : Int32} {lt : Int32} {pl : Int32} {tok : Int32} {va : Int32} {be : Int32} {wr : Int32} {am : Int32} {td : Int32} {x : Int32} (hno : zo x = false ∨ it = false) : CT l D (tz cs) yX6_image wsX6_image ({ frames := 1, cells := 0, slots := 0, locals := 25 }) [.ref mo, .int x] [(mo, .inr (6, [.ref ml, .ref mz, .ref mi, .int su, .int (b2 it), .ref mt, .ref mv, .ref mp, .int nby, .int lt, .int pl, .int tok, .int va, .int be, .int wr, .ref md, .ref mc, .int am, .ref mk, .ref mq, .ref mr, .int td]))] (some (.int (if zo x = true then -1000002 else -1000001))) [(mo, .inr (6, [.ref ml, .ref mz, .ref mi, .int su, .int (b2 it), .ref mt, .ref mv, .ref mp, .int nby, .int lt, .int pl, .int tok, .int va, .int be, .int wr, .ref md, .ref mc, .int am, .ref mk, .ref mq, .ref mr, .int td]))] := by
  refine CT.of kX6_image (Nat.le_of_ble_eq_true rfl) ?_
  intro p e s m below meth c A C E
  have C : VOk p s m _ c cX6_image 3 wsX6_image RX6 D (tz cs) A s.heap := C
  refine V.lvs (lv' := [(0, .ref mo), (1, .int x)]) [0, 1] rfl ?_
  refine v_iload_n C 1 dX6_image_0 rfl ?_
  refine v_i2l C dX6_image_1 ?_
  refine v_lconst C (v := 0) dX6_image_2 (by decide) ?_
  refine v_lconst C (v := 1) dX6_image_3 (by decide) ?_
  refine v_callS C [.long (Int32.toInt64 x), .long 0, .long 1] [] kX6_in gX6_image_X6_in (c_inI l D cs (x := x) (a := 0) (b := 1) (lo := 0) (hi := 1) (by decide) (by decide)) ⟨Nat.le_of_ble_eq_true rfl, Nat.le_of_ble_eq_true rfl⟩ ⟨rfl, rfl⟩ ⟨Nat.zero_le _, Nat.zero_le _⟩ rfl rfl (Nat.le_of_ble_eq_true rfl) [] [(mo, .inr (6, [.ref ml, .ref mz, .ref mi, .int su, .int (b2 it), .ref mt, .ref mv, .ref mp, .int nby, .int lt, .int pl, .int tok, .int va, .int be, .int wr, .ref md, .ref mc, .int am, .ref mk, .ref mq, .ref mr, .int td]))] rfl (by decide) rfl (rfl) dX6_image_4 ?_
  refine V.sts (st' := [.int (b2 (inI x 0 1))]) rfl ?_
  refine v_if_neB C 13 dX6_image_7 (by decide) (fun c1 => ?_) (fun c1 => ?_)
  · skip
    refine v_aload_n C 0 dX6_image_13 rfl ?_
    refine v_get C (v := .int (b2 it)) fl_X6_image_129 0 rfl rfl dX6_image_14 ?_
    refine v_if_neB C 23 dX6_image_17 (by decide) (fun c2 => ?_) (fun c2 => ?_)
    · exact hno.elim (fun q => absurd (q.symm.trans ((inI_01 x).symm.trans c1)) (by decide)) (fun q => absurd (q.symm.trans c2) (by decide))
    · skip
      refine v_ldc C (v := -1000002) (by decide +kernel) dX6_image_20 ?_
      exact v_iret C E (rfl) (by first | rfl | (simp only [← inI_01, c1, c2, ↓reduceIte, Bool.false_eq_true, reduceCtorEq, Bool.and_true, Bool.true_and, Bool.and_false, Bool.false_and]; done) | (simp [← inI_01, c1, c2]; done) | (simp_all [← inI_01]; done)) dX6_image_22
  · skip
    refine v_ldc C (v := -1000001) (by decide +kernel) dX6_image_10 ?_
    exact v_iret C E (rfl) (by first | rfl | (simp only [← inI_01, c1, ↓reduceIte, Bool.false_eq_true, reduceCtorEq, Bool.and_true, Bool.true_and, Bool.and_false, Bool.false_and]; done) | (simp [← inI_01, c1]; done) | (simp_all [← inI_01]; done)) dX6_image_12
theorem fl_X6_image_34 : FL RX6 wsX6_image RX6 RX6 TX6 22 6 18 34 := ⟨⟨in_X6_image_X6, rfl, by decide, rfl⟩, by decide +kernel⟩
theorem fl_X6_image_38 : FL RX6 wsX6_image RX6 RX6 TX6 22 6 19 38 := ⟨⟨in_X6_image_X6, rfl, by decide, rfl⟩, by decide +kernel⟩
theorem fl_X6_image_19 : FL RX6 wsX6_image RX6 RX6 TX6 22 6 5 19 := ⟨⟨in_X6_image_X6, rfl, by decide, rfl⟩, by decide +kernel⟩
set_option maxHeartbeats 4000000 in
set_option maxRecDepth 100000 in
theorem c_mimageOk (l : Launch) (D : va_G) (cs : Nat → ClassId) {mo : Nat} {ml : Nat} {mz : Nat} {mi : Nat} {mt : Nat} {mv : Nat} {mp : Nat} {md : Nat} {mc : Nat} {mk : Nat} {mq : Nat} {mr : Nat} {su : Int32} {nby : Int32} {lt : Int32} {pl : Int32} {tok : Int32} {va : Int32} {be : Int32} {wr : Int32} {am : Int32} {td : Int32} {tf : Nat → Int32} {zf : Nat → Int32} {qf : Nat → Int32} {j : Nat} (hj : j < 2) : CT l D (tz cs) yX6_image wsX6_image ({ frames := 1, cells := 0, slots := 0, locals := 25 }) [.ref mo, .int (nI j)] [(mo, .inr (6, [.ref ml, .ref mz, .ref mi, .int su, .int (b2 true), .ref mt, .ref mv, .ref mp, .int nby, .int lt, .int pl, .int tok, .int va, .int be, .int wr, .ref md, .ref mc, .int am, .ref mk, .ref mq, .ref mr, .int td])), (mt, .inl (cs 0, 29, .inl tf)), (mk, .inl (cs 1, 2, .inl zf)), (mq, .inl (cs 0, 58, .inl qf))] (some (.int 1)) [(mo, .inr (6, [.ref ml, .ref mz, .ref mi, .int su, .int (b2 true), .ref mt, .ref mv, .ref mp, .int nby, .int lt, .int pl, .int tok, .int va, .int be, .int wr, .ref md, .ref mc, .int am, .ref mk, .ref mq, .ref mr, .int td])), (mt, .inl (cs 0, 29, .inl tf)), (mk, .inl (cs 1, 2, .inl (upd zf j 1))), (mq, .inl (cs 0, 58, .inl (mvF qf tf (29 * j) 0 29)))] := by
  refine CT.of kX6_image (Nat.le_of_ble_eq_true rfl) ?_
  intro p e s m below meth c A C E
  have C : VOk p s m _ c cX6_image 3 wsX6_image RX6 D (tz cs) A s.heap := C
  refine V.lvs (lv' := [(0, .ref mo), (1, .int (nI j))]) [0, 1] rfl ?_
  refine v_iload_n C 1 dX6_image_0 rfl ?_
  refine v_i2l C dX6_image_1 ?_
  refine v_lconst C (v := 0) dX6_image_2 (by decide) ?_
  refine v_lconst C (v := 1) dX6_image_3 (by decide) ?_
  refine v_callS C [.long (Int32.toInt64 (nI j)), .long 0, .long 1] [] kX6_in gX6_image_X6_in (c_inI l D cs (x := (nI j)) (a := 0) (b := 1) (lo := 0) (hi := 1) (by decide) (by decide)) ⟨Nat.le_of_ble_eq_true rfl, Nat.le_of_ble_eq_true rfl⟩ ⟨rfl, rfl⟩ ⟨Nat.zero_le _, Nat.zero_le _⟩ rfl rfl (Nat.le_of_ble_eq_true rfl) [] [(mo, .inr (6, [.ref ml, .ref mz, .ref mi, .int su, .int (b2 true), .ref mt, .ref mv, .ref mp, .int nby, .int lt, .int pl, .int tok, .int va, .int be, .int wr, .ref md, .ref mc, .int am, .ref mk, .ref mq, .ref mr, .int td])), (mt, .inl (cs 0, 29, .inl tf)), (mk, .inl (cs 1, 2, .inl zf)), (mq, .inl (cs 0, 58, .inl qf))] rfl (by decide) rfl (rfl) dX6_image_4 ?_
  refine V.sts (st' := [.int (b2 (inI (nI j) 0 1))]) rfl ?_
  refine v_if_neB C 13 dX6_image_7 (by decide) (fun c1 => ?_) (fun c1 => ?_)
  · skip
    refine v_aload_n C 0 dX6_image_13 rfl ?_
    refine v_get C (v := .int (b2 true)) fl_X6_image_129 0 rfl rfl dX6_image_14 ?_
    refine v_if_neB C 23 dX6_image_17 (by decide) (fun c2 => ?_) (fun c2 => ?_)
    · skip
      refine v_iconst C (v := 0) dX6_image_23 (by decide) ?_
      refine v_istore_n C [(0, .ref mo), (1, .int (nI j)), (2, .int 0)] [1, 2, 0] dX6_image_24 (by decide) rfl ?_
      have L25 : ∀ (n : Nat) (i : Nat) (y0 : Int32) (y1 : Nat → Int32), y0 = (nI i) → y1 = mvF qf tf (29 * j) 0 i → (i ≤ 29) → (29 - i) < n → V p l e ({ frames := 1, cells := 0, slots := 0, locals := 25 }) s m (List.toArray [.ref mo, .int (nI j)]) below meth c 0 0 (MQ below (vq_Q (some (.int 1)) D [(mo, .inr (6, [.ref ml, .ref mz, .ref mi, .int su, .int (b2 true), .ref mt, .ref mv, .ref mp, .int nby, .int lt, .int pl, .int tok, .int va, .int be, .int wr, .ref md, .ref mc, .int am, .ref mk, .ref mq, .ref mr, .int td])), (mt, .inl (cs 0, 29, .inl tf)), (mk, .inl (cs 1, 2, .inl (upd zf j 1))), (mq, .inl (cs 0, 58, .inl (mvF qf tf (29 * j) 0 29)))] [(mo, .inr (6, [.ref ml, .ref mz, .ref mi, .int su, .int (b2 true), .ref mt, .ref mv, .ref mp, .int nby, .int lt, .int pl, .int tok, .int va, .int be, .int wr, .ref md, .ref mc, .int am, .ref mk, .ref mq, .ref mr, .int td])), (mt, .inl (cs 0, 29, .inl tf)), (mk, .inl (cs 1, 2, .inl zf)), (mq, .inl (cs 0, 58, .inl qf))] s.heap.size) (List.toArray [.ref mo, .int (nI j)]) s 0 0 (va_A [(mo, .inr (6, [.ref ml, .ref mz, .ref mi, .int su, .int (b2 true), .ref mt, .ref mv, .ref mp, .int nby, .int lt, .int pl, .int tok, .int va, .int be, .int wr, .ref md, .ref mc, .int am, .ref mk, .ref mq, .ref mr, .int td])), (mt, .inl (cs 0, 29, .inl tf)), (mk, .inl (cs 1, 2, .inl zf)), (mq, .inl (cs 0, 58, .inl qf))] s.heap.size)) 3 D A s.heap 25 [(0, .ref mo), (1, .int (nI j)), (2, .int y0)] [] [(mo, .inr (6, [.ref ml, .ref mz, .ref mi, .int su, .int (b2 true), .ref mt, .ref mv, .ref mp, .int nby, .int lt, .int pl, .int tok, .int va, .int be, .int wr, .ref md, .ref mc, .int am, .ref mk, .ref mq, .ref mr, .int td])), (mt, .inl (cs 0, 29, .inl tf)), (mk, .inl (cs 1, 2, .inl zf)), (mq, .inl (cs 0, 58, .inl y1))] := by
        intro n
        induction n with
        | zero =>
          intros; omega
        | succ n ih25 =>
          intro i y0 y1 ey0 ey1 hi hn
          subst ey0
          subst ey1
          refine v_iload_n C 2 dX6_image_25 rfl ?_
          refine v_bipush C (v := 29) dX6_image_26 (by decide) ?_
          refine v_icmp_ge C 54 dX6_image_28 (by decide) (fun c3 => ?_) (fun c3 => ?_)
          · skip
            have hge : 29 ≤ i := le_nI (a := 29) (b := i) c3 (by omega) (by omega)
            refine v_aload_n C 0 dX6_image_54 rfl ?_
            refine v_get C (v := .ref mk) fl_X6_image_34 0 rfl rfl dX6_image_55 ?_
            refine v_iload_n C 1 dX6_image_58 rfl ?_
            refine v_iconst C (v := 1) dX6_image_59 (by decide) ?_
            refine v_zast C 2 1 rfl rfl (vp_in_nI (by omega) (by omega)) [(mo, .inr (6, [.ref ml, .ref mz, .ref mi, .int su, .int (b2 true), .ref mt, .ref mv, .ref mp, .int nby, .int lt, .int pl, .int tok, .int va, .int be, .int wr, .ref md, .ref mc, .int am, .ref mk, .ref mq, .ref mr, .int td])), (mt, .inl (cs 0, 29, .inl tf)), (mk, .inl (cs 1, 2, .inl (upd zf j 1))), (mq, .inl (cs 0, 58, .inl (mvF qf tf (29 * j) 0 i)))] (by rw [nI_clamp (by omega)]; rfl) dX6_image_60 ?_
            refine v_iconst C (v := 1) dX6_image_61 (by decide) ?_
            exact v_iret C E (by rw [show i = 29 by omega]) (by first | rfl | (simp [hj, c1, c2, hi, c3, ↓reduceIte]; done) | (simp_all [b2]; done)) dX6_image_62
          · skip
            have hlt : i < 29 := nle_nI (b := i) (a := 29) c3 (by omega) (by omega)
            refine v_aload_n C 0 dX6_image_31 rfl ?_
            refine v_get C (v := .ref mq) fl_X6_image_38 0 rfl rfl dX6_image_32 ?_
            refine v_bipush C (v := 29) dX6_image_35 (by decide) ?_
            refine v_iload_n C 1 dX6_image_37 rfl ?_
            refine v_imul C dX6_image_38 ?_
            refine v_iload_n C 2 dX6_image_39 rfl ?_
            refine v_iadd C dX6_image_40 ?_
            refine V.topr (y := nI (29 * j + i)) (ix29 _ _) ?_
            refine v_aload_n C 0 dX6_image_41 rfl ?_
            refine v_get C (v := .ref mt) fl_X6_image_19 0 rfl rfl dX6_image_42 ?_
            refine v_iload_n C 2 dX6_image_45 rfl ?_
            refine v_iald C 1 0 rfl rfl (tf i) (by rw [nI_clamp (by omega)]) (vp_in_nI (by omega) (by omega)) dX6_image_46 ?_
            refine v_iast C 3 0 rfl rfl (vp_in_nI (by omega) (by omega)) [(mo, .inr (6, [.ref ml, .ref mz, .ref mi, .int su, .int (b2 true), .ref mt, .ref mv, .ref mp, .int nby, .int lt, .int pl, .int tok, .int va, .int be, .int wr, .ref md, .ref mc, .int am, .ref mk, .ref mq, .ref mr, .int td])), (mt, .inl (cs 0, 29, .inl tf)), (mk, .inl (cs 1, 2, .inl zf)), (mq, .inl (cs 0, 58, .inl (upd (mvF qf tf (29 * j) 0 i) (29 * j + i) (tf i))))] (by rw [nI_clamp (by omega)]; rfl) dX6_image_47 ?_
            refine v_iinc C (k := 2) (nI (i + 1)) [(0, .ref mo), (1, .int (nI j)), (2, .int (nI (i + 1)))] [1, 2, 0] dX6_image_48 rfl (nI_inc _) (by decide) rfl ?_
            refine v_goto C 25 dX6_image_51 (by decide) ?_
            exact ih25 (i + 1) _ _ (rfl) (by have h9 := mvF_s qf tf (29 * j) 0 i; rw [Nat.zero_add] at h9; exact h9) (by first | assumption | omega) (by omega)
      exact L25 _ 0 _ _ (rfl) (mvF_0 _ _ _ _) (by first | assumption | omega) (Nat.lt_succ_self _)
    · exact absurd c2 (by decide)
  · exact absurd c1 (by rw [show inI (nI j) 0 1 = true from inI_t (a := 0) (b := 1) (by omega) (by omega) (by decide)]; decide)
theorem kX6_restore : KD yX6_restore wsX6_restore cX6_restore 3 (some .int) 1 := ⟨⟨_, rfl⟩, by decide, by decide +kernel, by decide +kernel, by decide +kernel⟩
theorem in_X6_restore_X6 : ∀ w ∈ wsX60, w ∈ wsX6_restore := by decide +kernel
theorem fl_X6_restore_34 : FL RX6 wsX6_restore RX6 RX6 TX6 22 6 18 34 := ⟨⟨in_X6_restore_X6, rfl, by decide, rfl⟩, by decide +kernel⟩
set_option maxHeartbeats 4000000 in
set_option maxRecDepth 100000 in
theorem c_mrestoreNo (l : Launch) (D : va_G) (cs : Nat → ClassId) {mo : Nat} {ml : Nat} {mz : Nat} {mi : Nat} {mt : Nat} {mv : Nat} {mp : Nat} {md : Nat} {mc : Nat} {mk : Nat} {mq : Nat} {mr : Nat} {su : Int32} {it : Bool} {nby : Int32} {lt : Int32} {pl : Int32} {tok : Int32} {va : Int32} {be : Int32} {wr : Int32} {am : Int32} {td : Int32} {zf : Nat → Int32} {j : Nat} (hj : j < 2) (hz : zf j = 0) : CT l D (tz cs) yX6_restore wsX6_restore ({ frames := 1, cells := 0, slots := 0, locals := 25 }) [.ref mo, .int (nI j)] [(mo, .inr (6, [.ref ml, .ref mz, .ref mi, .int su, .int (b2 it), .ref mt, .ref mv, .ref mp, .int nby, .int lt, .int pl, .int tok, .int va, .int be, .int wr, .ref md, .ref mc, .int am, .ref mk, .ref mq, .ref mr, .int td])), (mk, .inl (cs 1, 2, .inl zf))] (some (.int (-1000002))) [(mo, .inr (6, [.ref ml, .ref mz, .ref mi, .int su, .int (b2 it), .ref mt, .ref mv, .ref mp, .int nby, .int lt, .int pl, .int tok, .int va, .int be, .int wr, .ref md, .ref mc, .int am, .ref mk, .ref mq, .ref mr, .int td])), (mk, .inl (cs 1, 2, .inl zf))] := by
  refine CT.of kX6_restore (Nat.le_of_ble_eq_true rfl) ?_
  intro p e s m below meth c A C E
  have C : VOk p s m _ c cX6_restore 3 wsX6_restore RX6 D (tz cs) A s.heap := C
  refine V.lvs (lv' := [(0, .ref mo), (1, .int (nI j))]) [0, 1] rfl ?_
  refine v_iload_n C 1 dX6_restore_0 rfl ?_
  refine v_i2l C dX6_restore_1 ?_
  refine v_lconst C (v := 0) dX6_restore_2 (by decide) ?_
  refine v_lconst C (v := 1) dX6_restore_3 (by decide) ?_
  refine v_callS C [.long (Int32.toInt64 (nI j)), .long 0, .long 1] [] kX6_in gX6_restore_X6_in (c_inI l D cs (x := (nI j)) (a := 0) (b := 1) (lo := 0) (hi := 1) (by decide) (by decide)) ⟨Nat.le_of_ble_eq_true rfl, Nat.le_of_ble_eq_true rfl⟩ ⟨rfl, rfl⟩ ⟨Nat.zero_le _, Nat.zero_le _⟩ rfl rfl (Nat.le_of_ble_eq_true rfl) [] [(mo, .inr (6, [.ref ml, .ref mz, .ref mi, .int su, .int (b2 it), .ref mt, .ref mv, .ref mp, .int nby, .int lt, .int pl, .int tok, .int va, .int be, .int wr, .ref md, .ref mc, .int am, .ref mk, .ref mq, .ref mr, .int td])), (mk, .inl (cs 1, 2, .inl zf))] rfl (by decide) rfl (rfl) dX6_restore_4 ?_
  refine V.sts (st' := [.int (b2 (inI (nI j) 0 1))]) rfl ?_
  refine v_if_neB C 13 dX6_restore_7 (by decide) (fun c1 => ?_) (fun c1 => ?_)
  · skip
    refine v_aload_n C 0 dX6_restore_13 rfl ?_
    refine v_get C (v := .ref mk) fl_X6_restore_34 0 rfl rfl dX6_restore_14 ?_
    refine v_iload_n C 1 dX6_restore_17 rfl ?_
    refine v_zald C 1 1 rfl rfl (zf j) (by rw [nI_clamp (by omega)]) (vp_in_nI (by omega) (by omega)) dX6_restore_18 ?_
    refine v_if_ne C 25 dX6_restore_19 (by decide) (fun c2 => ?_) (fun c2 => ?_)
    · exact absurd hz c2
    · skip
      refine v_ldc C (v := -1000002) (by decide +kernel) dX6_restore_22 ?_
      exact v_iret C E (rfl) (by first | rfl | (simp [hj, hz, c1, c2, ↓reduceIte]; done) | (simp_all [b2]; done)) dX6_restore_24
  · exact absurd c1 (by rw [show inI (nI j) 0 1 = true from inI_t (a := 0) (b := 1) (by omega) (by omega) (by decide)]; decide)
set_option maxHeartbeats 4000000 in
set_option maxRecDepth 100000 in
theorem c_mrestoreOut (l : Launch) (D : va_G) (cs : Nat → ClassId) {mo : Nat} {ml : Nat} {mz : Nat} {mi : Nat} {mt : Nat} {mv : Nat} {mp : Nat} {md : Nat} {mc : Nat} {mk : Nat} {mq : Nat} {mr : Nat} {su : Int32} {it : Bool} {nby : Int32} {lt : Int32} {pl : Int32} {tok : Int32} {va : Int32} {be : Int32} {wr : Int32} {am : Int32} {td : Int32} {x : Int32} (hx : zo x = false) : CT l D (tz cs) yX6_restore wsX6_restore ({ frames := 1, cells := 0, slots := 0, locals := 25 }) [.ref mo, .int x] [(mo, .inr (6, [.ref ml, .ref mz, .ref mi, .int su, .int (b2 it), .ref mt, .ref mv, .ref mp, .int nby, .int lt, .int pl, .int tok, .int va, .int be, .int wr, .ref md, .ref mc, .int am, .ref mk, .ref mq, .ref mr, .int td]))] (some (.int (-1000001))) [(mo, .inr (6, [.ref ml, .ref mz, .ref mi, .int su, .int (b2 it), .ref mt, .ref mv, .ref mp, .int nby, .int lt, .int pl, .int tok, .int va, .int be, .int wr, .ref md, .ref mc, .int am, .ref mk, .ref mq, .ref mr, .int td]))] := by
  refine CT.of kX6_restore (Nat.le_of_ble_eq_true rfl) ?_
  intro p e s m below meth c A C E
  have C : VOk p s m _ c cX6_restore 3 wsX6_restore RX6 D (tz cs) A s.heap := C
  refine V.lvs (lv' := [(0, .ref mo), (1, .int x)]) [0, 1] rfl ?_
  refine v_iload_n C 1 dX6_restore_0 rfl ?_
  refine v_i2l C dX6_restore_1 ?_
  refine v_lconst C (v := 0) dX6_restore_2 (by decide) ?_
  refine v_lconst C (v := 1) dX6_restore_3 (by decide) ?_
  refine v_callS C [.long (Int32.toInt64 x), .long 0, .long 1] [] kX6_in gX6_restore_X6_in (c_inI l D cs (x := x) (a := 0) (b := 1) (lo := 0) (hi := 1) (by decide) (by decide)) ⟨Nat.le_of_ble_eq_true rfl, Nat.le_of_ble_eq_true rfl⟩ ⟨rfl, rfl⟩ ⟨Nat.zero_le _, Nat.zero_le _⟩ rfl rfl (Nat.le_of_ble_eq_true rfl) [] [(mo, .inr (6, [.ref ml, .ref mz, .ref mi, .int su, .int (b2 it), .ref mt, .ref mv, .ref mp, .int nby, .int lt, .int pl, .int tok, .int va, .int be, .int wr, .ref md, .ref mc, .int am, .ref mk, .ref mq, .ref mr, .int td]))] rfl (by decide) rfl (rfl) dX6_restore_4 ?_
  refine V.sts (st' := [.int (b2 (inI x 0 1))]) rfl ?_
  refine v_if_neB C 13 dX6_restore_7 (by decide) (fun c1 => ?_) (fun c1 => ?_)
  · exact absurd (hx.symm.trans ((inI_01 x).symm.trans c1)) (by decide)
  · skip
    refine v_ldc C (v := -1000001) (by decide +kernel) dX6_restore_10 ?_
    exact v_iret C E (rfl) (by first | rfl | (simp [hx, c1, ↓reduceIte]; done) | (simp_all [b2]; done)) dX6_restore_12
theorem fl_X6_restore_133 : FL RX6 wsX6_restore RX6 RX6 TX6 22 6 17 133 := ⟨⟨in_X6_restore_X6, rfl, by decide, rfl⟩, by decide +kernel⟩
theorem fl_X6_restore_19 : FL RX6 wsX6_restore RX6 RX6 TX6 22 6 5 19 := ⟨⟨in_X6_restore_X6, rfl, by decide, rfl⟩, by decide +kernel⟩
theorem fl_X6_restore_38 : FL RX6 wsX6_restore RX6 RX6 TX6 22 6 19 38 := ⟨⟨in_X6_restore_X6, rfl, by decide, rfl⟩, by decide +kernel⟩
set_option maxHeartbeats 4000000 in
set_option maxRecDepth 100000 in
theorem c_mrestoreOk (l : Launch) (D : va_G) (cs : Nat → ClassId) {mo : Nat} {ml : Nat} {mz : Nat} {mi : Nat} {mt : Nat} {mv : Nat} {mp : Nat} {md : Nat} {mc : Nat} {mk : Nat} {mq : Nat} {mr : Nat} {su : Int32} {it : Bool} {nby : Int32} {lt : Int32} {pl : Int32} {tok : Int32} {va : Int32} {be : Int32} {wr : Int32} {am : Int32} {td : Int32} {tf : Nat → Int32} {zf : Nat → Int32} {qf : Nat → Int32} {j : Nat} (hj : j < 2) (hz : ¬ zf j = 0) : CT l D (tz cs) yX6_restore wsX6_restore ({ frames := 1, cells := 0, slots := 0, locals := 25 }) [.ref mo, .int (nI j)] [(mo, .inr (6, [.ref ml, .ref mz, .ref mi, .int su, .int (b2 it), .ref mt, .ref mv, .ref mp, .int nby, .int lt, .int pl, .int tok, .int va, .int be, .int wr, .ref md, .ref mc, .int am, .ref mk, .ref mq, .ref mr, .int td])), (mt, .inl (cs 0, 29, .inl tf)), (mk, .inl (cs 1, 2, .inl zf)), (mq, .inl (cs 0, 58, .inl qf))] (some (.int 1)) [(mo, .inr (6, [.ref ml, .ref mz, .ref mi, .int su, .int (b2 it), .ref mt, .ref mv, .ref mp, .int nby, .int lt, .int pl, .int tok, .int va, .int be, .int wr, .ref md, .ref mc, .int 0, .ref mk, .ref mq, .ref mr, .int td])), (mt, .inl (cs 0, 29, .inl (mvF tf qf 0 (29 * j) 29))), (mk, .inl (cs 1, 2, .inl zf)), (mq, .inl (cs 0, 58, .inl qf))] := by
  refine CT.of kX6_restore (Nat.le_of_ble_eq_true rfl) ?_
  intro p e s m below meth c A C E
  have C : VOk p s m _ c cX6_restore 3 wsX6_restore RX6 D (tz cs) A s.heap := C
  refine V.lvs (lv' := [(0, .ref mo), (1, .int (nI j))]) [0, 1] rfl ?_
  refine v_iload_n C 1 dX6_restore_0 rfl ?_
  refine v_i2l C dX6_restore_1 ?_
  refine v_lconst C (v := 0) dX6_restore_2 (by decide) ?_
  refine v_lconst C (v := 1) dX6_restore_3 (by decide) ?_
  refine v_callS C [.long (Int32.toInt64 (nI j)), .long 0, .long 1] [] kX6_in gX6_restore_X6_in (c_inI l D cs (x := (nI j)) (a := 0) (b := 1) (lo := 0) (hi := 1) (by decide) (by decide)) ⟨Nat.le_of_ble_eq_true rfl, Nat.le_of_ble_eq_true rfl⟩ ⟨rfl, rfl⟩ ⟨Nat.zero_le _, Nat.zero_le _⟩ rfl rfl (Nat.le_of_ble_eq_true rfl) [] [(mo, .inr (6, [.ref ml, .ref mz, .ref mi, .int su, .int (b2 it), .ref mt, .ref mv, .ref mp, .int nby, .int lt, .int pl, .int tok, .int va, .int be, .int wr, .ref md, .ref mc, .int am, .ref mk, .ref mq, .ref mr, .int td])), (mt, .inl (cs 0, 29, .inl tf)), (mk, .inl (cs 1, 2, .inl zf)), (mq, .inl (cs 0, 58, .inl qf))] rfl (by decide) rfl (rfl) dX6_restore_4 ?_
  refine V.sts (st' := [.int (b2 (inI (nI j) 0 1))]) rfl ?_
  refine v_if_neB C 13 dX6_restore_7 (by decide) (fun c1 => ?_) (fun c1 => ?_)
  · skip
    refine v_aload_n C 0 dX6_restore_13 rfl ?_
    refine v_get C (v := .ref mk) fl_X6_restore_34 0 rfl rfl dX6_restore_14 ?_
    refine v_iload_n C 1 dX6_restore_17 rfl ?_
    refine v_zald C 2 1 rfl rfl (zf j) (by rw [nI_clamp (by omega)]) (vp_in_nI (by omega) (by omega)) dX6_restore_18 ?_
    refine v_if_ne C 25 dX6_restore_19 (by decide) (fun c2 => ?_) (fun c2 => ?_)
    · skip
      refine v_iconst C (v := 0) dX6_restore_25 (by decide) ?_
      refine v_istore_n C [(0, .ref mo), (1, .int (nI j)), (2, .int 0)] [1, 2, 0] dX6_restore_26 (by decide) rfl ?_
      have L27 : ∀ (n : Nat) (i : Nat) (y0 : Int32) (y1 : Nat → Int32), y0 = (nI i) → y1 = mvF tf qf 0 (29 * j) i → (i ≤ 29) → (29 - i) < n → V p l e ({ frames := 1, cells := 0, slots := 0, locals := 25 }) s m (List.toArray [.ref mo, .int (nI j)]) below meth c 0 0 (MQ below (vq_Q (some (.int 1)) D [(mo, .inr (6, [.ref ml, .ref mz, .ref mi, .int su, .int (b2 it), .ref mt, .ref mv, .ref mp, .int nby, .int lt, .int pl, .int tok, .int va, .int be, .int wr, .ref md, .ref mc, .int 0, .ref mk, .ref mq, .ref mr, .int td])), (mt, .inl (cs 0, 29, .inl (mvF tf qf 0 (29 * j) 29))), (mk, .inl (cs 1, 2, .inl zf)), (mq, .inl (cs 0, 58, .inl qf))] [(mo, .inr (6, [.ref ml, .ref mz, .ref mi, .int su, .int (b2 it), .ref mt, .ref mv, .ref mp, .int nby, .int lt, .int pl, .int tok, .int va, .int be, .int wr, .ref md, .ref mc, .int am, .ref mk, .ref mq, .ref mr, .int td])), (mt, .inl (cs 0, 29, .inl tf)), (mk, .inl (cs 1, 2, .inl zf)), (mq, .inl (cs 0, 58, .inl qf))] s.heap.size) (List.toArray [.ref mo, .int (nI j)]) s 0 0 (va_A [(mo, .inr (6, [.ref ml, .ref mz, .ref mi, .int su, .int (b2 it), .ref mt, .ref mv, .ref mp, .int nby, .int lt, .int pl, .int tok, .int va, .int be, .int wr, .ref md, .ref mc, .int am, .ref mk, .ref mq, .ref mr, .int td])), (mt, .inl (cs 0, 29, .inl tf)), (mk, .inl (cs 1, 2, .inl zf)), (mq, .inl (cs 0, 58, .inl qf))] s.heap.size)) 3 D A s.heap 27 [(0, .ref mo), (1, .int (nI j)), (2, .int y0)] [] [(mo, .inr (6, [.ref ml, .ref mz, .ref mi, .int su, .int (b2 it), .ref mt, .ref mv, .ref mp, .int nby, .int lt, .int pl, .int tok, .int va, .int be, .int wr, .ref md, .ref mc, .int am, .ref mk, .ref mq, .ref mr, .int td])), (mt, .inl (cs 0, 29, .inl y1)), (mk, .inl (cs 1, 2, .inl zf)), (mq, .inl (cs 0, 58, .inl qf))] := by
        intro n
        induction n with
        | zero =>
          intros; omega
        | succ n ih27 =>
          intro i y0 y1 ey0 ey1 hi hn
          subst ey0
          subst ey1
          refine v_iload_n C 2 dX6_restore_27 rfl ?_
          refine v_bipush C (v := 29) dX6_restore_28 (by decide) ?_
          refine v_icmp_ge C 56 dX6_restore_30 (by decide) (fun c3 => ?_) (fun c3 => ?_)
          · skip
            have hge : 29 ≤ i := le_nI (a := 29) (b := i) c3 (by omega) (by omega)
            refine v_aload_n C 0 dX6_restore_56 rfl ?_
            refine v_iconst C (v := 0) dX6_restore_57 (by decide) ?_
            refine v_put C fl_X6_restore_133 fp_X6_17 0 rfl rfl rfl (Nat.le_of_ble_eq_true rfl) [(mo, .inr (6, [.ref ml, .ref mz, .ref mi, .int su, .int (b2 it), .ref mt, .ref mv, .ref mp, .int nby, .int lt, .int pl, .int tok, .int va, .int be, .int wr, .ref md, .ref mc, .int 0, .ref mk, .ref mq, .ref mr, .int td])), (mt, .inl (cs 0, 29, .inl (mvF tf qf 0 (29 * j) i))), (mk, .inl (cs 1, 2, .inl zf)), (mq, .inl (cs 0, 58, .inl qf))] rfl dX6_restore_58 ?_
            refine v_iconst C (v := 1) dX6_restore_61 (by decide) ?_
            exact v_iret C E (by rw [show i = 29 by omega]) (by first | rfl | (simp [hj, hz, c1, c2, hi, c3, ↓reduceIte]; done) | (simp_all [b2]; done)) dX6_restore_62
          · skip
            have hlt : i < 29 := nle_nI (b := i) (a := 29) c3 (by omega) (by omega)
            refine v_aload_n C 0 dX6_restore_33 rfl ?_
            refine v_get C (v := .ref mt) fl_X6_restore_19 0 rfl rfl dX6_restore_34 ?_
            refine v_iload_n C 2 dX6_restore_37 rfl ?_
            refine v_aload_n C 0 dX6_restore_38 rfl ?_
            refine v_get C (v := .ref mq) fl_X6_restore_38 0 rfl rfl dX6_restore_39 ?_
            refine v_bipush C (v := 29) dX6_restore_42 (by decide) ?_
            refine v_iload_n C 1 dX6_restore_44 rfl ?_
            refine v_imul C dX6_restore_45 ?_
            refine v_iload_n C 2 dX6_restore_46 rfl ?_
            refine v_iadd C dX6_restore_47 ?_
            refine V.topr (y := nI (29 * j + i)) (ix29 _ _) ?_
            refine v_iald C 3 0 rfl rfl (qf (29 * j + i)) (by rw [nI_clamp (by omega)]) (vp_in_nI (by omega) (by omega)) dX6_restore_48 ?_
            refine v_iast C 1 0 rfl rfl (vp_in_nI (by omega) (by omega)) [(mo, .inr (6, [.ref ml, .ref mz, .ref mi, .int su, .int (b2 it), .ref mt, .ref mv, .ref mp, .int nby, .int lt, .int pl, .int tok, .int va, .int be, .int wr, .ref md, .ref mc, .int am, .ref mk, .ref mq, .ref mr, .int td])), (mt, .inl (cs 0, 29, .inl (upd (mvF tf qf 0 (29 * j) i) i (qf (29 * j + i))))), (mk, .inl (cs 1, 2, .inl zf)), (mq, .inl (cs 0, 58, .inl qf))] (by rw [nI_clamp (by omega)]; rfl) dX6_restore_49 ?_
            refine v_iinc C (k := 2) (nI (i + 1)) [(0, .ref mo), (1, .int (nI j)), (2, .int (nI (i + 1)))] [1, 2, 0] dX6_restore_50 rfl (nI_inc _) (by decide) rfl ?_
            refine v_goto C 27 dX6_restore_53 (by decide) ?_
            exact ih27 (i + 1) _ _ (rfl) (by have h9 := mvF_s tf qf 0 (29 * j) i; rw [Nat.zero_add] at h9; exact h9) (by first | assumption | omega) (by omega)
      exact L27 _ 0 _ _ (rfl) (mvF_0 _ _ _ _) (by first | assumption | omega) (Nat.lt_succ_self _)
    · exact absurd c2 hz
  · exact absurd c1 (by rw [show inI (nI j) 0 1 = true from inI_t (a := 0) (b := 1) (by omega) (by omega) (by decide)]; decide)
theorem kX6_count : KD yX6_count wsX6_count cX6_count 4 (some .int) 1 := ⟨⟨_, rfl⟩, by decide, by decide +kernel, by decide +kernel, by decide +kernel⟩
theorem in_X6_count_X6 : ∀ w ∈ wsX60, w ∈ wsX6_count := by decide +kernel
theorem fl_X6_count_19 : FL RX6 wsX6_count RX6 RX6 TX6 22 6 5 19 := ⟨⟨in_X6_count_X6, rfl, by decide, rfl⟩, by decide +kernel⟩
theorem fl_X6_count_133 : FL RX6 wsX6_count RX6 RX6 TX6 22 6 17 133 := ⟨⟨in_X6_count_X6, rfl, by decide, rfl⟩, by decide +kernel⟩
theorem fl_X6_count_75 : FL RX6 wsX6_count RX6 RX6 TX6 22 6 8 75 := ⟨⟨in_X6_count_X6, rfl, by decide, rfl⟩, by decide +kernel⟩
theorem fl_X6_count_13 : FL RX6 wsX6_count RX6 RX6 TX6 22 6 1 13 := ⟨⟨in_X6_count_X6, rfl, by decide, rfl⟩, by decide +kernel⟩
set_option maxHeartbeats 4000000 in
set_option maxRecDepth 100000 in
theorem c_mcount (l : Launch) (D : va_G) (cs : Nat → ClassId) {mo : Nat} {ml : Nat} {mz : Nat} {mi : Nat} {mt : Nat} {mv : Nat} {mp : Nat} {md : Nat} {mc : Nat} {mk : Nat} {mq : Nat} {mr : Nat} {su : Int32} {it : Bool} {nby : Int32} {lt : Int32} {pl : Int32} {tok : Int32} {va : Int32} {be : Int32} {wr : Int32} {am : Int32} {td : Int32} {tf : Nat → Int32} {szf : Nat → Int32} {x : Int32} (hx : s64 (tf 4)) : CT l D (tz cs) yX6_count wsX6_count ({ frames := 1, cells := 0, slots := 0, locals := 22 }) [.ref mo, .int x] [(mo, .inr (6, [.ref ml, .ref mz, .ref mi, .int su, .int (b2 it), .ref mt, .ref mv, .ref mp, .int nby, .int lt, .int pl, .int tok, .int va, .int be, .int wr, .ref md, .ref mc, .int am, .ref mk, .ref mq, .ref mr, .int td])), (mz, .inl (cs 0, 8, .inl szf)), (mt, .inl (cs 0, 29, .inl tf))] (some (.int (if x = 0 then nI (cntS (fun r => !decide (szf r < 0)) 8) else if x = 1 then tf 0 else if x = 2 then tf 1 else if x = 3 then tf 2 else if x = 4 then pcI (tf 4) else if x = 5 then am else if x = 6 then nby else -1000001))) [(mo, .inr (6, [.ref ml, .ref mz, .ref mi, .int su, .int (b2 it), .ref mt, .ref mv, .ref mp, .int nby, .int lt, .int pl, .int tok, .int va, .int be, .int wr, .ref md, .ref mc, .int am, .ref mk, .ref mq, .ref mr, .int td])), (mz, .inl (cs 0, 8, .inl szf)), (mt, .inl (cs 0, 29, .inl tf))] := by
  refine CT.of kX6_count (Nat.le_of_ble_eq_true rfl) ?_
  intro p e s m below meth c A C E
  have C : VOk p s m _ c cX6_count 4 wsX6_count RX6 D (tz cs) A s.heap := C
  refine V.lvs (lv' := [(0, .ref mo), (1, .int x)]) [0, 1] rfl ?_
  refine v_iconst C (v := 0) dX6_count_0 (by decide) ?_
  refine v_istore_n C [(0, .ref mo), (1, .int x), (2, .int 0)] [1, 2, 0] dX6_count_1 (by decide) rfl ?_
  refine v_iconst C (v := 0) dX6_count_2 (by decide) ?_
  refine v_istore_n C [(0, .ref mo), (1, .int x), (2, .int 0), (3, .int 0)] [1, 2, 3, 0] dX6_count_3 (by decide) rfl ?_
  have L4 : ∀ (n : Nat) (i : Nat) (y0 : Int32) (y1 : Int32), y0 = (nI (cntS (fun r => !decide (szf r < 0)) i)) → y1 = (nI i) → (i ≤ 8) → (8 - i) < n → V p l e ({ frames := 1, cells := 0, slots := 0, locals := 22 }) s m (List.toArray [.ref mo, .int x]) below meth c 0 0 (MQ below (vq_Q (some (.int (if x = 0 then nI (cntS (fun r => !decide (szf r < 0)) 8) else if x = 1 then tf 0 else if x = 2 then tf 1 else if x = 3 then tf 2 else if x = 4 then pcI (tf 4) else if x = 5 then am else if x = 6 then nby else -1000001))) D [(mo, .inr (6, [.ref ml, .ref mz, .ref mi, .int su, .int (b2 it), .ref mt, .ref mv, .ref mp, .int nby, .int lt, .int pl, .int tok, .int va, .int be, .int wr, .ref md, .ref mc, .int am, .ref mk, .ref mq, .ref mr, .int td])), (mz, .inl (cs 0, 8, .inl szf)), (mt, .inl (cs 0, 29, .inl tf))] [(mo, .inr (6, [.ref ml, .ref mz, .ref mi, .int su, .int (b2 it), .ref mt, .ref mv, .ref mp, .int nby, .int lt, .int pl, .int tok, .int va, .int be, .int wr, .ref md, .ref mc, .int am, .ref mk, .ref mq, .ref mr, .int td])), (mz, .inl (cs 0, 8, .inl szf)), (mt, .inl (cs 0, 29, .inl tf))] s.heap.size) (List.toArray [.ref mo, .int x]) s 0 0 (va_A [(mo, .inr (6, [.ref ml, .ref mz, .ref mi, .int su, .int (b2 it), .ref mt, .ref mv, .ref mp, .int nby, .int lt, .int pl, .int tok, .int va, .int be, .int wr, .ref md, .ref mc, .int am, .ref mk, .ref mq, .ref mr, .int td])), (mz, .inl (cs 0, 8, .inl szf)), (mt, .inl (cs 0, 29, .inl tf))] s.heap.size)) 4 D A s.heap 4 [(0, .ref mo), (1, .int x), (2, .int y0), (3, .int y1)] [] [(mo, .inr (6, [.ref ml, .ref mz, .ref mi, .int su, .int (b2 it), .ref mt, .ref mv, .ref mp, .int nby, .int lt, .int pl, .int tok, .int va, .int be, .int wr, .ref md, .ref mc, .int am, .ref mk, .ref mq, .ref mr, .int td])), (mz, .inl (cs 0, 8, .inl szf)), (mt, .inl (cs 0, 29, .inl tf))] := by
    intro n
    induction n with
    | zero =>
      intros; omega
    | succ n ih4 =>
      intro i y0 y1 ey0 ey1 hi hn
      subst ey0
      subst ey1
      refine v_iload_n C 3 dX6_count_4 rfl ?_
      refine v_bipush C (v := 8) dX6_count_5 (by decide) ?_
      refine v_icmp_ge C 33 dX6_count_7 (by decide) (fun c1 => ?_) (fun c1 => ?_)
      · skip
        have hge : 8 ≤ i := le_nI (a := 8) (b := i) c1 (by omega) (by omega)
        have h8 : i = 8 := by omega
        refine v_iload_n C 1 dX6_count_33 rfl ?_
        rcases Decidable.em (x = 0) with z2 | z2
        · skip
          refine v_tableIn C 76 dX6_count_34 (by rw [z2]; decide) (by rw [z2]; decide) (by rw [z2]; rfl) (by decide) ?_
          refine v_iload_n C 2 dX6_count_76 rfl ?_
          exact v_iret C E (rfl) (by first | rfl | (simp only [c1, Int32.not_lt.mpr c1, z2, h8, ↓reduceIte, Bool.false_eq_true, reduceCtorEq, Bool.and_true, Bool.true_and, Bool.and_false, Bool.false_and]; done) | (simp [c1, Int32.not_lt.mpr c1, z2, h8]; done) | (simp_all [b2]; done)) dX6_count_77
        · skip
          rcases Decidable.em (x = 1) with z3 | z3
          · skip
            refine v_tableIn C 78 dX6_count_34 (by rw [z3]; decide) (by rw [z3]; decide) (by rw [z3]; rfl) (by decide) ?_
            refine v_aload_n C 0 dX6_count_78 rfl ?_
            refine v_get C (v := .ref mt) fl_X6_count_19 0 rfl rfl dX6_count_79 ?_
            refine v_iconst C (v := 0) dX6_count_82 (by decide) ?_
            refine v_iald C 2 0 rfl rfl (tf 0) (rfl) (vp_in_nI (n := 0) (N := 29) (by decide) (by decide)) dX6_count_83 ?_
            exact v_iret C E (rfl) (by first | rfl | (simp only [c1, Int32.not_lt.mpr c1, z2, z3, h8, ↓reduceIte, Bool.false_eq_true, reduceCtorEq, Bool.and_true, Bool.true_and, Bool.and_false, Bool.false_and]; done) | (simp [c1, Int32.not_lt.mpr c1, z2, z3, h8]; done) | (simp_all [b2]; done)) dX6_count_84
          · skip
            rcases Decidable.em (x = 2) with z4 | z4
            · skip
              refine v_tableIn C 85 dX6_count_34 (by rw [z4]; decide) (by rw [z4]; decide) (by rw [z4]; rfl) (by decide) ?_
              refine v_aload_n C 0 dX6_count_85 rfl ?_
              refine v_get C (v := .ref mt) fl_X6_count_19 0 rfl rfl dX6_count_86 ?_
              refine v_iconst C (v := 1) dX6_count_89 (by decide) ?_
              refine v_iald C 2 0 rfl rfl (tf 1) (rfl) (vp_in_nI (n := 1) (N := 29) (by decide) (by decide)) dX6_count_90 ?_
              exact v_iret C E (rfl) (by first | rfl | (simp only [c1, Int32.not_lt.mpr c1, z2, z3, z4, h8, ↓reduceIte, Bool.false_eq_true, reduceCtorEq, Bool.and_true, Bool.true_and, Bool.and_false, Bool.false_and]; done) | (simp [c1, Int32.not_lt.mpr c1, z2, z3, z4, h8]; done) | (simp_all [b2]; done)) dX6_count_91
            · skip
              rcases Decidable.em (x = 3) with z5 | z5
              · skip
                refine v_tableIn C 92 dX6_count_34 (by rw [z5]; decide) (by rw [z5]; decide) (by rw [z5]; rfl) (by decide) ?_
                refine v_aload_n C 0 dX6_count_92 rfl ?_
                refine v_get C (v := .ref mt) fl_X6_count_19 0 rfl rfl dX6_count_93 ?_
                refine v_iconst C (v := 2) dX6_count_96 (by decide) ?_
                refine v_iald C 2 0 rfl rfl (tf 2) (rfl) (vp_in_nI (n := 2) (N := 29) (by decide) (by decide)) dX6_count_97 ?_
                exact v_iret C E (rfl) (by first | rfl | (simp only [c1, Int32.not_lt.mpr c1, z2, z3, z4, z5, h8, ↓reduceIte, Bool.false_eq_true, reduceCtorEq, Bool.and_true, Bool.true_and, Bool.and_false, Bool.false_and]; done) | (simp [c1, Int32.not_lt.mpr c1, z2, z3, z4, z5, h8]; done) | (simp_all [b2]; done)) dX6_count_98
              · skip
                rcases Decidable.em (x = 4) with z6 | z6
                · skip
                  refine v_tableIn C 99 dX6_count_34 (by rw [z6]; decide) (by rw [z6]; decide) (by rw [z6]; rfl) (by decide) ?_
                  refine v_aload_n C 0 dX6_count_99 rfl ?_
                  refine v_get C (v := .ref mt) fl_X6_count_19 0 rfl rfl dX6_count_100 ?_
                  refine v_iconst C (v := 4) dX6_count_103 (by decide) ?_
                  refine v_iald C 2 0 rfl rfl (tf 4) (rfl) (vp_in_nI (n := 4) (N := 29) (by decide) (by decide)) dX6_count_104 ?_
                  refine v_callS C [.int (tf 4)] [] kX6_ones gX6_count_X6_ones (c_ones l D cs (x := tf 4) (by first | assumption | omega)) ⟨Nat.le_of_ble_eq_true rfl, Nat.le_of_ble_eq_true rfl⟩ ⟨rfl, rfl⟩ ⟨Nat.zero_le _, Nat.zero_le _⟩ rfl rfl (Nat.le_of_ble_eq_true rfl) [] [(mo, .inr (6, [.ref ml, .ref mz, .ref mi, .int su, .int (b2 it), .ref mt, .ref mv, .ref mp, .int nby, .int lt, .int pl, .int tok, .int va, .int be, .int wr, .ref md, .ref mc, .int am, .ref mk, .ref mq, .ref mr, .int td])), (mz, .inl (cs 0, 8, .inl szf)), (mt, .inl (cs 0, 29, .inl tf))] rfl (by decide) rfl (rfl) dX6_count_105 ?_
                  refine V.sts (st' := [.int (pcI (tf 4))]) rfl ?_
                  exact v_iret C E (rfl) (by first | rfl | (simp only [c1, Int32.not_lt.mpr c1, z2, z3, z4, z5, z6, h8, ↓reduceIte, Bool.false_eq_true, reduceCtorEq, Bool.and_true, Bool.true_and, Bool.and_false, Bool.false_and]; done) | (simp [c1, Int32.not_lt.mpr c1, z2, z3, z4, z5, z6, h8]; done) | (simp_all [b2]; done)) dX6_count_108
                · skip
                  rcases Decidable.em (x = 5) with z7 | z7
                  · skip
                    refine v_tableIn C 109 dX6_count_34 (by rw [z7]; decide) (by rw [z7]; decide) (by rw [z7]; rfl) (by decide) ?_
                    refine v_aload_n C 0 dX6_count_109 rfl ?_
                    refine v_get C (v := .int am) fl_X6_count_133 0 rfl rfl dX6_count_110 ?_
                    exact v_iret C E (rfl) (by first | rfl | (simp only [c1, Int32.not_lt.mpr c1, z2, z3, z4, z5, z6, z7, h8, ↓reduceIte, Bool.false_eq_true, reduceCtorEq, Bool.and_true, Bool.true_and, Bool.and_false, Bool.false_and]; done) | (simp [c1, Int32.not_lt.mpr c1, z2, z3, z4, z5, z6, z7, h8]; done) | (simp_all [b2]; done)) dX6_count_113
                  · skip
                    rcases Decidable.em (x = 6) with z8 | z8
                    · skip
                      refine v_tableIn C 114 dX6_count_34 (by rw [z8]; decide) (by rw [z8]; decide) (by rw [z8]; rfl) (by decide) ?_
                      refine v_aload_n C 0 dX6_count_114 rfl ?_
                      refine v_get C (v := .int nby) fl_X6_count_75 0 rfl rfl dX6_count_115 ?_
                      exact v_iret C E (rfl) (by first | rfl | (simp only [c1, Int32.not_lt.mpr c1, z2, z3, z4, z5, z6, z7, z8, h8, ↓reduceIte, Bool.false_eq_true, reduceCtorEq, Bool.and_true, Bool.true_and, Bool.and_false, Bool.false_and]; done) | (simp [c1, Int32.not_lt.mpr c1, z2, z3, z4, z5, z6, z7, z8, h8]; done) | (simp_all [b2]; done)) dX6_count_118
                    · skip
                      have tz2 : ¬ Int32.toInt x = 0 := lv_neT z2 (by rfl)
                      have tz3 : ¬ Int32.toInt x = 1 := lv_neT z3 (by rfl)
                      have tz4 : ¬ Int32.toInt x = 2 := lv_neT z4 (by rfl)
                      have tz5 : ¬ Int32.toInt x = 3 := lv_neT z5 (by rfl)
                      have tz6 : ¬ Int32.toInt x = 4 := lv_neT z6 (by rfl)
                      have tz7 : ¬ Int32.toInt x = 5 := lv_neT z7 (by rfl)
                      have tz8 : ¬ Int32.toInt x = 6 := lv_neT z8 (by rfl)
                      refine v_tableOut C 119 dX6_count_34 (by omega) (by decide) ?_
                      refine v_ldc C (v := -1000001) (by decide +kernel) dX6_count_119 ?_
                      exact v_iret C E (rfl) (by first | rfl | (simp only [c1, Int32.not_lt.mpr c1, z2, z3, z4, z5, z6, z7, z8, h8, ↓reduceIte, Bool.false_eq_true, reduceCtorEq, Bool.and_true, Bool.true_and, Bool.and_false, Bool.false_and]; done) | (simp [c1, Int32.not_lt.mpr c1, z2, z3, z4, z5, z6, z7, z8, h8]; done) | (simp_all [b2]; done)) dX6_count_121
      · skip
        have hlt : i < 8 := nle_nI (b := i) (a := 8) c1 (by omega) (by omega)
        refine v_iload_n C 2 dX6_count_10 rfl ?_
        refine v_aload_n C 0 dX6_count_11 rfl ?_
        refine v_get C (v := .ref mz) fl_X6_count_13 0 rfl rfl dX6_count_12 ?_
        refine v_iload_n C 3 dX6_count_15 rfl ?_
        refine v_iald C 1 0 rfl rfl (szf i) (by rw [nI_clamp (by omega)]) (vp_in_nI (by omega) (by omega)) dX6_count_16 ?_
        refine v_if_lt C 24 dX6_count_17 (by decide) (fun c9 => ?_) (fun c9 => ?_)
        · skip
          refine v_iconst C (v := 0) dX6_count_24 (by decide) ?_
          refine v_iadd C dX6_count_25 ?_
          refine v_istore_n C [(0, .ref mo), (1, .int x), (2, .int ((nI (cntS (fun r => !decide (szf r < 0)) i)) + 0)), (3, .int (nI i))] [1, 2, 0, 3] dX6_count_26 (by decide) rfl ?_
          refine v_iinc C (k := 3) (nI (i + 1)) [(0, .ref mo), (1, .int x), (2, .int ((nI (cntS (fun r => !decide (szf r < 0)) i)) + 0)), (3, .int (nI (i + 1)))] [1, 2, 3, 0] dX6_count_27 rfl (nI_inc _) (by decide) rfl ?_
          refine v_goto C 4 dX6_count_30 (by decide) ?_
          exact ih4 (i + 1) _ _ (by rw [cntS_s, if_neg (by simp only [c9, decide_true, Bool.not_true, Bool.false_eq_true, not_false_eq_true]), show (0 : Int32) = nI 0 from rfl, nI_add, Nat.add_zero]) (rfl) (by first | assumption | omega) (by omega)
        · skip
          refine v_iconst C (v := 1) dX6_count_20 (by decide) ?_
          refine v_goto C 25 dX6_count_21 (by decide) ?_
          refine v_iadd C dX6_count_25 ?_
          refine v_istore_n C [(0, .ref mo), (1, .int x), (2, .int ((nI (cntS (fun r => !decide (szf r < 0)) i)) + 1)), (3, .int (nI i))] [1, 2, 0, 3] dX6_count_26 (by decide) rfl ?_
          refine v_iinc C (k := 3) (nI (i + 1)) [(0, .ref mo), (1, .int x), (2, .int ((nI (cntS (fun r => !decide (szf r < 0)) i)) + 1)), (3, .int (nI (i + 1)))] [1, 2, 3, 0] dX6_count_27 rfl (nI_inc _) (by decide) rfl ?_
          refine v_goto C 4 dX6_count_30 (by decide) ?_
          exact ih4 (i + 1) _ _ (by rw [cntS_s, if_pos (by simp only [c9, decide_false, Bool.not_false]), nI_1]) (rfl) (by first | assumption | omega) (by omega)
  exact L4 _ 0 _ _ (rfl) (rfl) (by first | assumption | omega) (Nat.lt_succ_self _)
theorem kX6_factorial : KD yX6_factorial wsX6_factorial cX6_factorial 3 (some .int) 1 := ⟨⟨_, rfl⟩, by decide, by decide +kernel, by decide +kernel, by decide +kernel⟩
set_option maxHeartbeats 4000000 in
set_option maxRecDepth 100000 in
theorem c_mfactorial (l : Launch) (D : va_G) (cs : Nat → ClassId) {a : Nat} (ha : a ≤ 40) : CT l D (tz cs) yX6_factorial wsX6_factorial ({ frames := 0, cells := 0, slots := 0, locals := 0 }) [.int (nI a)] [] (some (.int (nI (facN a)))) [] := by
  refine CT.of kX6_factorial (Nat.le_of_ble_eq_true rfl) ?_
  intro p e s m below meth c A C E
  have C : VOk p s m _ c cX6_factorial 3 wsX6_factorial RX6 D (tz cs) A s.heap := C
  refine V.lvs (lv' := [(0, .int (nI a))]) [0] rfl ?_
  refine v_iconst C (v := 1) dX6_factorial_0 (by decide) ?_
  refine v_istore_n C [(0, .int (nI a)), (1, .int 1)] [1, 0] dX6_factorial_1 (by decide) rfl ?_
  refine v_iconst C (v := 2) dX6_factorial_2 (by decide) ?_
  refine v_istore_n C [(0, .int (nI a)), (1, .int 1), (2, .int 2)] [1, 2, 0] dX6_factorial_3 (by decide) rfl ?_
  have L4 : ∀ (n : Nat) (i : Nat) (y0 : Int32) (y1 : Int32), y0 = (nI (facN (i - 1))) → y1 = (nI i) → (2 ≤ i ∧ (i ≤ a + 1 ∨ i = 2)) → (a + 1 - i) < n → V p l e ({ frames := 0, cells := 0, slots := 0, locals := 0 }) s m (List.toArray [.int (nI a)]) below meth c 0 0 (MQ below (vq_Q (some (.int (nI (facN a)))) D [] [] s.heap.size) (List.toArray [.int (nI a)]) s 0 0 (va_A [] s.heap.size)) 3 D A s.heap 4 [(0, .int (nI a)), (1, .int y0), (2, .int y1)] [] [] := by
    intro n
    induction n with
    | zero =>
      intros; omega
    | succ n ih4 =>
      intro i y0 y1 ey0 ey1 hi hn
      subst ey0
      subst ey1
      refine v_iload_n C 2 dX6_factorial_4 rfl ?_
      refine v_iload_n C 0 dX6_factorial_5 rfl ?_
      refine v_icmp_gt C 19 dX6_factorial_6 (by decide) (fun c1 => ?_) (fun c1 => ?_)
      · skip
        have hge : a < i := lt_nI c1 (by omega) (by omega)
        refine v_iload_n C 1 dX6_factorial_19 rfl ?_
        exact v_iret C E (rfl) (by rcases (show i = a + 1 ∨ (i = 2 ∧ a = 0) by omega) with h9 | ⟨h9, h8⟩ <;> subst h9 <;> (try subst h8) <;> rfl) dX6_factorial_20
      · skip
        have hlt : i ≤ a := nlt_nI c1 (by omega) (by omega)
        refine v_iload_n C 1 dX6_factorial_9 rfl ?_
        refine v_iload_n C 2 dX6_factorial_10 rfl ?_
        refine v_imul C dX6_factorial_11 ?_
        refine v_istore_n C [(0, .int (nI a)), (1, .int ((nI (facN (i - 1))) * (nI i))), (2, .int (nI i))] [1, 0, 2] dX6_factorial_12 (by decide) rfl ?_
        refine v_iinc C (k := 2) (nI (i + 1)) [(0, .int (nI a)), (1, .int ((nI (facN (i - 1))) * (nI i))), (2, .int (nI (i + 1)))] [1, 2, 0] dX6_factorial_13 rfl (nI_inc _) (by decide) rfl ?_
        refine v_goto C 4 dX6_factorial_16 (by decide) ?_
        exact ih4 (i + 1) _ _ (by rw [pk_mul, show i + 1 - 1 = (i - 1) + 1 by omega, facN, show i - 1 + 1 = i by omega]) (rfl) (by omega) (by omega)
  exact L4 _ 2 _ _ (rfl) (rfl) (by omega) (Nat.lt_succ_self _)
theorem kX6_common : KD yX6_common wsX6_common cX6_common 5 (some .int) 2 := ⟨⟨_, rfl⟩, by decide, by decide +kernel, by decide +kernel, by decide +kernel⟩
set_option maxHeartbeats 4000000 in
set_option maxRecDepth 100000 in
theorem c_mcommon (l : Launch) (D : va_G) (cs : Nat → ClassId) {a : Int32} {b : Int32} : CT l D (tz cs) yX6_common wsX6_common ({ frames := 0, cells := 0, slots := 0, locals := 0 }) [.int a, .int b] [] (some (.int (euc 100 (abI a) b))) [] := by
  refine CT.of kX6_common (Nat.le_of_ble_eq_true rfl) ?_
  intro p e s m below meth c A C E
  have C : VOk p s m _ c cX6_common 5 wsX6_common RX6 D (tz cs) A s.heap := C
  refine V.lvs (lv' := [(0, .int a), (1, .int b)]) [0, 1] rfl ?_
  refine v_iload_n C 0 dX6_common_0 rfl ?_
  refine v_if_ge C 9 dX6_common_1 (by decide) (fun c1 => ?_) (fun c1 => ?_)
  · skip
    refine v_iload_n C 0 dX6_common_9 rfl ?_
    refine v_istore_n C [(0, .int a), (1, .int b), (2, .int a)] [1, 2, 0] dX6_common_10 (by decide) rfl ?_
    refine v_iload_n C 1 dX6_common_11 rfl ?_
    refine v_istore_n C [(0, .int a), (1, .int b), (2, .int a), (3, .int b)] [1, 2, 3, 0] dX6_common_12 (by decide) rfl ?_
    have L13 : ∀ (n : Nat) (f : Nat) (x : Int32) (y : Int32), (eud f x y) → (euc f x y = euc 100 (abI a) b) → f < n → V p l e ({ frames := 0, cells := 0, slots := 0, locals := 0 }) s m (List.toArray [.int a, .int b]) below meth c 0 0 (MQ below (vq_Q (some (.int (euc 100 (abI a) b))) D [] [] s.heap.size) (List.toArray [.int a, .int b]) s 0 0 (va_A [] s.heap.size)) 5 D A s.heap 13 [(0, .int a), (1, .int b), (2, .int x), (3, .int y)] [] [] := by
      intro n
      induction n with
      | zero =>
        intros; omega
      | succ n ih13 =>
        intro f x y he hq hn
        refine v_iload_n C 3 dX6_common_13 rfl ?_
        refine v_if_eq C 30 dX6_common_14 (by decide) (fun c2 => ?_) (fun c2 => ?_)
        · skip
          refine v_iload_n C 2 dX6_common_30 rfl ?_
          exact v_iret C E (rfl) (by rw [← hq]; cases f with | zero => rfl | succ f => rw [euc, if_pos c2]) dX6_common_31
        · skip
          have hf : 0 < f ∧ eud (f - 1) y (x - x / y * y) ∧ euc (f - 1) y (x - x / y * y) = euc 100 (abI a) b := by cases f with | zero => exact absurd he c2 | succ f => exact ⟨Nat.succ_pos _, he.resolve_left c2, by rw [← hq, euc, if_neg c2]; rfl⟩
          refine v_iload_n C 2 dX6_common_17 rfl ?_
          refine v_iload_n C 3 dX6_common_18 rfl ?_
          refine v_irem C dX6_common_19 (by assumption) ?_
          refine v_istore C [(0, .int a), (1, .int b), (2, .int x), (3, .int y), (4, .int (x - x / y * y))] [1, 2, 3, 4, 0] dX6_common_20 (by decide) rfl ?_
          refine v_iload_n C 3 dX6_common_22 rfl ?_
          refine v_istore_n C [(0, .int a), (1, .int b), (2, .int y), (3, .int y), (4, .int (x - x / y * y))] [1, 2, 0, 3, 4] dX6_common_23 (by decide) rfl ?_
          refine v_iload C 4 dX6_common_24 rfl ?_
          refine v_istore_n C [(0, .int a), (1, .int b), (2, .int y), (3, .int (x - x / y * y)), (4, .int (x - x / y * y))] [1, 2, 3, 0, 4] dX6_common_26 (by decide) rfl ?_
          refine v_goto C 13 dX6_common_27 (by decide) ?_
          refine V.lvs (lv' := [(0, .int a), (1, .int b), (2, .int y), (3, .int (x - x / y * y))]) [0, 1, 2, 3] rfl ?_
          exact ih13 (f - 1) y (x - x / y * y) (hf.2.1) (hf.2.2) (by omega)
    exact L13 _ 100 a b (eud_all _ _) (by first | (rw [abI, if_pos (by assumption)]; done) | (rw [abI, if_neg (by assumption), zero_sub32]; done)) (Nat.lt_succ_self _)
  · skip
    refine v_iload_n C 0 dX6_common_4 rfl ?_
    refine v_ineg C dX6_common_5 ?_
    refine v_goto C 10 dX6_common_6 (by decide) ?_
    refine v_istore_n C [(0, .int a), (1, .int b), (2, .int (-a))] [1, 2, 0] dX6_common_10 (by decide) rfl ?_
    refine v_iload_n C 1 dX6_common_11 rfl ?_
    refine v_istore_n C [(0, .int a), (1, .int b), (2, .int (-a)), (3, .int b)] [1, 2, 3, 0] dX6_common_12 (by decide) rfl ?_
    have L13 : ∀ (n : Nat) (f : Nat) (x : Int32) (y : Int32), (eud f x y) → (euc f x y = euc 100 (abI a) b) → f < n → V p l e ({ frames := 0, cells := 0, slots := 0, locals := 0 }) s m (List.toArray [.int a, .int b]) below meth c 0 0 (MQ below (vq_Q (some (.int (euc 100 (abI a) b))) D [] [] s.heap.size) (List.toArray [.int a, .int b]) s 0 0 (va_A [] s.heap.size)) 5 D A s.heap 13 [(0, .int a), (1, .int b), (2, .int x), (3, .int y)] [] [] := by
      intro n
      induction n with
      | zero =>
        intros; omega
      | succ n ih13 =>
        intro f x y he hq hn
        refine v_iload_n C 3 dX6_common_13 rfl ?_
        refine v_if_eq C 30 dX6_common_14 (by decide) (fun c3 => ?_) (fun c3 => ?_)
        · skip
          refine v_iload_n C 2 dX6_common_30 rfl ?_
          exact v_iret C E (rfl) (by rw [← hq]; cases f with | zero => rfl | succ f => rw [euc, if_pos c3]) dX6_common_31
        · skip
          have hf : 0 < f ∧ eud (f - 1) y (x - x / y * y) ∧ euc (f - 1) y (x - x / y * y) = euc 100 (abI a) b := by cases f with | zero => exact absurd he c3 | succ f => exact ⟨Nat.succ_pos _, he.resolve_left c3, by rw [← hq, euc, if_neg c3]; rfl⟩
          refine v_iload_n C 2 dX6_common_17 rfl ?_
          refine v_iload_n C 3 dX6_common_18 rfl ?_
          refine v_irem C dX6_common_19 (by assumption) ?_
          refine v_istore C [(0, .int a), (1, .int b), (2, .int x), (3, .int y), (4, .int (x - x / y * y))] [1, 2, 3, 4, 0] dX6_common_20 (by decide) rfl ?_
          refine v_iload_n C 3 dX6_common_22 rfl ?_
          refine v_istore_n C [(0, .int a), (1, .int b), (2, .int y), (3, .int y), (4, .int (x - x / y * y))] [1, 2, 0, 3, 4] dX6_common_23 (by decide) rfl ?_
          refine v_iload C 4 dX6_common_24 rfl ?_
          refine v_istore_n C [(0, .int a), (1, .int b), (2, .int y), (3, .int (x - x / y * y)), (4, .int (x - x / y * y))] [1, 2, 3, 0, 4] dX6_common_26 (by decide) rfl ?_
          refine v_goto C 13 dX6_common_27 (by decide) ?_
          refine V.lvs (lv' := [(0, .int a), (1, .int b), (2, .int y), (3, .int (x - x / y * y))]) [0, 1, 2, 3] rfl ?_
          exact ih13 (f - 1) y (x - x / y * y) (hf.2.1) (hf.2.2) (by omega)
    exact L13 _ 100 (-a) b (eud_all _ _) (by first | (rw [abI, if_pos (by assumption)]; done) | (rw [abI, if_neg (by assumption), zero_sub32]; done)) (Nat.lt_succ_self _)
