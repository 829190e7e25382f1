theorem kX5_image : KD yX5_image wsX5_image cX5_image 3 (some .int) 1 := ⟨⟨_, rfl⟩, by decide, by decide +kernel, by decide +kernel, by decide +kernel⟩
theorem in_X5_image_X5 : ∀ w ∈ wsX50, w ∈ wsX5_image := by decide +kernel
theorem fl_X5_image_26 : FL RX5 wsX5_image RX5 RX5 TX5 9 5 2 26 := ⟨⟨in_X5_image_X5, rfl, by decide, rfl⟩, by decide +kernel⟩
theorem nq_X5_image_X4_stands : Cond.initialized yX4_stands.cls ∈ wsX5_image ∧ Cond.instanceMethod yX4_stands ∈ wsX5_image ∧ Cond.selects yX4_stands.cls yX4_stands yX4_stands ∈ wsX5_image := ⟨by decide +kernel, by decide +kernel, by decide +kernel⟩
theorem nq_X5_image_X4_become : Cond.initialized yX4_become.cls ∈ wsX5_image ∧ Cond.instanceMethod yX4_become ∈ wsX5_image ∧ Cond.selects yX4_become.cls yX4_become yX4_become ∈ wsX5_image := ⟨by decide +kernel, by decide +kernel, by decide +kernel⟩
set_option maxHeartbeats 4000000 in
set_option maxRecDepth 100000 in
theorem c_imageIn (l : Launch) (D : va_G) (cs : Nat → ClassId) {xo : Nat} {xr : Nat} {xd : Nat} {ta : Nat} {tb : Nat} {xi : Nat} {aa : Nat} {sa : Nat} {lf : Int32} {fg : Int32} {g : Nat → Option Nat} {j : Nat} {tk : Nat} {tq : Nat} {tw : Nat} {ib : Nat} {ik : Nat} {iq : Nat} {iw : Nat} {kf : Nat → Int32} {sf : Nat → Int32} {wf : Nat → Int32} {kg : Nat → Int32} {sg : Nat → Int32} {wg : Nat → Int32} {pe : Int32} {ti : Int32} {aw : Int32} {me : Int32} {sp : Int32} {pe2 : Int32} {ti2 : Int32} {aw2 : Int32} {me2 : Int32} {sp2 : Int32} (hj : j < 2) (hg : g j = some ib) : CT l D (tz cs) yX5_image wsX5_image ({ frames := 2, cells := 0, slots := 0, locals := 44 }) [.ref xo, .int (nI j)] [(xo, .inr (5, [.ref xr, .ref xd, .ref ta, .ref tb, .ref xi, .ref aa, .ref sa, .int lf, .int fg])), (xi, .inl (cs 3, 2, .inr (.inr (.inr (.inr g))))), (ta, .inr (4, [.ref tk, .ref tq, .ref tw, .int pe, .int ti, .int aw, .int me, .int sp])), (tk, .inl (cs 0, 8, .inl kf)), (tq, .inl (cs 0, 8, .inl sf)), (tw, .inl (cs 0, 8, .inl wf)), (ib, .inr (4, [.ref ik, .ref iq, .ref iw, .int pe2, .int ti2, .int aw2, .int me2, .int sp2])), (ik, .inl (cs 0, 8, .inl kg)), (iq, .inl (cs 0, 8, .inl sg)), (iw, .inl (cs 0, 8, .inl wg))] (some (.int (if 0 < pe then 1 else -1000002))) [(xo, .inr (5, [.ref xr, .ref xd, .ref ta, .ref tb, .ref xi, .ref aa, .ref sa, .int lf, .int fg])), (xi, .inl (cs 3, 2, .inr (.inr (.inr (.inr g))))), (ta, .inr (4, [.ref tk, .ref tq, .ref tw, .int pe, .int ti, .int aw, .int me, .int sp])), (tk, .inl (cs 0, 8, .inl kf)), (tq, .inl (cs 0, 8, .inl sf)), (tw, .inl (cs 0, 8, .inl wf)), (ib, .inr (4, [.ref ik, .ref iq, .ref iw, .int (if 0 < pe then pe else pe2), .int (if 0 < pe then ti else ti2), .int (if 0 < pe then aw else aw2), .int (if 0 < pe then me else me2), .int (if 0 < pe then sp else sp2)])), (ik, .inl (cs 0, 8, .inl (if 0 < pe then cpF kg kf 8 else kg))), (iq, .inl (cs 0, 8, .inl (if 0 < pe then cpF sg sf 8 else sg))), (iw, .inl (cs 0, 8, .inl (if 0 < pe then cpF wg wf 8 else wg)))] := by
  refine CT.of kX5_image (Nat.le_of_ble_eq_true rfl) ?_
  intro p e s m below meth c A C E
  have C : VOk p s m _ c cX5_image 3 wsX5_image RX5 D (tz cs) A s.heap := C
  refine V.lvs (lv' := [(0, .ref xo), (1, .int (nI j))]) [0, 1] rfl ?_
  refine v_aload_n C 0 dX5_image_0 rfl ?_
  refine v_iload_n C 1 dX5_image_1 rfl ?_
  refine v_callV (qi := 0) C [.int (nI j)] [] kX5_imageAt gX5_image_X5_imageAt (c_imageAtIn l D cs (xo := xo) (xr := xr) (xd := xd) (ta := ta) (tb := tb) (xi := xi) (aa := aa) (sa := sa) (lf := lf) (fg := fg) (g := g) (j := j) (r := ib) (by first | assumption | omega) (by first | assumption | omega)) ⟨Nat.le_of_ble_eq_true rfl, Nat.le_of_ble_eq_true rfl⟩ ⟨rfl, rfl⟩ ⟨Nat.zero_le _, Nat.zero_le _⟩ rfl 0 rfl rfl rfl rfl (Nat.le_of_ble_eq_true rfl) [0, 1] [(xo, .inr (5, [.ref xr, .ref xd, .ref ta, .ref tb, .ref xi, .ref aa, .ref sa, .int lf, .int fg])), (xi, .inl (cs 3, 2, .inr (.inr (.inr (.inr g))))), (ta, .inr (4, [.ref tk, .ref tq, .ref tw, .int pe, .int ti, .int aw, .int me, .int sp])), (tk, .inl (cs 0, 8, .inl kf)), (tq, .inl (cs 0, 8, .inl sf)), (tw, .inl (cs 0, 8, .inl wf)), (ib, .inr (4, [.ref ik, .ref iq, .ref iw, .int pe2, .int ti2, .int aw2, .int me2, .int sp2])), (ik, .inl (cs 0, 8, .inl kg)), (iq, .inl (cs 0, 8, .inl sg)), (iw, .inl (cs 0, 8, .inl wg))] rfl (by decide) (show [xo, xi] = [xo, xi] from rfl) (rfl) dX5_image_2 ?_
  refine V.sts (st' := [.ref ib]) rfl ?_
  refine v_astore_n C [(0, .ref xo), (1, .int (nI j)), (2, .ref ib)] [1, 2, 0] dX5_image_5 (by decide) rfl ?_
  refine v_aload_n C 2 dX5_image_6 rfl ?_
  refine v_ifnonnull C 13 dX5_image_7 (by decide) ?_
  refine v_aload_n C 0 dX5_image_13 rfl ?_
  refine v_get C (v := .ref ta) fl_X5_image_26 0 rfl rfl dX5_image_14 ?_
  refine v_callVN (qi := 0) C [] [] kX4_stands gX5_image_X4_stands_n138 (host := "TableShares") (by decide +kernel) nq_X5_image_X4_stands (c_stands l D cs (ta := ta) (tk := tk) (tq := tq) (tw := tw) (pe := pe) (ti := ti) (aw := aw) (me := me) (sp := sp) ) ⟨Nat.le_of_ble_eq_true rfl, Nat.le_of_ble_eq_true rfl⟩ ⟨rfl, rfl⟩ ⟨Nat.zero_le _, Nat.zero_le _⟩ rfl 2 rfl rfl rfl rfl (Nat.le_of_ble_eq_true rfl) [2] [(xo, .inr (5, [.ref xr, .ref xd, .ref ta, .ref tb, .ref xi, .ref aa, .ref sa, .int lf, .int fg])), (xi, .inl (cs 3, 2, .inr (.inr (.inr (.inr g))))), (ta, .inr (4, [.ref tk, .ref tq, .ref tw, .int pe, .int ti, .int aw, .int me, .int sp])), (tk, .inl (cs 0, 8, .inl kf)), (tq, .inl (cs 0, 8, .inl sf)), (tw, .inl (cs 0, 8, .inl wf)), (ib, .inr (4, [.ref ik, .ref iq, .ref iw, .int pe2, .int ti2, .int aw2, .int me2, .int sp2])), (ik, .inl (cs 0, 8, .inl kg)), (iq, .inl (cs 0, 8, .inl sg)), (iw, .inl (cs 0, 8, .inl wg))] rfl (by decide) (show [ta] = [ta] from rfl) (rfl) dX5_image_17 ?_
  refine V.sts (st' := [.int (b2 (decide (0 < pe)))]) rfl ?_
  refine v_if_neB C 26 dX5_image_20 (by decide) (fun c1 => ?_) (fun c1 => ?_)
  · skip
    refine v_aload_n C 2 dX5_image_26 rfl ?_
    refine v_aload_n C 0 dX5_image_27 rfl ?_
    refine v_get C (v := .ref ta) fl_X5_image_26 0 rfl rfl dX5_image_28 ?_
    refine v_callVN (qi := 0) C [.ref ta] [] kX4_become gX5_image_X4_become_n114 (host := "TableShares") (by decide +kernel) nq_X5_image_X4_become (c_become l D cs (ta := ib) (tk := ik) (tq := iq) (tw := iw) (kf := kg) (sf := sg) (wf := wg) (pe := pe2) (ti := ti2) (aw := aw2) (me := me2) (sp := sp2) (tb := ta) (uk := tk) (uq := tq) (uw := tw) (kg := kf) (sg := sf) (wg := wf) (pe2 := pe) (ti2 := ti) (aw2 := aw) (me2 := me) (sp2 := sp) ) ⟨Nat.le_of_ble_eq_true rfl, Nat.le_of_ble_eq_true rfl⟩ ⟨rfl, rfl⟩ ⟨Nat.zero_le _, Nat.zero_le _⟩ rfl 6 rfl rfl rfl rfl (Nat.le_of_ble_eq_true rfl) [6, 7, 8, 9, 2, 3, 4, 5] [(xo, .inr (5, [.ref xr, .ref xd, .ref ta, .ref tb, .ref xi, .ref aa, .ref sa, .int lf, .int fg])), (xi, .inl (cs 3, 2, .inr (.inr (.inr (.inr g))))), (ta, .inr (4, [.ref tk, .ref tq, .ref tw, .int pe, .int ti, .int aw, .int me, .int sp])), (tk, .inl (cs 0, 8, .inl kf)), (tq, .inl (cs 0, 8, .inl sf)), (tw, .inl (cs 0, 8, .inl wf)), (ib, .inr (4, [.ref ik, .ref iq, .ref iw, .int pe, .int ti, .int aw, .int me, .int sp])), (ik, .inl (cs 0, 8, .inl (cpF kg kf 8))), (iq, .inl (cs 0, 8, .inl (cpF sg sf 8))), (iw, .inl (cs 0, 8, .inl (cpF wg wf 8)))] rfl (by decide) (show [ib, ik, iq, iw, ta, tk, tq, tw] = [ib, ik, iq, iw, ta, tk, tq, tw] from rfl) (rfl) dX5_image_31 ?_
    refine V.sts (st' := []) rfl ?_
    refine v_iconst C (v := 1) dX5_image_34 (by decide) ?_
    exact v_iret C E (by first | rfl | (simp only [c1, of_decide_eq_true c1, ↓reduceIte, Bool.false_eq_true, reduceCtorEq, Bool.and_true, Bool.true_and, Bool.and_false, Bool.false_and]; done) | (simp [c1, of_decide_eq_true c1]; done) | (simp_all [b2]; done)) (by first | rfl | (simp only [c1, of_decide_eq_true c1, ↓reduceIte, Bool.false_eq_true, reduceCtorEq, Bool.and_true, Bool.true_and, Bool.and_false, Bool.false_and]; done) | (simp [c1, of_decide_eq_true c1]; done) | (simp_all [b2]; done)) dX5_image_35
  · skip
    refine v_ldc C (v := -1000002) (by decide +kernel) dX5_image_23 ?_
    exact v_iret C E (by first | rfl | (simp only [c1, of_decide_eq_false c1, ↓reduceIte, Bool.false_eq_true, reduceCtorEq, Bool.and_true, Bool.true_and, Bool.and_false, Bool.false_and]; done) | (simp [c1, of_decide_eq_false c1]; done) | (simp_all [b2]; done)) (by first | rfl | (simp only [c1, of_decide_eq_false c1, ↓reduceIte, Bool.false_eq_true, reduceCtorEq, Bool.and_true, Bool.true_and, Bool.and_false, Bool.false_and]; done) | (simp [c1, of_decide_eq_false c1]; done) | (simp_all [b2]; done)) dX5_image_25
theorem kX5_restore : KD yX5_restore wsX5_restore cX5_restore 3 (some .int) 1 := ⟨⟨_, rfl⟩, by decide, by decide +kernel, by decide +kernel, by decide +kernel⟩
theorem nq_X5_restore_X4_stands : Cond.initialized yX4_stands.cls ∈ wsX5_restore ∧ Cond.instanceMethod yX4_stands ∈ wsX5_restore ∧ Cond.selects yX4_stands.cls yX4_stands yX4_stands ∈ wsX5_restore := ⟨by decide +kernel, by decide +kernel, by decide +kernel⟩
theorem in_X5_restore_X5 : ∀ w ∈ wsX50, w ∈ wsX5_restore := by decide +kernel
theorem fl_X5_restore_26 : FL RX5 wsX5_restore RX5 RX5 TX5 9 5 2 26 := ⟨⟨in_X5_restore_X5, rfl, by decide, rfl⟩, by decide +kernel⟩
theorem nq_X5_restore_X4_become : Cond.initialized yX4_become.cls ∈ wsX5_restore ∧ Cond.instanceMethod yX4_become ∈ wsX5_restore ∧ Cond.selects yX4_become.cls yX4_become yX4_become ∈ wsX5_restore := ⟨by decide +kernel, by decide +kernel, by decide +kernel⟩
theorem fl_X5_restore_40 : FL RX5 wsX5_restore RX5 RX5 TX5 9 5 5 40 := ⟨⟨in_X5_restore_X5, rfl, by decide, rfl⟩, by decide +kernel⟩
theorem nq_X5_restore_X0_forgetAll : Cond.initialized yX0_forgetAll.cls ∈ wsX5_restore ∧ Cond.instanceMethod yX0_forgetAll ∈ wsX5_restore ∧ Cond.selects yX0_forgetAll.cls yX0_forgetAll yX0_forgetAll ∈ wsX5_restore := ⟨by decide +kernel, by decide +kernel, by decide +kernel⟩
set_option maxHeartbeats 4000000 in
set_option maxRecDepth 100000 in
theorem c_restoreIn (l : Launch) (D : va_G) (cs : Nat → ClassId) {xo : Nat} {xr : Nat} {xd : Nat} {ta : Nat} {tb : Nat} {xi : Nat} {aa : Nat} {sa : Nat} {lf : Int32} {fg : Int32} {g : Nat → Option Nat} {j : Nat} {tk : Nat} {tq : Nat} {tw : Nat} {ib : Nat} {ik : Nat} {iq : Nat} {iw : Nat} {kf : Nat → Int32} {sf : Nat → Int32} {wf : Nat → Int32} {kg : Nat → Int32} {sg : Nat → Int32} {wg : Nat → Int32} {pe : Int32} {ti : Int32} {aw : Int32} {me : Int32} {sp : Int32} {pe2 : Int32} {ti2 : Int32} {aw2 : Int32} {me2 : Int32} {sp2 : Int32} {ap : Nat} {kn : Int32} (hj : j < 2) (hg : g j = some ib) : CT l D (tz cs) yX5_restore wsX5_restore ({ frames := 2, cells := 0, slots := 0, locals := 44 }) [.ref xo, .int (nI j)] [(xo, .inr (5, [.ref xr, .ref xd, .ref ta, .ref tb, .ref xi, .ref aa, .ref sa, .int lf, .int fg])), (xi, .inl (cs 3, 2, .inr (.inr (.inr (.inr g))))), (ta, .inr (4, [.ref tk, .ref tq, .ref tw, .int pe, .int ti, .int aw, .int me, .int sp])), (tk, .inl (cs 0, 8, .inl kf)), (tq, .inl (cs 0, 8, .inl sf)), (tw, .inl (cs 0, 8, .inl wf)), (ib, .inr (4, [.ref ik, .ref iq, .ref iw, .int pe2, .int ti2, .int aw2, .int me2, .int sp2])), (ik, .inl (cs 0, 8, .inl kg)), (iq, .inl (cs 0, 8, .inl sg)), (iw, .inl (cs 0, 8, .inl wg)), (aa, .inr (0, [.ref ap, .int kn]))] (some (.int (if 0 < pe2 then 1 else -1000002))) [(xo, .inr (5, [.ref xr, .ref xd, .ref ta, .ref tb, .ref xi, .ref aa, .ref sa, .int lf, .int fg])), (xi, .inl (cs 3, 2, .inr (.inr (.inr (.inr g))))), (ta, .inr (4, [.ref tk, .ref tq, .ref tw, .int (if 0 < pe2 then pe2 else pe), .int (if 0 < pe2 then ti2 else ti), .int (if 0 < pe2 then aw2 else aw), .int (if 0 < pe2 then me2 else me), .int (if 0 < pe2 then sp2 else sp)])), (tk, .inl (cs 0, 8, .inl (if 0 < pe2 then cpF kf kg 8 else kf))), (tq, .inl (cs 0, 8, .inl (if 0 < pe2 then cpF sf sg 8 else sf))), (tw, .inl (cs 0, 8, .inl (if 0 < pe2 then cpF wf wg 8 else wf))), (ib, .inr (4, [.ref ik, .ref iq, .ref iw, .int pe2, .int ti2, .int aw2, .int me2, .int sp2])), (ik, .inl (cs 0, 8, .inl kg)), (iq, .inl (cs 0, 8, .inl sg)), (iw, .inl (cs 0, 8, .inl wg)), (aa, .inr (0, [.ref ap, .int (if 0 < pe2 then 0 else kn)]))] := by
  refine CT.of kX5_restore (Nat.le_of_ble_eq_true rfl) ?_
  intro p e s m below meth c A C E
  have C : VOk p s m _ c cX5_restore 3 wsX5_restore RX5 D (tz cs) A s.heap := C
  refine V.lvs (lv' := [(0, .ref xo), (1, .int (nI j))]) [0, 1] rfl ?_
  refine v_aload_n C 0 dX5_restore_0 rfl ?_
  refine v_iload_n C 1 dX5_restore_1 rfl ?_
  refine v_callV (qi := 0) C [.int (nI j)] [] kX5_imageAt gX5_restore_X5_imageAt (c_imageAtIn l D cs (xo := xo) (xr := xr) (xd := xd) (ta := ta) (tb := tb) (xi := xi) (aa := aa) (sa := sa) (lf := lf) (fg := fg) (g := g) (j := j) (r := ib) (by first | assumption | omega) (by first | assumption | omega)) ⟨Nat.le_of_ble_eq_true rfl, Nat.le_of_ble_eq_true rfl⟩ ⟨rfl, rfl⟩ ⟨Nat.zero_le _, Nat.zero_le _⟩ rfl 0 rfl rfl rfl rfl (Nat.le_of_ble_eq_true rfl) [0, 1] [(xo, .inr (5, [.ref xr, .ref xd, .ref ta, .ref tb, .ref xi, .ref aa, .ref sa, .int lf, .int fg])), (xi, .inl (cs 3, 2, .inr (.inr (.inr (.inr g))))), (ta, .inr (4, [.ref tk, .ref tq, .ref tw, .int pe, .int ti, .int aw, .int me, .int sp])), (tk, .inl (cs 0, 8, .inl kf)), (tq, .inl (cs 0, 8, .inl sf)), (tw, .inl (cs 0, 8, .inl wf)), (ib, .inr (4, [.ref ik, .ref iq, .ref iw, .int pe2, .int ti2, .int aw2, .int me2, .int sp2])), (ik, .inl (cs 0, 8, .inl kg)), (iq, .inl (cs 0, 8, .inl sg)), (iw, .inl (cs 0, 8, .inl wg)), (aa, .inr (0, [.ref ap, .int kn]))] rfl (by decide) (show [xo, xi] = [xo, xi] from rfl) (rfl) dX5_restore_2 ?_
  refine V.sts (st' := [.ref ib]) rfl ?_
  refine v_astore_n C [(0, .ref xo), (1, .int (nI j)), (2, .ref ib)] [1, 2, 0] dX5_restore_5 (by decide) rfl ?_
  refine v_aload_n C 2 dX5_restore_6 rfl ?_
  refine v_ifnonnull C 13 dX5_restore_7 (by decide) ?_
  refine v_aload_n C 2 dX5_restore_13 rfl ?_
  refine v_callVN (qi := 0) C [] [] kX4_stands gX5_restore_X4_stands_n138 (host := "TableShares") (by decide +kernel) nq_X5_restore_X4_stands (c_stands l D cs (ta := ib) (tk := ik) (tq := iq) (tw := iw) (pe := pe2) (ti := ti2) (aw := aw2) (me := me2) (sp := sp2) ) ⟨Nat.le_of_ble_eq_true rfl, Nat.le_of_ble_eq_true rfl⟩ ⟨rfl, rfl⟩ ⟨Nat.zero_le _, Nat.zero_le _⟩ rfl 6 rfl rfl rfl rfl (Nat.le_of_ble_eq_true rfl) [6] [(xo, .inr (5, [.ref xr, .ref xd, .ref ta, .ref tb, .ref xi, .ref aa, .ref sa, .int lf, .int fg])), (xi, .inl (cs 3, 2, .inr (.inr (.inr (.inr g))))), (ta, .inr (4, [.ref tk, .ref tq, .ref tw, .int pe, .int ti, .int aw, .int me, .int sp])), (tk, .inl (cs 0, 8, .inl kf)), (tq, .inl (cs 0, 8, .inl sf)), (tw, .inl (cs 0, 8, .inl wf)), (ib, .inr (4, [.ref ik, .ref iq, .ref iw, .int pe2, .int ti2, .int aw2, .int me2, .int sp2])), (ik, .inl (cs 0, 8, .inl kg)), (iq, .inl (cs 0, 8, .inl sg)), (iw, .inl (cs 0, 8, .inl wg)), (aa, .inr (0, [.ref ap, .int kn]))] rfl (by decide) (show [ib] = [ib] from rfl) (rfl) dX5_restore_14 ?_
  refine V.sts (st' := [.int (b2 (decide (0 < pe2)))]) rfl ?_
  refine v_if_neB C 23 dX5_restore_17 (by decide) (fun c1 => ?_) (fun c1 => ?_)
  · skip
    refine v_aload_n C 0 dX5_restore_23 rfl ?_
    refine v_get C (v := .ref ta) fl_X5_restore_26 0 rfl rfl dX5_restore_24 ?_
    refine v_aload_n C 2 dX5_restore_27 rfl ?_
    refine v_callVN (qi := 0) C [.ref ib] [] kX4_become gX5_restore_X4_become_n114 (host := "TableShares") (by decide +kernel) nq_X5_restore_X4_become (c_become l D cs (ta := ta) (tk := tk) (tq := tq) (tw := tw) (kf := kf) (sf := sf) (wf := wf) (pe := pe) (ti := ti) (aw := aw) (me := me) (sp := sp) (tb := ib) (uk := ik) (uq := iq) (uw := iw) (kg := kg) (sg := sg) (wg := wg) (pe2 := pe2) (ti2 := ti2) (aw2 := aw2) (me2 := me2) (sp2 := sp2) ) ⟨Nat.le_of_ble_eq_true rfl, Nat.le_of_ble_eq_true rfl⟩ ⟨rfl, rfl⟩ ⟨Nat.zero_le _, Nat.zero_le _⟩ rfl 2 rfl rfl rfl rfl (Nat.le_of_ble_eq_true rfl) [2, 3, 4, 5, 6, 7, 8, 9] [(xo, .inr (5, [.ref xr, .ref xd, .ref ta, .ref tb, .ref xi, .ref aa, .ref sa, .int lf, .int fg])), (xi, .inl (cs 3, 2, .inr (.inr (.inr (.inr g))))), (ta, .inr (4, [.ref tk, .ref tq, .ref tw, .int pe2, .int ti2, .int aw2, .int me2, .int sp2])), (tk, .inl (cs 0, 8, .inl (cpF kf kg 8))), (tq, .inl (cs 0, 8, .inl (cpF sf sg 8))), (tw, .inl (cs 0, 8, .inl (cpF wf wg 8))), (ib, .inr (4, [.ref ik, .ref iq, .ref iw, .int pe2, .int ti2, .int aw2, .int me2, .int sp2])), (ik, .inl (cs 0, 8, .inl kg)), (iq, .inl (cs 0, 8, .inl sg)), (iw, .inl (cs 0, 8, .inl wg)), (aa, .inr (0, [.ref ap, .int kn]))] rfl (by decide) (show [ta, tk, tq, tw, ib, ik, iq, iw] = [ta, tk, tq, tw, ib, ik, iq, iw] from rfl) (rfl) dX5_restore_28 ?_
    refine V.sts (st' := []) rfl ?_
    refine v_aload_n C 0 dX5_restore_31 rfl ?_
    refine v_get C (v := .ref aa) fl_X5_restore_40 0 rfl rfl dX5_restore_32 ?_
    refine v_callVN (qi := 0) C [] [] kX0_forgetAll gX5_restore_X0_forgetAll_n117 (host := "TableShares") (by decide +kernel) nq_X5_restore_X0_forgetAll (c_forgetAll l D cs (aa := aa) (ap := ap) (kn := kn) ) ⟨Nat.le_of_ble_eq_true rfl, Nat.le_of_ble_eq_true rfl⟩ ⟨rfl, rfl⟩ ⟨Nat.zero_le _, Nat.zero_le _⟩ rfl 10 rfl rfl rfl rfl (Nat.le_of_ble_eq_true rfl) [10] [(xo, .inr (5, [.ref xr, .ref xd, .ref ta, .ref tb, .ref xi, .ref aa, .ref sa, .int lf, .int fg])), (xi, .inl (cs 3, 2, .inr (.inr (.inr (.inr g))))), (ta, .inr (4, [.ref tk, .ref tq, .ref tw, .int pe2, .int ti2, .int aw2, .int me2, .int sp2])), (tk, .inl (cs 0, 8, .inl (cpF kf kg 8))), (tq, .inl (cs 0, 8, .inl (cpF sf sg 8))), (tw, .inl (cs 0, 8, .inl (cpF wf wg 8))), (ib, .inr (4, [.ref ik, .ref iq, .ref iw, .int pe2, .int ti2, .int aw2, .int me2, .int sp2])), (ik, .inl (cs 0, 8, .inl kg)), (iq, .inl (cs 0, 8, .inl sg)), (iw, .inl (cs 0, 8, .inl wg)), (aa, .inr (0, [.ref ap, .int 0]))] rfl (by decide) (show [aa] = [aa] from rfl) (rfl) dX5_restore_35 ?_
    refine V.sts (st' := []) rfl ?_
    refine v_iconst C (v := 1) dX5_restore_38 (by decide) ?_
    exact v_iret C E (by first | rfl | (simp only [c1, of_decide_eq_true c1, ↓reduceIte, Bool.false_eq_true, reduceCtorEq, Bool.and_true, Bool.true_and, Bool.and_false, Bool.false_and]; done) | (simp [c1, of_decide_eq_true c1]; done) | (simp_all [b2]; done)) (by first | rfl | (simp only [c1, of_decide_eq_true c1, ↓reduceIte, Bool.false_eq_true, reduceCtorEq, Bool.and_true, Bool.true_and, Bool.and_false, Bool.false_and]; done) | (simp [c1, of_decide_eq_true c1]; done) | (simp_all [b2]; done)) dX5_restore_39
  · skip
    refine v_ldc C (v := -1000002) (by decide +kernel) dX5_restore_20 ?_
    exact v_iret C E (by first | rfl | (simp only [c1, of_decide_eq_false c1, ↓reduceIte, Bool.false_eq_true, reduceCtorEq, Bool.and_true, Bool.true_and, Bool.and_false, Bool.false_and]; done) | (simp [c1, of_decide_eq_false c1]; done) | (simp_all [b2]; done)) (by first | rfl | (simp only [c1, of_decide_eq_false c1, ↓reduceIte, Bool.false_eq_true, reduceCtorEq, Bool.and_true, Bool.true_and, Bool.and_false, Bool.false_and]; done) | (simp [c1, of_decide_eq_false c1]; done) | (simp_all [b2]; done)) dX5_restore_22
set_option maxHeartbeats 4000000 in
set_option maxRecDepth 100000 in
theorem c_imageOut (l : Launch) (D : va_G) (cs : Nat → ClassId) {xo : Nat} {xr : Nat} {xd : Nat} {ta : Nat} {tb : Nat} {xi : Nat} {aa : Nat} {sa : Nat} {lf : Int32} {fg : Int32} {g : Nat → Option Nat} {x0 : Int32} (ho : x0 < 0 ∨ 2 ≤ x0) : CT l D (tz cs) yX5_image wsX5_image ({ frames := 2, cells := 0, slots := 0, locals := 44 }) [.ref xo, .int x0] [(xo, .inr (5, [.ref xr, .ref xd, .ref ta, .ref tb, .ref xi, .ref aa, .ref sa, .int lf, .int fg])), (xi, .inl (cs 3, 2, .inr (.inr (.inr (.inr g)))))] (some (.int (-1000001))) [(xo, .inr (5, [.ref xr, .ref xd, .ref ta, .ref tb, .ref xi, .ref aa, .ref sa, .int lf, .int fg])), (xi, .inl (cs 3, 2, .inr (.inr (.inr (.inr g)))))] := by
  refine CT.of kX5_image (Nat.le_of_ble_eq_true rfl) ?_
  intro p e s m below meth c A C E
  have C : VOk p s m _ c cX5_image 3 wsX5_image RX5 D (tz cs) A s.heap := C
  refine V.lvs (lv' := [(0, .ref xo), (1, .int x0)]) [0, 1] rfl ?_
  refine v_aload_n C 0 dX5_image_0 rfl ?_
  refine v_iload_n C 1 dX5_image_1 rfl ?_
  refine v_callV (qi := 0) C [.int x0] [] kX5_imageAt gX5_image_X5_imageAt (c_imageAtOut l D cs (xo := xo) (xr := xr) (xd := xd) (ta := ta) (tb := tb) (xi := xi) (aa := aa) (sa := sa) (lf := lf) (fg := fg) (g := g) (x := x0) (by first | assumption | omega)) ⟨Nat.le_of_ble_eq_true rfl, Nat.le_of_ble_eq_true rfl⟩ ⟨rfl, rfl⟩ ⟨Nat.zero_le _, Nat.zero_le _⟩ rfl 0 rfl rfl rfl rfl (Nat.le_of_ble_eq_true rfl) [0, 1] [(xo, .inr (5, [.ref xr, .ref xd, .ref ta, .ref tb, .ref xi, .ref aa, .ref sa, .int lf, .int fg])), (xi, .inl (cs 3, 2, .inr (.inr (.inr (.inr g)))))] rfl (by decide) (show [xo, xi] = [xo, xi] from rfl) (rfl) dX5_image_2 ?_
  refine V.sts (st' := [.null]) rfl ?_
  refine v_astore_nN C [(0, .ref xo), (1, .int x0), (2, .null)] [1, 2, 0] dX5_image_5 (by decide) rfl ?_
  refine v_aload_nN C 2 dX5_image_6 rfl ?_
  refine v_ifnonnullN C dX5_image_7 ?_
  refine v_ldc C (v := -1000001) (by decide +kernel) dX5_image_10 ?_
  exact v_iret C E (rfl) (by first | rfl | (simp [ho, ↓reduceIte]; done) | (simp_all [b2]; done)) dX5_image_12
set_option maxHeartbeats 4000000 in
set_option maxRecDepth 100000 in
theorem c_restoreOut (l : Launch) (D : va_G) (cs : Nat → ClassId) {xo : Nat} {xr : Nat} {xd : Nat} {ta : Nat} {tb : Nat} {xi : Nat} {aa : Nat} {sa : Nat} {lf : Int32} {fg : Int32} {g : Nat → Option Nat} {x0 : Int32} (ho : x0 < 0 ∨ 2 ≤ x0) : CT l D (tz cs) yX5_restore wsX5_restore ({ frames := 2, cells := 0, slots := 0, locals := 44 }) [.ref xo, .int x0] [(xo, .inr (5, [.ref xr, .ref xd, .ref ta, .ref tb, .ref xi, .ref aa, .ref sa, .int lf, .int fg])), (xi, .inl (cs 3, 2, .inr (.inr (.inr (.inr g)))))] (some (.int (-1000001))) [(xo, .inr (5, [.ref xr, .ref xd, .ref ta, .ref tb, .ref xi, .ref aa, .ref sa, .int lf, .int fg])), (xi, .inl (cs 3, 2, .inr (.inr (.inr (.inr g)))))] := by
  refine CT.of kX5_restore (Nat.le_of_ble_eq_true rfl) ?_
  intro p e s m below meth c A C E
  have C : VOk p s m _ c cX5_restore 3 wsX5_restore RX5 D (tz cs) A s.heap := C
  refine V.lvs (lv' := [(0, .ref xo), (1, .int x0)]) [0, 1] rfl ?_
  refine v_aload_n C 0 dX5_restore_0 rfl ?_
  refine v_iload_n C 1 dX5_restore_1 rfl ?_
  refine v_callV (qi := 0) C [.int x0] [] kX5_imageAt gX5_restore_X5_imageAt (c_imageAtOut l D cs (xo := xo) (xr := xr) (xd := xd) (ta := ta) (tb := tb) (xi := xi) (aa := aa) (sa := sa) (lf := lf) (fg := fg) (g := g) (x := x0) (by first | assumption | omega)) ⟨Nat.le_of_ble_eq_true rfl, Nat.le_of_ble_eq_true rfl⟩ ⟨rfl, rfl⟩ ⟨Nat.zero_le _, Nat.zero_le _⟩ rfl 0 rfl rfl rfl rfl (Nat.le_of_ble_eq_true rfl) [0, 1] [(xo, .inr (5, [.ref xr, .ref xd, .ref ta, .ref tb, .ref xi, .ref aa, .ref sa, .int lf, .int fg])), (xi, .inl (cs 3, 2, .inr (.inr (.inr (.inr g)))))] rfl (by decide) (show [xo, xi] = [xo, xi] from rfl) (rfl) dX5_restore_2 ?_
  refine V.sts (st' := [.null]) rfl ?_
  refine v_astore_nN C [(0, .ref xo), (1, .int x0), (2, .null)] [1, 2, 0] dX5_restore_5 (by decide) rfl ?_
  refine v_aload_nN C 2 dX5_restore_6 rfl ?_
  refine v_ifnonnullN C dX5_restore_7 ?_
  refine v_ldc C (v := -1000001) (by decide +kernel) dX5_restore_10 ?_
  exact v_iret C E (rfl) (by first | rfl | (simp [ho, ↓reduceIte]; done) | (simp_all [b2]; done)) dX5_restore_12
theorem kX5_trace : KD yX5_trace wsX5_trace cX5_trace 2 (some .int) 1 := ⟨⟨_, rfl⟩, by decide, by decide +kernel, by decide +kernel, by decide +kernel⟩
theorem in_X5_trace_X5 : ∀ w ∈ wsX50, w ∈ wsX5_trace := by decide +kernel
theorem fl_X5_trace_49 : FL RX5 wsX5_trace RX5 RX5 TX5 9 5 6 49 := ⟨⟨in_X5_trace_X5, rfl, by decide, rfl⟩, by decide +kernel⟩
theorem in_X5_trace_X1 : ∀ w ∈ wsX10, w ∈ wsX5_trace := by decide +kernel
theorem fn_X5_trace_249 : FLN RX5 wsX5_trace RX1 RX1 TX1 3 1 2 249 := ⟨⟨in_X5_trace_X1, rfl, by decide, rfl⟩, "TableShares", by decide +kernel⟩
theorem fn_X5_trace_252 : FLN RX5 wsX5_trace RX1 RX1 TX1 3 1 1 252 := ⟨⟨in_X5_trace_X1, rfl, by decide, rfl⟩, "TableShares", by decide +kernel⟩
set_option maxHeartbeats 4000000 in
set_option maxRecDepth 100000 in
theorem c_trace (l : Launch) (D : va_G) (cs : Nat → ClassId) {xo : Nat} {xr : Nat} {xd : Nat} {ta : Nat} {tb : Nat} {xi : Nat} {aa : Nat} {sa : Nat} {lf : Int32} {fg : Int32} {sb : Nat} {bf : Nat → Int32} {af : Int32} {x : Int32} : CT l D (tz cs) yX5_trace wsX5_trace ({ frames := 1, cells := 0, slots := 0, locals := 21 }) [.ref xo, .int x] [(xo, .inr (5, [.ref xr, .ref xd, .ref ta, .ref tb, .ref xi, .ref aa, .ref sa, .int lf, .int fg])), (sa, .inr (1, [.ref ta, .ref sb, .int af])), (sb, .inl (cs 0, 16, .inl bf))] (some (.int (if x < 0 then -1000000 else if af ≤ x then -1000000 else gA bf 16 x))) [(xo, .inr (5, [.ref xr, .ref xd, .ref ta, .ref tb, .ref xi, .ref aa, .ref sa, .int lf, .int fg])), (sa, .inr (1, [.ref ta, .ref sb, .int af])), (sb, .inl (cs 0, 16, .inl bf))] := by
  refine CT.of kX5_trace (Nat.le_of_ble_eq_true rfl) ?_
  intro p e s m below meth c A C E
  have C : VOk p s m _ c cX5_trace 2 wsX5_trace RX5 D (tz cs) A s.heap := C
  refine V.lvs (lv' := [(0, .ref xo), (1, .int x)]) [0, 1] rfl ?_
  refine v_iload_n C 1 dX5_trace_0 rfl ?_
  refine v_if_lt C 29 dX5_trace_1 (by decide) (fun c1 => ?_) (fun c1 => ?_)
  · skip
    refine v_ldc C (v := -1000000) (by decide +kernel) dX5_trace_29 ?_
    exact v_iret C E (by first | rfl | (simp only [c1, Int32.not_le.mpr c1, ↓reduceIte, Bool.false_eq_true, reduceCtorEq, Bool.and_true, Bool.true_and, Bool.and_false, Bool.false_and]; done) | (simp [c1, Int32.not_le.mpr c1]; done) | (simp_all [b2]; done)) (by first | rfl | (simp only [c1, Int32.not_le.mpr c1, ↓reduceIte, Bool.false_eq_true, reduceCtorEq, Bool.and_true, Bool.true_and, Bool.and_false, Bool.false_and]; done) | (simp [c1, Int32.not_le.mpr c1]; done) | (simp_all [b2]; done)) dX5_trace_31
  · skip
    refine v_iload_n C 1 dX5_trace_4 rfl ?_
    refine v_aload_n C 0 dX5_trace_5 rfl ?_
    refine v_get C (v := .ref sa) fl_X5_trace_49 0 rfl rfl dX5_trace_6 ?_
    refine v_getN C (v := .int af) fn_X5_trace_249 1 rfl rfl dX5_trace_9 ?_
    refine v_icmp_ge C 29 dX5_trace_12 (by decide) (fun c2 => ?_) (fun c2 => ?_)
    · skip
      refine v_ldc C (v := -1000000) (by decide +kernel) dX5_trace_29 ?_
      exact v_iret C E (by first | rfl | (simp only [c1, Int32.not_lt.mp c1, c2, Int32.not_lt.mpr c2, ↓reduceIte, Bool.false_eq_true, reduceCtorEq, Bool.and_true, Bool.true_and, Bool.and_false, Bool.false_and]; done) | (simp [c1, Int32.not_lt.mp c1, c2, Int32.not_lt.mpr c2]; done) | (simp_all [b2]; done)) (by first | rfl | (simp only [c1, Int32.not_lt.mp c1, c2, Int32.not_lt.mpr c2, ↓reduceIte, Bool.false_eq_true, reduceCtorEq, Bool.and_true, Bool.true_and, Bool.and_false, Bool.false_and]; done) | (simp [c1, Int32.not_lt.mp c1, c2, Int32.not_lt.mpr c2]; done) | (simp_all [b2]; done)) dX5_trace_31
    · skip
      refine v_aload_n C 0 dX5_trace_15 rfl ?_
      refine v_get C (v := .ref sa) fl_X5_trace_49 0 rfl rfl dX5_trace_16 ?_
      refine v_getN C (v := .ref sb) fn_X5_trace_252 1 rfl rfl dX5_trace_19 ?_
      refine v_iload_n C 1 dX5_trace_22 rfl ?_
      refine v_callS C [.ref sb, .int x] [] kX5_at gX5_trace_X5_at (c_at l D cs (ga := sb) (n := 16) (f := bf) (i := x) (by decide)) ⟨Nat.le_of_ble_eq_true rfl, Nat.le_of_ble_eq_true rfl⟩ ⟨rfl, rfl⟩ ⟨Nat.zero_le _, Nat.zero_le _⟩ rfl rfl (Nat.le_of_ble_eq_true rfl) [2] [(xo, .inr (5, [.ref xr, .ref xd, .ref ta, .ref tb, .ref xi, .ref aa, .ref sa, .int lf, .int fg])), (sa, .inr (1, [.ref ta, .ref sb, .int af])), (sb, .inl (cs 0, 16, .inl bf))] rfl (by decide) (show [sb] = [sb] from rfl) (rfl) dX5_trace_23 ?_
      refine V.sts (st' := [.int (gA bf 16 x)]) rfl ?_
      refine v_goto C 31 dX5_trace_26 (by decide) ?_
      exact v_iret C E (by first | rfl | (simp only [c1, Int32.not_lt.mp c1, c2, Int32.not_le.mp c2, ↓reduceIte, Bool.false_eq_true, reduceCtorEq, Bool.and_true, Bool.true_and, Bool.and_false, Bool.false_and]; done) | (simp [c1, Int32.not_lt.mp c1, c2, Int32.not_le.mp c2]; done) | (simp_all [b2]; done)) (by first | rfl | (simp only [c1, Int32.not_lt.mp c1, c2, Int32.not_le.mp c2, ↓reduceIte, Bool.false_eq_true, reduceCtorEq, Bool.and_true, Bool.true_and, Bool.and_false, Bool.false_and]; done) | (simp [c1, Int32.not_lt.mp c1, c2, Int32.not_le.mp c2]; done) | (simp_all [b2]; done)) dX5_trace_31
theorem kX5_ask : KD yX5_ask wsX5_ask cX5_ask 3 (some .int) 2 := ⟨⟨_, rfl⟩, by decide, by decide +kernel, by decide +kernel, by decide +kernel⟩
theorem in_X5_ask_X5 : ∀ w ∈ wsX50, w ∈ wsX5_ask := by decide +kernel
theorem fl_X5_ask_26 : FL RX5 wsX5_ask RX5 RX5 TX5 9 5 2 26 := ⟨⟨in_X5_ask_X5, rfl, by decide, rfl⟩, by decide +kernel⟩
theorem nq_X5_ask_X4_isTie : Cond.initialized yX4_isTie.cls ∈ wsX5_ask ∧ Cond.instanceMethod yX4_isTie ∈ wsX5_ask ∧ Cond.selects yX4_isTie.cls yX4_isTie yX4_isTie ∈ wsX5_ask := ⟨by decide +kernel, by decide +kernel, by decide +kernel⟩
theorem fl_X5_ask_49 : FL RX5 wsX5_ask RX5 RX5 TX5 9 5 6 49 := ⟨⟨in_X5_ask_X5, rfl, by decide, rfl⟩, by decide +kernel⟩
theorem nq_X5_ask_X1_begin : Cond.initialized yX1_begin.cls ∈ wsX5_ask ∧ Cond.instanceMethod yX1_begin ∈ wsX5_ask ∧ Cond.selects yX1_begin.cls yX1_begin yX1_begin ∈ wsX5_ask := ⟨by decide +kernel, by decide +kernel, by decide +kernel⟩
theorem nq_X5_ask_X1_markOf : Cond.initialized yX1_markOf.cls ∈ wsX5_ask ∧ Cond.instanceMethod yX1_markOf ∈ wsX5_ask ∧ Cond.selects yX1_markOf.cls yX1_markOf yX1_markOf ∈ wsX5_ask := ⟨by decide +kernel, by decide +kernel, by decide +kernel⟩
theorem nq_X5_ask_X1_sizeOf : Cond.initialized yX1_sizeOf.cls ∈ wsX5_ask ∧ Cond.instanceMethod yX1_sizeOf ∈ wsX5_ask ∧ Cond.selects yX1_sizeOf.cls yX1_sizeOf yX1_sizeOf ∈ wsX5_ask := ⟨by decide +kernel, by decide +kernel, by decide +kernel⟩
set_option maxHeartbeats 4000000 in
set_option maxRecDepth 100000 in
theorem c_ask (l : Launch) (D : va_G) (cs : Nat → ClassId) {xo : Nat} {xr : Nat} {xd : Nat} {ta : Nat} {tb : Nat} {xi : Nat} {aa : Nat} {sa : Nat} {lf : Int32} {fg : Int32} {tk : Nat} {tq : Nat} {tw : Nat} {kf : Nat → Int32} {sf : Nat → Int32} {wf : Nat → Int32} {pn : Nat} {aw : Int32} {me : Int32} {sp : Int32} {tn : Nat} {sb : Nat} {bf : Nat → Int32} {af : Int32} {x : Int32} {y : Int32} (hS : ∀ t, s64 (sf t)) (hti : tn ≤ 8) (hpn : pn ≤ 6) : CT l D (tz cs) yX5_ask wsX5_ask ({ frames := 6, cells := 0, slots := 0, locals := 131 }) [.ref xo, .int x, .int y] [(xo, .inr (5, [.ref xr, .ref xd, .ref ta, .ref tb, .ref xi, .ref aa, .ref sa, .int lf, .int fg])), (sa, .inr (1, [.ref ta, .ref sb, .int af])), (sb, .inl (cs 0, 16, .inl bf)), (ta, .inr (4, [.ref tk, .ref tq, .ref tw, .int (nI pn), .int (nI tn), .int aw, .int me, .int sp])), (tk, .inl (cs 0, 8, .inl kf)), (tq, .inl (cs 0, 8, .inl sf)), (tw, .inl (cs 0, 8, .inl wf))] (some (.int (if (inB (nI tn) x && zo y) = true then askV (gA kf 8 x) x (gA sf 8 x) (gA wf 8 x) (thI (nI pn) aw) y else -1000001))) [(xo, .inr (5, [.ref xr, .ref xd, .ref ta, .ref tb, .ref xi, .ref aa, .ref sa, .int lf, .int fg])), (sa, .inr (1, [.ref ta, .ref sb, .int (if (inB (nI tn) x && zo y) = true then nI (askT (gA kf 8 x) y).length else af)])), (sb, .inl (cs 0, 16, .inl (if (inB (nI tn) x && zo y) = true then putL bf 0 (askT (gA kf 8 x) y) else bf))), (ta, .inr (4, [.ref tk, .ref tq, .ref tw, .int (nI pn), .int (nI tn), .int aw, .int me, .int sp])), (tk, .inl (cs 0, 8, .inl kf)), (tq, .inl (cs 0, 8, .inl sf)), (tw, .inl (cs 0, 8, .inl wf))] := by
  refine CT.of kX5_ask (Nat.le_of_ble_eq_true rfl) ?_
  intro p e s m below meth c A C E
  have C : VOk p s m _ c cX5_ask 3 wsX5_ask RX5 D (tz cs) A s.heap := C
  refine V.lvs (lv' := [(0, .ref xo), (1, .int x), (2, .int y)]) [0, 1, 2] rfl ?_
  refine v_aload_n C 0 dX5_ask_0 rfl ?_
  refine v_get C (v := .ref ta) fl_X5_ask_26 0 rfl rfl dX5_ask_1 ?_
  refine v_iload_n C 1 dX5_ask_4 rfl ?_
  refine v_callVN (qi := 0) C [.int x] [] kX4_isTie gX5_ask_X4_isTie_n182 (host := "TableShares") (by decide +kernel) nq_X5_ask_X4_isTie (c_isTie l D cs (ta := ta) (tk := tk) (tq := tq) (tw := tw) (pe := (nI pn)) (ti := (nI tn)) (aw := aw) (me := me) (sp := sp) (x := x) ) ⟨Nat.le_of_ble_eq_true rfl, Nat.le_of_ble_eq_true rfl⟩ ⟨rfl, rfl⟩ ⟨Nat.zero_le _, Nat.zero_le _⟩ rfl 3 rfl rfl rfl rfl (Nat.le_of_ble_eq_true rfl) [3] [(xo, .inr (5, [.ref xr, .ref xd, .ref ta, .ref tb, .ref xi, .ref aa, .ref sa, .int lf, .int fg])), (sa, .inr (1, [.ref ta, .ref sb, .int af])), (sb, .inl (cs 0, 16, .inl bf)), (ta, .inr (4, [.ref tk, .ref tq, .ref tw, .int (nI pn), .int (nI tn), .int aw, .int me, .int sp])), (tk, .inl (cs 0, 8, .inl kf)), (tq, .inl (cs 0, 8, .inl sf)), (tw, .inl (cs 0, 8, .inl wf))] rfl (by decide) (show [ta] = [ta] from rfl) (rfl) dX5_ask_5 ?_
  refine V.sts (st' := [.int (b2 (inB (nI tn) x))]) rfl ?_
  refine v_if_eqB C 18 dX5_ask_8 (by decide) (fun c1 => ?_) (fun c1 => ?_)
  · skip
    refine v_ldc C (v := -1000001) (by decide +kernel) dX5_ask_18 ?_
    exact v_iret C E (by first | rfl | (simp only [askT, Nat.zero_add, c1, ↓reduceIte, Bool.false_eq_true, reduceCtorEq, Bool.and_true, Bool.true_and, Bool.and_false, Bool.false_and]; done) | (simp [askT, Nat.zero_add, c1]; done) | (simp_all [askT, Nat.zero_add]; done)) (by first | rfl | (simp only [askV, c1, ↓reduceIte, Bool.false_eq_true, reduceCtorEq, Bool.and_true, Bool.true_and, Bool.and_false, Bool.false_and]; done) | (simp [askV, c1]; done) | (simp_all [askV]; done)) dX5_ask_20
  · skip
    refine v_iload_n C 2 dX5_ask_11 rfl ?_
    refine v_callS C [.int y] [] kX5_isZeroOrOne gX5_ask_X5_isZeroOrOne (c_zo l D cs (x := y) ) ⟨Nat.le_of_ble_eq_true rfl, Nat.le_of_ble_eq_true rfl⟩ ⟨rfl, rfl⟩ ⟨Nat.zero_le _, Nat.zero_le _⟩ rfl rfl (Nat.le_of_ble_eq_true rfl) [] [(xo, .inr (5, [.ref xr, .ref xd, .ref ta, .ref tb, .ref xi, .ref aa, .ref sa, .int lf, .int fg])), (sa, .inr (1, [.ref ta, .ref sb, .int af])), (sb, .inl (cs 0, 16, .inl bf)), (ta, .inr (4, [.ref tk, .ref tq, .ref tw, .int (nI pn), .int (nI tn), .int aw, .int me, .int sp])), (tk, .inl (cs 0, 8, .inl kf)), (tq, .inl (cs 0, 8, .inl sf)), (tw, .inl (cs 0, 8, .inl wf))] rfl (by decide) rfl (rfl) dX5_ask_12 ?_
    refine V.sts (st' := [.int (b2 (zo y))]) rfl ?_
    refine v_if_neB C 21 dX5_ask_15 (by decide) (fun c2 => ?_) (fun c2 => ?_)
    · skip
      refine v_aload_n C 0 dX5_ask_21 rfl ?_
      refine v_get C (v := .ref sa) fl_X5_ask_49 0 rfl rfl dX5_ask_22 ?_
      refine v_callVN (qi := 0) C [] [] kX1_begin gX5_ask_X1_begin_n241 (host := "TableShares") (by decide +kernel) nq_X5_ask_X1_begin (c_abegin l D cs (sa := sa) (sb := sb) (ta := ta) (lf := af) ) ⟨Nat.le_of_ble_eq_true rfl, Nat.le_of_ble_eq_true rfl⟩ ⟨rfl, rfl⟩ ⟨Nat.zero_le _, Nat.zero_le _⟩ rfl 1 rfl rfl rfl rfl (Nat.le_of_ble_eq_true rfl) [1] [(xo, .inr (5, [.ref xr, .ref xd, .ref ta, .ref tb, .ref xi, .ref aa, .ref sa, .int lf, .int fg])), (sa, .inr (1, [.ref ta, .ref sb, .int 0])), (sb, .inl (cs 0, 16, .inl bf)), (ta, .inr (4, [.ref tk, .ref tq, .ref tw, .int (nI pn), .int (nI tn), .int aw, .int me, .int sp])), (tk, .inl (cs 0, 8, .inl kf)), (tq, .inl (cs 0, 8, .inl sf)), (tw, .inl (cs 0, 8, .inl wf))] rfl (by decide) (show [sa] = [sa] from rfl) (rfl) dX5_ask_25 ?_
      refine V.sts (st' := []) rfl ?_
      refine v_iload_n C 2 dX5_ask_28 rfl ?_
      refine v_if_ne C 43 dX5_ask_29 (by decide) (fun c3 => ?_) (fun c3 => ?_)
      · skip
        refine v_aload_n C 0 dX5_ask_43 rfl ?_
        refine v_get C (v := .ref sa) fl_X5_ask_49 0 rfl rfl dX5_ask_44 ?_
        refine v_iload_n C 1 dX5_ask_47 rfl ?_
        refine v_callVN (qi := 0) C [.int x] [] kX1_markOf gX5_ask_X1_markOf_n246 (host := "TableShares") (by decide +kernel) nq_X5_ask_X1_markOf (c_markOf l D cs (sa := sa) (sb := sb) (ta := ta) (bf := bf) (lf := 0) (tk := tk) (tq := tq) (tw := tw) (kf := kf) (sf := sf) (wf := wf) (pe := (nI pn)) (ti := (nI tn)) (aw := aw) (me := me) (sp := sp) (x := x) (by decide) (by first | assumption | omega)) ⟨Nat.le_of_ble_eq_true rfl, Nat.le_of_ble_eq_true rfl⟩ ⟨rfl, rfl⟩ ⟨Nat.zero_le _, Nat.zero_le _⟩ rfl 1 rfl rfl rfl rfl (Nat.le_of_ble_eq_true rfl) [1, 2, 3, 4, 5, 6] [(xo, .inr (5, [.ref xr, .ref xd, .ref ta, .ref tb, .ref xi, .ref aa, .ref sa, .int lf, .int fg])), (sa, .inr (1, [.ref ta, .ref sb, .int (nI (0 + (askT (gA kf 8 x) 1).length))])), (sb, .inl (cs 0, 16, .inl (putL bf 0 (askT (gA kf 8 x) 1)))), (ta, .inr (4, [.ref tk, .ref tq, .ref tw, .int (nI pn), .int (nI tn), .int aw, .int me, .int sp])), (tk, .inl (cs 0, 8, .inl kf)), (tq, .inl (cs 0, 8, .inl sf)), (tw, .inl (cs 0, 8, .inl wf))] rfl (by decide) (show [sa, sb, ta, tk, tq, tw] = [sa, sb, ta, tk, tq, tw] from rfl) (rfl) dX5_ask_48 ?_
        refine V.sts (st' := [.int (askV (gA kf 8 x) x (gA sf 8 x) (gA wf 8 x) (thI (nI pn) aw) 1)]) rfl ?_
        exact v_iret C E (by first | rfl | (simp only [askT, Nat.zero_add, c1, c2, c3, ↓reduceIte, Bool.false_eq_true, reduceCtorEq, Bool.and_true, Bool.true_and, Bool.and_false, Bool.false_and]; done) | (simp [askT, Nat.zero_add, c1, c2, c3]; done) | (simp_all [askT, Nat.zero_add]; done)) (by first | rfl | (simp only [askV, c1, c2, c3, ↓reduceIte, Bool.false_eq_true, reduceCtorEq, Bool.and_true, Bool.true_and, Bool.and_false, Bool.false_and]; done) | (simp [askV, c1, c2, c3]; done) | (simp_all [askV]; done)) dX5_ask_51
      · skip
        refine v_aload_n C 0 dX5_ask_32 rfl ?_
        refine v_get C (v := .ref sa) fl_X5_ask_49 0 rfl rfl dX5_ask_33 ?_
        refine v_iload_n C 1 dX5_ask_36 rfl ?_
        refine v_callVN (qi := 0) C [.int x] [] kX1_sizeOf gX5_ask_X1_sizeOf_n243 (host := "TableShares") (by decide +kernel) nq_X5_ask_X1_sizeOf (c_sizeOf l D cs (sa := sa) (sb := sb) (ta := ta) (bf := bf) (lf := 0) (tk := tk) (tq := tq) (tw := tw) (kf := kf) (sf := sf) (wf := wf) (pe := (nI pn)) (ti := (nI tn)) (aw := aw) (me := me) (sp := sp) (x := x) (by decide) (by first | assumption | omega)) ⟨Nat.le_of_ble_eq_true rfl, Nat.le_of_ble_eq_true rfl⟩ ⟨rfl, rfl⟩ ⟨Nat.zero_le _, Nat.zero_le _⟩ rfl 1 rfl rfl rfl rfl (Nat.le_of_ble_eq_true rfl) [1, 2, 3, 4, 5, 6] [(xo, .inr (5, [.ref xr, .ref xd, .ref ta, .ref tb, .ref xi, .ref aa, .ref sa, .int lf, .int fg])), (sa, .inr (1, [.ref ta, .ref sb, .int (nI (0 + (askT (gA kf 8 x) 0).length))])), (sb, .inl (cs 0, 16, .inl (putL bf 0 (askT (gA kf 8 x) 0)))), (ta, .inr (4, [.ref tk, .ref tq, .ref tw, .int (nI pn), .int (nI tn), .int aw, .int me, .int sp])), (tk, .inl (cs 0, 8, .inl kf)), (tq, .inl (cs 0, 8, .inl sf)), (tw, .inl (cs 0, 8, .inl wf))] rfl (by decide) (show [sa, sb, ta, tk, tq, tw] = [sa, sb, ta, tk, tq, tw] from rfl) (rfl) dX5_ask_37 ?_
        refine V.sts (st' := [.int (askV (gA kf 8 x) x (gA sf 8 x) (gA wf 8 x) (thI (nI pn) aw) 0)]) rfl ?_
        refine v_goto C 51 dX5_ask_40 (by decide) ?_
        exact v_iret C E (by first | rfl | (simp only [askT, Nat.zero_add, c1, c2, c3, ↓reduceIte, Bool.false_eq_true, reduceCtorEq, Bool.and_true, Bool.true_and, Bool.and_false, Bool.false_and]; done) | (simp [askT, Nat.zero_add, c1, c2, c3]; done) | (simp_all [askT, Nat.zero_add]; done)) (by first | rfl | (simp only [askV, c1, c2, c3, ↓reduceIte, Bool.false_eq_true, reduceCtorEq, Bool.and_true, Bool.true_and, Bool.and_false, Bool.false_and]; done) | (simp [askV, c1, c2, c3]; done) | (simp_all [askV]; done)) dX5_ask_51
    · skip
      refine v_ldc C (v := -1000001) (by decide +kernel) dX5_ask_18 ?_
      exact v_iret C E (by first | rfl | (simp only [askT, Nat.zero_add, c1, c2, ↓reduceIte, Bool.false_eq_true, reduceCtorEq, Bool.and_true, Bool.true_and, Bool.and_false, Bool.false_and]; done) | (simp [askT, Nat.zero_add, c1, c2]; done) | (simp_all [askT, Nat.zero_add]; done)) (by first | rfl | (simp only [askV, c1, c2, ↓reduceIte, Bool.false_eq_true, reduceCtorEq, Bool.and_true, Bool.true_and, Bool.and_false, Bool.false_and]; done) | (simp [askV, c1, c2]; done) | (simp_all [askV]; done)) dX5_ask_20
theorem kX5_count : KD yX5_count wsX5_count cX5_count 2 (some .int) 1 := ⟨⟨_, rfl⟩, by decide, by decide +kernel, by decide +kernel, by decide +kernel⟩
theorem in_X5_count_X5 : ∀ w ∈ wsX50, w ∈ wsX5_count := by decide +kernel
theorem fl_X5_count_26 : FL RX5 wsX5_count RX5 RX5 TX5 9 5 2 26 := ⟨⟨in_X5_count_X5, rfl, by decide, rfl⟩, by decide +kernel⟩
theorem in_X5_count_X4 : ∀ w ∈ wsX40, w ∈ wsX5_count := by decide +kernel
theorem fn_X5_count_199 : FLN RX5 wsX5_count RX4 RX4 TX4 8 4 3 199 := ⟨⟨in_X5_count_X4, rfl, by decide, rfl⟩, "TableShares", by decide +kernel⟩
theorem fn_X5_count_120 : FLN RX5 wsX5_count RX4 RX4 TX4 8 4 4 120 := ⟨⟨in_X5_count_X4, rfl, by decide, rfl⟩, "TableShares", by decide +kernel⟩
theorem fn_X5_count_160 : FLN RX5 wsX5_count RX4 RX4 TX4 8 4 6 160 := ⟨⟨in_X5_count_X4, rfl, by decide, rfl⟩, "TableShares", by decide +kernel⟩
theorem fn_X5_count_130 : FLN RX5 wsX5_count RX4 RX4 TX4 8 4 5 130 := ⟨⟨in_X5_count_X4, rfl, by decide, rfl⟩, "TableShares", by decide +kernel⟩
theorem fl_X5_count_40 : FL RX5 wsX5_count RX5 RX5 TX5 9 5 5 40 := ⟨⟨in_X5_count_X5, rfl, by decide, rfl⟩, by decide +kernel⟩
theorem in_X5_count_X0 : ∀ w ∈ wsX00, w ∈ wsX5_count := by decide +kernel
theorem fn_X5_count_173 : FLN RX5 wsX5_count RX0 RX0 TX0 2 0 1 173 := ⟨⟨in_X5_count_X0, rfl, by decide, rfl⟩, "TableShares", by decide +kernel⟩
theorem fl_X5_count_19 : FL RX5 wsX5_count RX5 RX5 TX5 9 5 1 19 := ⟨⟨in_X5_count_X5, rfl, by decide, rfl⟩, by decide +kernel⟩
theorem in_X5_count_X2 : ∀ w ∈ wsX20, w ∈ wsX5_count := by decide +kernel
theorem fn_X5_count_100 : FLN RX5 wsX5_count RX2 RX2 TX2 6 2 1 100 := ⟨⟨in_X5_count_X2, rfl, by decide, rfl⟩, "TableShares", by decide +kernel⟩
set_option maxHeartbeats 4000000 in
set_option maxRecDepth 100000 in
theorem c_count (l : Launch) (D : va_G) (cs : Nat → ClassId) {xo : Nat} {xr : Nat} {xd : Nat} {ta : Nat} {tb : Nat} {xi : Nat} {aa : Nat} {sa : Nat} {lf : Int32} {fg : Int32} {xt : Nat} {ap : Nat} {tk : Nat} {tq : Nat} {tw : Nat} {g : Nat → Option Nat} {rr : Nat → Nat} {rp : Nat → Nat} {rst : Nat → Bool} {rla : Nat → Int32} {rln : Nat → Int32} {rf : Nat → Nat → Int32} {pe : Int32} {ti : Int32} {aw : Int32} {me : Int32} {sp : Int32} {kn : Int32} {len : Int32} {pl : Int32} {nx : Int32} {so : Int32} {va : Int32} {x : Int32} (hg : ∀ j, j < 8 → g j = some (rr j)) (hx : s64 aw) : CT l D (tz cs) yX5_count wsX5_count ({ frames := 2, cells := 0, slots := 0, locals := 44 }) [.ref xo, .int x] [(xo, .inr (5, [.ref xr, .ref xd, .ref ta, .ref tb, .ref xi, .ref aa, .ref sa, .int lf, .int fg])), (xr, .inl (cs 2, 8, .inr (.inr (.inr (.inr g))))), (rr 0, .inr (3, [.ref (rp 0), .int (b2 (rst 0)), .int (rla 0), .int (rln 0)])), (rp 0, .inl (cs 0, 40, .inl (rf 0))), (rr 1, .inr (3, [.ref (rp 1), .int (b2 (rst 1)), .int (rla 1), .int (rln 1)])), (rp 1, .inl (cs 0, 40, .inl (rf 1))), (rr 2, .inr (3, [.ref (rp 2), .int (b2 (rst 2)), .int (rla 2), .int (rln 2)])), (rp 2, .inl (cs 0, 40, .inl (rf 2))), (rr 3, .inr (3, [.ref (rp 3), .int (b2 (rst 3)), .int (rla 3), .int (rln 3)])), (rp 3, .inl (cs 0, 40, .inl (rf 3))), (rr 4, .inr (3, [.ref (rp 4), .int (b2 (rst 4)), .int (rla 4), .int (rln 4)])), (rp 4, .inl (cs 0, 40, .inl (rf 4))), (rr 5, .inr (3, [.ref (rp 5), .int (b2 (rst 5)), .int (rla 5), .int (rln 5)])), (rp 5, .inl (cs 0, 40, .inl (rf 5))), (rr 6, .inr (3, [.ref (rp 6), .int (b2 (rst 6)), .int (rla 6), .int (rln 6)])), (rp 6, .inl (cs 0, 40, .inl (rf 6))), (rr 7, .inr (3, [.ref (rp 7), .int (b2 (rst 7)), .int (rla 7), .int (rln 7)])), (rp 7, .inl (cs 0, 40, .inl (rf 7))), (ta, .inr (4, [.ref tk, .ref tq, .ref tw, .int pe, .int ti, .int aw, .int me, .int sp])), (aa, .inr (0, [.ref ap, .int kn])), (xd, .inr (2, [.ref xt, .int len, .int pl, .int nx, .int so, .int va]))] (some (.int (if x = 0 then nI (cntS rst 8) else if x = 1 then pe else if x = 2 then ti else if x = 3 then me else if x = 4 then pcI aw else if x = 5 then kn else if x = 6 then len else -1000001))) [(xo, .inr (5, [.ref xr, .ref xd, .ref ta, .ref tb, .ref xi, .ref aa, .ref sa, .int lf, .int fg])), (xr, .inl (cs 2, 8, .inr (.inr (.inr (.inr g))))), (rr 0, .inr (3, [.ref (rp 0), .int (b2 (rst 0)), .int (rla 0), .int (rln 0)])), (rp 0, .inl (cs 0, 40, .inl (rf 0))), (rr 1, .inr (3, [.ref (rp 1), .int (b2 (rst 1)), .int (rla 1), .int (rln 1)])), (rp 1, .inl (cs 0, 40, .inl (rf 1))), (rr 2, .inr (3, [.ref (rp 2), .int (b2 (rst 2)), .int (rla 2), .int (rln 2)])), (rp 2, .inl (cs 0, 40, .inl (rf 2))), (rr 3, .inr (3, [.ref (rp 3), .int (b2 (rst 3)), .int (rla 3), .int (rln 3)])), (rp 3, .inl (cs 0, 40, .inl (rf 3))), (rr 4, .inr (3, [.ref (rp 4), .int (b2 (rst 4)), .int (rla 4), .int (rln 4)])), (rp 4, .inl (cs 0, 40, .inl (rf 4))), (rr 5, .inr (3, [.ref (rp 5), .int (b2 (rst 5)), .int (rla 5), .int (rln 5)])), (rp 5, .inl (cs 0, 40, .inl (rf 5))), (rr 6, .inr (3, [.ref (rp 6), .int (b2 (rst 6)), .int (rla 6), .int (rln 6)])), (rp 6, .inl (cs 0, 40, .inl (rf 6))), (rr 7, .inr (3, [.ref (rp 7), .int (b2 (rst 7)), .int (rla 7), .int (rln 7)])), (rp 7, .inl (cs 0, 40, .inl (rf 7))), (ta, .inr (4, [.ref tk, .ref tq, .ref tw, .int pe, .int ti, .int aw, .int me, .int sp])), (aa, .inr (0, [.ref ap, .int kn])), (xd, .inr (2, [.ref xt, .int len, .int pl, .int nx, .int so, .int va]))] := by
  refine CT.of kX5_count (Nat.le_of_ble_eq_true rfl) ?_
  intro p e s m below meth c A C E
  have C : VOk p s m _ c cX5_count 2 wsX5_count RX5 D (tz cs) A s.heap := C
  refine V.lvs (lv' := [(0, .ref xo), (1, .int x)]) [0, 1] rfl ?_
  refine v_iload_n C 1 dX5_count_0 rfl ?_
  rcases Decidable.em (x = 0) with z1 | z1
  · skip
    refine v_tableIn C 44 dX5_count_1 (by rw [z1]; decide) (by rw [z1]; decide) (by rw [z1]; rfl) (by decide) ?_
    refine v_aload_n C 0 dX5_count_44 rfl ?_
    refine v_callV (qi := 0) C [] [] kX5_rowsThatStand gX5_count_X5_rowsThatStand (c_rowsThatStand l D cs (xo := xo) (xr := xr) (xd := xd) (ta := ta) (tb := tb) (xi := xi) (aa := aa) (sa := sa) (lf := lf) (fg := fg) (g := g) (rr := rr) (rp := rp) (rst := rst) (rla := rla) (rln := rln) (rf := rf) (by first | assumption | omega)) ⟨Nat.le_of_ble_eq_true rfl, Nat.le_of_ble_eq_true rfl⟩ ⟨rfl, rfl⟩ ⟨Nat.zero_le _, Nat.zero_le _⟩ rfl 0 rfl rfl rfl rfl (Nat.le_of_ble_eq_true rfl) [0, 1, 2, 3, 4, 5, 6, 7, 8, 9, 10, 11, 12, 13, 14, 15, 16, 17] [(xo, .inr (5, [.ref xr, .ref xd, .ref ta, .ref tb, .ref xi, .ref aa, .ref sa, .int lf, .int fg])), (xr, .inl (cs 2, 8, .inr (.inr (.inr (.inr g))))), (rr 0, .inr (3, [.ref (rp 0), .int (b2 (rst 0)), .int (rla 0), .int (rln 0)])), (rp 0, .inl (cs 0, 40, .inl (rf 0))), (rr 1, .inr (3, [.ref (rp 1), .int (b2 (rst 1)), .int (rla 1), .int (rln 1)])), (rp 1, .inl (cs 0, 40, .inl (rf 1))), (rr 2, .inr (3, [.ref (rp 2), .int (b2 (rst 2)), .int (rla 2), .int (rln 2)])), (rp 2, .inl (cs 0, 40, .inl (rf 2))), (rr 3, .inr (3, [.ref (rp 3), .int (b2 (rst 3)), .int (rla 3), .int (rln 3)])), (rp 3, .inl (cs 0, 40, .inl (rf 3))), (rr 4, .inr (3, [.ref (rp 4), .int (b2 (rst 4)), .int (rla 4), .int (rln 4)])), (rp 4, .inl (cs 0, 40, .inl (rf 4))), (rr 5, .inr (3, [.ref (rp 5), .int (b2 (rst 5)), .int (rla 5), .int (rln 5)])), (rp 5, .inl (cs 0, 40, .inl (rf 5))), (rr 6, .inr (3, [.ref (rp 6), .int (b2 (rst 6)), .int (rla 6), .int (rln 6)])), (rp 6, .inl (cs 0, 40, .inl (rf 6))), (rr 7, .inr (3, [.ref (rp 7), .int (b2 (rst 7)), .int (rla 7), .int (rln 7)])), (rp 7, .inl (cs 0, 40, .inl (rf 7))), (ta, .inr (4, [.ref tk, .ref tq, .ref tw, .int pe, .int ti, .int aw, .int me, .int sp])), (aa, .inr (0, [.ref ap, .int kn])), (xd, .inr (2, [.ref xt, .int len, .int pl, .int nx, .int so, .int va]))] rfl (by decide) (show [xo, xr, rr 0, rp 0, rr 1, rp 1, rr 2, rp 2, rr 3, rp 3, rr 4, rp 4, rr 5, rp 5, rr 6, rp 6, rr 7, rp 7] = [xo, xr, rr 0, rp 0, rr 1, rp 1, rr 2, rp 2, rr 3, rp 3, rr 4, rp 4, rr 5, rp 5, rr 6, rp 6, rr 7, rp 7] from rfl) (rfl) dX5_count_45 ?_
    refine V.sts (st' := [.int (nI (cntS rst 8))]) rfl ?_
    exact v_iret C E (by first | rfl | (simp only [z1, ↓reduceIte, Bool.false_eq_true, reduceCtorEq, Bool.and_true, Bool.true_and, Bool.and_false, Bool.false_and]; done) | (simp [z1]; done) | (simp_all [b2]; done)) (by first | rfl | (simp only [z1, ↓reduceIte, Bool.false_eq_true, reduceCtorEq, Bool.and_true, Bool.true_and, Bool.and_false, Bool.false_and]; done) | (simp [z1]; done) | (simp_all [b2]; done)) dX5_count_48
  · skip
    rcases Decidable.em (x = 1) with z2 | z2
    · skip
      refine v_tableIn C 49 dX5_count_1 (by rw [z2]; decide) (by rw [z2]; decide) (by rw [z2]; rfl) (by decide) ?_
      refine v_aload_n C 0 dX5_count_49 rfl ?_
      refine v_get C (v := .ref ta) fl_X5_count_26 0 rfl rfl dX5_count_50 ?_
      refine v_getN C (v := .int pe) fn_X5_count_199 18 rfl rfl dX5_count_53 ?_
      exact v_iret C E (by first | rfl | (simp only [z1, z2, ↓reduceIte, Bool.false_eq_true, reduceCtorEq, Bool.and_true, Bool.true_and, Bool.and_false, Bool.false_and]; done) | (simp [z1, z2]; done) | (simp_all [b2]; done)) (by first | rfl | (simp only [z1, z2, ↓reduceIte, Bool.false_eq_true, reduceCtorEq, Bool.and_true, Bool.true_and, Bool.and_false, Bool.false_and]; done) | (simp [z1, z2]; done) | (simp_all [b2]; done)) dX5_count_56
    · skip
      rcases Decidable.em (x = 2) with z3 | z3
      · skip
        refine v_tableIn C 57 dX5_count_1 (by rw [z3]; decide) (by rw [z3]; decide) (by rw [z3]; rfl) (by decide) ?_
        refine v_aload_n C 0 dX5_count_57 rfl ?_
        refine v_get C (v := .ref ta) fl_X5_count_26 0 rfl rfl dX5_count_58 ?_
        refine v_getN C (v := .int ti) fn_X5_count_120 18 rfl rfl dX5_count_61 ?_
        exact v_iret C E (by first | rfl | (simp only [z1, z2, z3, ↓reduceIte, Bool.false_eq_true, reduceCtorEq, Bool.and_true, Bool.true_and, Bool.and_false, Bool.false_and]; done) | (simp [z1, z2, z3]; done) | (simp_all [b2]; done)) (by first | rfl | (simp only [z1, z2, z3, ↓reduceIte, Bool.false_eq_true, reduceCtorEq, Bool.and_true, Bool.true_and, Bool.and_false, Bool.false_and]; done) | (simp [z1, z2, z3]; done) | (simp_all [b2]; done)) dX5_count_64
      · skip
        rcases Decidable.em (x = 3) with z4 | z4
        · skip
          refine v_tableIn C 65 dX5_count_1 (by rw [z4]; decide) (by rw [z4]; decide) (by rw [z4]; rfl) (by decide) ?_
          refine v_aload_n C 0 dX5_count_65 rfl ?_
          refine v_get C (v := .ref ta) fl_X5_count_26 0 rfl rfl dX5_count_66 ?_
          refine v_getN C (v := .int me) fn_X5_count_160 18 rfl rfl dX5_count_69 ?_
          exact v_iret C E (by first | rfl | (simp only [z1, z2, z3, z4, ↓reduceIte, Bool.false_eq_true, reduceCtorEq, Bool.and_true, Bool.true_and, Bool.and_false, Bool.false_and]; done) | (simp [z1, z2, z3, z4]; done) | (simp_all [b2]; done)) (by first | rfl | (simp only [z1, z2, z3, z4, ↓reduceIte, Bool.false_eq_true, reduceCtorEq, Bool.and_true, Bool.true_and, Bool.and_false, Bool.false_and]; done) | (simp [z1, z2, z3, z4]; done) | (simp_all [b2]; done)) dX5_count_72
        · skip
          rcases Decidable.em (x = 4) with z5 | z5
          · skip
            refine v_tableIn C 73 dX5_count_1 (by rw [z5]; decide) (by rw [z5]; decide) (by rw [z5]; rfl) (by decide) ?_
            refine v_aload_n C 0 dX5_count_73 rfl ?_
            refine v_get C (v := .ref ta) fl_X5_count_26 0 rfl rfl dX5_count_74 ?_
            refine v_getN C (v := .int aw) fn_X5_count_130 18 rfl rfl dX5_count_77 ?_
            refine v_callS C [.int aw] [] kJ6_bitCount_0f7a4 gX5_count_J6_bitCount_0f7a4 (c_bc l D cs (x := aw) (by first | assumption | omega)) ⟨Nat.le_of_ble_eq_true rfl, Nat.le_of_ble_eq_true rfl⟩ ⟨rfl, rfl⟩ ⟨Nat.zero_le _, Nat.zero_le _⟩ rfl rfl (Nat.le_of_ble_eq_true rfl) [] [(xo, .inr (5, [.ref xr, .ref xd, .ref ta, .ref tb, .ref xi, .ref aa, .ref sa, .int lf, .int fg])), (xr, .inl (cs 2, 8, .inr (.inr (.inr (.inr g))))), (rr 0, .inr (3, [.ref (rp 0), .int (b2 (rst 0)), .int (rla 0), .int (rln 0)])), (rp 0, .inl (cs 0, 40, .inl (rf 0))), (rr 1, .inr (3, [.ref (rp 1), .int (b2 (rst 1)), .int (rla 1), .int (rln 1)])), (rp 1, .inl (cs 0, 40, .inl (rf 1))), (rr 2, .inr (3, [.ref (rp 2), .int (b2 (rst 2)), .int (rla 2), .int (rln 2)])), (rp 2, .inl (cs 0, 40, .inl (rf 2))), (rr 3, .inr (3, [.ref (rp 3), .int (b2 (rst 3)), .int (rla 3), .int (rln 3)])), (rp 3, .inl (cs 0, 40, .inl (rf 3))), (rr 4, .inr (3, [.ref (rp 4), .int (b2 (rst 4)), .int (rla 4), .int (rln 4)])), (rp 4, .inl (cs 0, 40, .inl (rf 4))), (rr 5, .inr (3, [.ref (rp 5), .int (b2 (rst 5)), .int (rla 5), .int (rln 5)])), (rp 5, .inl (cs 0, 40, .inl (rf 5))), (rr 6, .inr (3, [.ref (rp 6), .int (b2 (rst 6)), .int (rla 6), .int (rln 6)])), (rp 6, .inl (cs 0, 40, .inl (rf 6))), (rr 7, .inr (3, [.ref (rp 7), .int (b2 (rst 7)), .int (rla 7), .int (rln 7)])), (rp 7, .inl (cs 0, 40, .inl (rf 7))), (ta, .inr (4, [.ref tk, .ref tq, .ref tw, .int pe, .int ti, .int aw, .int me, .int sp])), (aa, .inr (0, [.ref ap, .int kn])), (xd, .inr (2, [.ref xt, .int len, .int pl, .int nx, .int so, .int va]))] rfl (by decide) rfl (rfl) dX5_count_80 ?_
            refine V.sts (st' := [.int (pcI aw)]) rfl ?_
            exact v_iret C E (by first | rfl | (simp only [z1, z2, z3, z4, z5, ↓reduceIte, Bool.false_eq_true, reduceCtorEq, Bool.and_true, Bool.true_and, Bool.and_false, Bool.false_and]; done) | (simp [z1, z2, z3, z4, z5]; done) | (simp_all [b2]; done)) (by first | rfl | (simp only [z1, z2, z3, z4, z5, ↓reduceIte, Bool.false_eq_true, reduceCtorEq, Bool.and_true, Bool.true_and, Bool.and_false, Bool.false_and]; done) | (simp [z1, z2, z3, z4, z5]; done) | (simp_all [b2]; done)) dX5_count_83
          · skip
            rcases Decidable.em (x = 5) with z6 | z6
            · skip
              refine v_tableIn C 84 dX5_count_1 (by rw [z6]; decide) (by rw [z6]; decide) (by rw [z6]; rfl) (by decide) ?_
              refine v_aload_n C 0 dX5_count_84 rfl ?_
              refine v_get C (v := .ref aa) fl_X5_count_40 0 rfl rfl dX5_count_85 ?_
              refine v_getN C (v := .int kn) fn_X5_count_173 19 rfl rfl dX5_count_88 ?_
              exact v_iret C E (by first | rfl | (simp only [z1, z2, z3, z4, z5, z6, ↓reduceIte, Bool.false_eq_true, reduceCtorEq, Bool.and_true, Bool.true_and, Bool.and_false, Bool.false_and]; done) | (simp [z1, z2, z3, z4, z5, z6]; done) | (simp_all [b2]; done)) (by first | rfl | (simp only [z1, z2, z3, z4, z5, z6, ↓reduceIte, Bool.false_eq_true, reduceCtorEq, Bool.and_true, Bool.true_and, Bool.and_false, Bool.false_and]; done) | (simp [z1, z2, z3, z4, z5, z6]; done) | (simp_all [b2]; done)) dX5_count_91
            · skip
              rcases Decidable.em (x = 6) with z7 | z7
              · skip
                refine v_tableIn C 92 dX5_count_1 (by rw [z7]; decide) (by rw [z7]; decide) (by rw [z7]; rfl) (by decide) ?_
                refine v_aload_n C 0 dX5_count_92 rfl ?_
                refine v_get C (v := .ref xd) fl_X5_count_19 0 rfl rfl dX5_count_93 ?_
                refine v_getN C (v := .int len) fn_X5_count_100 20 rfl rfl dX5_count_96 ?_
                exact v_iret C E (by first | rfl | (simp only [z1, z2, z3, z4, z5, z6, z7, ↓reduceIte, Bool.false_eq_true, reduceCtorEq, Bool.and_true, Bool.true_and, Bool.and_false, Bool.false_and]; done) | (simp [z1, z2, z3, z4, z5, z6, z7]; done) | (simp_all [b2]; done)) (by first | rfl | (simp only [z1, z2, z3, z4, z5, z6, z7, ↓reduceIte, Bool.false_eq_true, reduceCtorEq, Bool.and_true, Bool.true_and, Bool.and_false, Bool.false_and]; done) | (simp [z1, z2, z3, z4, z5, z6, z7]; done) | (simp_all [b2]; done)) dX5_count_99
              · skip
                have tz1 : ¬ Int32.toInt x = 0 := lv_neT z1 (by rfl)
                have tz2 : ¬ Int32.toInt x = 1 := lv_neT z2 (by rfl)
                have tz3 : ¬ Int32.toInt x = 2 := lv_neT z3 (by rfl)
                have tz4 : ¬ Int32.toInt x = 3 := lv_neT z4 (by rfl)
                have tz5 : ¬ Int32.toInt x = 4 := lv_neT z5 (by rfl)
                have tz6 : ¬ Int32.toInt x = 5 := lv_neT z6 (by rfl)
                have tz7 : ¬ Int32.toInt x = 6 := lv_neT z7 (by rfl)
                refine v_tableOut C 100 dX5_count_1 (by omega) (by decide) ?_
                refine v_ldc C (v := -1000001) (by decide +kernel) dX5_count_100 ?_
                exact v_iret C E (by first | rfl | (simp only [z1, z2, z3, z4, z5, z6, z7, ↓reduceIte, Bool.false_eq_true, reduceCtorEq, Bool.and_true, Bool.true_and, Bool.and_false, Bool.false_and]; done) | (simp [z1, z2, z3, z4, z5, z6, z7]; done) | (simp_all [b2]; done)) (by first | rfl | (simp only [z1, z2, z3, z4, z5, z6, z7, ↓reduceIte, Bool.false_eq_true, reduceCtorEq, Bool.and_true, Bool.true_and, Bool.and_false, Bool.false_and]; done) | (simp [z1, z2, z3, z4, z5, z6, z7]; done) | (simp_all [b2]; done)) dX5_count_102
