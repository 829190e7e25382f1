theorem kX4_addTie : KD yX4_addTie wsX4_addTie cX4_addTie 4 none 3 := ⟨⟨_, rfl⟩, by decide, by decide +kernel, by decide +kernel, by decide +kernel⟩
theorem in_X4_addTie_X4 : ∀ w ∈ wsX40, w ∈ wsX4_addTie := by decide +kernel
theorem fl_X4_addTie_25 : FL RX4 wsX4_addTie RX4 RX4 TX4 8 4 4 25 := ⟨⟨in_X4_addTie_X4, rfl, by decide, rfl⟩, by decide +kernel⟩
theorem fl_X4_addTie_9 : FL RX4 wsX4_addTie RX4 RX4 TX4 8 4 0 9 := ⟨⟨in_X4_addTie_X4, rfl, by decide, rfl⟩, by decide +kernel⟩
theorem nq_X4_addTie_X5_put : Cond.initialized yX5_put.cls ∈ wsX4_addTie ∧ Cond.static yX5_put ∈ wsX4_addTie := ⟨by decide +kernel, by decide +kernel⟩
theorem fl_X4_addTie_15 : FL RX4 wsX4_addTie RX4 RX4 TX4 8 4 1 15 := ⟨⟨in_X4_addTie_X4, rfl, by decide, rfl⟩, by decide +kernel⟩
theorem fl_X4_addTie_18 : FL RX4 wsX4_addTie RX4 RX4 TX4 8 4 2 18 := ⟨⟨in_X4_addTie_X4, rfl, by decide, rfl⟩, by decide +kernel⟩
set_option maxHeartbeats 4000000 in
set_option maxRecDepth 100000 in
theorem c_addTie (l : Launch) (D : va_G) (cs : Nat → ClassId) {ta : Nat} {tk : Nat} {tq : Nat} {tw : Nat} {kf : Nat → Int32} {sf : Nat → Int32} {wf : Nat → Int32} {pe : Int32} {aw : Int32} {me : Int32} {sp : Int32} {tn : Nat} {x0 : Int32} {x1 : Int32} {x2 : Int32} (ht : tn < 8) : CT l D (tz cs) yX4_addTie wsX4_addTie ({ frames := 1, cells := 0, slots := 0, locals := 22 }) [.ref ta, .int x0, .int x1, .int x2] [(ta, .inr (4, [.ref tk, .ref tq, .ref tw, .int pe, .int (nI tn), .int aw, .int me, .int sp])), (tk, .inl (cs 0, 8, .inl kf)), (tq, .inl (cs 0, 8, .inl sf)), (tw, .inl (cs 0, 8, .inl wf))] none [(ta, .inr (4, [.ref tk, .ref tq, .ref tw, .int pe, .int (nI (tn + 1)), .int aw, .int me, .int sp])), (tk, .inl (cs 0, 8, .inl (upd kf tn x0))), (tq, .inl (cs 0, 8, .inl (upd sf tn x1))), (tw, .inl (cs 0, 8, .inl (upd wf tn x2)))] := by
  refine CT.of kX4_addTie (Nat.le_of_ble_eq_true rfl) ?_
  intro p e s m below meth c A C E
  have C : VOk p s m _ c cX4_addTie 4 wsX4_addTie RX4 D (tz cs) A s.heap := C
  refine V.lvs (lv' := [(0, .ref ta), (1, .int x0), (2, .int x1), (3, .int x2)]) [0, 1, 2, 3] rfl ?_
  refine v_aload_n C 0 dX4_addTie_0 rfl ?_
  refine v_get C (v := .int (nI tn)) fl_X4_addTie_25 0 rfl rfl dX4_addTie_1 ?_
  refine v_bipush C (v := 8) dX4_addTie_4 (by decide) ?_
  refine v_icmp_ge C 55 dX4_addTie_6 (by decide) (fun c1 => ?_) (fun c1 => ?_)
  · exact absurd c1 (nI_ge (a := tn) (b := 8) ht (by decide))
  · skip
    refine v_aload_n C 0 dX4_addTie_9 rfl ?_
    refine v_get C (v := .ref tk) fl_X4_addTie_9 0 rfl rfl dX4_addTie_10 ?_
    refine v_aload_n C 0 dX4_addTie_13 rfl ?_
    refine v_get C (v := .int (nI tn)) fl_X4_addTie_25 0 rfl rfl dX4_addTie_14 ?_
    refine v_iload_n C 1 dX4_addTie_17 rfl ?_
    refine v_callSN C [.ref tk, .int (nI tn), .int x0] [] kX5_put gX4_addTie_X5_put_n41 (host := "TableShares") (by decide +kernel) nq_X4_addTie_X5_put (c_put l D cs (ga := tk) (n := 8) (f := kf) (i := (nI tn)) (x := x0) (by decide)) ⟨Nat.le_of_ble_eq_true rfl, Nat.le_of_ble_eq_true rfl⟩ ⟨rfl, rfl⟩ ⟨Nat.zero_le _, Nat.zero_le _⟩ rfl rfl (Nat.le_of_ble_eq_true rfl) [1] [(ta, .inr (4, [.ref tk, .ref tq, .ref tw, .int pe, .int (nI tn), .int aw, .int me, .int sp])), (tk, .inl (cs 0, 8, .inl (pA kf 8 (nI tn) x0))), (tq, .inl (cs 0, 8, .inl sf)), (tw, .inl (cs 0, 8, .inl wf))] rfl (by decide) (show [tk] = [tk] from rfl) (rfl) dX4_addTie_18 ?_
    refine V.sts (st' := []) rfl ?_
    refine v_aload_n C 0 dX4_addTie_21 rfl ?_
    refine v_get C (v := .ref tq) fl_X4_addTie_15 0 rfl rfl dX4_addTie_22 ?_
    refine v_aload_n C 0 dX4_addTie_25 rfl ?_
    refine v_get C (v := .int (nI tn)) fl_X4_addTie_25 0 rfl rfl dX4_addTie_26 ?_
    refine v_iload_n C 2 dX4_addTie_29 rfl ?_
    refine v_callSN C [.ref tq, .int (nI tn), .int x1] [] kX5_put gX4_addTie_X5_put_n41 (host := "TableShares") (by decide +kernel) nq_X4_addTie_X5_put (c_put l D cs (ga := tq) (n := 8) (f := sf) (i := (nI tn)) (x := x1) (by decide)) ⟨Nat.le_of_ble_eq_true rfl, Nat.le_of_ble_eq_true rfl⟩ ⟨rfl, rfl⟩ ⟨Nat.zero_le _, Nat.zero_le _⟩ rfl rfl (Nat.le_of_ble_eq_true rfl) [2] [(ta, .inr (4, [.ref tk, .ref tq, .ref tw, .int pe, .int (nI tn), .int aw, .int me, .int sp])), (tk, .inl (cs 0, 8, .inl (pA kf 8 (nI tn) x0))), (tq, .inl (cs 0, 8, .inl (pA sf 8 (nI tn) x1))), (tw, .inl (cs 0, 8, .inl wf))] rfl (by decide) (show [tq] = [tq] from rfl) (rfl) dX4_addTie_30 ?_
    refine V.sts (st' := []) rfl ?_
    refine v_aload_n C 0 dX4_addTie_33 rfl ?_
    refine v_get C (v := .ref tw) fl_X4_addTie_18 0 rfl rfl dX4_addTie_34 ?_
    refine v_aload_n C 0 dX4_addTie_37 rfl ?_
    refine v_get C (v := .int (nI tn)) fl_X4_addTie_25 0 rfl rfl dX4_addTie_38 ?_
    refine v_iload_n C 3 dX4_addTie_41 rfl ?_
    refine v_callSN C [.ref tw, .int (nI tn), .int x2] [] kX5_put gX4_addTie_X5_put_n41 (host := "TableShares") (by decide +kernel) nq_X4_addTie_X5_put (c_put l D cs (ga := tw) (n := 8) (f := wf) (i := (nI tn)) (x := x2) (by decide)) ⟨Nat.le_of_ble_eq_true rfl, Nat.le_of_ble_eq_true rfl⟩ ⟨rfl, rfl⟩ ⟨Nat.zero_le _, Nat.zero_le _⟩ rfl rfl (Nat.le_of_ble_eq_true rfl) [3] [(ta, .inr (4, [.ref tk, .ref tq, .ref tw, .int pe, .int (nI tn), .int aw, .int me, .int sp])), (tk, .inl (cs 0, 8, .inl (pA kf 8 (nI tn) x0))), (tq, .inl (cs 0, 8, .inl (pA sf 8 (nI tn) x1))), (tw, .inl (cs 0, 8, .inl (pA wf 8 (nI tn) x2)))] rfl (by decide) (show [tw] = [tw] from rfl) (rfl) dX4_addTie_42 ?_
    refine V.sts (st' := []) rfl ?_
    refine v_aload_n C 0 dX4_addTie_45 rfl ?_
    refine v_dup C dX4_addTie_46 rfl ?_
    refine v_get C (v := .int (nI tn)) fl_X4_addTie_25 0 rfl rfl dX4_addTie_47 ?_
    refine v_iconst C (v := 1) dX4_addTie_50 (by decide) ?_
    refine v_iadd C dX4_addTie_51 ?_
    refine v_put C fl_X4_addTie_25 fp_X4_4 0 rfl rfl rfl (Nat.le_of_ble_eq_true rfl) [(ta, .inr (4, [.ref tk, .ref tq, .ref tw, .int pe, .int ((nI tn) + 1), .int aw, .int me, .int sp])), (tk, .inl (cs 0, 8, .inl (pA kf 8 (nI tn) x0))), (tq, .inl (cs 0, 8, .inl (pA sf 8 (nI tn) x1))), (tw, .inl (cs 0, 8, .inl (pA wf 8 (nI tn) x2)))] rfl dX4_addTie_52 ?_
    exact v_vret C E (by rw [pA_in (by omega) (by decide), pA_in (by omega) (by decide), pA_in (by omega) (by decide), nI_1]) dX4_addTie_55
theorem kX4_dropTie : KD yX4_dropTie wsX4_dropTie cX4_dropTie 1 none 0 := ⟨⟨_, rfl⟩, by decide, by decide +kernel, by decide +kernel, by decide +kernel⟩
theorem in_X4_dropTie_X4 : ∀ w ∈ wsX40, w ∈ wsX4_dropTie := by decide +kernel
theorem fl_X4_dropTie_25 : FL RX4 wsX4_dropTie RX4 RX4 TX4 8 4 4 25 := ⟨⟨in_X4_dropTie_X4, rfl, by decide, rfl⟩, by decide +kernel⟩
set_option maxHeartbeats 4000000 in
set_option maxRecDepth 100000 in
theorem c_dropTie (l : Launch) (D : va_G) (cs : Nat → ClassId) {ta : Nat} {tk : Nat} {tq : Nat} {tw : Nat} {kf : Nat → Int32} {sf : Nat → Int32} {wf : Nat → Int32} {pe : Int32} {aw : Int32} {me : Int32} {sp : Int32} {tn : Nat} (ht : tn < 8) : CT l D (tz cs) yX4_dropTie wsX4_dropTie ({ frames := 0, cells := 0, slots := 0, locals := 0 }) [.ref ta] [(ta, .inr (4, [.ref tk, .ref tq, .ref tw, .int pe, .int (nI (tn + 1)), .int aw, .int me, .int sp])), (tk, .inl (cs 0, 8, .inl kf)), (tq, .inl (cs 0, 8, .inl sf)), (tw, .inl (cs 0, 8, .inl wf))] none [(ta, .inr (4, [.ref tk, .ref tq, .ref tw, .int pe, .int (nI tn), .int aw, .int me, .int sp])), (tk, .inl (cs 0, 8, .inl kf)), (tq, .inl (cs 0, 8, .inl sf)), (tw, .inl (cs 0, 8, .inl wf))] := by
  refine CT.of kX4_dropTie (Nat.le_of_ble_eq_true rfl) ?_
  intro p e s m below meth c A C E
  have C : VOk p s m _ c cX4_dropTie 1 wsX4_dropTie RX4 D (tz cs) A s.heap := C
  refine V.lvs (lv' := [(0, .ref ta)]) [0] rfl ?_
  refine v_aload_n C 0 dX4_dropTie_0 rfl ?_
  refine v_get C (v := .int (nI (tn + 1))) fl_X4_dropTie_25 0 rfl rfl dX4_dropTie_1 ?_
  refine v_if_le C 17 dX4_dropTie_4 (by decide) (fun c1 => ?_) (fun c1 => ?_)
  · exact absurd c1 (nI_nle (n := tn + 1) (by omega) (by omega))
  · skip
    refine v_aload_n C 0 dX4_dropTie_7 rfl ?_
    refine v_dup C dX4_dropTie_8 rfl ?_
    refine v_get C (v := .int (nI (tn + 1))) fl_X4_dropTie_25 0 rfl rfl dX4_dropTie_9 ?_
    refine v_iconst C (v := 1) dX4_dropTie_12 (by decide) ?_
    refine v_isub C dX4_dropTie_13 ?_
    refine v_put C fl_X4_dropTie_25 fp_X4_4 0 rfl rfl rfl (Nat.le_of_ble_eq_true rfl) [(ta, .inr (4, [.ref tk, .ref tq, .ref tw, .int pe, .int ((nI (tn + 1)) - 1), .int aw, .int me, .int sp])), (tk, .inl (cs 0, 8, .inl kf)), (tq, .inl (cs 0, 8, .inl sf)), (tw, .inl (cs 0, 8, .inl wf))] rfl dX4_dropTie_14 ?_
    exact v_vret C E (by rw [nI_pred]) dX4_dropTie_17
theorem kX4_become : KD yX4_become wsX4_become cX4_become 3 none 1 := ⟨⟨_, rfl⟩, by decide, by decide +kernel, by decide +kernel, by decide +kernel⟩
theorem in_X4_become_X4 : ∀ w ∈ wsX40, w ∈ wsX4_become := by decide +kernel
theorem fl_X4_become_21 : FL RX4 wsX4_become RX4 RX4 TX4 8 4 3 21 := ⟨⟨in_X4_become_X4, rfl, by decide, rfl⟩, by decide +kernel⟩
theorem fl_X4_become_25 : FL RX4 wsX4_become RX4 RX4 TX4 8 4 4 25 := ⟨⟨in_X4_become_X4, rfl, by decide, rfl⟩, by decide +kernel⟩
theorem fl_X4_become_28 : FL RX4 wsX4_become RX4 RX4 TX4 8 4 5 28 := ⟨⟨in_X4_become_X4, rfl, by decide, rfl⟩, by decide +kernel⟩
theorem fl_X4_become_31 : FL RX4 wsX4_become RX4 RX4 TX4 8 4 6 31 := ⟨⟨in_X4_become_X4, rfl, by decide, rfl⟩, by decide +kernel⟩
theorem fl_X4_become_34 : FL RX4 wsX4_become RX4 RX4 TX4 8 4 7 34 := ⟨⟨in_X4_become_X4, rfl, by decide, rfl⟩, by decide +kernel⟩
theorem fl_X4_become_9 : FL RX4 wsX4_become RX4 RX4 TX4 8 4 0 9 := ⟨⟨in_X4_become_X4, rfl, by decide, rfl⟩, by decide +kernel⟩
theorem nq_X4_become_X5_at : Cond.initialized yX5_at.cls ∈ wsX4_become ∧ Cond.static yX5_at ∈ wsX4_become := ⟨by decide +kernel, by decide +kernel⟩
theorem nq_X4_become_X5_put : Cond.initialized yX5_put.cls ∈ wsX4_become ∧ Cond.static yX5_put ∈ wsX4_become := ⟨by decide +kernel, by decide +kernel⟩
theorem fl_X4_become_15 : FL RX4 wsX4_become RX4 RX4 TX4 8 4 1 15 := ⟨⟨in_X4_become_X4, rfl, by decide, rfl⟩, by decide +kernel⟩
theorem fl_X4_become_18 : FL RX4 wsX4_become RX4 RX4 TX4 8 4 2 18 := ⟨⟨in_X4_become_X4, rfl, by decide, rfl⟩, by decide +kernel⟩
set_option maxHeartbeats 4000000 in
set_option maxRecDepth 100000 in
theorem c_become (l : Launch) (D : va_G) (cs : Nat → ClassId) {ta : Nat} {tk : Nat} {tq : Nat} {tw : Nat} {kf : Nat → Int32} {sf : Nat → Int32} {wf : Nat → Int32} {pe : Int32} {ti : Int32} {aw : Int32} {me : Int32} {sp : Int32} {tb : Nat} {uk : Nat} {uq : Nat} {uw : Nat} {kg : Nat → Int32} {sg : Nat → Int32} {wg : Nat → Int32} {pe2 : Int32} {ti2 : Int32} {aw2 : Int32} {me2 : Int32} {sp2 : Int32} : CT l D (tz cs) yX4_become wsX4_become ({ frames := 1, cells := 0, slots := 0, locals := 22 }) [.ref ta, .ref tb] [(ta, .inr (4, [.ref tk, .ref tq, .ref tw, .int pe, .int ti, .int aw, .int me, .int sp])), (tk, .inl (cs 0, 8, .inl kf)), (tq, .inl (cs 0, 8, .inl sf)), (tw, .inl (cs 0, 8, .inl wf)), (tb, .inr (4, [.ref uk, .ref uq, .ref uw, .int pe2, .int ti2, .int aw2, .int me2, .int sp2])), (uk, .inl (cs 0, 8, .inl kg)), (uq, .inl (cs 0, 8, .inl sg)), (uw, .inl (cs 0, 8, .inl wg))] none [(ta, .inr (4, [.ref tk, .ref tq, .ref tw, .int pe2, .int ti2, .int aw2, .int me2, .int sp2])), (tk, .inl (cs 0, 8, .inl (cpF kf kg 8))), (tq, .inl (cs 0, 8, .inl (cpF sf sg 8))), (tw, .inl (cs 0, 8, .inl (cpF wf wg 8))), (tb, .inr (4, [.ref uk, .ref uq, .ref uw, .int pe2, .int ti2, .int aw2, .int me2, .int sp2])), (uk, .inl (cs 0, 8, .inl kg)), (uq, .inl (cs 0, 8, .inl sg)), (uw, .inl (cs 0, 8, .inl wg))] := by
  refine CT.of kX4_become (Nat.le_of_ble_eq_true rfl) ?_
  intro p e s m below meth c A C E
  have C : VOk p s m _ c cX4_become 3 wsX4_become RX4 D (tz cs) A s.heap := C
  refine V.lvs (lv' := [(0, .ref ta), (1, .ref tb)]) [0, 1] rfl ?_
  refine v_iconst C (v := 0) dX4_become_0 (by decide) ?_
  refine v_istore_n C [(0, .ref ta), (1, .ref tb), (2, .int 0)] [1, 2, 0] dX4_become_1 (by decide) rfl ?_
  have L2 : ∀ (n : Nat) (i : Nat) (y0 : Int32) (y1 : Nat → Int32) (y2 : Nat → Int32) (y3 : Nat → Int32), y0 = (nI i) → y1 = cpF kf kg i → y2 = cpF sf sg i → y3 = cpF wf wg i → (i ≤ 8) → (8 - i) < n → V p l e ({ frames := 1, cells := 0, slots := 0, locals := 22 }) s m (List.toArray [.ref ta, .ref tb]) below meth c 0 0 (MQ below (vq_Q none D [(ta, .inr (4, [.ref tk, .ref tq, .ref tw, .int pe2, .int ti2, .int aw2, .int me2, .int sp2])), (tk, .inl (cs 0, 8, .inl (cpF kf kg 8))), (tq, .inl (cs 0, 8, .inl (cpF sf sg 8))), (tw, .inl (cs 0, 8, .inl (cpF wf wg 8))), (tb, .inr (4, [.ref uk, .ref uq, .ref uw, .int pe2, .int ti2, .int aw2, .int me2, .int sp2])), (uk, .inl (cs 0, 8, .inl kg)), (uq, .inl (cs 0, 8, .inl sg)), (uw, .inl (cs 0, 8, .inl wg))] [(ta, .inr (4, [.ref tk, .ref tq, .ref tw, .int pe, .int ti, .int aw, .int me, .int sp])), (tk, .inl (cs 0, 8, .inl kf)), (tq, .inl (cs 0, 8, .inl sf)), (tw, .inl (cs 0, 8, .inl wf)), (tb, .inr (4, [.ref uk, .ref uq, .ref uw, .int pe2, .int ti2, .int aw2, .int me2, .int sp2])), (uk, .inl (cs 0, 8, .inl kg)), (uq, .inl (cs 0, 8, .inl sg)), (uw, .inl (cs 0, 8, .inl wg))] s.heap.size) (List.toArray [.ref ta, .ref tb]) s 0 0 (va_A [(ta, .inr (4, [.ref tk, .ref tq, .ref tw, .int pe, .int ti, .int aw, .int me, .int sp])), (tk, .inl (cs 0, 8, .inl kf)), (tq, .inl (cs 0, 8, .inl sf)), (tw, .inl (cs 0, 8, .inl wf)), (tb, .inr (4, [.ref uk, .ref uq, .ref uw, .int pe2, .int ti2, .int aw2, .int me2, .int sp2])), (uk, .inl (cs 0, 8, .inl kg)), (uq, .inl (cs 0, 8, .inl sg)), (uw, .inl (cs 0, 8, .inl wg))] s.heap.size)) 3 D A s.heap 2 [(0, .ref ta), (1, .ref tb), (2, .int y0)] [] [(ta, .inr (4, [.ref tk, .ref tq, .ref tw, .int pe, .int ti, .int aw, .int me, .int sp])), (tk, .inl (cs 0, 8, .inl y1)), (tq, .inl (cs 0, 8, .inl y2)), (tw, .inl (cs 0, 8, .inl y3)), (tb, .inr (4, [.ref uk, .ref uq, .ref uw, .int pe2, .int ti2, .int aw2, .int me2, .int sp2])), (uk, .inl (cs 0, 8, .inl kg)), (uq, .inl (cs 0, 8, .inl sg)), (uw, .inl (cs 0, 8, .inl wg))] := by
    intro n
    induction n with
    | zero =>
      intros; omega
    | succ n ih2 =>
      intro i y0 y1 y2 y3 ey0 ey1 ey2 ey3 hi hn
      subst ey0
      subst ey1
      subst ey2
      subst ey3
      refine v_iload_n C 2 dX4_become_2 rfl ?_
      refine v_bipush C (v := 8) dX4_become_3 (by decide) ?_
      refine v_icmp_ge C 62 dX4_become_5 (by decide) (fun c1 => ?_) (fun c1 => ?_)
      · skip
        have hge : 8 ≤ i := le_nI (a := 8) (b := i) c1 (by omega) (by omega)
        refine v_aload_n C 0 dX4_become_62 rfl ?_
        refine v_aload_n C 1 dX4_become_63 rfl ?_
        refine v_get C (v := .int pe2) fl_X4_become_21 4 rfl rfl dX4_become_64 ?_
        refine v_put C fl_X4_become_21 fp_X4_3 0 rfl rfl rfl (Nat.le_of_ble_eq_true rfl) [(ta, .inr (4, [.ref tk, .ref tq, .ref tw, .int pe2, .int ti, .int aw, .int me, .int sp])), (tk, .inl (cs 0, 8, .inl (cpF kf kg i))), (tq, .inl (cs 0, 8, .inl (cpF sf sg i))), (tw, .inl (cs 0, 8, .inl (cpF wf wg i))), (tb, .inr (4, [.ref uk, .ref uq, .ref uw, .int pe2, .int ti2, .int aw2, .int me2, .int sp2])), (uk, .inl (cs 0, 8, .inl kg)), (uq, .inl (cs 0, 8, .inl sg)), (uw, .inl (cs 0, 8, .inl wg))] rfl dX4_become_67 ?_
        refine v_aload_n C 0 dX4_become_70 rfl ?_
        refine v_aload_n C 1 dX4_become_71 rfl ?_
        refine v_get C (v := .int ti2) fl_X4_become_25 4 rfl rfl dX4_become_72 ?_
        refine v_put C fl_X4_become_25 fp_X4_4 0 rfl rfl rfl (Nat.le_of_ble_eq_true rfl) [(ta, .inr (4, [.ref tk, .ref tq, .ref tw, .int pe2, .int ti2, .int aw, .int me, .int sp])), (tk, .inl (cs 0, 8, .inl (cpF kf kg i))), (tq, .inl (cs 0, 8, .inl (cpF sf sg i))), (tw, .inl (cs 0, 8, .inl (cpF wf wg i))), (tb, .inr (4, [.ref uk, .ref uq, .ref uw, .int pe2, .int ti2, .int aw2, .int me2, .int sp2])), (uk, .inl (cs 0, 8, .inl kg)), (uq, .inl (cs 0, 8, .inl sg)), (uw, .inl (cs 0, 8, .inl wg))] rfl dX4_become_75 ?_
        refine v_aload_n C 0 dX4_become_78 rfl ?_
        refine v_aload_n C 1 dX4_become_79 rfl ?_
        refine v_get C (v := .int aw2) fl_X4_become_28 4 rfl rfl dX4_become_80 ?_
        refine v_put C fl_X4_become_28 fp_X4_5 0 rfl rfl rfl (Nat.le_of_ble_eq_true rfl) [(ta, .inr (4, [.ref tk, .ref tq, .ref tw, .int pe2, .int ti2, .int aw2, .int me, .int sp])), (tk, .inl (cs 0, 8, .inl (cpF kf kg i))), (tq, .inl (cs 0, 8, .inl (cpF sf sg i))), (tw, .inl (cs 0, 8, .inl (cpF wf wg i))), (tb, .inr (4, [.ref uk, .ref uq, .ref uw, .int pe2, .int ti2, .int aw2, .int me2, .int sp2])), (uk, .inl (cs 0, 8, .inl kg)), (uq, .inl (cs 0, 8, .inl sg)), (uw, .inl (cs 0, 8, .inl wg))] rfl dX4_become_83 ?_
        refine v_aload_n C 0 dX4_become_86 rfl ?_
        refine v_aload_n C 1 dX4_become_87 rfl ?_
        refine v_get C (v := .int me2) fl_X4_become_31 4 rfl rfl dX4_become_88 ?_
        refine v_put C fl_X4_become_31 fp_X4_6 0 rfl rfl rfl (Nat.le_of_ble_eq_true rfl) [(ta, .inr (4, [.ref tk, .ref tq, .ref tw, .int pe2, .int ti2, .int aw2, .int me2, .int sp])), (tk, .inl (cs 0, 8, .inl (cpF kf kg i))), (tq, .inl (cs 0, 8, .inl (cpF sf sg i))), (tw, .inl (cs 0, 8, .inl (cpF wf wg i))), (tb, .inr (4, [.ref uk, .ref uq, .ref uw, .int pe2, .int ti2, .int aw2, .int me2, .int sp2])), (uk, .inl (cs 0, 8, .inl kg)), (uq, .inl (cs 0, 8, .inl sg)), (uw, .inl (cs 0, 8, .inl wg))] rfl dX4_become_91 ?_
        refine v_aload_n C 0 dX4_become_94 rfl ?_
        refine v_aload_n C 1 dX4_become_95 rfl ?_
        refine v_get C (v := .int sp2) fl_X4_become_34 4 rfl rfl dX4_become_96 ?_
        refine v_put C fl_X4_become_34 fp_X4_7 0 rfl rfl rfl (Nat.le_of_ble_eq_true rfl) [(ta, .inr (4, [.ref tk, .ref tq, .ref tw, .int pe2, .int ti2, .int aw2, .int me2, .int sp2])), (tk, .inl (cs 0, 8, .inl (cpF kf kg i))), (tq, .inl (cs 0, 8, .inl (cpF sf sg i))), (tw, .inl (cs 0, 8, .inl (cpF wf wg i))), (tb, .inr (4, [.ref uk, .ref uq, .ref uw, .int pe2, .int ti2, .int aw2, .int me2, .int sp2])), (uk, .inl (cs 0, 8, .inl kg)), (uq, .inl (cs 0, 8, .inl sg)), (uw, .inl (cs 0, 8, .inl wg))] rfl dX4_become_99 ?_
        exact v_vret C E (by rw [show i = 8 by omega]) dX4_become_102
      · skip
        have hlt : i < 8 := nle_nI (b := i) (a := 8) c1 (by omega) (by omega)
        refine v_aload_n C 0 dX4_become_8 rfl ?_
        refine v_get C (v := .ref tk) fl_X4_become_9 0 rfl rfl dX4_become_9 ?_
        refine v_iload_n C 2 dX4_become_12 rfl ?_
        refine v_aload_n C 1 dX4_become_13 rfl ?_
        refine v_get C (v := .ref uk) fl_X4_become_9 4 rfl rfl dX4_become_14 ?_
        refine v_iload_n C 2 dX4_become_17 rfl ?_
        refine v_callSN C [.ref uk, .int (nI i)] [.int (nI i), .ref tk] kX5_at gX4_become_X5_at_n37 (host := "TableShares") (by decide +kernel) nq_X4_become_X5_at (c_at l D cs (ga := uk) (n := 8) (f := kg) (i := (nI i)) (by decide)) ⟨Nat.le_of_ble_eq_true rfl, Nat.le_of_ble_eq_true rfl⟩ ⟨rfl, rfl⟩ ⟨Nat.zero_le _, Nat.zero_le _⟩ rfl rfl (Nat.le_of_ble_eq_true rfl) [5] [(ta, .inr (4, [.ref tk, .ref tq, .ref tw, .int pe, .int ti, .int aw, .int me, .int sp])), (tk, .inl (cs 0, 8, .inl (cpF kf kg i))), (tq, .inl (cs 0, 8, .inl (cpF sf sg i))), (tw, .inl (cs 0, 8, .inl (cpF wf wg i))), (tb, .inr (4, [.ref uk, .ref uq, .ref uw, .int pe2, .int ti2, .int aw2, .int me2, .int sp2])), (uk, .inl (cs 0, 8, .inl kg)), (uq, .inl (cs 0, 8, .inl sg)), (uw, .inl (cs 0, 8, .inl wg))] rfl (by decide) (show [uk] = [uk] from rfl) (rfl) dX4_become_18 ?_
        refine V.sts (st' := [.int (gA kg 8 (nI i)), .int (nI i), .ref tk]) rfl ?_
        refine v_callSN C [.ref tk, .int (nI i), .int (gA kg 8 (nI i))] [] kX5_put gX4_become_X5_put_n41 (host := "TableShares") (by decide +kernel) nq_X4_become_X5_put (c_put l D cs (ga := tk) (n := 8) (f := cpF kf kg i) (i := (nI i)) (x := (gA kg 8 (nI i))) (by decide)) ⟨Nat.le_of_ble_eq_true rfl, Nat.le_of_ble_eq_true rfl⟩ ⟨rfl, rfl⟩ ⟨Nat.zero_le _, Nat.zero_le _⟩ rfl rfl (Nat.le_of_ble_eq_true rfl) [1] [(ta, .inr (4, [.ref tk, .ref tq, .ref tw, .int pe, .int ti, .int aw, .int me, .int sp])), (tk, .inl (cs 0, 8, .inl (pA (cpF kf kg i) 8 (nI i) (gA kg 8 (nI i))))), (tq, .inl (cs 0, 8, .inl (cpF sf sg i))), (tw, .inl (cs 0, 8, .inl (cpF wf wg i))), (tb, .inr (4, [.ref uk, .ref uq, .ref uw, .int pe2, .int ti2, .int aw2, .int me2, .int sp2])), (uk, .inl (cs 0, 8, .inl kg)), (uq, .inl (cs 0, 8, .inl sg)), (uw, .inl (cs 0, 8, .inl wg))] rfl (by decide) (show [tk] = [tk] from rfl) (rfl) dX4_become_21 ?_
        refine V.sts (st' := []) rfl ?_
        refine v_aload_n C 0 dX4_become_24 rfl ?_
        refine v_get C (v := .ref tq) fl_X4_become_15 0 rfl rfl dX4_become_25 ?_
        refine v_iload_n C 2 dX4_become_28 rfl ?_
        refine v_aload_n C 1 dX4_become_29 rfl ?_
        refine v_get C (v := .ref uq) fl_X4_become_15 4 rfl rfl dX4_become_30 ?_
        refine v_iload_n C 2 dX4_become_33 rfl ?_
        refine v_callSN C [.ref uq, .int (nI i)] [.int (nI i), .ref tq] kX5_at gX4_become_X5_at_n37 (host := "TableShares") (by decide +kernel) nq_X4_become_X5_at (c_at l D cs (ga := uq) (n := 8) (f := sg) (i := (nI i)) (by decide)) ⟨Nat.le_of_ble_eq_true rfl, Nat.le_of_ble_eq_true rfl⟩ ⟨rfl, rfl⟩ ⟨Nat.zero_le _, Nat.zero_le _⟩ rfl rfl (Nat.le_of_ble_eq_true rfl) [6] [(ta, .inr (4, [.ref tk, .ref tq, .ref tw, .int pe, .int ti, .int aw, .int me, .int sp])), (tk, .inl (cs 0, 8, .inl (pA (cpF kf kg i) 8 (nI i) (gA kg 8 (nI i))))), (tq, .inl (cs 0, 8, .inl (cpF sf sg i))), (tw, .inl (cs 0, 8, .inl (cpF wf wg i))), (tb, .inr (4, [.ref uk, .ref uq, .ref uw, .int pe2, .int ti2, .int aw2, .int me2, .int sp2])), (uk, .inl (cs 0, 8, .inl kg)), (uq, .inl (cs 0, 8, .inl sg)), (uw, .inl (cs 0, 8, .inl wg))] rfl (by decide) (show [uq] = [uq] from rfl) (rfl) dX4_become_34 ?_
        refine V.sts (st' := [.int (gA sg 8 (nI i)), .int (nI i), .ref tq]) rfl ?_
        refine v_callSN C [.ref tq, .int (nI i), .int (gA sg 8 (nI i))] [] kX5_put gX4_become_X5_put_n41 (host := "TableShares") (by decide +kernel) nq_X4_become_X5_put (c_put l D cs (ga := tq) (n := 8) (f := cpF sf sg i) (i := (nI i)) (x := (gA sg 8 (nI i))) (by decide)) ⟨Nat.le_of_ble_eq_true rfl, Nat.le_of_ble_eq_true rfl⟩ ⟨rfl, rfl⟩ ⟨Nat.zero_le _, Nat.zero_le _⟩ rfl rfl (Nat.le_of_ble_eq_true rfl) [2] [(ta, .inr (4, [.ref tk, .ref tq, .ref tw, .int pe, .int ti, .int aw, .int me, .int sp])), (tk, .inl (cs 0, 8, .inl (pA (cpF kf kg i) 8 (nI i) (gA kg 8 (nI i))))), (tq, .inl (cs 0, 8, .inl (pA (cpF sf sg i) 8 (nI i) (gA sg 8 (nI i))))), (tw, .inl (cs 0, 8, .inl (cpF wf wg i))), (tb, .inr (4, [.ref uk, .ref uq, .ref uw, .int pe2, .int ti2, .int aw2, .int me2, .int sp2])), (uk, .inl (cs 0, 8, .inl kg)), (uq, .inl (cs 0, 8, .inl sg)), (uw, .inl (cs 0, 8, .inl wg))] rfl (by decide) (show [tq] = [tq] from rfl) (rfl) dX4_become_37 ?_
        refine V.sts (st' := []) rfl ?_
        refine v_aload_n C 0 dX4_become_40 rfl ?_
        refine v_get C (v := .ref tw) fl_X4_become_18 0 rfl rfl dX4_become_41 ?_
        refine v_iload_n C 2 dX4_become_44 rfl ?_
        refine v_aload_n C 1 dX4_become_45 rfl ?_
        refine v_get C (v := .ref uw) fl_X4_become_18 4 rfl rfl dX4_become_46 ?_
        refine v_iload_n C 2 dX4_become_49 rfl ?_
        refine v_callSN C [.ref uw, .int (nI i)] [.int (nI i), .ref tw] kX5_at gX4_become_X5_at_n37 (host := "TableShares") (by decide +kernel) nq_X4_become_X5_at (c_at l D cs (ga := uw) (n := 8) (f := wg) (i := (nI i)) (by decide)) ⟨Nat.le_of_ble_eq_true rfl, Nat.le_of_ble_eq_true rfl⟩ ⟨rfl, rfl⟩ ⟨Nat.zero_le _, Nat.zero_le _⟩ rfl rfl (Nat.le_of_ble_eq_true rfl) [7] [(ta, .inr (4, [.ref tk, .ref tq, .ref tw, .int pe, .int ti, .int aw, .int me, .int sp])), (tk, .inl (cs 0, 8, .inl (pA (cpF kf kg i) 8 (nI i) (gA kg 8 (nI i))))), (tq, .inl (cs 0, 8, .inl (pA (cpF sf sg i) 8 (nI i) (gA sg 8 (nI i))))), (tw, .inl (cs 0, 8, .inl (cpF wf wg i))), (tb, .inr (4, [.ref uk, .ref uq, .ref uw, .int pe2, .int ti2, .int aw2, .int me2, .int sp2])), (uk, .inl (cs 0, 8, .inl kg)), (uq, .inl (cs 0, 8, .inl sg)), (uw, .inl (cs 0, 8, .inl wg))] rfl (by decide) (show [uw] = [uw] from rfl) (rfl) dX4_become_50 ?_
        refine V.sts (st' := [.int (gA wg 8 (nI i)), .int (nI i), .ref tw]) rfl ?_
        refine v_callSN C [.ref tw, .int (nI i), .int (gA wg 8 (nI i))] [] kX5_put gX4_become_X5_put_n41 (host := "TableShares") (by decide +kernel) nq_X4_become_X5_put (c_put l D cs (ga := tw) (n := 8) (f := cpF wf wg i) (i := (nI i)) (x := (gA wg 8 (nI i))) (by decide)) ⟨Nat.le_of_ble_eq_true rfl, Nat.le_of_ble_eq_true rfl⟩ ⟨rfl, rfl⟩ ⟨Nat.zero_le _, Nat.zero_le _⟩ rfl rfl (Nat.le_of_ble_eq_true rfl) [3] [(ta, .inr (4, [.ref tk, .ref tq, .ref tw, .int pe, .int ti, .int aw, .int me, .int sp])), (tk, .inl (cs 0, 8, .inl (pA (cpF kf kg i) 8 (nI i) (gA kg 8 (nI i))))), (tq, .inl (cs 0, 8, .inl (pA (cpF sf sg i) 8 (nI i) (gA sg 8 (nI i))))), (tw, .inl (cs 0, 8, .inl (pA (cpF wf wg i) 8 (nI i) (gA wg 8 (nI i))))), (tb, .inr (4, [.ref uk, .ref uq, .ref uw, .int pe2, .int ti2, .int aw2, .int me2, .int sp2])), (uk, .inl (cs 0, 8, .inl kg)), (uq, .inl (cs 0, 8, .inl sg)), (uw, .inl (cs 0, 8, .inl wg))] rfl (by decide) (show [tw] = [tw] from rfl) (rfl) dX4_become_53 ?_
        refine V.sts (st' := []) rfl ?_
        refine v_iinc C (k := 2) (nI (i + 1)) [(0, .ref ta), (1, .ref tb), (2, .int (nI (i + 1)))] [1, 2, 0] dX4_become_56 rfl (nI_inc _) (by decide) rfl ?_
        refine v_goto C 2 dX4_become_59 (by decide) ?_
        exact ih2 (i + 1) _ _ _ _ (rfl) (by rw [gA_in (by omega) (by decide), pA_in (by omega) (by decide)]; exact cpF_s _ _ _) (by rw [gA_in (by omega) (by decide), pA_in (by omega) (by decide)]; exact cpF_s _ _ _) (by rw [gA_in (by omega) (by decide), pA_in (by omega) (by decide)]; exact cpF_s _ _ _) (by first | assumption | omega) (by omega)
  exact L2 _ 0 _ _ _ _ (rfl) (cpF_0 _ _) (cpF_0 _ _) (cpF_0 _ _) (by first | assumption | omega) (Nat.lt_succ_self _)
