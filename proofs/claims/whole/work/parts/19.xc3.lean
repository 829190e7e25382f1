theorem kX2_lawFault : KD yX2_lawFault wsX2_lawFault cX2_lawFault 3 (some .int) 1 := ⟨⟨_, rfl⟩, by decide, by decide +kernel, by decide +kernel, by decide +kernel⟩
theorem in_X2_lawFault_X2 : ∀ w ∈ wsX20, w ∈ wsX2_lawFault := by decide +kernel
theorem fl_X2_lawFault_33 : FL RX2 wsX2_lawFault RX2 RX2 TX2 6 2 4 33 := ⟨⟨in_X2_lawFault_X2, rfl, by decide, rfl⟩, by decide +kernel⟩
theorem fl_X2_lawFault_39 : FL RX2 wsX2_lawFault RX2 RX2 TX2 6 2 5 39 := ⟨⟨in_X2_lawFault_X2, rfl, by decide, rfl⟩, by decide +kernel⟩
theorem nq_X2_lawFault_X4_begin : Cond.initialized yX4_begin.cls ∈ wsX2_lawFault ∧ Cond.instanceMethod yX4_begin ∈ wsX2_lawFault ∧ Cond.selects yX4_begin.cls yX4_begin yX4_begin ∈ wsX2_lawFault := ⟨by decide +kernel, by decide +kernel, by decide +kernel⟩
set_option maxHeartbeats 4000000 in
set_option maxRecDepth 100000 in
theorem c_lawFault (l : Launch) (D : va_G) (cs : Nat → ClassId) {xd : Nat} {xt : Nat} {f : Nat → Int32} {len : Nat} {pl : Int32} {so : Int32} {va : Int32} {ta : Nat} {tk : Nat} {tq : Nat} {tw : Nat} {kf : Nat → Int32} {sf : Nat → Int32} {wf : Nat → Int32} {pe : Int32} {ti : Int32} {aw : Int32} {me : Int32} {sp : Int32} (hlen : len ≤ 120) : CT l D (tz cs) yX2_lawFault wsX2_lawFault ({ frames := 4, cells := 0, slots := 0, locals := 85 }) [.ref xd, .ref ta] [(xd, .inr (2, [.ref xt, .int (nI len), .int pl, .int (nI 0), .int so, .int va])), (xt, .inl (cs 0, 120, .inl f)), (ta, .inr (4, [.ref tk, .ref tq, .ref tw, .int pe, .int ti, .int aw, .int me, .int sp])), (tk, .inl (cs 0, 8, .inl kf)), (tq, .inl (cs 0, 8, .inl sf)), (tw, .inl (cs 0, 8, .inl wf))] (some (.int (lwR f len))) [(xd, .inr (2, [.ref xt, .int (nI len), .int (nI (lwP f len)), .int (nI (tkN f len (lwP f len))), .int (tkS f len (lwP f len)), .int (tkV f len (lwP f len))])), (xt, .inl (cs 0, 120, .inl f)), (ta, .inr (4, [.ref tk, .ref tq, .ref tw, .int (if lwB f len = true then tkV f len (tn1 f len 0) else pe), .int (if lwB f len = true then 0 else ti), .int (if lwB f len = true then 0 else aw), .int (if lwB f len = true then 0 else me), .int (if lwB f len = true then 0 else sp)])), (tk, .inl (cs 0, 8, .inl kf)), (tq, .inl (cs 0, 8, .inl sf)), (tw, .inl (cs 0, 8, .inl wf))] := by
  refine CT.of kX2_lawFault (Nat.le_of_ble_eq_true rfl) ?_
  intro p e s m below meth c A C E
  have C : VOk p s m _ c cX2_lawFault 3 wsX2_lawFault RX2 D (tz cs) A s.heap := C
  refine V.lvs (lv' := [(0, .ref xd), (1, .ref ta)]) [0, 1] rfl ?_
  refine v_aload_n C 0 dX2_lawFault_0 rfl ?_
  refine v_callV (qi := 0) C [] [] kX2_step gX2_lawFault_X2_step (c_step l D cs (xd := xd) (xt := xt) (f := f) (len := len) (q := 0) (pl := pl) (so := so) (va := va) (by first | exact Nat.zero_le _ | exact tkN_le (Nat.zero_le _) | exact tkN_le (tkN_le (Nat.zero_le _))) (by first | assumption | omega)) ⟨Nat.le_of_ble_eq_true rfl, Nat.le_of_ble_eq_true rfl⟩ ⟨rfl, rfl⟩ ⟨Nat.zero_le _, Nat.zero_le _⟩ rfl 0 rfl rfl rfl rfl (Nat.le_of_ble_eq_true rfl) [0, 1] [(xd, .inr (2, [.ref xt, .int (nI len), .int (nI 0), .int (nI (tkN f len 0)), .int (tkS f len 0), .int (tkV f len 0)])), (xt, .inl (cs 0, 120, .inl f)), (ta, .inr (4, [.ref tk, .ref tq, .ref tw, .int pe, .int ti, .int aw, .int me, .int sp])), (tk, .inl (cs 0, 8, .inl kf)), (tq, .inl (cs 0, 8, .inl sf)), (tw, .inl (cs 0, 8, .inl wf))] rfl (by decide) (show [xd, xt] = [xd, xt] from rfl) (rfl) dX2_lawFault_1 ?_
  refine V.sts (st' := []) rfl ?_
  refine v_aload_n C 0 dX2_lawFault_4 rfl ?_
  refine v_get C (v := .int (tkS f len 0)) fl_X2_lawFault_33 0 rfl rfl dX2_lawFault_5 ?_
  refine v_if_ne C 20 dX2_lawFault_8 (by decide) (fun c1 => ?_) (fun c1 => ?_)
  · skip
    refine v_iconst C (v := 1) dX2_lawFault_20 (by decide) ?_
    exact v_iret C E (by simp [lwP, lwB, tn1, tn2, c1]) (by simp [lwR, tn1, tn2, c1]) dX2_lawFault_21
  · skip
    refine v_aload_n C 0 dX2_lawFault_11 rfl ?_
    refine v_get C (v := .int (tkV f len 0)) fl_X2_lawFault_39 0 rfl rfl dX2_lawFault_12 ?_
    refine v_bipush C (v := 116) dX2_lawFault_15 (by decide) ?_
    refine v_icmp_eq C 22 dX2_lawFault_17 (by decide) (fun c2 => ?_) (fun c2 => ?_)
    · skip
      refine v_aload_n C 0 dX2_lawFault_22 rfl ?_
      refine v_iconst C (v := 2) dX2_lawFault_23 (by decide) ?_
      refine v_bipush C (v := 6) dX2_lawFault_24 (by decide) ?_
      refine v_callV (qi := 0) C [.int 2, .int 6] [] kX2_numberFault gX2_lawFault_X2_numberFault (c_numberFault l D cs (xd := xd) (xt := xt) (f := f) (len := len) (q := 0) (lo := 2) (hi := 6) (by first | exact Nat.zero_le _ | exact tkN_le (Nat.zero_le _) | exact tkN_le (tkN_le (Nat.zero_le _))) (by first | assumption | omega)) ⟨Nat.le_of_ble_eq_true rfl, Nat.le_of_ble_eq_true rfl⟩ ⟨rfl, rfl⟩ ⟨Nat.zero_le _, Nat.zero_le _⟩ rfl 0 rfl rfl rfl rfl (Nat.le_of_ble_eq_true rfl) [0, 1] [(xd, .inr (2, [.ref xt, .int (nI len), .int (nI (tkN f len 0)), .int (nI (tkN f len (tkN f len 0))), .int (tkS f len (tkN f len 0)), .int (tkV f len (tkN f len 0))])), (xt, .inl (cs 0, 120, .inl f)), (ta, .inr (4, [.ref tk, .ref tq, .ref tw, .int pe, .int ti, .int aw, .int me, .int sp])), (tk, .inl (cs 0, 8, .inl kf)), (tq, .inl (cs 0, 8, .inl sf)), (tw, .inl (cs 0, 8, .inl wf))] rfl (by decide) (show [xd, xt] = [xd, xt] from rfl) (rfl) dX2_lawFault_26 ?_
      refine V.sts (st' := [.int (nfI f len (tkN f len 0) 2 6)]) rfl ?_
      refine v_istore_n C [(0, .ref xd), (1, .ref ta), (2, .int (nfI f len (tkN f len 0) 2 6))] [1, 2, 0] dX2_lawFault_29 (by decide) rfl ?_
      refine v_iload_n C 2 dX2_lawFault_30 rfl ?_
      refine v_if_eq C 36 dX2_lawFault_31 (by decide) (fun c3 => ?_) (fun c3 => ?_)
      · skip
        refine v_aload_n C 1 dX2_lawFault_36 rfl ?_
        refine v_aload_n C 0 dX2_lawFault_37 rfl ?_
        refine v_get C (v := .int (tkV f len (tkN f len 0))) fl_X2_lawFault_39 0 rfl rfl dX2_lawFault_38 ?_
        refine v_callVN (qi := 0) C [.int (tkV f len (tkN f len 0))] [] kX4_begin gX2_lawFault_X4_begin_n46 (host := "TableShares") (by decide +kernel) nq_X2_lawFault_X4_begin (c_begin l D cs (ta := ta) (tk := tk) (tq := tq) (tw := tw) (pe := pe) (ti := ti) (aw := aw) (me := me) (sp := sp) (x := (tkV f len (tkN f len 0))) ) ⟨Nat.le_of_ble_eq_true rfl, Nat.le_of_ble_eq_true rfl⟩ ⟨rfl, rfl⟩ ⟨Nat.zero_le _, Nat.zero_le _⟩ rfl 2 rfl rfl rfl rfl (Nat.le_of_ble_eq_true rfl) [2] [(xd, .inr (2, [.ref xt, .int (nI len), .int (nI (tkN f len 0)), .int (nI (tkN f len (tkN f len 0))), .int (tkS f len (tkN f len 0)), .int (tkV f len (tkN f len 0))])), (xt, .inl (cs 0, 120, .inl f)), (ta, .inr (4, [.ref tk, .ref tq, .ref tw, .int (tkV f len (tkN f len 0)), .int 0, .int 0, .int 0, .int 0])), (tk, .inl (cs 0, 8, .inl kf)), (tq, .inl (cs 0, 8, .inl sf)), (tw, .inl (cs 0, 8, .inl wf))] rfl (by decide) (show [ta] = [ta] from rfl) (rfl) dX2_lawFault_41 ?_
        refine V.sts (st' := []) rfl ?_
        refine v_aload_n C 0 dX2_lawFault_44 rfl ?_
        refine v_bipush C (v := 59) dX2_lawFault_45 (by decide) ?_
        refine v_callV (qi := 0) C [.int 59] [] kX2_signFault gX2_lawFault_X2_signFault (c_signFault l D cs (xd := xd) (xt := xt) (f := f) (len := len) (q := (tkN f len 0)) (sg := 59) (by first | exact Nat.zero_le _ | exact tkN_le (Nat.zero_le _) | exact tkN_le (tkN_le (Nat.zero_le _))) (by first | assumption | omega)) ⟨Nat.le_of_ble_eq_true rfl, Nat.le_of_ble_eq_true rfl⟩ ⟨rfl, rfl⟩ ⟨Nat.zero_le _, Nat.zero_le _⟩ rfl 0 rfl rfl rfl rfl (Nat.le_of_ble_eq_true rfl) [0, 1] [(xd, .inr (2, [.ref xt, .int (nI len), .int (nI (tkN f len (tkN f len 0))), .int (nI (tkN f len (tkN f len (tkN f len 0)))), .int (tkS f len (tkN f len (tkN f len 0))), .int (tkV f len (tkN f len (tkN f len 0)))])), (xt, .inl (cs 0, 120, .inl f)), (ta, .inr (4, [.ref tk, .ref tq, .ref tw, .int (tkV f len (tkN f len 0)), .int 0, .int 0, .int 0, .int 0])), (tk, .inl (cs 0, 8, .inl kf)), (tq, .inl (cs 0, 8, .inl sf)), (tw, .inl (cs 0, 8, .inl wf))] rfl (by decide) (show [xd, xt] = [xd, xt] from rfl) (rfl) dX2_lawFault_47 ?_
        refine V.sts (st' := [.int (sfI f len (tkN f len (tkN f len 0)) 59)]) rfl ?_
        exact v_iret C E (by simp [lwP, lwB, tn1, tn2, c1, c2, c3]) (by simp [lwR, tn1, tn2, c1, c2, c3]) dX2_lawFault_50
      · skip
        refine v_iload_n C 2 dX2_lawFault_34 rfl ?_
        exact v_iret C E (by simp [lwP, lwB, tn1, tn2, c1, c2, c3]) (by simp [lwR, tn1, tn2, c1, c2, c3]) dX2_lawFault_35
    · skip
      refine v_iconst C (v := 1) dX2_lawFault_20 (by decide) ?_
      exact v_iret C E (by simp [lwP, lwB, tn1, tn2, c1, c2]) (by simp [lwR, tn1, tn2, c1, c2]) dX2_lawFault_21
theorem kX2_tieFault : KD yX2_tieFault wsX2_tieFault cX2_tieFault 6 (some .int) 1 := ⟨⟨_, rfl⟩, by decide, by decide +kernel, by decide +kernel, by decide +kernel⟩
theorem in_X2_tieFault_X2 : ∀ w ∈ wsX20, w ∈ wsX2_tieFault := by decide +kernel
theorem fl_X2_tieFault_33 : FL RX2 wsX2_tieFault RX2 RX2 TX2 6 2 4 33 := ⟨⟨in_X2_tieFault_X2, rfl, by decide, rfl⟩, by decide +kernel⟩
theorem fl_X2_tieFault_39 : FL RX2 wsX2_tieFault RX2 RX2 TX2 6 2 5 39 := ⟨⟨in_X2_tieFault_X2, rfl, by decide, rfl⟩, by decide +kernel⟩
theorem in_X2_tieFault_X4 : ∀ w ∈ wsX40, w ∈ wsX2_tieFault := by decide +kernel
theorem fn_X2_tieFault_59 : FLN RX2 wsX2_tieFault RX4 RX4 TX4 8 4 4 59 := ⟨⟨in_X2_tieFault_X4, rfl, by decide, rfl⟩, "TableShares", by decide +kernel⟩
theorem nq_X2_tieFault_X4_everybody : Cond.initialized yX4_everybody.cls ∈ wsX2_tieFault ∧ Cond.instanceMethod yX4_everybody ∈ wsX2_tieFault ∧ Cond.selects yX4_everybody.cls yX4_everybody yX4_everybody ∈ wsX2_tieFault := ⟨by decide +kernel, by decide +kernel, by decide +kernel⟩
theorem nq_X2_tieFault_X4_addTie : Cond.initialized yX4_addTie.cls ∈ wsX2_tieFault ∧ Cond.instanceMethod yX4_addTie ∈ wsX2_tieFault ∧ Cond.selects yX4_addTie.cls yX4_addTie yX4_addTie ∈ wsX2_tieFault := ⟨by decide +kernel, by decide +kernel, by decide +kernel⟩
set_option maxHeartbeats 4000000 in
set_option maxRecDepth 100000 in
theorem c_tieFault (l : Launch) (D : va_G) (cs : Nat → ClassId) {xd : Nat} {xt : Nat} {f : Nat → Int32} {len : Nat} {q : Nat} {ta : Nat} {tk : Nat} {tq : Nat} {tw : Nat} {kf : Nat → Int32} {sf : Nat → Int32} {wf : Nat → Int32} {pe : Int32} {aw : Int32} {me : Int32} {sp : Int32} {tn : Nat} (hq : q ≤ len) (hlen : len ≤ 120) (htn : tn ≤ 8) : CT l D (tz cs) yX2_tieFault wsX2_tieFault ({ frames := 4, cells := 0, slots := 0, locals := 85 }) [.ref xd, .ref ta] [(xd, .inr (2, [.ref xt, .int (nI len), .int (nI q), .int (nI (tkN f len q)), .int (tkS f len q), .int (tkV f len q)])), (xt, .inl (cs 0, 120, .inl f)), (ta, .inr (4, [.ref tk, .ref tq, .ref tw, .int pe, .int (nI tn), .int aw, .int me, .int sp])), (tk, .inl (cs 0, 8, .inl kf)), (tq, .inl (cs 0, 8, .inl sf)), (tw, .inl (cs 0, 8, .inl wf))] (some (.int (tfR f len (allI pe) tn q))) [(xd, .inr (2, [.ref xt, .int (nI len), .int (nI (tfP f len (allI pe) tn q)), .int (nI (tkN f len (tfP f len (allI pe) tn q))), .int (tkS f len (tfP f len (allI pe) tn q)), .int (tkV f len (tfP f len (allI pe) tn q))])), (xt, .inl (cs 0, 120, .inl f)), (ta, .inr (4, [.ref tk, .ref tq, .ref tw, .int pe, .int (nI (if tfR f len (allI pe) tn q = 0 then tn + 1 else tn)), .int aw, .int me, .int sp])), (tk, .inl (cs 0, 8, .inl (if tfR f len (allI pe) tn q = 0 then upd kf tn (kdAt f len q) else kf))), (tq, .inl (cs 0, 8, .inl (if tfR f len (allI pe) tn q = 0 then upd sf tn (tkV f len (tn1 f len q)) else sf))), (tw, .inl (cs 0, 8, .inl (if tfR f len (allI pe) tn q = 0 then upd wf tn (tkV f len (tn3 f len q)) else wf)))] := by
  refine CT.of kX2_tieFault (Nat.le_of_ble_eq_true rfl) ?_
  intro p e s m below meth c A C E
  have C : VOk p s m _ c cX2_tieFault 6 wsX2_tieFault RX2 D (tz cs) A s.heap := C
  refine V.lvs (lv' := [(0, .ref xd), (1, .ref ta)]) [0, 1] rfl ?_
  refine v_aload_n C 0 dX2_tieFault_0 rfl ?_
  refine v_get C (v := .int (tkS f len q)) fl_X2_tieFault_33 0 rfl rfl dX2_tieFault_1 ?_
  refine v_if_ne C 17 dX2_tieFault_4 (by decide) (fun c1 => ?_) (fun c1 => ?_)
  · skip
    refine v_iconst C (v := 0) dX2_tieFault_17 (by decide) ?_
    refine v_istore_n C [(0, .ref xd), (1, .ref ta), (2, .int 0)] [1, 2, 0] dX2_tieFault_18 (by decide) rfl ?_
    refine v_iload_n C 2 dX2_tieFault_19 rfl ?_
    refine v_if_ne C 25 dX2_tieFault_20 (by decide) (fun c2 => ?_) (fun c2 => ?_)
    · exact absurd c2 (by decide)
    · skip
      refine v_iconst C (v := 1) dX2_tieFault_23 (by decide) ?_
      exact v_iret C E (by first | (simp [tfR, tfP, kdAt, tn1, tn2, tn3, tn4, c1, c2]; done) | (simp [tfR, tfP, kdAt, tn1, tn2, tn3, tn4, c1, c2, hge]; done) | (simp [tfR, tfP, kdAt, tn1, tn2, tn3, tn4, c1, c2, Nat.not_le.mpr hlt]; done) | (simp_all [tfR, tfP, kdAt, tn1, tn2, tn3, tn4, Nat.not_le.mpr hlt]; done)) (by first | (simp [tfR, kdAt, tn1, tn2, tn3, tn4, c1, c2]; done) | (simp [tfR, kdAt, tn1, tn2, tn3, tn4, c1, c2, hge]; done) | (simp [tfR, kdAt, tn1, tn2, tn3, tn4, c1, c2, Nat.not_le.mpr hlt]; done) | (simp_all [tfR, kdAt, tn1, tn2, tn3, tn4, Nat.not_le.mpr hlt]; done)) dX2_tieFault_24
  · skip
    refine v_aload_n C 0 dX2_tieFault_7 rfl ?_
    refine v_get C (v := .int (tkV f len q)) fl_X2_tieFault_39 0 rfl rfl dX2_tieFault_8 ?_
    refine v_callS C [.int (tkV f len q)] [] kX2_kindToldBy gX2_tieFault_X2_kindToldBy (c_kindToldBy l D cs (x := (tkV f len q)) ) ⟨Nat.le_of_ble_eq_true rfl, Nat.le_of_ble_eq_true rfl⟩ ⟨rfl, rfl⟩ ⟨Nat.zero_le _, Nat.zero_le _⟩ rfl rfl (Nat.le_of_ble_eq_true rfl) [] [(xd, .inr (2, [.ref xt, .int (nI len), .int (nI q), .int (nI (tkN f len q)), .int (tkS f len q), .int (tkV f len q)])), (xt, .inl (cs 0, 120, .inl f)), (ta, .inr (4, [.ref tk, .ref tq, .ref tw, .int pe, .int (nI tn), .int aw, .int me, .int sp])), (tk, .inl (cs 0, 8, .inl kf)), (tq, .inl (cs 0, 8, .inl sf)), (tw, .inl (cs 0, 8, .inl wf))] rfl (by decide) rfl (rfl) dX2_tieFault_11 ?_
    refine V.sts (st' := [.int (kdI (tkV f len q))]) rfl ?_
    refine v_goto C 18 dX2_tieFault_14 (by decide) ?_
    refine v_istore_n C [(0, .ref xd), (1, .ref ta), (2, .int (kdI (tkV f len q)))] [1, 2, 0] dX2_tieFault_18 (by decide) rfl ?_
    refine v_iload_n C 2 dX2_tieFault_19 rfl ?_
    refine v_if_ne C 25 dX2_tieFault_20 (by decide) (fun c3 => ?_) (fun c3 => ?_)
    · skip
      refine v_aload_n C 1 dX2_tieFault_25 rfl ?_
      refine v_getN C (v := .int (nI tn)) fn_X2_tieFault_59 2 rfl rfl dX2_tieFault_26 ?_
      refine v_bipush C (v := 8) dX2_tieFault_29 (by decide) ?_
      refine v_icmp_lt C 36 dX2_tieFault_31 (by decide) (fun c4 => ?_) (fun c4 => ?_)
      · skip
        have hlt : tn < 8 := lt_nI (a := tn) (b := 8) c4 (by first | omega | skip) (by decide)
        refine v_aload_n C 0 dX2_tieFault_36 rfl ?_
        refine v_iconst C (v := 1) dX2_tieFault_37 (by decide) ?_
        refine v_aload_n C 1 dX2_tieFault_38 rfl ?_
        refine v_callVN (qi := 0) C [] [.int 1, .ref xd] kX4_everybody gX2_tieFault_X4_everybody_n62 (host := "TableShares") (by decide +kernel) nq_X2_tieFault_X4_everybody (c_everybody l D cs (ta := ta) (tk := tk) (tq := tq) (tw := tw) (pe := pe) (ti := (nI tn)) (aw := aw) (me := me) (sp := sp) ) ⟨Nat.le_of_ble_eq_true rfl, Nat.le_of_ble_eq_true rfl⟩ ⟨rfl, rfl⟩ ⟨Nat.zero_le _, Nat.zero_le _⟩ rfl 2 rfl rfl rfl rfl (Nat.le_of_ble_eq_true rfl) [2] [(xd, .inr (2, [.ref xt, .int (nI len), .int (nI q), .int (nI (tkN f len q)), .int (tkS f len q), .int (tkV f len q)])), (xt, .inl (cs 0, 120, .inl f)), (ta, .inr (4, [.ref tk, .ref tq, .ref tw, .int pe, .int (nI tn), .int aw, .int me, .int sp])), (tk, .inl (cs 0, 8, .inl kf)), (tq, .inl (cs 0, 8, .inl sf)), (tw, .inl (cs 0, 8, .inl wf))] rfl (by decide) (show [ta] = [ta] from rfl) (rfl) dX2_tieFault_39 ?_
        refine V.sts (st' := [.int (allI pe), .int 1, .ref xd]) rfl ?_
        refine v_callV (qi := 0) C [.int 1, .int (allI pe)] [] kX2_numberFault gX2_tieFault_X2_numberFault (c_numberFault l D cs (xd := xd) (xt := xt) (f := f) (len := len) (q := q) (lo := 1) (hi := (allI pe)) (by first | assumption | exact tkN_le (by assumption) | exact tkN_le (tkN_le (by assumption)) | exact tkN_le (tkN_le (tkN_le (by assumption))) | exact tkN_le (tkN_le (tkN_le (tkN_le (by assumption))))) (by first | assumption | omega)) ⟨Nat.le_of_ble_eq_true rfl, Nat.le_of_ble_eq_true rfl⟩ ⟨rfl, rfl⟩ ⟨Nat.zero_le _, Nat.zero_le _⟩ rfl 0 rfl rfl rfl rfl (Nat.le_of_ble_eq_true rfl) [0, 1] [(xd, .inr (2, [.ref xt, .int (nI len), .int (nI (tkN f len q)), .int (nI (tkN f len (tkN f len q))), .int (tkS f len (tkN f len q)), .int (tkV f len (tkN f len q))])), (xt, .inl (cs 0, 120, .inl f)), (ta, .inr (4, [.ref tk, .ref tq, .ref tw, .int pe, .int (nI tn), .int aw, .int me, .int sp])), (tk, .inl (cs 0, 8, .inl kf)), (tq, .inl (cs 0, 8, .inl sf)), (tw, .inl (cs 0, 8, .inl wf))] rfl (by decide) (show [xd, xt] = [xd, xt] from rfl) (rfl) dX2_tieFault_42 ?_
        refine V.sts (st' := [.int (nfI f len (tkN f len q) 1 (allI pe))]) rfl ?_
        refine v_istore_n C [(0, .ref xd), (1, .ref ta), (2, .int (kdI (tkV f len q))), (3, .int (nfI f len (tkN f len q) 1 (allI pe)))] [1, 2, 3, 0] dX2_tieFault_45 (by decide) rfl ?_
        refine v_aload_n C 0 dX2_tieFault_46 rfl ?_
        refine v_get C (v := .int (tkV f len (tkN f len q))) fl_X2_tieFault_39 0 rfl rfl dX2_tieFault_47 ?_
        refine v_istore C [(0, .ref xd), (1, .ref ta), (2, .int (kdI (tkV f len q))), (3, .int (nfI f len (tkN f len q) 1 (allI pe))), (4, .int (tkV f len (tkN f len q)))] [1, 2, 3, 4, 0] dX2_tieFault_50 (by decide) rfl ?_
        refine v_iload_n C 3 dX2_tieFault_52 rfl ?_
        refine v_if_ne C 63 dX2_tieFault_53 (by decide) (fun c5 => ?_) (fun c5 => ?_)
        · skip
          refine v_iload_n C 3 dX2_tieFault_63 rfl ?_
          refine v_if_ne C 75 dX2_tieFault_64 (by decide) (fun c6 => ?_) (fun c6 => ?_)
          · skip
            refine v_aload_n C 0 dX2_tieFault_75 rfl ?_
            refine v_get C (v := .int (tkV f len (tkN f len q))) fl_X2_tieFault_39 0 rfl rfl dX2_tieFault_76 ?_
            refine v_istore C [(0, .ref xd), (1, .ref ta), (2, .int (kdI (tkV f len q))), (3, .int (nfI f len (tkN f len q) 1 (allI pe))), (4, .int (tkV f len (tkN f len q))), (5, .int (tkV f len (tkN f len q)))] [1, 2, 3, 4, 5, 0] dX2_tieFault_79 (by decide) rfl ?_
            refine v_iload_n C 3 dX2_tieFault_81 rfl ?_
            refine v_if_ne C 92 dX2_tieFault_82 (by decide) (fun c7 => ?_) (fun c7 => ?_)
            · skip
              refine v_iload_n C 3 dX2_tieFault_92 rfl ?_
              refine v_if_ne C 105 dX2_tieFault_93 (by decide) (fun c8 => ?_) (fun c8 => ?_)
              · skip
                refine v_iload_n C 3 dX2_tieFault_105 rfl ?_
                exact v_iret C E (by first | (simp [tfR, tfP, kdAt, tn1, tn2, tn3, tn4, c1, c3, c4, c5, c6, c7, c8]; done) | (simp [tfR, tfP, kdAt, tn1, tn2, tn3, tn4, c1, c3, c4, c5, c6, c7, c8, hge]; done) | (simp [tfR, tfP, kdAt, tn1, tn2, tn3, tn4, c1, c3, c4, c5, c6, c7, c8, Nat.not_le.mpr hlt]; done) | (simp_all [tfR, tfP, kdAt, tn1, tn2, tn3, tn4, Nat.not_le.mpr hlt]; done)) (by first | (simp [tfR, kdAt, tn1, tn2, tn3, tn4, c1, c3, c4, c5, c6, c7, c8]; done) | (simp [tfR, kdAt, tn1, tn2, tn3, tn4, c1, c3, c4, c5, c6, c7, c8, hge]; done) | (simp [tfR, kdAt, tn1, tn2, tn3, tn4, c1, c3, c4, c5, c6, c7, c8, Nat.not_le.mpr hlt]; done) | (simp_all [tfR, kdAt, tn1, tn2, tn3, tn4, Nat.not_le.mpr hlt]; done)) dX2_tieFault_106
              · exact absurd c8 c5
            · exact absurd c7 c5
          · exact absurd c6 c5
        · skip
          refine v_aload_n C 0 dX2_tieFault_56 rfl ?_
          refine v_bipush C (v := 44) dX2_tieFault_57 (by decide) ?_
          refine v_callV (qi := 0) C [.int 44] [] kX2_signFault gX2_tieFault_X2_signFault (c_signFault l D cs (xd := xd) (xt := xt) (f := f) (len := len) (q := (tkN f len q)) (sg := 44) (by first | assumption | exact tkN_le (by assumption) | exact tkN_le (tkN_le (by assumption)) | exact tkN_le (tkN_le (tkN_le (by assumption))) | exact tkN_le (tkN_le (tkN_le (tkN_le (by assumption))))) (by first | assumption | omega)) ⟨Nat.le_of_ble_eq_true rfl, Nat.le_of_ble_eq_true rfl⟩ ⟨rfl, rfl⟩ ⟨Nat.zero_le _, Nat.zero_le _⟩ rfl 0 rfl rfl rfl rfl (Nat.le_of_ble_eq_true rfl) [0, 1] [(xd, .inr (2, [.ref xt, .int (nI len), .int (nI (tkN f len (tkN f len q))), .int (nI (tkN f len (tkN f len (tkN f len q)))), .int (tkS f len (tkN f len (tkN f len q))), .int (tkV f len (tkN f len (tkN f len q)))])), (xt, .inl (cs 0, 120, .inl f)), (ta, .inr (4, [.ref tk, .ref tq, .ref tw, .int pe, .int (nI tn), .int aw, .int me, .int sp])), (tk, .inl (cs 0, 8, .inl kf)), (tq, .inl (cs 0, 8, .inl sf)), (tw, .inl (cs 0, 8, .inl wf))] rfl (by decide) (show [xd, xt] = [xd, xt] from rfl) (rfl) dX2_tieFault_59 ?_
          refine V.sts (st' := [.int (sfI f len (tkN f len (tkN f len q)) 44)]) rfl ?_
          refine v_istore_n C [(0, .ref xd), (1, .ref ta), (2, .int (kdI (tkV f len q))), (3, .int (sfI f len (tkN f len (tkN f len q)) 44)), (4, .int (tkV f len (tkN f len q)))] [1, 2, 3, 0, 4] dX2_tieFault_62 (by decide) rfl ?_
          refine v_iload_n C 3 dX2_tieFault_63 rfl ?_
          refine v_if_ne C 75 dX2_tieFault_64 (by decide) (fun c9 => ?_) (fun c9 => ?_)
          · skip
            refine v_aload_n C 0 dX2_tieFault_75 rfl ?_
            refine v_get C (v := .int (tkV f len (tkN f len (tkN f len q)))) fl_X2_tieFault_39 0 rfl rfl dX2_tieFault_76 ?_
            refine v_istore C [(0, .ref xd), (1, .ref ta), (2, .int (kdI (tkV f len q))), (3, .int (sfI f len (tkN f len (tkN f len q)) 44)), (4, .int (tkV f len (tkN f len q))), (5, .int (tkV f len (tkN f len (tkN f len q))))] [1, 2, 3, 4, 5, 0] dX2_tieFault_79 (by decide) rfl ?_
            refine v_iload_n C 3 dX2_tieFault_81 rfl ?_
            refine v_if_ne C 92 dX2_tieFault_82 (by decide) (fun c10 => ?_) (fun c10 => ?_)
            · skip
              refine v_iload_n C 3 dX2_tieFault_92 rfl ?_
              refine v_if_ne C 105 dX2_tieFault_93 (by decide) (fun c11 => ?_) (fun c11 => ?_)
              · skip
                refine v_iload_n C 3 dX2_tieFault_105 rfl ?_
                exact v_iret C E (by first | (simp [tfR, tfP, kdAt, tn1, tn2, tn3, tn4, c1, c3, c4, c5, c9, c10, c11]; done) | (simp [tfR, tfP, kdAt, tn1, tn2, tn3, tn4, c1, c3, c4, c5, c9, c10, c11, hge]; done) | (simp [tfR, tfP, kdAt, tn1, tn2, tn3, tn4, c1, c3, c4, c5, c9, c10, c11, Nat.not_le.mpr hlt]; done) | (simp_all [tfR, tfP, kdAt, tn1, tn2, tn3, tn4, Nat.not_le.mpr hlt]; done)) (by first | (simp [tfR, kdAt, tn1, tn2, tn3, tn4, c1, c3, c4, c5, c9, c10, c11]; done) | (simp [tfR, kdAt, tn1, tn2, tn3, tn4, c1, c3, c4, c5, c9, c10, c11, hge]; done) | (simp [tfR, kdAt, tn1, tn2, tn3, tn4, c1, c3, c4, c5, c9, c10, c11, Nat.not_le.mpr hlt]; done) | (simp_all [tfR, kdAt, tn1, tn2, tn3, tn4, Nat.not_le.mpr hlt]; done)) dX2_tieFault_106
              · exact absurd c11 c9
            · exact absurd c10 c9
          · skip
            refine v_aload_n C 0 dX2_tieFault_67 rfl ?_
            refine v_iconst C (v := 0) dX2_tieFault_68 (by decide) ?_
            refine v_bipush C (v := 40) dX2_tieFault_69 (by decide) ?_
            refine v_callV (qi := 0) C [.int 0, .int 40] [] kX2_numberFault gX2_tieFault_X2_numberFault (c_numberFault l D cs (xd := xd) (xt := xt) (f := f) (len := len) (q := (tkN f len (tkN f len q))) (lo := 0) (hi := 40) (by first | assumption | exact tkN_le (by assumption) | exact tkN_le (tkN_le (by assumption)) | exact tkN_le (tkN_le (tkN_le (by assumption))) | exact tkN_le (tkN_le (tkN_le (tkN_le (by assumption))))) (by first | assumption | omega)) ⟨Nat.le_of_ble_eq_true rfl, Nat.le_of_ble_eq_true rfl⟩ ⟨rfl, rfl⟩ ⟨Nat.zero_le _, Nat.zero_le _⟩ rfl 0 rfl rfl rfl rfl (Nat.le_of_ble_eq_true rfl) [0, 1] [(xd, .inr (2, [.ref xt, .int (nI len), .int (nI (tkN f len (tkN f len (tkN f len q)))), .int (nI (tkN f len (tkN f len (tkN f len (tkN f len q))))), .int (tkS f len (tkN f len (tkN f len (tkN f len q)))), .int (tkV f len (tkN f len (tkN f len (tkN f len q))))])), (xt, .inl (cs 0, 120, .inl f)), (ta, .inr (4, [.ref tk, .ref tq, .ref tw, .int pe, .int (nI tn), .int aw, .int me, .int sp])), (tk, .inl (cs 0, 8, .inl kf)), (tq, .inl (cs 0, 8, .inl sf)), (tw, .inl (cs 0, 8, .inl wf))] rfl (by decide) (show [xd, xt] = [xd, xt] from rfl) (rfl) dX2_tieFault_71 ?_
            refine V.sts (st' := [.int (nfI f len (tkN f len (tkN f len (tkN f len q))) 0 40)]) rfl ?_
            refine v_istore_n C [(0, .ref xd), (1, .ref ta), (2, .int (kdI (tkV f len q))), (3, .int (nfI f len (tkN f len (tkN f len (tkN f len q))) 0 40)), (4, .int (tkV f len (tkN f len q)))] [1, 2, 3, 0, 4] dX2_tieFault_74 (by decide) rfl ?_
            refine v_aload_n C 0 dX2_tieFault_75 rfl ?_
            refine v_get C (v := .int (tkV f len (tkN f len (tkN f len (tkN f len q))))) fl_X2_tieFault_39 0 rfl rfl dX2_tieFault_76 ?_
            refine v_istore C [(0, .ref xd), (1, .ref ta), (2, .int (kdI (tkV f len q))), (3, .int (nfI f len (tkN f len (tkN f len (tkN f len q))) 0 40)), (4, .int (tkV f len (tkN f len q))), (5, .int (tkV f len (tkN f len (tkN f len (tkN f len q)))))] [1, 2, 3, 4, 5, 0] dX2_tieFault_79 (by decide) rfl ?_
            refine v_iload_n C 3 dX2_tieFault_81 rfl ?_
            refine v_if_ne C 92 dX2_tieFault_82 (by decide) (fun c12 => ?_) (fun c12 => ?_)
            · skip
              refine v_iload_n C 3 dX2_tieFault_92 rfl ?_
              refine v_if_ne C 105 dX2_tieFault_93 (by decide) (fun c13 => ?_) (fun c13 => ?_)
              · skip
                refine v_iload_n C 3 dX2_tieFault_105 rfl ?_
                exact v_iret C E (by first | (simp [tfR, tfP, kdAt, tn1, tn2, tn3, tn4, c1, c3, c4, c5, c9, c12, c13]; done) | (simp [tfR, tfP, kdAt, tn1, tn2, tn3, tn4, c1, c3, c4, c5, c9, c12, c13, hge]; done) | (simp [tfR, tfP, kdAt, tn1, tn2, tn3, tn4, c1, c3, c4, c5, c9, c12, c13, Nat.not_le.mpr hlt]; done) | (simp_all [tfR, tfP, kdAt, tn1, tn2, tn3, tn4, Nat.not_le.mpr hlt]; done)) (by first | (simp [tfR, kdAt, tn1, tn2, tn3, tn4, c1, c3, c4, c5, c9, c12, c13]; done) | (simp [tfR, kdAt, tn1, tn2, tn3, tn4, c1, c3, c4, c5, c9, c12, c13, hge]; done) | (simp [tfR, kdAt, tn1, tn2, tn3, tn4, c1, c3, c4, c5, c9, c12, c13, Nat.not_le.mpr hlt]; done) | (simp_all [tfR, kdAt, tn1, tn2, tn3, tn4, Nat.not_le.mpr hlt]; done)) dX2_tieFault_106
              · exact absurd c13 c12
            · skip
              refine v_aload_n C 0 dX2_tieFault_85 rfl ?_
              refine v_bipush C (v := 59) dX2_tieFault_86 (by decide) ?_
              refine v_callV (qi := 0) C [.int 59] [] kX2_signFault gX2_tieFault_X2_signFault (c_signFault l D cs (xd := xd) (xt := xt) (f := f) (len := len) (q := (tkN f len (tkN f len (tkN f len q)))) (sg := 59) (by first | assumption | exact tkN_le (by assumption) | exact tkN_le (tkN_le (by assumption)) | exact tkN_le (tkN_le (tkN_le (by assumption))) | exact tkN_le (tkN_le (tkN_le (tkN_le (by assumption))))) (by first | assumption | omega)) ⟨Nat.le_of_ble_eq_true rfl, Nat.le_of_ble_eq_true rfl⟩ ⟨rfl, rfl⟩ ⟨Nat.zero_le _, Nat.zero_le _⟩ rfl 0 rfl rfl rfl rfl (Nat.le_of_ble_eq_true rfl) [0, 1] [(xd, .inr (2, [.ref xt, .int (nI len), .int (nI (tkN f len (tkN f len (tkN f len (tkN f len q))))), .int (nI (tkN f len (tkN f len (tkN f len (tkN f len (tkN f len q)))))), .int (tkS f len (tkN f len (tkN f len (tkN f len (tkN f len q))))), .int (tkV f len (tkN f len (tkN f len (tkN f len (tkN f len q)))))])), (xt, .inl (cs 0, 120, .inl f)), (ta, .inr (4, [.ref tk, .ref tq, .ref tw, .int pe, .int (nI tn), .int aw, .int me, .int sp])), (tk, .inl (cs 0, 8, .inl kf)), (tq, .inl (cs 0, 8, .inl sf)), (tw, .inl (cs 0, 8, .inl wf))] rfl (by decide) (show [xd, xt] = [xd, xt] from rfl) (rfl) dX2_tieFault_88 ?_
              refine V.sts (st' := [.int (sfI f len (tkN f len (tkN f len (tkN f len (tkN f len q)))) 59)]) rfl ?_
              refine v_istore_n C [(0, .ref xd), (1, .ref ta), (2, .int (kdI (tkV f len q))), (3, .int (sfI f len (tkN f len (tkN f len (tkN f len (tkN f len q)))) 59)), (4, .int (tkV f len (tkN f len q))), (5, .int (tkV f len (tkN f len (tkN f len (tkN f len q)))))] [1, 2, 3, 0, 4, 5] dX2_tieFault_91 (by decide) rfl ?_
              refine v_iload_n C 3 dX2_tieFault_92 rfl ?_
              refine v_if_ne C 105 dX2_tieFault_93 (by decide) (fun c14 => ?_) (fun c14 => ?_)
              · skip
                refine v_iload_n C 3 dX2_tieFault_105 rfl ?_
                exact v_iret C E (by first | (simp [tfR, tfP, kdAt, tn1, tn2, tn3, tn4, c1, c3, c4, c5, c9, c12, c14]; done) | (simp [tfR, tfP, kdAt, tn1, tn2, tn3, tn4, c1, c3, c4, c5, c9, c12, c14, hge]; done) | (simp [tfR, tfP, kdAt, tn1, tn2, tn3, tn4, c1, c3, c4, c5, c9, c12, c14, Nat.not_le.mpr hlt]; done) | (simp_all [tfR, tfP, kdAt, tn1, tn2, tn3, tn4, Nat.not_le.mpr hlt]; done)) (by first | (simp [tfR, kdAt, tn1, tn2, tn3, tn4, c1, c3, c4, c5, c9, c12, c14]; done) | (simp [tfR, kdAt, tn1, tn2, tn3, tn4, c1, c3, c4, c5, c9, c12, c14, hge]; done) | (simp [tfR, kdAt, tn1, tn2, tn3, tn4, c1, c3, c4, c5, c9, c12, c14, Nat.not_le.mpr hlt]; done) | (simp_all [tfR, kdAt, tn1, tn2, tn3, tn4, Nat.not_le.mpr hlt]; done)) dX2_tieFault_106
              · skip
                refine v_aload_n C 1 dX2_tieFault_96 rfl ?_
                refine v_iload_n C 2 dX2_tieFault_97 rfl ?_
                refine v_iload C 4 dX2_tieFault_98 rfl ?_
                refine v_iload C 5 dX2_tieFault_100 rfl ?_
                refine v_callVN (qi := 0) C [.int (kdI (tkV f len q)), .int (tkV f len (tkN f len q)), .int (tkV f len (tkN f len (tkN f len (tkN f len q))))] [] kX4_addTie gX2_tieFault_X4_addTie_n66 (host := "TableShares") (by decide +kernel) nq_X2_tieFault_X4_addTie (c_addTie l D cs (ta := ta) (tk := tk) (tq := tq) (tw := tw) (kf := kf) (sf := sf) (wf := wf) (pe := pe) (aw := aw) (me := me) (sp := sp) (tn := tn) (x0 := (kdI (tkV f len q))) (x1 := (tkV f len (tkN f len q))) (x2 := (tkV f len (tkN f len (tkN f len (tkN f len q))))) (hlt)) ⟨Nat.le_of_ble_eq_true rfl, Nat.le_of_ble_eq_true rfl⟩ ⟨rfl, rfl⟩ ⟨Nat.zero_le _, Nat.zero_le _⟩ rfl 2 rfl rfl rfl rfl (Nat.le_of_ble_eq_true rfl) [2, 3, 4, 5] [(xd, .inr (2, [.ref xt, .int (nI len), .int (nI (tkN f len (tkN f len (tkN f len (tkN f len q))))), .int (nI (tkN f len (tkN f len (tkN f len (tkN f len (tkN f len q)))))), .int (tkS f len (tkN f len (tkN f len (tkN f len (tkN f len q))))), .int (tkV f len (tkN f len (tkN f len (tkN f len (tkN f len q)))))])), (xt, .inl (cs 0, 120, .inl f)), (ta, .inr (4, [.ref tk, .ref tq, .ref tw, .int pe, .int (nI (tn + 1)), .int aw, .int me, .int sp])), (tk, .inl (cs 0, 8, .inl (upd kf tn (kdI (tkV f len q))))), (tq, .inl (cs 0, 8, .inl (upd sf tn (tkV f len (tkN f len q))))), (tw, .inl (cs 0, 8, .inl (upd wf tn (tkV f len (tkN f len (tkN f len (tkN f len q)))))))] rfl (by decide) (show [ta, tk, tq, tw] = [ta, tk, tq, tw] from rfl) (rfl) dX2_tieFault_102 ?_
                refine V.sts (st' := []) rfl ?_
                refine v_iload_n C 3 dX2_tieFault_105 rfl ?_
                exact v_iret C E (by first | (simp [tfR, tfP, kdAt, tn1, tn2, tn3, tn4, c1, c3, c4, c5, c9, c12, c14]; done) | (simp [tfR, tfP, kdAt, tn1, tn2, tn3, tn4, c1, c3, c4, c5, c9, c12, c14, hge]; done) | (simp [tfR, tfP, kdAt, tn1, tn2, tn3, tn4, c1, c3, c4, c5, c9, c12, c14, Nat.not_le.mpr hlt]; done) | (simp_all [tfR, tfP, kdAt, tn1, tn2, tn3, tn4, Nat.not_le.mpr hlt]; done)) (by first | (simp [tfR, kdAt, tn1, tn2, tn3, tn4, c1, c3, c4, c5, c9, c12, c14]; done) | (simp [tfR, kdAt, tn1, tn2, tn3, tn4, c1, c3, c4, c5, c9, c12, c14, hge]; done) | (simp [tfR, kdAt, tn1, tn2, tn3, tn4, c1, c3, c4, c5, c9, c12, c14, Nat.not_le.mpr hlt]; done) | (simp_all [tfR, kdAt, tn1, tn2, tn3, tn4, Nat.not_le.mpr hlt]; done)) dX2_tieFault_106
      · skip
        have hge : 8 ≤ tn := nlt_nI (a := tn) (b := 8) c4 (by first | omega | skip) (by decide)
        refine v_iconst C (v := 3) dX2_tieFault_34 (by decide) ?_
        exact v_iret C E (by first | (simp [tfR, tfP, kdAt, tn1, tn2, tn3, tn4, c1, c3, c4]; done) | (simp [tfR, tfP, kdAt, tn1, tn2, tn3, tn4, c1, c3, c4, hge]; done) | (simp [tfR, tfP, kdAt, tn1, tn2, tn3, tn4, c1, c3, c4, Nat.not_le.mpr hlt]; done) | (simp_all [tfR, tfP, kdAt, tn1, tn2, tn3, tn4, Nat.not_le.mpr hlt]; done)) (by first | (simp [tfR, kdAt, tn1, tn2, tn3, tn4, c1, c3, c4]; done) | (simp [tfR, kdAt, tn1, tn2, tn3, tn4, c1, c3, c4, hge]; done) | (simp [tfR, kdAt, tn1, tn2, tn3, tn4, c1, c3, c4, Nat.not_le.mpr hlt]; done) | (simp_all [tfR, kdAt, tn1, tn2, tn3, tn4, Nat.not_le.mpr hlt]; done)) dX2_tieFault_35
    · skip
      refine v_iconst C (v := 1) dX2_tieFault_23 (by decide) ?_
      exact v_iret C E (by first | (simp [tfR, tfP, kdAt, tn1, tn2, tn3, tn4, c1, c3]; done) | (simp [tfR, tfP, kdAt, tn1, tn2, tn3, tn4, c1, c3, hge]; done) | (simp [tfR, tfP, kdAt, tn1, tn2, tn3, tn4, c1, c3, Nat.not_le.mpr hlt]; done) | (simp_all [tfR, tfP, kdAt, tn1, tn2, tn3, tn4, Nat.not_le.mpr hlt]; done)) (by first | (simp [tfR, kdAt, tn1, tn2, tn3, tn4, c1, c3]; done) | (simp [tfR, kdAt, tn1, tn2, tn3, tn4, c1, c3, hge]; done) | (simp [tfR, kdAt, tn1, tn2, tn3, tn4, c1, c3, Nat.not_le.mpr hlt]; done) | (simp_all [tfR, kdAt, tn1, tn2, tn3, tn4, Nat.not_le.mpr hlt]; done)) dX2_tieFault_24
theorem kX2_readInto : KD yX2_readInto wsX2_readInto cX2_readInto 4 (some .int) 1 := ⟨⟨_, rfl⟩, by decide, by decide +kernel, by decide +kernel, by decide +kernel⟩
theorem in_X2_readInto_X2 : ∀ w ∈ wsX20, w ∈ wsX2_readInto := by decide +kernel
theorem fl_X2_readInto_23 : FL RX2 wsX2_readInto RX2 RX2 TX2 6 2 3 23 := ⟨⟨in_X2_readInto_X2, rfl, by decide, rfl⟩, by decide +kernel⟩
set_option maxHeartbeats 4000000 in
set_option maxRecDepth 100000 in
theorem c_readBad (l : Launch) (D : va_G) (cs : Nat → ClassId) {xd : Nat} {xt : Nat} {f : Nat → Int32} {len : Nat} {pl : Int32} {nx : Int32} {so : Int32} {va : Int32} {ta : Nat} {tk : Nat} {tq : Nat} {tw : Nat} {kf : Nat → Int32} {sf : Nat → Int32} {wf : Nat → Int32} {pe : Int32} {ti : Int32} {aw : Int32} {me : Int32} {sp : Int32} (hlen : len ≤ 120) (h0 : ¬ lwR f len = 0) : CT l D (tz cs) yX2_readInto wsX2_readInto ({ frames := 5, cells := 0, slots := 0, locals := 110 }) [.ref xd, .ref ta] [(xd, .inr (2, [.ref xt, .int (nI len), .int pl, .int nx, .int so, .int va])), (xt, .inl (cs 0, 120, .inl f)), (ta, .inr (4, [.ref tk, .ref tq, .ref tw, .int pe, .int ti, .int aw, .int me, .int sp])), (tk, .inl (cs 0, 8, .inl kf)), (tq, .inl (cs 0, 8, .inl sf)), (tw, .inl (cs 0, 8, .inl wf))] (some (.int (lwR f len))) [(xd, .inr (2, [.ref xt, .int (nI len), .int (nI (lwP f len)), .int (nI (tkN f len (lwP f len))), .int (tkS f len (lwP f len)), .int (tkV f len (lwP f len))])), (xt, .inl (cs 0, 120, .inl f)), (ta, .inr (4, [.ref tk, .ref tq, .ref tw, .int (if lwB f len = true then tkV f len (tn1 f len 0) else pe), .int (if lwB f len = true then 0 else ti), .int (if lwB f len = true then 0 else aw), .int (if lwB f len = true then 0 else me), .int (if lwB f len = true then 0 else sp)])), (tk, .inl (cs 0, 8, .inl kf)), (tq, .inl (cs 0, 8, .inl sf)), (tw, .inl (cs 0, 8, .inl wf))] := by
  refine CT.of kX2_readInto (Nat.le_of_ble_eq_true rfl) ?_
  intro p e s m below meth c A C E
  have C : VOk p s m _ c cX2_readInto 4 wsX2_readInto RX2 D (tz cs) A s.heap := C
  refine V.lvs (lv' := [(0, .ref xd), (1, .ref ta)]) [0, 1] rfl ?_
  refine v_aload_n C 0 dX2_readInto_0 rfl ?_
  refine v_iconst C (v := 0) dX2_readInto_1 (by decide) ?_
  refine v_put C fl_X2_readInto_23 fp_X2_3 0 rfl rfl rfl (Nat.le_of_ble_eq_true rfl) [(xd, .inr (2, [.ref xt, .int (nI len), .int pl, .int 0, .int so, .int va])), (xt, .inl (cs 0, 120, .inl f)), (ta, .inr (4, [.ref tk, .ref tq, .ref tw, .int pe, .int ti, .int aw, .int me, .int sp])), (tk, .inl (cs 0, 8, .inl kf)), (tq, .inl (cs 0, 8, .inl sf)), (tw, .inl (cs 0, 8, .inl wf))] rfl dX2_readInto_2 ?_
  refine v_aload_n C 0 dX2_readInto_5 rfl ?_
  refine v_aload_n C 1 dX2_readInto_6 rfl ?_
  refine v_callV (qi := 0) C [.ref ta] [] kX2_lawFault gX2_readInto_X2_lawFault (c_lawFault l D cs (xd := xd) (xt := xt) (f := f) (len := len) (pl := pl) (so := so) (va := va) (ta := ta) (tk := tk) (tq := tq) (tw := tw) (kf := kf) (sf := sf) (wf := wf) (pe := pe) (ti := ti) (aw := aw) (me := me) (sp := sp) (by first | assumption | omega)) ⟨Nat.le_of_ble_eq_true rfl, Nat.le_of_ble_eq_true rfl⟩ ⟨rfl, rfl⟩ ⟨Nat.zero_le _, Nat.zero_le _⟩ rfl 0 rfl rfl rfl rfl (Nat.le_of_ble_eq_true rfl) [0, 1, 2, 3, 4, 5] [(xd, .inr (2, [.ref xt, .int (nI len), .int (nI (lwP f len)), .int (nI (tkN f len (lwP f len))), .int (tkS f len (lwP f len)), .int (tkV f len (lwP f len))])), (xt, .inl (cs 0, 120, .inl f)), (ta, .inr (4, [.ref tk, .ref tq, .ref tw, .int (if lwB f len = true then tkV f len (tn1 f len 0) else pe), .int (if lwB f len = true then 0 else ti), .int (if lwB f len = true then 0 else aw), .int (if lwB f len = true then 0 else me), .int (if lwB f len = true then 0 else sp)])), (tk, .inl (cs 0, 8, .inl kf)), (tq, .inl (cs 0, 8, .inl sf)), (tw, .inl (cs 0, 8, .inl wf))] rfl (by decide) (show [xd, xt, ta, tk, tq, tw] = [xd, xt, ta, tk, tq, tw] from rfl) (rfl) dX2_readInto_7 ?_
  refine V.sts (st' := [.int (lwR f len)]) rfl ?_
  refine v_istore_n C [(0, .ref xd), (1, .ref ta), (2, .int (lwR f len))] [1, 2, 0] dX2_readInto_10 (by decide) rfl ?_
  refine v_iconst C (v := 0) dX2_readInto_11 (by decide) ?_
  refine v_istore_n C [(0, .ref xd), (1, .ref ta), (2, .int (lwR f len)), (3, .int 0)] [1, 2, 3, 0] dX2_readInto_12 (by decide) rfl ?_
  refine v_iload_n C 3 dX2_readInto_13 rfl ?_
  refine v_bipush C (v := 8) dX2_readInto_14 (by decide) ?_
  refine v_icmp_gt C 49 dX2_readInto_16 (by decide) (fun c1 => ?_) (fun c1 => ?_)
  · exact absurd c1 (by decide)
  · skip
    refine v_iload_n C 2 dX2_readInto_19 rfl ?_
    refine v_if_ne C 49 dX2_readInto_20 (by decide) (fun c2 => ?_) (fun c2 => ?_)
    · skip
      refine v_iload_n C 2 dX2_readInto_49 rfl ?_
      exact v_iret C E (rfl) (by first | rfl | (simp [hlen, h0, c1, c2, ↓reduceIte]; done) | (simp_all [b2]; done)) dX2_readInto_50
    · exact absurd c2 (h0)
theorem fl_X2_readInto_33 : FL RX2 wsX2_readInto RX2 RX2 TX2 6 2 4 33 := ⟨⟨in_X2_readInto_X2, rfl, by decide, rfl⟩, by decide +kernel⟩
set_option maxHeartbeats 4000000 in
set_option maxRecDepth 100000 in
theorem c_readOk (l : Launch) (D : va_G) (cs : Nat → ClassId) {xd : Nat} {xt : Nat} {f : Nat → Int32} {len : Nat} {pl : Int32} {nx : Int32} {so : Int32} {va : Int32} {ta : Nat} {tk : Nat} {tq : Nat} {tw : Nat} {kf : Nat → Int32} {sf : Nat → Int32} {wf : Nat → Int32} {pe : Int32} {ti : Int32} {aw : Int32} {me : Int32} {sp : Int32} (hlen : len ≤ 120) (h0 : lwR f len = 0) : CT l D (tz cs) yX2_readInto wsX2_readInto ({ frames := 5, cells := 0, slots := 0, locals := 110 }) [.ref xd, .ref ta] [(xd, .inr (2, [.ref xt, .int (nI len), .int pl, .int nx, .int so, .int va])), (xt, .inl (cs 0, 120, .inl f)), (ta, .inr (4, [.ref tk, .ref tq, .ref tw, .int pe, .int ti, .int aw, .int me, .int sp])), (tk, .inl (cs 0, 8, .inl kf)), (tq, .inl (cs 0, 8, .inl sf)), (tw, .inl (cs 0, 8, .inl wf))] (some (.int (rdW f len kf sf wf).1)) [(xd, .inr (2, [.ref xt, .int (nI len), .int (nI ((rdW f len kf sf wf).2.1)), .int (nI (tkN f len ((rdW f len kf sf wf).2.1))), .int (tkS f len ((rdW f len kf sf wf).2.1)), .int (tkV f len ((rdW f len kf sf wf).2.1))])), (xt, .inl (cs 0, 120, .inl f)), (ta, .inr (4, [.ref tk, .ref tq, .ref tw, .int (tkV f len (tn1 f len 0)), .int (nI (rdW f len kf sf wf).2.2.1), .int 0, .int 0, .int 0])), (tk, .inl (cs 0, 8, .inl ((rdW f len kf sf wf).2.2.2.1))), (tq, .inl (cs 0, 8, .inl ((rdW f len kf sf wf).2.2.2.2.1))), (tw, .inl (cs 0, 8, .inl ((rdW f len kf sf wf).2.2.2.2.2)))] := by
  refine CT.of kX2_readInto (Nat.le_of_ble_eq_true rfl) ?_
  intro p e s m below meth c A C E
  have C : VOk p s m _ c cX2_readInto 4 wsX2_readInto RX2 D (tz cs) A s.heap := C
  refine V.lvs (lv' := [(0, .ref xd), (1, .ref ta)]) [0, 1] rfl ?_
  refine v_aload_n C 0 dX2_readInto_0 rfl ?_
  refine v_iconst C (v := 0) dX2_readInto_1 (by decide) ?_
  refine v_put C fl_X2_readInto_23 fp_X2_3 0 rfl rfl rfl (Nat.le_of_ble_eq_true rfl) [(xd, .inr (2, [.ref xt, .int (nI len), .int pl, .int 0, .int so, .int va])), (xt, .inl (cs 0, 120, .inl f)), (ta, .inr (4, [.ref tk, .ref tq, .ref tw, .int pe, .int ti, .int aw, .int me, .int sp])), (tk, .inl (cs 0, 8, .inl kf)), (tq, .inl (cs 0, 8, .inl sf)), (tw, .inl (cs 0, 8, .inl wf))] rfl dX2_readInto_2 ?_
  refine v_aload_n C 0 dX2_readInto_5 rfl ?_
  refine v_aload_n C 1 dX2_readInto_6 rfl ?_
  refine v_callV (qi := 0) C [.ref ta] [] kX2_lawFault gX2_readInto_X2_lawFault (c_lawFault l D cs (xd := xd) (xt := xt) (f := f) (len := len) (pl := pl) (so := so) (va := va) (ta := ta) (tk := tk) (tq := tq) (tw := tw) (kf := kf) (sf := sf) (wf := wf) (pe := pe) (ti := ti) (aw := aw) (me := me) (sp := sp) (by first | assumption | omega)) ⟨Nat.le_of_ble_eq_true rfl, Nat.le_of_ble_eq_true rfl⟩ ⟨rfl, rfl⟩ ⟨Nat.zero_le _, Nat.zero_le _⟩ rfl 0 rfl rfl rfl rfl (Nat.le_of_ble_eq_true rfl) [0, 1, 2, 3, 4, 5] [(xd, .inr (2, [.ref xt, .int (nI len), .int (nI (lwP f len)), .int (nI (tkN f len (lwP f len))), .int (tkS f len (lwP f len)), .int (tkV f len (lwP f len))])), (xt, .inl (cs 0, 120, .inl f)), (ta, .inr (4, [.ref tk, .ref tq, .ref tw, .int (if lwB f len = true then tkV f len (tn1 f len 0) else pe), .int (if lwB f len = true then 0 else ti), .int (if lwB f len = true then 0 else aw), .int (if lwB f len = true then 0 else me), .int (if lwB f len = true then 0 else sp)])), (tk, .inl (cs 0, 8, .inl kf)), (tq, .inl (cs 0, 8, .inl sf)), (tw, .inl (cs 0, 8, .inl wf))] rfl (by decide) (show [xd, xt, ta, tk, tq, tw] = [xd, xt, ta, tk, tq, tw] from rfl) (rfl) dX2_readInto_7 ?_
  refine V.sts (st' := [.int (lwR f len)]) rfl ?_
  refine V.wss (ws' := [(xd, .inr (2, [.ref xt, .int (nI len), .int (nI (lwP f len)), .int (nI (tkN f len (lwP f len))), .int (tkS f len (lwP f len)), .int (tkV f len (lwP f len))])), (xt, .inl (cs 0, 120, .inl f)), (ta, .inr (4, [.ref tk, .ref tq, .ref tw, .int (tkV f len (tn1 f len 0)), .int (nI 0), .int 0, .int 0, .int 0])), (tk, .inl (cs 0, 8, .inl kf)), (tq, .inl (cs 0, 8, .inl sf)), (tw, .inl (cs 0, 8, .inl wf))]) (by rw [lwB_of h0]; rfl) ?_
  refine v_istore_n C [(0, .ref xd), (1, .ref ta), (2, .int (lwR f len))] [1, 2, 0] dX2_readInto_10 (by decide) rfl ?_
  refine v_iconst C (v := 0) dX2_readInto_11 (by decide) ?_
  refine v_istore_n C [(0, .ref xd), (1, .ref ta), (2, .int (lwR f len)), (3, .int 0)] [1, 2, 3, 0] dX2_readInto_12 (by decide) rfl ?_
  have L13 : ∀ (n : Nat) (i : Nat) (q : Nat) (tn : Nat) (r : Int32) (k1 : Nat → Int32) (x1 : Nat → Int32) (w1 : Nat → Int32) (y0 : Int32) (y1 : Int32) (y2 : Int32) (y3 : Int32) (y4 : Int32) (y5 : Int32), y0 = (nI i) → y1 = (nI q) → y2 = (nI (tkN f len q)) → y3 = (tkS f len q) → y4 = (tkV f len q) → y5 = (nI tn) → (i ≤ 9) → (q ≤ len) → (tn ≤ 8) → (r = 0 → riW f len (allI (tkV f len (tn1 f len 0))) (9 - i) q tn k1 x1 w1 = rdW f len kf sf wf) → (¬ r = 0 → (r, q, tn, k1, x1, w1) = rdW f len kf sf wf) → (10 - i) < n → V p l e ({ frames := 5, cells := 0, slots := 0, locals := 110 }) s m (List.toArray [.ref xd, .ref ta]) below meth c 0 0 (MQ below (vq_Q (some (.int (rdW f len kf sf wf).1)) D [(xd, .inr (2, [.ref xt, .int (nI len), .int (nI ((rdW f len kf sf wf).2.1)), .int (nI (tkN f len ((rdW f len kf sf wf).2.1))), .int (tkS f len ((rdW f len kf sf wf).2.1)), .int (tkV f len ((rdW f len kf sf wf).2.1))])), (xt, .inl (cs 0, 120, .inl f)), (ta, .inr (4, [.ref tk, .ref tq, .ref tw, .int (tkV f len (tn1 f len 0)), .int (nI (rdW f len kf sf wf).2.2.1), .int 0, .int 0, .int 0])), (tk, .inl (cs 0, 8, .inl ((rdW f len kf sf wf).2.2.2.1))), (tq, .inl (cs 0, 8, .inl ((rdW f len kf sf wf).2.2.2.2.1))), (tw, .inl (cs 0, 8, .inl ((rdW f len kf sf wf).2.2.2.2.2)))] [(xd, .inr (2, [.ref xt, .int (nI len), .int pl, .int nx, .int so, .int va])), (xt, .inl (cs 0, 120, .inl f)), (ta, .inr (4, [.ref tk, .ref tq, .ref tw, .int pe, .int ti, .int aw, .int me, .int sp])), (tk, .inl (cs 0, 8, .inl kf)), (tq, .inl (cs 0, 8, .inl sf)), (tw, .inl (cs 0, 8, .inl wf))] s.heap.size) (List.toArray [.ref xd, .ref ta]) s 0 0 (va_A [(xd, .inr (2, [.ref xt, .int (nI len), .int pl, .int nx, .int so, .int va])), (xt, .inl (cs 0, 120, .inl f)), (ta, .inr (4, [.ref tk, .ref tq, .ref tw, .int pe, .int ti, .int aw, .int me, .int sp])), (tk, .inl (cs 0, 8, .inl kf)), (tq, .inl (cs 0, 8, .inl sf)), (tw, .inl (cs 0, 8, .inl wf))] s.heap.size)) 4 D A s.heap 13 [(0, .ref xd), (1, .ref ta), (2, .int r), (3, .int y0)] [] [(xd, .inr (2, [.ref xt, .int (nI len), .int y1, .int y2, .int y3, .int y4])), (xt, .inl (cs 0, 120, .inl f)), (ta, .inr (4, [.ref tk, .ref tq, .ref tw, .int (tkV f len (tn1 f len 0)), .int y5, .int 0, .int 0, .int 0])), (tk, .inl (cs 0, 8, .inl k1)), (tq, .inl (cs 0, 8, .inl x1)), (tw, .inl (cs 0, 8, .inl w1))] := by
    intro n
    induction n with
    | zero =>
      intros; omega
    | succ n ih13 =>
      intro i q tn r k1 x1 w1 y0 y1 y2 y3 y4 y5 ey0 ey1 ey2 ey3 ey4 ey5 hi hq htn he hr hn
      subst ey0
      subst ey1
      subst ey2
      subst ey3
      subst ey4
      subst ey5
      refine v_iload_n C 3 dX2_readInto_13 rfl ?_
      refine v_bipush C (v := 8) dX2_readInto_14 (by decide) ?_
      refine v_icmp_gt C 49 dX2_readInto_16 (by decide) (fun c1 => ?_) (fun c1 => ?_)
      · skip
        have hX : (r, q, tn, k1, x1, w1) = rdW f len kf sf wf := by first | exact hr c1 | (have h9 := lt_nI (a := 8) (b := i) c1 (by omega) (by omega); rcases Decidable.em (r = 0) with hz | hz; (rw [← he hz, show 9 - i = 0 by omega, riW, hz]); exact hr hz)
        refine v_iload_n C 2 dX2_readInto_49 rfl ?_
        exact v_iret C E (by rw [← hX]) (by rw [← hX]) dX2_readInto_50
      · skip
        refine v_iload_n C 2 dX2_readInto_19 rfl ?_
        refine v_if_ne C 49 dX2_readInto_20 (by decide) (fun c2 => ?_) (fun c2 => ?_)
        · skip
          have hX : (r, q, tn, k1, x1, w1) = rdW f len kf sf wf := by first | exact hr c2 | (have h9 := lt_nI (a := 8) (b := i) c2 (by omega) (by omega); rcases Decidable.em (r = 0) with hz | hz; (rw [← he hz, show 9 - i = 0 by omega, riW, hz]); exact hr hz)
          refine v_iload_n C 2 dX2_readInto_49 rfl ?_
          exact v_iret C E (by rw [← hX]) (by rw [← hX]) dX2_readInto_50
        · skip
          refine v_aload_n C 0 dX2_readInto_23 rfl ?_
          refine v_callV (qi := 0) C [] [] kX2_step gX2_readInto_X2_step (c_step l D cs (xd := xd) (xt := xt) (f := f) (len := len) (q := (tkN f len q)) (pl := (nI q)) (so := (tkS f len q)) (va := (tkV f len q)) (by first | assumption | exact tkN_le (by assumption) | exact tkN_le (tkN_le (by assumption)) | exact tkN_le (tkN_le (tkN_le (by assumption))) | exact tkN_le (tkN_le (tkN_le (tkN_le (by assumption))))) (by first | assumption | omega)) ⟨Nat.le_of_ble_eq_true rfl, Nat.le_of_ble_eq_true rfl⟩ ⟨rfl, rfl⟩ ⟨Nat.zero_le _, Nat.zero_le _⟩ rfl 0 rfl rfl rfl rfl (Nat.le_of_ble_eq_true rfl) [0, 1] [(xd, .inr (2, [.ref xt, .int (nI len), .int (nI (tkN f len q)), .int (nI (tkN f len (tkN f len q))), .int (tkS f len (tkN f len q)), .int (tkV f len (tkN f len q))])), (xt, .inl (cs 0, 120, .inl f)), (ta, .inr (4, [.ref tk, .ref tq, .ref tw, .int (tkV f len (tn1 f len 0)), .int (nI tn), .int 0, .int 0, .int 0])), (tk, .inl (cs 0, 8, .inl k1)), (tq, .inl (cs 0, 8, .inl x1)), (tw, .inl (cs 0, 8, .inl w1))] rfl (by decide) (show [xd, xt] = [xd, xt] from rfl) (rfl) dX2_readInto_24 ?_
          refine V.sts (st' := []) rfl ?_
          refine v_aload_n C 0 dX2_readInto_27 rfl ?_
          refine v_get C (v := .int (tkS f len (tkN f len q))) fl_X2_readInto_33 0 rfl rfl dX2_readInto_28 ?_
          refine v_iconst C (v := 3) dX2_readInto_31 (by decide) ?_
          refine v_icmp_ne C 37 dX2_readInto_32 (by decide) (fun c3 => ?_) (fun c3 => ?_)
          · skip
            refine v_aload_n C 0 dX2_readInto_37 rfl ?_
            refine v_aload_n C 1 dX2_readInto_38 rfl ?_
            refine v_callV (qi := 0) C [.ref ta] [] kX2_tieFault gX2_readInto_X2_tieFault (c_tieFault l D cs (xd := xd) (xt := xt) (f := f) (len := len) (q := (tkN f len q)) (ta := ta) (tk := tk) (tq := tq) (tw := tw) (kf := k1) (sf := x1) (wf := w1) (pe := (tkV f len (tn1 f len 0))) (aw := 0) (me := 0) (sp := 0) (tn := tn) (by first | assumption | exact tkN_le (by assumption) | exact tkN_le (tkN_le (by assumption)) | exact tkN_le (tkN_le (tkN_le (by assumption))) | exact tkN_le (tkN_le (tkN_le (tkN_le (by assumption))))) (by first | assumption | omega) (by first | assumption | omega)) ⟨Nat.le_of_ble_eq_true rfl, Nat.le_of_ble_eq_true rfl⟩ ⟨rfl, rfl⟩ ⟨Nat.zero_le _, Nat.zero_le _⟩ rfl 0 rfl rfl rfl rfl (Nat.le_of_ble_eq_true rfl) [0, 1, 2, 3, 4, 5] [(xd, .inr (2, [.ref xt, .int (nI len), .int (nI (tfP f len (allI (tkV f len (tn1 f len 0))) tn (tkN f len q))), .int (nI (tkN f len (tfP f len (allI (tkV f len (tn1 f len 0))) tn (tkN f len q)))), .int (tkS f len (tfP f len (allI (tkV f len (tn1 f len 0))) tn (tkN f len q))), .int (tkV f len (tfP f len (allI (tkV f len (tn1 f len 0))) tn (tkN f len q)))])), (xt, .inl (cs 0, 120, .inl f)), (ta, .inr (4, [.ref tk, .ref tq, .ref tw, .int (tkV f len (tn1 f len 0)), .int (nI (if tfR f len (allI (tkV f len (tn1 f len 0))) tn (tkN f len q) = 0 then tn + 1 else tn)), .int 0, .int 0, .int 0])), (tk, .inl (cs 0, 8, .inl (if tfR f len (allI (tkV f len (tn1 f len 0))) tn (tkN f len q) = 0 then upd k1 tn (kdAt f len (tkN f len q)) else k1))), (tq, .inl (cs 0, 8, .inl (if tfR f len (allI (tkV f len (tn1 f len 0))) tn (tkN f len q) = 0 then upd x1 tn (tkV f len (tn1 f len (tkN f len q))) else x1))), (tw, .inl (cs 0, 8, .inl (if tfR f len (allI (tkV f len (tn1 f len 0))) tn (tkN f len q) = 0 then upd w1 tn (tkV f len (tn3 f len (tkN f len q))) else w1)))] rfl (by decide) (show [xd, xt, ta, tk, tq, tw] = [xd, xt, ta, tk, tq, tw] from rfl) (rfl) dX2_readInto_39 ?_
            refine V.sts (st' := [.int (tfR f len (allI (tkV f len (tn1 f len 0))) tn (tkN f len q))]) rfl ?_
            refine v_istore_n C [(0, .ref xd), (1, .ref ta), (2, .int (tfR f len (allI (tkV f len (tn1 f len 0))) tn (tkN f len q))), (3, .int (nI i))] [1, 2, 0, 3] dX2_readInto_42 (by decide) rfl ?_
            refine v_iinc C (k := 3) (nI (i + 1)) [(0, .ref xd), (1, .ref ta), (2, .int (tfR f len (allI (tkV f len (tn1 f len 0))) tn (tkN f len q))), (3, .int (nI (i + 1)))] [1, 2, 3, 0] dX2_readInto_43 rfl (nI_inc _) (by decide) rfl ?_
            refine v_goto C 13 dX2_readInto_46 (by decide) ?_
            exact ih13 (i + 1) (tfP f len (allI (tkV f len (tn1 f len 0))) tn (tkN f len q)) (if tfR f len (allI (tkV f len (tn1 f len 0))) tn (tkN f len q) = 0 then tn + 1 else tn) (tfR f len (allI (tkV f len (tn1 f len 0))) tn (tkN f len q)) (if tfR f len (allI (tkV f len (tn1 f len 0))) tn (tkN f len q) = 0 then upd k1 tn (kdAt f len (tkN f len q)) else k1) (if tfR f len (allI (tkV f len (tn1 f len 0))) tn (tkN f len q) = 0 then upd x1 tn (tkV f len (tn1 f len (tkN f len q))) else x1) (if tfR f len (allI (tkV f len (tn1 f len 0))) tn (tkN f len q) = 0 then upd w1 tn (tkV f len (tn3 f len (tkN f len q))) else w1) _ _ _ _ _ _ (rfl) (rfl) (rfl) (rfl) (rfl) (rfl) (by have h9 := nlt_nI (a := 8) (b := i) c1 (by omega) (by omega); omega) (tfP_le (tkN_le hq)) (by split; (have h9 := tfR_lt (by assumption); omega); omega) (fun hz => by rw [← he c2, show 9 - i = (9 - (i + 1)) + 1 by (have h9 := nlt_nI (a := 8) (b := i) c1 (by omega) (by omega); omega), riW, if_neg c3, if_pos hz, if_pos hz, if_pos hz, if_pos hz, if_pos hz]) (fun hz => by rw [← he c2, show 9 - i = (9 - (i + 1)) + 1 by (have h9 := nlt_nI (a := 8) (b := i) c1 (by omega) (by omega); omega), riW, if_neg c3, if_neg hz, if_neg hz, if_neg hz, if_neg hz, if_neg hz]) (by have h9 := nlt_nI (a := 8) (b := i) c1 (by omega) (by omega); omega)
          · skip
            refine v_iconst C (v := 0) dX2_readInto_35 (by decide) ?_
            exact v_iret C E (by rw [← he c2, show 9 - i = (8 - i) + 1 by (have h9 := nlt_nI (a := 8) (b := i) c1 (by omega) (by omega); omega), riW, if_pos c3]) (by rw [← he c2, show 9 - i = (8 - i) + 1 by (have h9 := nlt_nI (a := 8) (b := i) c1 (by omega) (by omega); omega), riW, if_pos c3]) dX2_readInto_36
  exact L13 _ 0 (lwP f len) 0 (lwR f len) kf sf wf _ _ _ _ _ _ (rfl) (rfl) (rfl) (rfl) (rfl) (rfl) (Nat.zero_le _) (lwP_le _ _) (Nat.zero_le _) (fun _ => rfl) (fun z => absurd h0 z) (Nat.lt_succ_self _)
