theorem kX1_begin : KD yX1_begin wsX1_begin cX1_begin 1 none 0 := ⟨⟨_, rfl⟩, by decide, by decide +kernel, by decide +kernel, by decide +kernel⟩
theorem in_X1_begin_X1 : ∀ w ∈ wsX10, w ∈ wsX1_begin := by decide +kernel
theorem fl_X1_begin_19 : FL RX1 wsX1_begin RX1 RX1 TX1 3 1 2 19 := ⟨⟨in_X1_begin_X1, rfl, by decide, rfl⟩, by decide +kernel⟩
theorem fp_X1_2 : FP TX1 3 2 tyX1 .int := ⟨tyX1_ok, nmX1, rfl, by decide +kernel⟩
set_option maxHeartbeats 4000000 in
set_option maxRecDepth 100000 in
theorem c_abegin (l : Launch) (D : va_G) (cs : Nat → ClassId) {sa : Nat} {sb : Nat} {ta : Nat} {lf : Int32} : CT l D (tz cs) yX1_begin wsX1_begin ({ frames := 0, cells := 0, slots := 0, locals := 0 }) [.ref sa] [(sa, .inr (1, [.ref ta, .ref sb, .int lf]))] none [(sa, .inr (1, [.ref ta, .ref sb, .int 0]))] := by
  refine CT.of kX1_begin (Nat.le_of_ble_eq_true rfl) ?_
  intro p e s m below meth c A C E
  have C : VOk p s m _ c cX1_begin 1 wsX1_begin RX1 D (tz cs) A s.heap := C
  refine V.lvs (lv' := [(0, .ref sa)]) [0] rfl ?_
  refine v_aload_n C 0 dX1_begin_0 rfl ?_
  refine v_iconst C (v := 0) dX1_begin_1 (by decide) ?_
  refine v_put C fl_X1_begin_19 fp_X1_2 0 rfl rfl rfl (Nat.le_of_ble_eq_true rfl) [(sa, .inr (1, [.ref ta, .ref sb, .int 0]))] rfl dX1_begin_2 ?_
  exact v_vret C E (rfl) dX1_begin_5
theorem kX1_leave : KD yX1_leave wsX1_leave cX1_leave 2 none 1 := ⟨⟨_, rfl⟩, by decide, by decide +kernel, by decide +kernel, by decide +kernel⟩
theorem in_X1_leave_X1 : ∀ w ∈ wsX10, w ∈ wsX1_leave := by decide +kernel
theorem fl_X1_leave_19 : FL RX1 wsX1_leave RX1 RX1 TX1 3 1 2 19 := ⟨⟨in_X1_leave_X1, rfl, by decide, rfl⟩, by decide +kernel⟩
theorem fl_X1_leave_15 : FL RX1 wsX1_leave RX1 RX1 TX1 3 1 1 15 := ⟨⟨in_X1_leave_X1, rfl, by decide, rfl⟩, by decide +kernel⟩
theorem nq_X1_leave_X5_put : Cond.initialized yX5_put.cls ∈ wsX1_leave ∧ Cond.static yX5_put ∈ wsX1_leave := ⟨by decide +kernel, by decide +kernel⟩
set_option maxHeartbeats 4000000 in
set_option maxRecDepth 100000 in
theorem c_leave (l : Launch) (D : va_G) (cs : Nat → ClassId) {sa : Nat} {sb : Nat} {ta : Nat} {bf : Nat → Int32} {lf : Nat} {x : Int32} (hl : lf < 16) : CT l D (tz cs) yX1_leave wsX1_leave ({ frames := 1, cells := 0, slots := 0, locals := 22 }) [.ref sa, .int x] [(sa, .inr (1, [.ref ta, .ref sb, .int (nI lf)])), (sb, .inl (cs 0, 16, .inl bf))] none [(sa, .inr (1, [.ref ta, .ref sb, .int (nI (lf + 1))])), (sb, .inl (cs 0, 16, .inl (upd bf lf x)))] := by
  refine CT.of kX1_leave (Nat.le_of_ble_eq_true rfl) ?_
  intro p e s m below meth c A C E
  have C : VOk p s m _ c cX1_leave 2 wsX1_leave RX1 D (tz cs) A s.heap := C
  refine V.lvs (lv' := [(0, .ref sa), (1, .int x)]) [0, 1] rfl ?_
  refine v_aload_n C 0 dX1_leave_0 rfl ?_
  refine v_get C (v := .int (nI lf)) fl_X1_leave_19 0 rfl rfl dX1_leave_1 ?_
  refine v_bipush C (v := 16) dX1_leave_4 (by decide) ?_
  refine v_icmp_ge C 31 dX1_leave_6 (by decide) (fun c1 => ?_) (fun c1 => ?_)
  · exact absurd c1 (nI_ge (a := lf) (b := 16) hl (by decide))
  · skip
    refine v_aload_n C 0 dX1_leave_9 rfl ?_
    refine v_get C (v := .ref sb) fl_X1_leave_15 0 rfl rfl dX1_leave_10 ?_
    refine v_aload_n C 0 dX1_leave_13 rfl ?_
    refine v_get C (v := .int (nI lf)) fl_X1_leave_19 0 rfl rfl dX1_leave_14 ?_
    refine v_iload_n C 1 dX1_leave_17 rfl ?_
    refine v_callSN C [.ref sb, .int (nI lf), .int x] [] kX5_put gX1_leave_X5_put_n23 (host := "TableShares") (by decide +kernel) nq_X1_leave_X5_put (c_put l D cs (ga := sb) (n := 16) (f := bf) (i := (nI lf)) (x := x) (by decide)) ⟨Nat.le_of_ble_eq_true rfl, Nat.le_of_ble_eq_true rfl⟩ ⟨rfl, rfl⟩ ⟨Nat.zero_le _, Nat.zero_le _⟩ rfl rfl (Nat.le_of_ble_eq_true rfl) [1] [(sa, .inr (1, [.ref ta, .ref sb, .int (nI lf)])), (sb, .inl (cs 0, 16, .inl (pA bf 16 (nI lf) x)))] rfl (by decide) (show [sb] = [sb] from rfl) (rfl) dX1_leave_18 ?_
    refine V.sts (st' := []) rfl ?_
    refine v_aload_n C 0 dX1_leave_21 rfl ?_
    refine v_dup C dX1_leave_22 rfl ?_
    refine v_get C (v := .int (nI lf)) fl_X1_leave_19 0 rfl rfl dX1_leave_23 ?_
    refine v_iconst C (v := 1) dX1_leave_26 (by decide) ?_
    refine v_iadd C dX1_leave_27 ?_
    refine v_put C fl_X1_leave_19 fp_X1_2 0 rfl rfl rfl (Nat.le_of_ble_eq_true rfl) [(sa, .inr (1, [.ref ta, .ref sb, .int ((nI lf) + 1)])), (sb, .inl (cs 0, 16, .inl (pA bf 16 (nI lf) x)))] rfl dX1_leave_28 ?_
    exact v_vret C E (by rw [pA_in (by omega) (by decide), nI_1]) dX1_leave_31
theorem kX1_markLent : KD yX1_markLent wsX1_markLent cX1_markLent 2 (some .int) 1 := ⟨⟨_, rfl⟩, by decide, by decide +kernel, by decide +kernel, by decide +kernel⟩
set_option maxHeartbeats 4000000 in
set_option maxRecDepth 100000 in
theorem c_markLent (l : Launch) (D : va_G) (cs : Nat → ClassId) {sa : Nat} {sb : Nat} {ta : Nat} {bf : Nat → Int32} {lf : Nat} {x : Int32} (hl : lf < 16) : CT l D (tz cs) yX1_markLent wsX1_markLent ({ frames := 2, cells := 0, slots := 0, locals := 43 }) [.ref sa, .int x] [(sa, .inr (1, [.ref ta, .ref sb, .int (nI lf)])), (sb, .inl (cs 0, 16, .inl bf))] (some (.int x)) [(sa, .inr (1, [.ref ta, .ref sb, .int (nI (lf + 1))])), (sb, .inl (cs 0, 16, .inl (upd bf lf 20)))] := by
  refine CT.of kX1_markLent (Nat.le_of_ble_eq_true rfl) ?_
  intro p e s m below meth c A C E
  have C : VOk p s m _ c cX1_markLent 2 wsX1_markLent RX1 D (tz cs) A s.heap := C
  refine V.lvs (lv' := [(0, .ref sa), (1, .int x)]) [0, 1] rfl ?_
  refine v_aload_n C 0 dX1_markLent_0 rfl ?_
  refine v_bipush C (v := 20) dX1_markLent_1 (by decide) ?_
  refine v_callV (qi := 0) C [.int 20] [] kX1_leave gX1_markLent_X1_leave (c_leave l D cs (sa := sa) (sb := sb) (ta := ta) (bf := bf) (lf := lf) (x := 20) (by first | assumption | omega)) ⟨Nat.le_of_ble_eq_true rfl, Nat.le_of_ble_eq_true rfl⟩ ⟨rfl, rfl⟩ ⟨Nat.zero_le _, Nat.zero_le _⟩ rfl 0 rfl rfl rfl rfl (Nat.le_of_ble_eq_true rfl) [0, 1] [(sa, .inr (1, [.ref ta, .ref sb, .int (nI (lf + 1))])), (sb, .inl (cs 0, 16, .inl (upd bf lf 20)))] rfl (by decide) (show [sa, sb] = [sa, sb] from rfl) (rfl) dX1_markLent_3 ?_
  refine V.sts (st' := []) rfl ?_
  refine v_iload_n C 1 dX1_markLent_6 rfl ?_
  exact v_iret C E (rfl) (by first | rfl | (simp [hl, ↓reduceIte]; done) | (simp_all [b2]; done)) dX1_markLent_7
theorem kX1_sizeLent : KD yX1_sizeLent wsX1_sizeLent cX1_sizeLent 2 (some .int) 1 := ⟨⟨_, rfl⟩, by decide, by decide +kernel, by decide +kernel, by decide +kernel⟩
theorem in_X1_sizeLent_X1 : ∀ w ∈ wsX10, w ∈ wsX1_sizeLent := by decide +kernel
theorem fl_X1_sizeLent_9 : FL RX1 wsX1_sizeLent RX1 RX1 TX1 3 1 0 9 := ⟨⟨in_X1_sizeLent_X1, rfl, by decide, rfl⟩, by decide +kernel⟩
theorem nq_X1_sizeLent_X4_worthOf : Cond.initialized yX4_worthOf.cls ∈ wsX1_sizeLent ∧ Cond.instanceMethod yX4_worthOf ∈ wsX1_sizeLent ∧ Cond.selects yX4_worthOf.cls yX4_worthOf yX4_worthOf ∈ wsX1_sizeLent := ⟨by decide +kernel, by decide +kernel, by decide +kernel⟩
set_option maxHeartbeats 4000000 in
set_option maxRecDepth 100000 in
theorem c_sizeLent (l : Launch) (D : va_G) (cs : Nat → ClassId) {sa : Nat} {sb : Nat} {ta : Nat} {bf : Nat → Int32} {lf : Nat} {tk : Nat} {tq : Nat} {tw : Nat} {wf : Nat → Int32} {pe : Int32} {ti : Int32} {aw : Int32} {me : Int32} {sp : Int32} {x : Int32} (hl : lf < 16) : CT l D (tz cs) yX1_sizeLent wsX1_sizeLent ({ frames := 2, cells := 0, slots := 0, locals := 43 }) [.ref sa, .int x] [(sa, .inr (1, [.ref ta, .ref sb, .int (nI lf)])), (sb, .inl (cs 0, 16, .inl bf)), (ta, .inr (4, [.ref tk, .ref tq, .ref tw, .int pe, .int ti, .int aw, .int me, .int sp])), (tw, .inl (cs 0, 8, .inl wf))] (some (.int (gA wf 8 x))) [(sa, .inr (1, [.ref ta, .ref sb, .int (nI (lf + 1))])), (sb, .inl (cs 0, 16, .inl (upd bf lf 10))), (ta, .inr (4, [.ref tk, .ref tq, .ref tw, .int pe, .int ti, .int aw, .int me, .int sp])), (tw, .inl (cs 0, 8, .inl wf))] := by
  refine CT.of kX1_sizeLent (Nat.le_of_ble_eq_true rfl) ?_
  intro p e s m below meth c A C E
  have C : VOk p s m _ c cX1_sizeLent 2 wsX1_sizeLent RX1 D (tz cs) A s.heap := C
  refine V.lvs (lv' := [(0, .ref sa), (1, .int x)]) [0, 1] rfl ?_
  refine v_aload_n C 0 dX1_sizeLent_0 rfl ?_
  refine v_bipush C (v := 10) dX1_sizeLent_1 (by decide) ?_
  refine v_callV (qi := 0) C [.int 10] [] kX1_leave gX1_sizeLent_X1_leave (c_leave l D cs (sa := sa) (sb := sb) (ta := ta) (bf := bf) (lf := lf) (x := 10) (by first | assumption | omega)) ⟨Nat.le_of_ble_eq_true rfl, Nat.le_of_ble_eq_true rfl⟩ ⟨rfl, rfl⟩ ⟨Nat.zero_le _, Nat.zero_le _⟩ rfl 0 rfl rfl rfl rfl (Nat.le_of_ble_eq_true rfl) [0, 1] [(sa, .inr (1, [.ref ta, .ref sb, .int (nI (lf + 1))])), (sb, .inl (cs 0, 16, .inl (upd bf lf 10))), (ta, .inr (4, [.ref tk, .ref tq, .ref tw, .int pe, .int ti, .int aw, .int me, .int sp])), (tw, .inl (cs 0, 8, .inl wf))] rfl (by decide) (show [sa, sb] = [sa, sb] from rfl) (rfl) dX1_sizeLent_3 ?_
  refine V.sts (st' := []) rfl ?_
  refine v_aload_n C 0 dX1_sizeLent_6 rfl ?_
  refine v_get C (v := .ref ta) fl_X1_sizeLent_9 0 rfl rfl dX1_sizeLent_7 ?_
  refine v_iload_n C 1 dX1_sizeLent_10 rfl ?_
  refine v_callVN (qi := 0) C [.int x] [] kX4_worthOf gX1_sizeLent_X4_worthOf_n56 (host := "TableShares") (by decide +kernel) nq_X1_sizeLent_X4_worthOf (c_worthOf l D cs (ta := ta) (tk := tk) (tq := tq) (tw := tw) (pe := pe) (ti := ti) (aw := aw) (me := me) (sp := sp) (wf := wf) (x := x) ) ⟨Nat.le_of_ble_eq_true rfl, Nat.le_of_ble_eq_true rfl⟩ ⟨rfl, rfl⟩ ⟨Nat.zero_le _, Nat.zero_le _⟩ rfl 2 rfl rfl rfl rfl (Nat.le_of_ble_eq_true rfl) [2, 3] [(sa, .inr (1, [.ref ta, .ref sb, .int (nI (lf + 1))])), (sb, .inl (cs 0, 16, .inl (upd bf lf 10))), (ta, .inr (4, [.ref tk, .ref tq, .ref tw, .int pe, .int ti, .int aw, .int me, .int sp])), (tw, .inl (cs 0, 8, .inl wf))] rfl (by decide) (show [ta, tw] = [ta, tw] from rfl) (rfl) dX1_sizeLent_11 ?_
  refine V.sts (st' := [.int (gA wf 8 x)]) rfl ?_
  exact v_iret C E (rfl) (by first | rfl | (simp [hl, ↓reduceIte]; done) | (simp_all [b2]; done)) dX1_sizeLent_14
theorem kX1_markOfAll : KD yX1_markOfAll wsX1_markOfAll cX1_markOfAll 4 (some .int) 1 := ⟨⟨_, rfl⟩, by decide, by decide +kernel, by decide +kernel, by decide +kernel⟩
theorem in_X1_markOfAll_X1 : ∀ w ∈ wsX10, w ∈ wsX1_markOfAll := by decide +kernel
theorem fl_X1_markOfAll_9 : FL RX1 wsX1_markOfAll RX1 RX1 TX1 3 1 0 9 := ⟨⟨in_X1_markOfAll_X1, rfl, by decide, rfl⟩, by decide +kernel⟩
theorem nq_X1_markOfAll_X4_kindOf : Cond.initialized yX4_kindOf.cls ∈ wsX1_markOfAll ∧ Cond.instanceMethod yX4_kindOf ∈ wsX1_markOfAll ∧ Cond.selects yX4_kindOf.cls yX4_kindOf yX4_kindOf ∈ wsX1_markOfAll := ⟨by decide +kernel, by decide +kernel, by decide +kernel⟩
theorem nq_X1_markOfAll_X4_setOf : Cond.initialized yX4_setOf.cls ∈ wsX1_markOfAll ∧ Cond.instanceMethod yX4_setOf ∈ wsX1_markOfAll ∧ Cond.selects yX4_setOf.cls yX4_setOf yX4_setOf ∈ wsX1_markOfAll := ⟨by decide +kernel, by decide +kernel, by decide +kernel⟩
theorem nq_X1_markOfAll_X4_there : Cond.initialized yX4_there.cls ∈ wsX1_markOfAll ∧ Cond.instanceMethod yX4_there ∈ wsX1_markOfAll ∧ Cond.selects yX4_there.cls yX4_there yX4_there ∈ wsX1_markOfAll := ⟨by decide +kernel, by decide +kernel, by decide +kernel⟩
set_option maxHeartbeats 4000000 in
set_option maxRecDepth 100000 in
theorem c_markOfAll (l : Launch) (D : va_G) (cs : Nat → ClassId) {sa : Nat} {sb : Nat} {ta : Nat} {bf : Nat → Int32} {lf : Nat} {tk : Nat} {tq : Nat} {tw : Nat} {kf : Nat → Int32} {sf : Nat → Int32} {wf : Nat → Int32} {pe : Int32} {ti : Int32} {aw : Int32} {me : Int32} {sp : Int32} {x : Int32} (hl : lf + 3 ≤ 16) (hS : ∀ t, s64 (sf t)) : CT l D (tz cs) yX1_markOfAll wsX1_markOfAll ({ frames := 3, cells := 0, slots := 0, locals := 64 }) [.ref sa, .int x] [(sa, .inr (1, [.ref ta, .ref sb, .int (nI lf)])), (sb, .inl (cs 0, 16, .inl bf)), (ta, .inr (4, [.ref tk, .ref tq, .ref tw, .int pe, .int ti, .int aw, .int me, .int sp])), (tk, .inl (cs 0, 8, .inl kf)), (tq, .inl (cs 0, 8, .inl sf)), (tw, .inl (cs 0, 8, .inl wf))] (some (.int (maV (gA kf 8 x) x (gA sf 8 x) (thI pe aw)))) [(sa, .inr (1, [.ref ta, .ref sb, .int (nI (lf + (maT (gA kf 8 x)).length))])), (sb, .inl (cs 0, 16, .inl (putL bf lf (maT (gA kf 8 x))))), (ta, .inr (4, [.ref tk, .ref tq, .ref tw, .int pe, .int ti, .int aw, .int me, .int sp])), (tk, .inl (cs 0, 8, .inl kf)), (tq, .inl (cs 0, 8, .inl sf)), (tw, .inl (cs 0, 8, .inl wf))] := by
  refine CT.of kX1_markOfAll (Nat.le_of_ble_eq_true rfl) ?_
  intro p e s m below meth c A C E
  have C : VOk p s m _ c cX1_markOfAll 4 wsX1_markOfAll RX1 D (tz cs) A s.heap := C
  refine V.lvs (lv' := [(0, .ref sa), (1, .int x)]) [0, 1] rfl ?_
  refine v_aload_n C 0 dX1_markOfAll_0 rfl ?_
  refine v_get C (v := .ref ta) fl_X1_markOfAll_9 0 rfl rfl dX1_markOfAll_1 ?_
  refine v_iload_n C 1 dX1_markOfAll_4 rfl ?_
  refine v_callVN (qi := 0) C [.int x] [] kX4_kindOf gX1_markOfAll_X4_kindOf_n27 (host := "TableShares") (by decide +kernel) nq_X1_markOfAll_X4_kindOf (c_kindOf l D cs (ta := ta) (tk := tk) (tq := tq) (tw := tw) (pe := pe) (ti := ti) (aw := aw) (me := me) (sp := sp) (kf := kf) (x := x) ) ⟨Nat.le_of_ble_eq_true rfl, Nat.le_of_ble_eq_true rfl⟩ ⟨rfl, rfl⟩ ⟨Nat.zero_le _, Nat.zero_le _⟩ rfl 2 rfl rfl rfl rfl (Nat.le_of_ble_eq_true rfl) [2, 3] [(sa, .inr (1, [.ref ta, .ref sb, .int (nI lf)])), (sb, .inl (cs 0, 16, .inl bf)), (ta, .inr (4, [.ref tk, .ref tq, .ref tw, .int pe, .int ti, .int aw, .int me, .int sp])), (tk, .inl (cs 0, 8, .inl kf)), (tq, .inl (cs 0, 8, .inl sf)), (tw, .inl (cs 0, 8, .inl wf))] rfl (by decide) (show [ta, tk] = [ta, tk] from rfl) (rfl) dX1_markOfAll_5 ?_
  refine V.sts (st' := [.int (gA kf 8 x)]) rfl ?_
  refine v_istore_n C [(0, .ref sa), (1, .int x), (2, .int (gA kf 8 x))] [1, 2, 0] dX1_markOfAll_8 (by decide) rfl ?_
  refine v_iload_n C 2 dX1_markOfAll_9 rfl ?_
  refine v_iconst C (v := 3) dX1_markOfAll_10 (by decide) ?_
  refine v_icmp_ne C 23 dX1_markOfAll_11 (by decide) (fun c1 => ?_) (fun c1 => ?_)
  · skip
    refine v_iload_n C 2 dX1_markOfAll_23 rfl ?_
    refine v_iconst C (v := 2) dX1_markOfAll_24 (by decide) ?_
    refine v_icmp_ne C 34 dX1_markOfAll_25 (by decide) (fun c2 => ?_) (fun c2 => ?_)
    · skip
      refine v_aload_n C 0 dX1_markOfAll_34 rfl ?_
      refine v_bipush C (v := 21) dX1_markOfAll_35 (by decide) ?_
      refine v_callV (qi := 0) C [.int 21] [] kX1_leave gX1_markOfAll_X1_leave (c_leave l D cs (sa := sa) (sb := sb) (ta := ta) (bf := bf) (lf := lf) (x := 21) (by first | omega | (simp only [List.length_append, List.length_cons, List.length_nil]; omega))) ⟨Nat.le_of_ble_eq_true rfl, Nat.le_of_ble_eq_true rfl⟩ ⟨rfl, rfl⟩ ⟨Nat.zero_le _, Nat.zero_le _⟩ rfl 0 rfl rfl rfl rfl (Nat.le_of_ble_eq_true rfl) [0, 1] [(sa, .inr (1, [.ref ta, .ref sb, .int (nI (lf + 1))])), (sb, .inl (cs 0, 16, .inl (upd bf lf 21))), (ta, .inr (4, [.ref tk, .ref tq, .ref tw, .int pe, .int ti, .int aw, .int me, .int sp])), (tk, .inl (cs 0, 8, .inl kf)), (tq, .inl (cs 0, 8, .inl sf)), (tw, .inl (cs 0, 8, .inl wf))] rfl (by decide) (show [sa, sb] = [sa, sb] from rfl) (rfl) dX1_markOfAll_37 ?_
      refine V.sts (st' := []) rfl ?_
      refine v_aload_n C 0 dX1_markOfAll_40 rfl ?_
      refine v_iload_n C 1 dX1_markOfAll_41 rfl ?_
      refine v_callV (qi := 0) C [.int x] [] kX1_markLent gX1_markOfAll_X1_markLent (c_markLent l D cs (sa := sa) (sb := sb) (ta := ta) (bf := upd bf lf 21) (lf := (lf + 1)) (x := x) (by first | omega | (simp only [List.length_append, List.length_cons, List.length_nil]; omega))) ⟨Nat.le_of_ble_eq_true rfl, Nat.le_of_ble_eq_true rfl⟩ ⟨rfl, rfl⟩ ⟨Nat.zero_le _, Nat.zero_le _⟩ rfl 0 rfl rfl rfl rfl (Nat.le_of_ble_eq_true rfl) [0, 1] [(sa, .inr (1, [.ref ta, .ref sb, .int (nI ((lf + 1) + 1))])), (sb, .inl (cs 0, 16, .inl (upd (upd bf lf 21) (lf + 1) 20))), (ta, .inr (4, [.ref tk, .ref tq, .ref tw, .int pe, .int ti, .int aw, .int me, .int sp])), (tk, .inl (cs 0, 8, .inl kf)), (tq, .inl (cs 0, 8, .inl sf)), (tw, .inl (cs 0, 8, .inl wf))] rfl (by decide) (show [sa, sb] = [sa, sb] from rfl) (rfl) dX1_markOfAll_42 ?_
      refine V.sts (st' := [.int x]) rfl ?_
      refine v_aload_n C 0 dX1_markOfAll_45 rfl ?_
      refine v_get C (v := .ref ta) fl_X1_markOfAll_9 0 rfl rfl dX1_markOfAll_46 ?_
      refine v_iload_n C 1 dX1_markOfAll_49 rfl ?_
      refine v_callVN (qi := 0) C [.int x] [.int x] kX4_setOf gX1_markOfAll_X4_setOf_n62 (host := "TableShares") (by decide +kernel) nq_X1_markOfAll_X4_setOf (c_setOf l D cs (ta := ta) (tk := tk) (tq := tq) (tw := tw) (pe := pe) (ti := ti) (aw := aw) (me := me) (sp := sp) (sf := sf) (x := x) ) ⟨Nat.le_of_ble_eq_true rfl, Nat.le_of_ble_eq_true rfl⟩ ⟨rfl, rfl⟩ ⟨Nat.zero_le _, Nat.zero_le _⟩ rfl 2 rfl rfl rfl rfl (Nat.le_of_ble_eq_true rfl) [2, 4] [(sa, .inr (1, [.ref ta, .ref sb, .int (nI ((lf + 1) + 1))])), (sb, .inl (cs 0, 16, .inl (upd (upd bf lf 21) (lf + 1) 20))), (ta, .inr (4, [.ref tk, .ref tq, .ref tw, .int pe, .int ti, .int aw, .int me, .int sp])), (tk, .inl (cs 0, 8, .inl kf)), (tq, .inl (cs 0, 8, .inl sf)), (tw, .inl (cs 0, 8, .inl wf))] rfl (by decide) (show [ta, tq] = [ta, tq] from rfl) (rfl) dX1_markOfAll_50 ?_
      refine V.sts (st' := [.int (gA sf 8 x), .int x]) rfl ?_
      refine v_aload_n C 0 dX1_markOfAll_53 rfl ?_
      refine v_get C (v := .ref ta) fl_X1_markOfAll_9 0 rfl rfl dX1_markOfAll_54 ?_
      refine v_callVN (qi := 0) C [] [.int (gA sf 8 x), .int x] kX4_there gX1_markOfAll_X4_there_n65 (host := "TableShares") (by decide +kernel) nq_X1_markOfAll_X4_there (c_there l D cs (ta := ta) (tk := tk) (tq := tq) (tw := tw) (pe := pe) (ti := ti) (aw := aw) (me := me) (sp := sp) ) ⟨Nat.le_of_ble_eq_true rfl, Nat.le_of_ble_eq_true rfl⟩ ⟨rfl, rfl⟩ ⟨Nat.zero_le _, Nat.zero_le _⟩ rfl 2 rfl rfl rfl rfl (Nat.le_of_ble_eq_true rfl) [2] [(sa, .inr (1, [.ref ta, .ref sb, .int (nI ((lf + 1) + 1))])), (sb, .inl (cs 0, 16, .inl (upd (upd bf lf 21) (lf + 1) 20))), (ta, .inr (4, [.ref tk, .ref tq, .ref tw, .int pe, .int ti, .int aw, .int me, .int sp])), (tk, .inl (cs 0, 8, .inl kf)), (tq, .inl (cs 0, 8, .inl sf)), (tw, .inl (cs 0, 8, .inl wf))] rfl (by decide) (show [ta] = [ta] from rfl) (rfl) dX1_markOfAll_57 ?_
      refine V.sts (st' := [.int (thI pe aw), .int (gA sf 8 x), .int x]) rfl ?_
      refine v_iand C dX1_markOfAll_60 ?_
      refine v_callS C [.int ((gA sf 8 x) &&& (thI pe aw))] [.int x] kJ6_bitCount_0f7a4 gX1_markOfAll_J6_bitCount_0f7a4 (c_bc l D cs (x := ((gA sf 8 x) &&& (thI pe aw))) (s64_and (s64_gA hS))) ⟨Nat.le_of_ble_eq_true rfl, Nat.le_of_ble_eq_true rfl⟩ ⟨rfl, rfl⟩ ⟨Nat.zero_le _, Nat.zero_le _⟩ rfl rfl (Nat.le_of_ble_eq_true rfl) [] [(sa, .inr (1, [.ref ta, .ref sb, .int (nI ((lf + 1) + 1))])), (sb, .inl (cs 0, 16, .inl (upd (upd bf lf 21) (lf + 1) 20))), (ta, .inr (4, [.ref tk, .ref tq, .ref tw, .int pe, .int ti, .int aw, .int me, .int sp])), (tk, .inl (cs 0, 8, .inl kf)), (tq, .inl (cs 0, 8, .inl sf)), (tw, .inl (cs 0, 8, .inl wf))] rfl (by decide) rfl (rfl) dX1_markOfAll_61 ?_
      refine V.sts (st' := [.int (pcI ((gA sf 8 x) &&& (thI pe aw))), .int x]) rfl ?_
      refine v_iadd C dX1_markOfAll_64 ?_
      refine v_istore_n C [(0, .ref sa), (1, .int x), (2, .int (gA kf 8 x)), (3, .int (x + (pcI ((gA sf 8 x) &&& (thI pe aw)))))] [1, 2, 3, 0] dX1_markOfAll_65 (by decide) rfl ?_
      refine v_iload_n C 2 dX1_markOfAll_66 rfl ?_
      refine v_iconst C (v := 3) dX1_markOfAll_67 (by decide) ?_
      refine v_icmp_ne C 77 dX1_markOfAll_68 (by decide) (fun c3 => ?_) (fun c3 => ?_)
      · skip
        refine v_iload_n C 2 dX1_markOfAll_77 rfl ?_
        refine v_iconst C (v := 2) dX1_markOfAll_78 (by decide) ?_
        refine v_icmp_ne C 88 dX1_markOfAll_79 (by decide) (fun c4 => ?_) (fun c4 => ?_)
        · skip
          refine v_iload_n C 3 dX1_markOfAll_88 rfl ?_
          exact v_iret C E (by first | rfl | (simp [*, putL, putL_app, maT, syT, saT, myT, Nat.add_assoc]; done) | (simp [*, putL, putL_app, maT, syT, saT, myT, Nat.add_assoc, Nat.add_comm 2]; done) | (simp_all [putL, putL_app, maT, syT, saT, myT, Nat.add_assoc]; done)) (by first | rfl | (simp [maV, syV, saV, myV, hl, hS, c1, c2, c3, c4, ↓reduceIte]; done) | (simp_all [maV, syV, saV, myV]; done)) dX1_markOfAll_89
        · exact absurd c4 c2
      · exact absurd c3 c1
    · skip
      refine v_aload_n C 0 dX1_markOfAll_28 rfl ?_
      refine v_bipush C (v := 24) dX1_markOfAll_29 (by decide) ?_
      refine v_callV (qi := 0) C [.int 24] [] kX1_leave gX1_markOfAll_X1_leave (c_leave l D cs (sa := sa) (sb := sb) (ta := ta) (bf := bf) (lf := lf) (x := 24) (by first | omega | (simp only [List.length_append, List.length_cons, List.length_nil]; omega))) ⟨Nat.le_of_ble_eq_true rfl, Nat.le_of_ble_eq_true rfl⟩ ⟨rfl, rfl⟩ ⟨Nat.zero_le _, Nat.zero_le _⟩ rfl 0 rfl rfl rfl rfl (Nat.le_of_ble_eq_true rfl) [0, 1] [(sa, .inr (1, [.ref ta, .ref sb, .int (nI (lf + 1))])), (sb, .inl (cs 0, 16, .inl (upd bf lf 24))), (ta, .inr (4, [.ref tk, .ref tq, .ref tw, .int pe, .int ti, .int aw, .int me, .int sp])), (tk, .inl (cs 0, 8, .inl kf)), (tq, .inl (cs 0, 8, .inl sf)), (tw, .inl (cs 0, 8, .inl wf))] rfl (by decide) (show [sa, sb] = [sa, sb] from rfl) (rfl) dX1_markOfAll_31 ?_
      refine V.sts (st' := []) rfl ?_
      refine v_aload_n C 0 dX1_markOfAll_34 rfl ?_
      refine v_bipush C (v := 21) dX1_markOfAll_35 (by decide) ?_
      refine v_callV (qi := 0) C [.int 21] [] kX1_leave gX1_markOfAll_X1_leave (c_leave l D cs (sa := sa) (sb := sb) (ta := ta) (bf := upd bf lf 24) (lf := (lf + 1)) (x := 21) (by first | omega | (simp only [List.length_append, List.length_cons, List.length_nil]; omega))) ⟨Nat.le_of_ble_eq_true rfl, Nat.le_of_ble_eq_true rfl⟩ ⟨rfl, rfl⟩ ⟨Nat.zero_le _, Nat.zero_le _⟩ rfl 0 rfl rfl rfl rfl (Nat.le_of_ble_eq_true rfl) [0, 1] [(sa, .inr (1, [.ref ta, .ref sb, .int (nI ((lf + 1) + 1))])), (sb, .inl (cs 0, 16, .inl (upd (upd bf lf 24) (lf + 1) 21))), (ta, .inr (4, [.ref tk, .ref tq, .ref tw, .int pe, .int ti, .int aw, .int me, .int sp])), (tk, .inl (cs 0, 8, .inl kf)), (tq, .inl (cs 0, 8, .inl sf)), (tw, .inl (cs 0, 8, .inl wf))] rfl (by decide) (show [sa, sb] = [sa, sb] from rfl) (rfl) dX1_markOfAll_37 ?_
      refine V.sts (st' := []) rfl ?_
      refine v_aload_n C 0 dX1_markOfAll_40 rfl ?_
      refine v_iload_n C 1 dX1_markOfAll_41 rfl ?_
      refine v_callV (qi := 0) C [.int x] [] kX1_markLent gX1_markOfAll_X1_markLent (c_markLent l D cs (sa := sa) (sb := sb) (ta := ta) (bf := upd (upd bf lf 24) (lf + 1) 21) (lf := ((lf + 1) + 1)) (x := x) (by first | omega | (simp only [List.length_append, List.length_cons, List.length_nil]; omega))) ⟨Nat.le_of_ble_eq_true rfl, Nat.le_of_ble_eq_true rfl⟩ ⟨rfl, rfl⟩ ⟨Nat.zero_le _, Nat.zero_le _⟩ rfl 0 rfl rfl rfl rfl (Nat.le_of_ble_eq_true rfl) [0, 1] [(sa, .inr (1, [.ref ta, .ref sb, .int (nI (((lf + 1) + 1) + 1))])), (sb, .inl (cs 0, 16, .inl (upd (upd (upd bf lf 24) (lf + 1) 21) ((lf + 1) + 1) 20))), (ta, .inr (4, [.ref tk, .ref tq, .ref tw, .int pe, .int ti, .int aw, .int me, .int sp])), (tk, .inl (cs 0, 8, .inl kf)), (tq, .inl (cs 0, 8, .inl sf)), (tw, .inl (cs 0, 8, .inl wf))] rfl (by decide) (show [sa, sb] = [sa, sb] from rfl) (rfl) dX1_markOfAll_42 ?_
      refine V.sts (st' := [.int x]) rfl ?_
      refine v_aload_n C 0 dX1_markOfAll_45 rfl ?_
      refine v_get C (v := .ref ta) fl_X1_markOfAll_9 0 rfl rfl dX1_markOfAll_46 ?_
      refine v_iload_n C 1 dX1_markOfAll_49 rfl ?_
      refine v_callVN (qi := 0) C [.int x] [.int x] kX4_setOf gX1_markOfAll_X4_setOf_n62 (host := "TableShares") (by decide +kernel) nq_X1_markOfAll_X4_setOf (c_setOf l D cs (ta := ta) (tk := tk) (tq := tq) (tw := tw) (pe := pe) (ti := ti) (aw := aw) (me := me) (sp := sp) (sf := sf) (x := x) ) ⟨Nat.le_of_ble_eq_true rfl, Nat.le_of_ble_eq_true rfl⟩ ⟨rfl, rfl⟩ ⟨Nat.zero_le _, Nat.zero_le _⟩ rfl 2 rfl rfl rfl rfl (Nat.le_of_ble_eq_true rfl) [2, 4] [(sa, .inr (1, [.ref ta, .ref sb, .int (nI (((lf + 1) + 1) + 1))])), (sb, .inl (cs 0, 16, .inl (upd (upd (upd bf lf 24) (lf + 1) 21) ((lf + 1) + 1) 20))), (ta, .inr (4, [.ref tk, .ref tq, .ref tw, .int pe, .int ti, .int aw, .int me, .int sp])), (tk, .inl (cs 0, 8, .inl kf)), (tq, .inl (cs 0, 8, .inl sf)), (tw, .inl (cs 0, 8, .inl wf))] rfl (by decide) (show [ta, tq] = [ta, tq] from rfl) (rfl) dX1_markOfAll_50 ?_
      refine V.sts (st' := [.int (gA sf 8 x), .int x]) rfl ?_
      refine v_aload_n C 0 dX1_markOfAll_53 rfl ?_
      refine v_get C (v := .ref ta) fl_X1_markOfAll_9 0 rfl rfl dX1_markOfAll_54 ?_
      refine v_callVN (qi := 0) C [] [.int (gA sf 8 x), .int x] kX4_there gX1_markOfAll_X4_there_n65 (host := "TableShares") (by decide +kernel) nq_X1_markOfAll_X4_there (c_there l D cs (ta := ta) (tk := tk) (tq := tq) (tw := tw) (pe := pe) (ti := ti) (aw := aw) (me := me) (sp := sp) ) ⟨Nat.le_of_ble_eq_true rfl, Nat.le_of_ble_eq_true rfl⟩ ⟨rfl, rfl⟩ ⟨Nat.zero_le _, Nat.zero_le _⟩ rfl 2 rfl rfl rfl rfl (Nat.le_of_ble_eq_true rfl) [2] [(sa, .inr (1, [.ref ta, .ref sb, .int (nI (((lf + 1) + 1) + 1))])), (sb, .inl (cs 0, 16, .inl (upd (upd (upd bf lf 24) (lf + 1) 21) ((lf + 1) + 1) 20))), (ta, .inr (4, [.ref tk, .ref tq, .ref tw, .int pe, .int ti, .int aw, .int me, .int sp])), (tk, .inl (cs 0, 8, .inl kf)), (tq, .inl (cs 0, 8, .inl sf)), (tw, .inl (cs 0, 8, .inl wf))] rfl (by decide) (show [ta] = [ta] from rfl) (rfl) dX1_markOfAll_57 ?_
      refine V.sts (st' := [.int (thI pe aw), .int (gA sf 8 x), .int x]) rfl ?_
      refine v_iand C dX1_markOfAll_60 ?_
      refine v_callS C [.int ((gA sf 8 x) &&& (thI pe aw))] [.int x] kJ6_bitCount_0f7a4 gX1_markOfAll_J6_bitCount_0f7a4 (c_bc l D cs (x := ((gA sf 8 x) &&& (thI pe aw))) (s64_and (s64_gA hS))) ⟨Nat.le_of_ble_eq_true rfl, Nat.le_of_ble_eq_true rfl⟩ ⟨rfl, rfl⟩ ⟨Nat.zero_le _, Nat.zero_le _⟩ rfl rfl (Nat.le_of_ble_eq_true rfl) [] [(sa, .inr (1, [.ref ta, .ref sb, .int (nI (((lf + 1) + 1) + 1))])), (sb, .inl (cs 0, 16, .inl (upd (upd (upd bf lf 24) (lf + 1) 21) ((lf + 1) + 1) 20))), (ta, .inr (4, [.ref tk, .ref tq, .ref tw, .int pe, .int ti, .int aw, .int me, .int sp])), (tk, .inl (cs 0, 8, .inl kf)), (tq, .inl (cs 0, 8, .inl sf)), (tw, .inl (cs 0, 8, .inl wf))] rfl (by decide) rfl (rfl) dX1_markOfAll_61 ?_
      refine V.sts (st' := [.int (pcI ((gA sf 8 x) &&& (thI pe aw))), .int x]) rfl ?_
      refine v_iadd C dX1_markOfAll_64 ?_
      refine v_istore_n C [(0, .ref sa), (1, .int x), (2, .int (gA kf 8 x)), (3, .int (x + (pcI ((gA sf 8 x) &&& (thI pe aw)))))] [1, 2, 3, 0] dX1_markOfAll_65 (by decide) rfl ?_
      refine v_iload_n C 2 dX1_markOfAll_66 rfl ?_
      refine v_iconst C (v := 3) dX1_markOfAll_67 (by decide) ?_
      refine v_icmp_ne C 77 dX1_markOfAll_68 (by decide) (fun c5 => ?_) (fun c5 => ?_)
      · skip
        refine v_iload_n C 2 dX1_markOfAll_77 rfl ?_
        refine v_iconst C (v := 2) dX1_markOfAll_78 (by decide) ?_
        refine v_icmp_ne C 88 dX1_markOfAll_79 (by decide) (fun c6 => ?_) (fun c6 => ?_)
        · exact absurd c2 c6
        · skip
          refine v_iconst C (v := 2) dX1_markOfAll_82 (by decide) ?_
          refine v_iload_n C 3 dX1_markOfAll_83 rfl ?_
          refine v_imul C dX1_markOfAll_84 ?_
          refine v_goto C 89 dX1_markOfAll_85 (by decide) ?_
          exact v_iret C E (by first | rfl | (simp [*, putL, putL_app, maT, syT, saT, myT, Nat.add_assoc]; done) | (simp [*, putL, putL_app, maT, syT, saT, myT, Nat.add_assoc, Nat.add_comm 2]; done) | (simp_all [putL, putL_app, maT, syT, saT, myT, Nat.add_assoc]; done)) (by first | rfl | (simp [maV, syV, saV, myV, hl, hS, c1, c2, c5, c6, ↓reduceIte]; done) | (simp_all [maV, syV, saV, myV]; done)) dX1_markOfAll_89
      · exact absurd c5 c1
  · skip
    refine v_aload_n C 0 dX1_markOfAll_14 rfl ?_
    refine v_bipush C (v := 22) dX1_markOfAll_15 (by decide) ?_
    refine v_callV (qi := 0) C [.int 22] [] kX1_leave gX1_markOfAll_X1_leave (c_leave l D cs (sa := sa) (sb := sb) (ta := ta) (bf := bf) (lf := lf) (x := 22) (by first | omega | (simp only [List.length_append, List.length_cons, List.length_nil]; omega))) ⟨Nat.le_of_ble_eq_true rfl, Nat.le_of_ble_eq_true rfl⟩ ⟨rfl, rfl⟩ ⟨Nat.zero_le _, Nat.zero_le _⟩ rfl 0 rfl rfl rfl rfl (Nat.le_of_ble_eq_true rfl) [0, 1] [(sa, .inr (1, [.ref ta, .ref sb, .int (nI (lf + 1))])), (sb, .inl (cs 0, 16, .inl (upd bf lf 22))), (ta, .inr (4, [.ref tk, .ref tq, .ref tw, .int pe, .int ti, .int aw, .int me, .int sp])), (tk, .inl (cs 0, 8, .inl kf)), (tq, .inl (cs 0, 8, .inl sf)), (tw, .inl (cs 0, 8, .inl wf))] rfl (by decide) (show [sa, sb] = [sa, sb] from rfl) (rfl) dX1_markOfAll_17 ?_
    refine V.sts (st' := []) rfl ?_
    refine v_goto C 34 dX1_markOfAll_20 (by decide) ?_
    refine v_aload_n C 0 dX1_markOfAll_34 rfl ?_
    refine v_bipush C (v := 21) dX1_markOfAll_35 (by decide) ?_
    refine v_callV (qi := 0) C [.int 21] [] kX1_leave gX1_markOfAll_X1_leave (c_leave l D cs (sa := sa) (sb := sb) (ta := ta) (bf := upd bf lf 22) (lf := (lf + 1)) (x := 21) (by first | omega | (simp only [List.length_append, List.length_cons, List.length_nil]; omega))) ⟨Nat.le_of_ble_eq_true rfl, Nat.le_of_ble_eq_true rfl⟩ ⟨rfl, rfl⟩ ⟨Nat.zero_le _, Nat.zero_le _⟩ rfl 0 rfl rfl rfl rfl (Nat.le_of_ble_eq_true rfl) [0, 1] [(sa, .inr (1, [.ref ta, .ref sb, .int (nI ((lf + 1) + 1))])), (sb, .inl (cs 0, 16, .inl (upd (upd bf lf 22) (lf + 1) 21))), (ta, .inr (4, [.ref tk, .ref tq, .ref tw, .int pe, .int ti, .int aw, .int me, .int sp])), (tk, .inl (cs 0, 8, .inl kf)), (tq, .inl (cs 0, 8, .inl sf)), (tw, .inl (cs 0, 8, .inl wf))] rfl (by decide) (show [sa, sb] = [sa, sb] from rfl) (rfl) dX1_markOfAll_37 ?_
    refine V.sts (st' := []) rfl ?_
    refine v_aload_n C 0 dX1_markOfAll_40 rfl ?_
    refine v_iload_n C 1 dX1_markOfAll_41 rfl ?_
    refine v_callV (qi := 0) C [.int x] [] kX1_markLent gX1_markOfAll_X1_markLent (c_markLent l D cs (sa := sa) (sb := sb) (ta := ta) (bf := upd (upd bf lf 22) (lf + 1) 21) (lf := ((lf + 1) + 1)) (x := x) (by first | omega | (simp only [List.length_append, List.length_cons, List.length_nil]; omega))) ⟨Nat.le_of_ble_eq_true rfl, Nat.le_of_ble_eq_true rfl⟩ ⟨rfl, rfl⟩ ⟨Nat.zero_le _, Nat.zero_le _⟩ rfl 0 rfl rfl rfl rfl (Nat.le_of_ble_eq_true rfl) [0, 1] [(sa, .inr (1, [.ref ta, .ref sb, .int (nI (((lf + 1) + 1) + 1))])), (sb, .inl (cs 0, 16, .inl (upd (upd (upd bf lf 22) (lf + 1) 21) ((lf + 1) + 1) 20))), (ta, .inr (4, [.ref tk, .ref tq, .ref tw, .int pe, .int ti, .int aw, .int me, .int sp])), (tk, .inl (cs 0, 8, .inl kf)), (tq, .inl (cs 0, 8, .inl sf)), (tw, .inl (cs 0, 8, .inl wf))] rfl (by decide) (show [sa, sb] = [sa, sb] from rfl) (rfl) dX1_markOfAll_42 ?_
    refine V.sts (st' := [.int x]) rfl ?_
    refine v_aload_n C 0 dX1_markOfAll_45 rfl ?_
    refine v_get C (v := .ref ta) fl_X1_markOfAll_9 0 rfl rfl dX1_markOfAll_46 ?_
    refine v_iload_n C 1 dX1_markOfAll_49 rfl ?_
    refine v_callVN (qi := 0) C [.int x] [.int x] kX4_setOf gX1_markOfAll_X4_setOf_n62 (host := "TableShares") (by decide +kernel) nq_X1_markOfAll_X4_setOf (c_setOf l D cs (ta := ta) (tk := tk) (tq := tq) (tw := tw) (pe := pe) (ti := ti) (aw := aw) (me := me) (sp := sp) (sf := sf) (x := x) ) ⟨Nat.le_of_ble_eq_true rfl, Nat.le_of_ble_eq_true rfl⟩ ⟨rfl, rfl⟩ ⟨Nat.zero_le _, Nat.zero_le _⟩ rfl 2 rfl rfl rfl rfl (Nat.le_of_ble_eq_true rfl) [2, 4] [(sa, .inr (1, [.ref ta, .ref sb, .int (nI (((lf + 1) + 1) + 1))])), (sb, .inl (cs 0, 16, .inl (upd (upd (upd bf lf 22) (lf + 1) 21) ((lf + 1) + 1) 20))), (ta, .inr (4, [.ref tk, .ref tq, .ref tw, .int pe, .int ti, .int aw, .int me, .int sp])), (tk, .inl (cs 0, 8, .inl kf)), (tq, .inl (cs 0, 8, .inl sf)), (tw, .inl (cs 0, 8, .inl wf))] rfl (by decide) (show [ta, tq] = [ta, tq] from rfl) (rfl) dX1_markOfAll_50 ?_
    refine V.sts (st' := [.int (gA sf 8 x), .int x]) rfl ?_
    refine v_aload_n C 0 dX1_markOfAll_53 rfl ?_
    refine v_get C (v := .ref ta) fl_X1_markOfAll_9 0 rfl rfl dX1_markOfAll_54 ?_
    refine v_callVN (qi := 0) C [] [.int (gA sf 8 x), .int x] kX4_there gX1_markOfAll_X4_there_n65 (host := "TableShares") (by decide +kernel) nq_X1_markOfAll_X4_there (c_there l D cs (ta := ta) (tk := tk) (tq := tq) (tw := tw) (pe := pe) (ti := ti) (aw := aw) (me := me) (sp := sp) ) ⟨Nat.le_of_ble_eq_true rfl, Nat.le_of_ble_eq_true rfl⟩ ⟨rfl, rfl⟩ ⟨Nat.zero_le _, Nat.zero_le _⟩ rfl 2 rfl rfl rfl rfl (Nat.le_of_ble_eq_true rfl) [2] [(sa, .inr (1, [.ref ta, .ref sb, .int (nI (((lf + 1) + 1) + 1))])), (sb, .inl (cs 0, 16, .inl (upd (upd (upd bf lf 22) (lf + 1) 21) ((lf + 1) + 1) 20))), (ta, .inr (4, [.ref tk, .ref tq, .ref tw, .int pe, .int ti, .int aw, .int me, .int sp])), (tk, .inl (cs 0, 8, .inl kf)), (tq, .inl (cs 0, 8, .inl sf)), (tw, .inl (cs 0, 8, .inl wf))] rfl (by decide) (show [ta] = [ta] from rfl) (rfl) dX1_markOfAll_57 ?_
    refine V.sts (st' := [.int (thI pe aw), .int (gA sf 8 x), .int x]) rfl ?_
    refine v_iand C dX1_markOfAll_60 ?_
    refine v_callS C [.int ((gA sf 8 x) &&& (thI pe aw))] [.int x] kJ6_bitCount_0f7a4 gX1_markOfAll_J6_bitCount_0f7a4 (c_bc l D cs (x := ((gA sf 8 x) &&& (thI pe aw))) (s64_and (s64_gA hS))) ⟨Nat.le_of_ble_eq_true rfl, Nat.le_of_ble_eq_true rfl⟩ ⟨rfl, rfl⟩ ⟨Nat.zero_le _, Nat.zero_le _⟩ rfl rfl (Nat.le_of_ble_eq_true rfl) [] [(sa, .inr (1, [.ref ta, .ref sb, .int (nI (((lf + 1) + 1) + 1))])), (sb, .inl (cs 0, 16, .inl (upd (upd (upd bf lf 22) (lf + 1) 21) ((lf + 1) + 1) 20))), (ta, .inr (4, [.ref tk, .ref tq, .ref tw, .int pe, .int ti, .int aw, .int me, .int sp])), (tk, .inl (cs 0, 8, .inl kf)), (tq, .inl (cs 0, 8, .inl sf)), (tw, .inl (cs 0, 8, .inl wf))] rfl (by decide) rfl (rfl) dX1_markOfAll_61 ?_
    refine V.sts (st' := [.int (pcI ((gA sf 8 x) &&& (thI pe aw))), .int x]) rfl ?_
    refine v_iadd C dX1_markOfAll_64 ?_
    refine v_istore_n C [(0, .ref sa), (1, .int x), (2, .int (gA kf 8 x)), (3, .int (x + (pcI ((gA sf 8 x) &&& (thI pe aw)))))] [1, 2, 3, 0] dX1_markOfAll_65 (by decide) rfl ?_
    refine v_iload_n C 2 dX1_markOfAll_66 rfl ?_
    refine v_iconst C (v := 3) dX1_markOfAll_67 (by decide) ?_
    refine v_icmp_ne C 77 dX1_markOfAll_68 (by decide) (fun c7 => ?_) (fun c7 => ?_)
    · exact absurd c1 c7
    · skip
      refine v_iload_n C 3 dX1_markOfAll_71 rfl ?_
      refine v_sipush C (v := 1000) dX1_markOfAll_72 (by decide) ?_
      refine v_isub C dX1_markOfAll_75 ?_
      exact v_iret C E (by first | rfl | (simp [*, putL, putL_app, maT, syT, saT, myT, Nat.add_assoc]; done) | (simp [*, putL, putL_app, maT, syT, saT, myT, Nat.add_assoc, Nat.add_comm 2]; done) | (simp_all [putL, putL_app, maT, syT, saT, myT, Nat.add_assoc]; done)) (by first | rfl | (simp [maV, syV, saV, myV, hl, hS, c1, c7, ↓reduceIte]; done) | (simp_all [maV, syV, saV, myV]; done)) dX1_markOfAll_76
theorem kX1_sizeOfAny : KD yX1_sizeOfAny wsX1_sizeOfAny cX1_sizeOfAny 4 (some .int) 1 := ⟨⟨_, rfl⟩, by decide, by decide +kernel, by decide +kernel, by decide +kernel⟩
theorem in_X1_sizeOfAny_X1 : ∀ w ∈ wsX10, w ∈ wsX1_sizeOfAny := by decide +kernel
theorem fl_X1_sizeOfAny_9 : FL RX1 wsX1_sizeOfAny RX1 RX1 TX1 3 1 0 9 := ⟨⟨in_X1_sizeOfAny_X1, rfl, by decide, rfl⟩, by decide +kernel⟩
theorem nq_X1_sizeOfAny_X4_kindOf : Cond.initialized yX4_kindOf.cls ∈ wsX1_sizeOfAny ∧ Cond.instanceMethod yX4_kindOf ∈ wsX1_sizeOfAny ∧ Cond.selects yX4_kindOf.cls yX4_kindOf yX4_kindOf ∈ wsX1_sizeOfAny := ⟨by decide +kernel, by decide +kernel, by decide +kernel⟩
set_option maxHeartbeats 4000000 in
set_option maxRecDepth 100000 in
theorem c_sizeOfAny (l : Launch) (D : va_G) (cs : Nat → ClassId) {sa : Nat} {sb : Nat} {ta : Nat} {bf : Nat → Int32} {lf : Nat} {tk : Nat} {tq : Nat} {tw : Nat} {kf : Nat → Int32} {sf : Nat → Int32} {wf : Nat → Int32} {pe : Int32} {ti : Int32} {aw : Int32} {me : Int32} {sp : Int32} {x : Int32} (hl : lf + 3 ≤ 16) (hS : ∀ t, s64 (sf t)) : CT l D (tz cs) yX1_sizeOfAny wsX1_sizeOfAny ({ frames := 3, cells := 0, slots := 0, locals := 64 }) [.ref sa, .int x] [(sa, .inr (1, [.ref ta, .ref sb, .int (nI lf)])), (sb, .inl (cs 0, 16, .inl bf)), (ta, .inr (4, [.ref tk, .ref tq, .ref tw, .int pe, .int ti, .int aw, .int me, .int sp])), (tk, .inl (cs 0, 8, .inl kf)), (tq, .inl (cs 0, 8, .inl sf)), (tw, .inl (cs 0, 8, .inl wf))] (some (.int (syV (gA kf 8 x) (gA wf 8 x)))) [(sa, .inr (1, [.ref ta, .ref sb, .int (nI (lf + (syT (gA kf 8 x)).length))])), (sb, .inl (cs 0, 16, .inl (putL bf lf (syT (gA kf 8 x))))), (ta, .inr (4, [.ref tk, .ref tq, .ref tw, .int pe, .int ti, .int aw, .int me, .int sp])), (tk, .inl (cs 0, 8, .inl kf)), (tq, .inl (cs 0, 8, .inl sf)), (tw, .inl (cs 0, 8, .inl wf))] := by
  refine CT.of kX1_sizeOfAny (Nat.le_of_ble_eq_true rfl) ?_
  intro p e s m below meth c A C E
  have C : VOk p s m _ c cX1_sizeOfAny 4 wsX1_sizeOfAny RX1 D (tz cs) A s.heap := C
  refine V.lvs (lv' := [(0, .ref sa), (1, .int x)]) [0, 1] rfl ?_
  refine v_aload_n C 0 dX1_sizeOfAny_0 rfl ?_
  refine v_get C (v := .ref ta) fl_X1_sizeOfAny_9 0 rfl rfl dX1_sizeOfAny_1 ?_
  refine v_iload_n C 1 dX1_sizeOfAny_4 rfl ?_
  refine v_callVN (qi := 0) C [.int x] [] kX4_kindOf gX1_sizeOfAny_X4_kindOf_n27 (host := "TableShares") (by decide +kernel) nq_X1_sizeOfAny_X4_kindOf (c_kindOf l D cs (ta := ta) (tk := tk) (tq := tq) (tw := tw) (pe := pe) (ti := ti) (aw := aw) (me := me) (sp := sp) (kf := kf) (x := x) ) ⟨Nat.le_of_ble_eq_true rfl, Nat.le_of_ble_eq_true rfl⟩ ⟨rfl, rfl⟩ ⟨Nat.zero_le _, Nat.zero_le _⟩ rfl 2 rfl rfl rfl rfl (Nat.le_of_ble_eq_true rfl) [2, 3] [(sa, .inr (1, [.ref ta, .ref sb, .int (nI lf)])), (sb, .inl (cs 0, 16, .inl bf)), (ta, .inr (4, [.ref tk, .ref tq, .ref tw, .int pe, .int ti, .int aw, .int me, .int sp])), (tk, .inl (cs 0, 8, .inl kf)), (tq, .inl (cs 0, 8, .inl sf)), (tw, .inl (cs 0, 8, .inl wf))] rfl (by decide) (show [ta, tk] = [ta, tk] from rfl) (rfl) dX1_sizeOfAny_5 ?_
  refine V.sts (st' := [.int (gA kf 8 x)]) rfl ?_
  refine v_iconst C (v := 5) dX1_sizeOfAny_8 (by decide) ?_
  refine v_icmp_ne C 16 dX1_sizeOfAny_9 (by decide) (fun c1 => ?_) (fun c1 => ?_)
  · skip
    refine v_iconst C (v := 0) dX1_sizeOfAny_16 (by decide) ?_
    refine v_istore_n C [(0, .ref sa), (1, .int x), (2, .int 0)] [1, 2, 0] dX1_sizeOfAny_17 (by decide) rfl ?_
    refine v_iload_n C 2 dX1_sizeOfAny_18 rfl ?_
    refine v_if_eq C 28 dX1_sizeOfAny_19 (by decide) (fun c2 => ?_) (fun c2 => ?_)
    · skip
      refine v_aload_n C 0 dX1_sizeOfAny_28 rfl ?_
      refine v_bipush C (v := 13) dX1_sizeOfAny_29 (by decide) ?_
      refine v_callV (qi := 0) C [.int 13] [] kX1_leave gX1_sizeOfAny_X1_leave (c_leave l D cs (sa := sa) (sb := sb) (ta := ta) (bf := bf) (lf := lf) (x := 13) (by first | omega | (simp only [List.length_append, List.length_cons, List.length_nil]; omega))) ⟨Nat.le_of_ble_eq_true rfl, Nat.le_of_ble_eq_true rfl⟩ ⟨rfl, rfl⟩ ⟨Nat.zero_le _, Nat.zero_le _⟩ rfl 0 rfl rfl rfl rfl (Nat.le_of_ble_eq_true rfl) [0, 1] [(sa, .inr (1, [.ref ta, .ref sb, .int (nI (lf + 1))])), (sb, .inl (cs 0, 16, .inl (upd bf lf 13))), (ta, .inr (4, [.ref tk, .ref tq, .ref tw, .int pe, .int ti, .int aw, .int me, .int sp])), (tk, .inl (cs 0, 8, .inl kf)), (tq, .inl (cs 0, 8, .inl sf)), (tw, .inl (cs 0, 8, .inl wf))] rfl (by decide) (show [sa, sb] = [sa, sb] from rfl) (rfl) dX1_sizeOfAny_31 ?_
      refine V.sts (st' := []) rfl ?_
      refine v_aload_n C 0 dX1_sizeOfAny_34 rfl ?_
      refine v_iload_n C 1 dX1_sizeOfAny_35 rfl ?_
      refine v_callV (qi := 0) C [.int x] [] kX1_sizeLent gX1_sizeOfAny_X1_sizeLent (c_sizeLent l D cs (sa := sa) (sb := sb) (ta := ta) (bf := upd bf lf 13) (lf := (lf + 1)) (tk := tk) (tq := tq) (tw := tw) (wf := wf) (pe := pe) (ti := ti) (aw := aw) (me := me) (sp := sp) (x := x) (by first | omega | (simp only [List.length_append, List.length_cons, List.length_nil]; omega))) ⟨Nat.le_of_ble_eq_true rfl, Nat.le_of_ble_eq_true rfl⟩ ⟨rfl, rfl⟩ ⟨Nat.zero_le _, Nat.zero_le _⟩ rfl 0 rfl rfl rfl rfl (Nat.le_of_ble_eq_true rfl) [0, 1, 2, 5] [(sa, .inr (1, [.ref ta, .ref sb, .int (nI ((lf + 1) + 1))])), (sb, .inl (cs 0, 16, .inl (upd (upd bf lf 13) (lf + 1) 10))), (ta, .inr (4, [.ref tk, .ref tq, .ref tw, .int pe, .int ti, .int aw, .int me, .int sp])), (tk, .inl (cs 0, 8, .inl kf)), (tq, .inl (cs 0, 8, .inl sf)), (tw, .inl (cs 0, 8, .inl wf))] rfl (by decide) (show [sa, sb, ta, tw] = [sa, sb, ta, tw] from rfl) (rfl) dX1_sizeOfAny_36 ?_
      refine V.sts (st' := [.int (gA wf 8 x)]) rfl ?_
      refine v_bipush C (v := 100) dX1_sizeOfAny_39 (by decide) ?_
      refine v_isub C dX1_sizeOfAny_41 ?_
      refine v_istore_n C [(0, .ref sa), (1, .int x), (2, .int 0), (3, .int ((gA wf 8 x) - 100))] [1, 2, 3, 0] dX1_sizeOfAny_42 (by decide) rfl ?_
      refine v_iload_n C 2 dX1_sizeOfAny_43 rfl ?_
      refine v_if_eq C 53 dX1_sizeOfAny_44 (by decide) (fun c3 => ?_) (fun c3 => ?_)
      · skip
        refine v_iload_n C 3 dX1_sizeOfAny_53 rfl ?_
        exact v_iret C E (by first | rfl | (simp [*, putL, putL_app, maT, syT, saT, myT, Nat.add_assoc]; done) | (simp [*, putL, putL_app, maT, syT, saT, myT, Nat.add_assoc, Nat.add_comm 2]; done) | (simp_all [putL, putL_app, maT, syT, saT, myT, Nat.add_assoc]; done)) (by first | rfl | (simp [maV, syV, saV, myV, hl, hS, c1, c2, c3, ↓reduceIte]; done) | (simp_all [maV, syV, saV, myV]; done)) dX1_sizeOfAny_54
      · exact absurd c2 c3
    · exact absurd c2 (by decide)
  · skip
    refine v_iconst C (v := 1) dX1_sizeOfAny_12 (by decide) ?_
    refine v_goto C 17 dX1_sizeOfAny_13 (by decide) ?_
    refine v_istore_n C [(0, .ref sa), (1, .int x), (2, .int 1)] [1, 2, 0] dX1_sizeOfAny_17 (by decide) rfl ?_
    refine v_iload_n C 2 dX1_sizeOfAny_18 rfl ?_
    refine v_if_eq C 28 dX1_sizeOfAny_19 (by decide) (fun c4 => ?_) (fun c4 => ?_)
    · exact absurd c4 (by decide)
    · skip
      refine v_aload_n C 0 dX1_sizeOfAny_22 rfl ?_
      refine v_bipush C (v := 14) dX1_sizeOfAny_23 (by decide) ?_
      refine v_callV (qi := 0) C [.int 14] [] kX1_leave gX1_sizeOfAny_X1_leave (c_leave l D cs (sa := sa) (sb := sb) (ta := ta) (bf := bf) (lf := lf) (x := 14) (by first | omega | (simp only [List.length_append, List.length_cons, List.length_nil]; omega))) ⟨Nat.le_of_ble_eq_true rfl, Nat.le_of_ble_eq_true rfl⟩ ⟨rfl, rfl⟩ ⟨Nat.zero_le _, Nat.zero_le _⟩ rfl 0 rfl rfl rfl rfl (Nat.le_of_ble_eq_true rfl) [0, 1] [(sa, .inr (1, [.ref ta, .ref sb, .int (nI (lf + 1))])), (sb, .inl (cs 0, 16, .inl (upd bf lf 14))), (ta, .inr (4, [.ref tk, .ref tq, .ref tw, .int pe, .int ti, .int aw, .int me, .int sp])), (tk, .inl (cs 0, 8, .inl kf)), (tq, .inl (cs 0, 8, .inl sf)), (tw, .inl (cs 0, 8, .inl wf))] rfl (by decide) (show [sa, sb] = [sa, sb] from rfl) (rfl) dX1_sizeOfAny_25 ?_
      refine V.sts (st' := []) rfl ?_
      refine v_aload_n C 0 dX1_sizeOfAny_28 rfl ?_
      refine v_bipush C (v := 13) dX1_sizeOfAny_29 (by decide) ?_
      refine v_callV (qi := 0) C [.int 13] [] kX1_leave gX1_sizeOfAny_X1_leave (c_leave l D cs (sa := sa) (sb := sb) (ta := ta) (bf := upd bf lf 14) (lf := (lf + 1)) (x := 13) (by first | omega | (simp only [List.length_append, List.length_cons, List.length_nil]; omega))) ⟨Nat.le_of_ble_eq_true rfl, Nat.le_of_ble_eq_true rfl⟩ ⟨rfl, rfl⟩ ⟨Nat.zero_le _, Nat.zero_le _⟩ rfl 0 rfl rfl rfl rfl (Nat.le_of_ble_eq_true rfl) [0, 1] [(sa, .inr (1, [.ref ta, .ref sb, .int (nI ((lf + 1) + 1))])), (sb, .inl (cs 0, 16, .inl (upd (upd bf lf 14) (lf + 1) 13))), (ta, .inr (4, [.ref tk, .ref tq, .ref tw, .int pe, .int ti, .int aw, .int me, .int sp])), (tk, .inl (cs 0, 8, .inl kf)), (tq, .inl (cs 0, 8, .inl sf)), (tw, .inl (cs 0, 8, .inl wf))] rfl (by decide) (show [sa, sb] = [sa, sb] from rfl) (rfl) dX1_sizeOfAny_31 ?_
      refine V.sts (st' := []) rfl ?_
      refine v_aload_n C 0 dX1_sizeOfAny_34 rfl ?_
      refine v_iload_n C 1 dX1_sizeOfAny_35 rfl ?_
      refine v_callV (qi := 0) C [.int x] [] kX1_sizeLent gX1_sizeOfAny_X1_sizeLent (c_sizeLent l D cs (sa := sa) (sb := sb) (ta := ta) (bf := upd (upd bf lf 14) (lf + 1) 13) (lf := ((lf + 1) + 1)) (tk := tk) (tq := tq) (tw := tw) (wf := wf) (pe := pe) (ti := ti) (aw := aw) (me := me) (sp := sp) (x := x) (by first | omega | (simp only [List.length_append, List.length_cons, List.length_nil]; omega))) ⟨Nat.le_of_ble_eq_true rfl, Nat.le_of_ble_eq_true rfl⟩ ⟨rfl, rfl⟩ ⟨Nat.zero_le _, Nat.zero_le _⟩ rfl 0 rfl rfl rfl rfl (Nat.le_of_ble_eq_true rfl) [0, 1, 2, 5] [(sa, .inr (1, [.ref ta, .ref sb, .int (nI (((lf + 1) + 1) + 1))])), (sb, .inl (cs 0, 16, .inl (upd (upd (upd bf lf 14) (lf + 1) 13) ((lf + 1) + 1) 10))), (ta, .inr (4, [.ref tk, .ref tq, .ref tw, .int pe, .int ti, .int aw, .int me, .int sp])), (tk, .inl (cs 0, 8, .inl kf)), (tq, .inl (cs 0, 8, .inl sf)), (tw, .inl (cs 0, 8, .inl wf))] rfl (by decide) (show [sa, sb, ta, tw] = [sa, sb, ta, tw] from rfl) (rfl) dX1_sizeOfAny_36 ?_
      refine V.sts (st' := [.int (gA wf 8 x)]) rfl ?_
      refine v_bipush C (v := 100) dX1_sizeOfAny_39 (by decide) ?_
      refine v_isub C dX1_sizeOfAny_41 ?_
      refine v_istore_n C [(0, .ref sa), (1, .int x), (2, .int 1), (3, .int ((gA wf 8 x) - 100))] [1, 2, 3, 0] dX1_sizeOfAny_42 (by decide) rfl ?_
      refine v_iload_n C 2 dX1_sizeOfAny_43 rfl ?_
      refine v_if_eq C 53 dX1_sizeOfAny_44 (by decide) (fun c5 => ?_) (fun c5 => ?_)
      · exact absurd c5 c4
      · skip
        refine v_iconst C (v := 2) dX1_sizeOfAny_47 (by decide) ?_
        refine v_iload_n C 3 dX1_sizeOfAny_48 rfl ?_
        refine v_imul C dX1_sizeOfAny_49 ?_
        refine v_goto C 54 dX1_sizeOfAny_50 (by decide) ?_
        exact v_iret C E (by first | rfl | (simp [*, putL, putL_app, maT, syT, saT, myT, Nat.add_assoc]; done) | (simp [*, putL, putL_app, maT, syT, saT, myT, Nat.add_assoc, Nat.add_comm 2]; done) | (simp_all [putL, putL_app, maT, syT, saT, myT, Nat.add_assoc]; done)) (by first | rfl | (simp [maV, syV, saV, myV, hl, hS, c1, c4, c5, ↓reduceIte]; done) | (simp_all [maV, syV, saV, myV]; done)) dX1_sizeOfAny_54
theorem kX1_sizeOfAll : KD yX1_sizeOfAll wsX1_sizeOfAll cX1_sizeOfAll 4 (some .int) 1 := ⟨⟨_, rfl⟩, by decide, by decide +kernel, by decide +kernel, by decide +kernel⟩
theorem in_X1_sizeOfAll_X1 : ∀ w ∈ wsX10, w ∈ wsX1_sizeOfAll := by decide +kernel
theorem fl_X1_sizeOfAll_9 : FL RX1 wsX1_sizeOfAll RX1 RX1 TX1 3 1 0 9 := ⟨⟨in_X1_sizeOfAll_X1, rfl, by decide, rfl⟩, by decide +kernel⟩
theorem nq_X1_sizeOfAll_X4_kindOf : Cond.initialized yX4_kindOf.cls ∈ wsX1_sizeOfAll ∧ Cond.instanceMethod yX4_kindOf ∈ wsX1_sizeOfAll ∧ Cond.selects yX4_kindOf.cls yX4_kindOf yX4_kindOf ∈ wsX1_sizeOfAll := ⟨by decide +kernel, by decide +kernel, by decide +kernel⟩
set_option maxHeartbeats 4000000 in
set_option maxRecDepth 100000 in
theorem c_sizeOfAll (l : Launch) (D : va_G) (cs : Nat → ClassId) {sa : Nat} {sb : Nat} {ta : Nat} {bf : Nat → Int32} {lf : Nat} {tk : Nat} {tq : Nat} {tw : Nat} {kf : Nat → Int32} {sf : Nat → Int32} {wf : Nat → Int32} {pe : Int32} {ti : Int32} {aw : Int32} {me : Int32} {sp : Int32} {x : Int32} (hl : lf + 6 ≤ 16) (hS : ∀ t, s64 (sf t)) : CT l D (tz cs) yX1_sizeOfAll wsX1_sizeOfAll ({ frames := 4, cells := 0, slots := 0, locals := 87 }) [.ref sa, .int x] [(sa, .inr (1, [.ref ta, .ref sb, .int (nI lf)])), (sb, .inl (cs 0, 16, .inl bf)), (ta, .inr (4, [.ref tk, .ref tq, .ref tw, .int pe, .int ti, .int aw, .int me, .int sp])), (tk, .inl (cs 0, 8, .inl kf)), (tq, .inl (cs 0, 8, .inl sf)), (tw, .inl (cs 0, 8, .inl wf))] (some (.int (saV (gA kf 8 x) x (gA sf 8 x) (gA wf 8 x) (thI pe aw)))) [(sa, .inr (1, [.ref ta, .ref sb, .int (nI (lf + (saT (gA kf 8 x)).length))])), (sb, .inl (cs 0, 16, .inl (putL bf lf (saT (gA kf 8 x))))), (ta, .inr (4, [.ref tk, .ref tq, .ref tw, .int pe, .int ti, .int aw, .int me, .int sp])), (tk, .inl (cs 0, 8, .inl kf)), (tq, .inl (cs 0, 8, .inl sf)), (tw, .inl (cs 0, 8, .inl wf))] := by
  refine CT.of kX1_sizeOfAll (Nat.le_of_ble_eq_true rfl) ?_
  intro p e s m below meth c A C E
  have C : VOk p s m _ c cX1_sizeOfAll 4 wsX1_sizeOfAll RX1 D (tz cs) A s.heap := C
  refine V.lvs (lv' := [(0, .ref sa), (1, .int x)]) [0, 1] rfl ?_
  refine v_aload_n C 0 dX1_sizeOfAll_0 rfl ?_
  refine v_get C (v := .ref ta) fl_X1_sizeOfAll_9 0 rfl rfl dX1_sizeOfAll_1 ?_
  refine v_iload_n C 1 dX1_sizeOfAll_4 rfl ?_
  refine v_callVN (qi := 0) C [.int x] [] kX4_kindOf gX1_sizeOfAll_X4_kindOf_n27 (host := "TableShares") (by decide +kernel) nq_X1_sizeOfAll_X4_kindOf (c_kindOf l D cs (ta := ta) (tk := tk) (tq := tq) (tw := tw) (pe := pe) (ti := ti) (aw := aw) (me := me) (sp := sp) (kf := kf) (x := x) ) ⟨Nat.le_of_ble_eq_true rfl, Nat.le_of_ble_eq_true rfl⟩ ⟨rfl, rfl⟩ ⟨Nat.zero_le _, Nat.zero_le _⟩ rfl 2 rfl rfl rfl rfl (Nat.le_of_ble_eq_true rfl) [2, 3] [(sa, .inr (1, [.ref ta, .ref sb, .int (nI lf)])), (sb, .inl (cs 0, 16, .inl bf)), (ta, .inr (4, [.ref tk, .ref tq, .ref tw, .int pe, .int ti, .int aw, .int me, .int sp])), (tk, .inl (cs 0, 8, .inl kf)), (tq, .inl (cs 0, 8, .inl sf)), (tw, .inl (cs 0, 8, .inl wf))] rfl (by decide) (show [ta, tk] = [ta, tk] from rfl) (rfl) dX1_sizeOfAll_5 ?_
  refine V.sts (st' := [.int (gA kf 8 x)]) rfl ?_
  refine v_iconst C (v := 2) dX1_sizeOfAll_8 (by decide) ?_
  refine v_icmp_ne C 16 dX1_sizeOfAll_9 (by decide) (fun c1 => ?_) (fun c1 => ?_)
  · skip
    refine v_iconst C (v := 0) dX1_sizeOfAll_16 (by decide) ?_
    refine v_istore_n C [(0, .ref sa), (1, .int x), (2, .int 0)] [1, 2, 0] dX1_sizeOfAll_17 (by decide) rfl ?_
    refine v_iload_n C 2 dX1_sizeOfAll_18 rfl ?_
    refine v_if_eq C 28 dX1_sizeOfAll_19 (by decide) (fun c2 => ?_) (fun c2 => ?_)
    · skip
      refine v_aload_n C 0 dX1_sizeOfAll_28 rfl ?_
      refine v_bipush C (v := 11) dX1_sizeOfAll_29 (by decide) ?_
      refine v_callV (qi := 0) C [.int 11] [] kX1_leave gX1_sizeOfAll_X1_leave (c_leave l D cs (sa := sa) (sb := sb) (ta := ta) (bf := bf) (lf := lf) (x := 11) (by first | omega | (simp only [List.length_append, List.length_cons, List.length_nil]; omega))) ⟨Nat.le_of_ble_eq_true rfl, Nat.le_of_ble_eq_true rfl⟩ ⟨rfl, rfl⟩ ⟨Nat.zero_le _, Nat.zero_le _⟩ rfl 0 rfl rfl rfl rfl (Nat.le_of_ble_eq_true rfl) [0, 1] [(sa, .inr (1, [.ref ta, .ref sb, .int (nI (lf + 1))])), (sb, .inl (cs 0, 16, .inl (upd bf lf 11))), (ta, .inr (4, [.ref tk, .ref tq, .ref tw, .int pe, .int ti, .int aw, .int me, .int sp])), (tk, .inl (cs 0, 8, .inl kf)), (tq, .inl (cs 0, 8, .inl sf)), (tw, .inl (cs 0, 8, .inl wf))] rfl (by decide) (show [sa, sb] = [sa, sb] from rfl) (rfl) dX1_sizeOfAll_31 ?_
      refine V.sts (st' := []) rfl ?_
      refine v_aload_n C 0 dX1_sizeOfAll_34 rfl ?_
      refine v_iload_n C 1 dX1_sizeOfAll_35 rfl ?_
      refine v_callV (qi := 0) C [.int x] [] kX1_sizeLent gX1_sizeOfAll_X1_sizeLent (c_sizeLent l D cs (sa := sa) (sb := sb) (ta := ta) (bf := upd bf lf 11) (lf := (lf + 1)) (tk := tk) (tq := tq) (tw := tw) (wf := wf) (pe := pe) (ti := ti) (aw := aw) (me := me) (sp := sp) (x := x) (by first | omega | (simp only [List.length_append, List.length_cons, List.length_nil]; omega))) ⟨Nat.le_of_ble_eq_true rfl, Nat.le_of_ble_eq_true rfl⟩ ⟨rfl, rfl⟩ ⟨Nat.zero_le _, Nat.zero_le _⟩ rfl 0 rfl rfl rfl rfl (Nat.le_of_ble_eq_true rfl) [0, 1, 2, 5] [(sa, .inr (1, [.ref ta, .ref sb, .int (nI ((lf + 1) + 1))])), (sb, .inl (cs 0, 16, .inl (upd (upd bf lf 11) (lf + 1) 10))), (ta, .inr (4, [.ref tk, .ref tq, .ref tw, .int pe, .int ti, .int aw, .int me, .int sp])), (tk, .inl (cs 0, 8, .inl kf)), (tq, .inl (cs 0, 8, .inl sf)), (tw, .inl (cs 0, 8, .inl wf))] rfl (by decide) (show [sa, sb, ta, tw] = [sa, sb, ta, tw] from rfl) (rfl) dX1_sizeOfAll_36 ?_
      refine V.sts (st' := [.int (gA wf 8 x)]) rfl ?_
      refine v_aload_n C 0 dX1_sizeOfAll_39 rfl ?_
      refine v_iload_n C 1 dX1_sizeOfAll_40 rfl ?_
      refine v_callV (qi := 0) C [.int x] [.int (gA wf 8 x)] kX1_markOfAll gX1_sizeOfAll_X1_markOfAll (c_markOfAll l D cs (sa := sa) (sb := sb) (ta := ta) (bf := upd (upd bf lf 11) (lf + 1) 10) (lf := ((lf + 1) + 1)) (tk := tk) (tq := tq) (tw := tw) (kf := kf) (sf := sf) (wf := wf) (pe := pe) (ti := ti) (aw := aw) (me := me) (sp := sp) (x := x) (by first | omega | (simp only [List.length_append, List.length_cons, List.length_nil]; omega)) (by first | assumption | omega)) ⟨Nat.le_of_ble_eq_true rfl, Nat.le_of_ble_eq_true rfl⟩ ⟨rfl, rfl⟩ ⟨Nat.zero_le _, Nat.zero_le _⟩ rfl 0 rfl rfl rfl rfl (Nat.le_of_ble_eq_true rfl) [0, 1, 2, 3, 4, 5] [(sa, .inr (1, [.ref ta, .ref sb, .int (nI (((lf + 1) + 1) + (maT (gA kf 8 x)).length))])), (sb, .inl (cs 0, 16, .inl (putL (upd (upd bf lf 11) (lf + 1) 10) ((lf + 1) + 1) (maT (gA kf 8 x))))), (ta, .inr (4, [.ref tk, .ref tq, .ref tw, .int pe, .int ti, .int aw, .int me, .int sp])), (tk, .inl (cs 0, 8, .inl kf)), (tq, .inl (cs 0, 8, .inl sf)), (tw, .inl (cs 0, 8, .inl wf))] rfl (by decide) (show [sa, sb, ta, tk, tq, tw] = [sa, sb, ta, tk, tq, tw] from rfl) (rfl) dX1_sizeOfAll_41 ?_
      refine V.sts (st' := [.int (maV (gA kf 8 x) x (gA sf 8 x) (thI pe aw)), .int (gA wf 8 x)]) rfl ?_
      refine v_iadd C dX1_sizeOfAll_44 ?_
      refine v_istore_n C [(0, .ref sa), (1, .int x), (2, .int 0), (3, .int ((gA wf 8 x) + (maV (gA kf 8 x) x (gA sf 8 x) (thI pe aw))))] [1, 2, 3, 0] dX1_sizeOfAll_45 (by decide) rfl ?_
      refine v_iload_n C 2 dX1_sizeOfAll_46 rfl ?_
      refine v_if_eq C 55 dX1_sizeOfAll_47 (by decide) (fun c3 => ?_) (fun c3 => ?_)
      · skip
        refine v_iload_n C 3 dX1_sizeOfAll_55 rfl ?_
        exact v_iret C E (by first | rfl | (simp [*, putL, putL_app, maT, syT, saT, myT, Nat.add_assoc]; done) | (simp [*, putL, putL_app, maT, syT, saT, myT, Nat.add_assoc, Nat.add_comm 2]; done) | (simp_all [putL, putL_app, maT, syT, saT, myT, Nat.add_assoc]; done)) (by first | rfl | (simp [maV, syV, saV, myV, hl, hS, c1, c2, c3, ↓reduceIte]; done) | (simp_all [maV, syV, saV, myV]; done)) dX1_sizeOfAll_56
      · exact absurd c2 c3
    · exact absurd c2 (by decide)
  · skip
    refine v_iconst C (v := 1) dX1_sizeOfAll_12 (by decide) ?_
    refine v_goto C 17 dX1_sizeOfAll_13 (by decide) ?_
    refine v_istore_n C [(0, .ref sa), (1, .int x), (2, .int 1)] [1, 2, 0] dX1_sizeOfAll_17 (by decide) rfl ?_
    refine v_iload_n C 2 dX1_sizeOfAll_18 rfl ?_
    refine v_if_eq C 28 dX1_sizeOfAll_19 (by decide) (fun c4 => ?_) (fun c4 => ?_)
    · exact absurd c4 (by decide)
    · skip
      refine v_aload_n C 0 dX1_sizeOfAll_22 rfl ?_
      refine v_bipush C (v := 12) dX1_sizeOfAll_23 (by decide) ?_
      refine v_callV (qi := 0) C [.int 12] [] kX1_leave gX1_sizeOfAll_X1_leave (c_leave l D cs (sa := sa) (sb := sb) (ta := ta) (bf := bf) (lf := lf) (x := 12) (by first | omega | (simp only [List.length_append, List.length_cons, List.length_nil]; omega))) ⟨Nat.le_of_ble_eq_true rfl, Nat.le_of_ble_eq_true rfl⟩ ⟨rfl, rfl⟩ ⟨Nat.zero_le _, Nat.zero_le _⟩ rfl 0 rfl rfl rfl rfl (Nat.le_of_ble_eq_true rfl) [0, 1] [(sa, .inr (1, [.ref ta, .ref sb, .int (nI (lf + 1))])), (sb, .inl (cs 0, 16, .inl (upd bf lf 12))), (ta, .inr (4, [.ref tk, .ref tq, .ref tw, .int pe, .int ti, .int aw, .int me, .int sp])), (tk, .inl (cs 0, 8, .inl kf)), (tq, .inl (cs 0, 8, .inl sf)), (tw, .inl (cs 0, 8, .inl wf))] rfl (by decide) (show [sa, sb] = [sa, sb] from rfl) (rfl) dX1_sizeOfAll_25 ?_
      refine V.sts (st' := []) rfl ?_
      refine v_aload_n C 0 dX1_sizeOfAll_28 rfl ?_
      refine v_bipush C (v := 11) dX1_sizeOfAll_29 (by decide) ?_
      refine v_callV (qi := 0) C [.int 11] [] kX1_leave gX1_sizeOfAll_X1_leave (c_leave l D cs (sa := sa) (sb := sb) (ta := ta) (bf := upd bf lf 12) (lf := (lf + 1)) (x := 11) (by first | omega | (simp only [List.length_append, List.length_cons, List.length_nil]; omega))) ⟨Nat.le_of_ble_eq_true rfl, Nat.le_of_ble_eq_true rfl⟩ ⟨rfl, rfl⟩ ⟨Nat.zero_le _, Nat.zero_le _⟩ rfl 0 rfl rfl rfl rfl (Nat.le_of_ble_eq_true rfl) [0, 1] [(sa, .inr (1, [.ref ta, .ref sb, .int (nI ((lf + 1) + 1))])), (sb, .inl (cs 0, 16, .inl (upd (upd bf lf 12) (lf + 1) 11))), (ta, .inr (4, [.ref tk, .ref tq, .ref tw, .int pe, .int ti, .int aw, .int me, .int sp])), (tk, .inl (cs 0, 8, .inl kf)), (tq, .inl (cs 0, 8, .inl sf)), (tw, .inl (cs 0, 8, .inl wf))] rfl (by decide) (show [sa, sb] = [sa, sb] from rfl) (rfl) dX1_sizeOfAll_31 ?_
      refine V.sts (st' := []) rfl ?_
      refine v_aload_n C 0 dX1_sizeOfAll_34 rfl ?_
      refine v_iload_n C 1 dX1_sizeOfAll_35 rfl ?_
      refine v_callV (qi := 0) C [.int x] [] kX1_sizeLent gX1_sizeOfAll_X1_sizeLent (c_sizeLent l D cs (sa := sa) (sb := sb) (ta := ta) (bf := upd (upd bf lf 12) (lf + 1) 11) (lf := ((lf + 1) + 1)) (tk := tk) (tq := tq) (tw := tw) (wf := wf) (pe := pe) (ti := ti) (aw := aw) (me := me) (sp := sp) (x := x) (by first | omega | (simp only [List.length_append, List.length_cons, List.length_nil]; omega))) ⟨Nat.le_of_ble_eq_true rfl, Nat.le_of_ble_eq_true rfl⟩ ⟨rfl, rfl⟩ ⟨Nat.zero_le _, Nat.zero_le _⟩ rfl 0 rfl rfl rfl rfl (Nat.le_of_ble_eq_true rfl) [0, 1, 2, 5] [(sa, .inr (1, [.ref ta, .ref sb, .int (nI (((lf + 1) + 1) + 1))])), (sb, .inl (cs 0, 16, .inl (upd (upd (upd bf lf 12) (lf + 1) 11) ((lf + 1) + 1) 10))), (ta, .inr (4, [.ref tk, .ref tq, .ref tw, .int pe, .int ti, .int aw, .int me, .int sp])), (tk, .inl (cs 0, 8, .inl kf)), (tq, .inl (cs 0, 8, .inl sf)), (tw, .inl (cs 0, 8, .inl wf))] rfl (by decide) (show [sa, sb, ta, tw] = [sa, sb, ta, tw] from rfl) (rfl) dX1_sizeOfAll_36 ?_
      refine V.sts (st' := [.int (gA wf 8 x)]) rfl ?_
      refine v_aload_n C 0 dX1_sizeOfAll_39 rfl ?_
      refine v_iload_n C 1 dX1_sizeOfAll_40 rfl ?_
      refine v_callV (qi := 0) C [.int x] [.int (gA wf 8 x)] kX1_markOfAll gX1_sizeOfAll_X1_markOfAll (c_markOfAll l D cs (sa := sa) (sb := sb) (ta := ta) (bf := upd (upd (upd bf lf 12) (lf + 1) 11) ((lf + 1) + 1) 10) (lf := (((lf + 1) + 1) + 1)) (tk := tk) (tq := tq) (tw := tw) (kf := kf) (sf := sf) (wf := wf) (pe := pe) (ti := ti) (aw := aw) (me := me) (sp := sp) (x := x) (by first | omega | (simp only [List.length_append, List.length_cons, List.length_nil]; omega)) (by first | assumption | omega)) ⟨Nat.le_of_ble_eq_true rfl, Nat.le_of_ble_eq_true rfl⟩ ⟨rfl, rfl⟩ ⟨Nat.zero_le _, Nat.zero_le _⟩ rfl 0 rfl rfl rfl rfl (Nat.le_of_ble_eq_true rfl) [0, 1, 2, 3, 4, 5] [(sa, .inr (1, [.ref ta, .ref sb, .int (nI ((((lf + 1) + 1) + 1) + (maT (gA kf 8 x)).length))])), (sb, .inl (cs 0, 16, .inl (putL (upd (upd (upd bf lf 12) (lf + 1) 11) ((lf + 1) + 1) 10) (((lf + 1) + 1) + 1) (maT (gA kf 8 x))))), (ta, .inr (4, [.ref tk, .ref tq, .ref tw, .int pe, .int ti, .int aw, .int me, .int sp])), (tk, .inl (cs 0, 8, .inl kf)), (tq, .inl (cs 0, 8, .inl sf)), (tw, .inl (cs 0, 8, .inl wf))] rfl (by decide) (show [sa, sb, ta, tk, tq, tw] = [sa, sb, ta, tk, tq, tw] from rfl) (rfl) dX1_sizeOfAll_41 ?_
      refine V.sts (st' := [.int (maV (gA kf 8 x) x (gA sf 8 x) (thI pe aw)), .int (gA wf 8 x)]) rfl ?_
      refine v_iadd C dX1_sizeOfAll_44 ?_
      refine v_istore_n C [(0, .ref sa), (1, .int x), (2, .int 1), (3, .int ((gA wf 8 x) + (maV (gA kf 8 x) x (gA sf 8 x) (thI pe aw))))] [1, 2, 3, 0] dX1_sizeOfAll_45 (by decide) rfl ?_
      refine v_iload_n C 2 dX1_sizeOfAll_46 rfl ?_
      refine v_if_eq C 55 dX1_sizeOfAll_47 (by decide) (fun c5 => ?_) (fun c5 => ?_)
      · exact absurd c5 c4
      · skip
        refine v_iload_n C 3 dX1_sizeOfAll_50 rfl ?_
        refine v_ineg C dX1_sizeOfAll_51 ?_
        refine v_goto C 56 dX1_sizeOfAll_52 (by decide) ?_
        exact v_iret C E (by first | rfl | (simp [*, putL, putL_app, maT, syT, saT, myT, Nat.add_assoc]; done) | (simp [*, putL, putL_app, maT, syT, saT, myT, Nat.add_assoc, Nat.add_comm 2]; done) | (simp_all [putL, putL_app, maT, syT, saT, myT, Nat.add_assoc]; done)) (by first | rfl | (simp [maV, syV, saV, myV, hl, hS, c1, c4, c5, ↓reduceIte]; done) | (simp_all [maV, syV, saV, myV]; done)) dX1_sizeOfAll_56
theorem kX1_markOfAny : KD yX1_markOfAny wsX1_markOfAny cX1_markOfAny 2 (some .int) 1 := ⟨⟨_, rfl⟩, by decide, by decide +kernel, by decide +kernel, by decide +kernel⟩
set_option maxHeartbeats 4000000 in
set_option maxRecDepth 100000 in
theorem c_markOfAny (l : Launch) (D : va_G) (cs : Nat → ClassId) {sa : Nat} {sb : Nat} {ta : Nat} {bf : Nat → Int32} {lf : Nat} {tk : Nat} {tq : Nat} {tw : Nat} {kf : Nat → Int32} {sf : Nat → Int32} {wf : Nat → Int32} {pe : Int32} {ti : Int32} {aw : Int32} {me : Int32} {sp : Int32} {x : Int32} (hl : lf + 5 ≤ 16) (hS : ∀ t, s64 (sf t)) : CT l D (tz cs) yX1_markOfAny wsX1_markOfAny ({ frames := 4, cells := 0, slots := 0, locals := 87 }) [.ref sa, .int x] [(sa, .inr (1, [.ref ta, .ref sb, .int (nI lf)])), (sb, .inl (cs 0, 16, .inl bf)), (ta, .inr (4, [.ref tk, .ref tq, .ref tw, .int pe, .int ti, .int aw, .int me, .int sp])), (tk, .inl (cs 0, 8, .inl kf)), (tq, .inl (cs 0, 8, .inl sf)), (tw, .inl (cs 0, 8, .inl wf))] (some (.int (myV (gA kf 8 x) x (gA wf 8 x)))) [(sa, .inr (1, [.ref ta, .ref sb, .int (nI (lf + (myT (gA kf 8 x)).length))])), (sb, .inl (cs 0, 16, .inl (putL bf lf (myT (gA kf 8 x))))), (ta, .inr (4, [.ref tk, .ref tq, .ref tw, .int pe, .int ti, .int aw, .int me, .int sp])), (tk, .inl (cs 0, 8, .inl kf)), (tq, .inl (cs 0, 8, .inl sf)), (tw, .inl (cs 0, 8, .inl wf))] := by
  refine CT.of kX1_markOfAny (Nat.le_of_ble_eq_true rfl) ?_
  intro p e s m below meth c A C E
  have C : VOk p s m _ c cX1_markOfAny 2 wsX1_markOfAny RX1 D (tz cs) A s.heap := C
  refine V.lvs (lv' := [(0, .ref sa), (1, .int x)]) [0, 1] rfl ?_
  refine v_aload_n C 0 dX1_markOfAny_0 rfl ?_
  refine v_bipush C (v := 23) dX1_markOfAny_1 (by decide) ?_
  refine v_callV (qi := 0) C [.int 23] [] kX1_leave gX1_markOfAny_X1_leave (c_leave l D cs (sa := sa) (sb := sb) (ta := ta) (bf := bf) (lf := lf) (x := 23) (by first | omega | (simp only [List.length_append, List.length_cons, List.length_nil]; omega))) ⟨Nat.le_of_ble_eq_true rfl, Nat.le_of_ble_eq_true rfl⟩ ⟨rfl, rfl⟩ ⟨Nat.zero_le _, Nat.zero_le _⟩ rfl 0 rfl rfl rfl rfl (Nat.le_of_ble_eq_true rfl) [0, 1] [(sa, .inr (1, [.ref ta, .ref sb, .int (nI (lf + 1))])), (sb, .inl (cs 0, 16, .inl (upd bf lf 23))), (ta, .inr (4, [.ref tk, .ref tq, .ref tw, .int pe, .int ti, .int aw, .int me, .int sp])), (tk, .inl (cs 0, 8, .inl kf)), (tq, .inl (cs 0, 8, .inl sf)), (tw, .inl (cs 0, 8, .inl wf))] rfl (by decide) (show [sa, sb] = [sa, sb] from rfl) (rfl) dX1_markOfAny_3 ?_
  refine V.sts (st' := []) rfl ?_
  refine v_aload_n C 0 dX1_markOfAny_6 rfl ?_
  refine v_iload_n C 1 dX1_markOfAny_7 rfl ?_
  refine v_callV (qi := 0) C [.int x] [] kX1_markLent gX1_markOfAny_X1_markLent (c_markLent l D cs (sa := sa) (sb := sb) (ta := ta) (bf := upd bf lf 23) (lf := (lf + 1)) (x := x) (by first | omega | (simp only [List.length_append, List.length_cons, List.length_nil]; omega))) ⟨Nat.le_of_ble_eq_true rfl, Nat.le_of_ble_eq_true rfl⟩ ⟨rfl, rfl⟩ ⟨Nat.zero_le _, Nat.zero_le _⟩ rfl 0 rfl rfl rfl rfl (Nat.le_of_ble_eq_true rfl) [0, 1] [(sa, .inr (1, [.ref ta, .ref sb, .int (nI ((lf + 1) + 1))])), (sb, .inl (cs 0, 16, .inl (upd (upd bf lf 23) (lf + 1) 20))), (ta, .inr (4, [.ref tk, .ref tq, .ref tw, .int pe, .int ti, .int aw, .int me, .int sp])), (tk, .inl (cs 0, 8, .inl kf)), (tq, .inl (cs 0, 8, .inl sf)), (tw, .inl (cs 0, 8, .inl wf))] rfl (by decide) (show [sa, sb] = [sa, sb] from rfl) (rfl) dX1_markOfAny_8 ?_
  refine V.sts (st' := [.int x]) rfl ?_
  refine v_aload_n C 0 dX1_markOfAny_11 rfl ?_
  refine v_iload_n C 1 dX1_markOfAny_12 rfl ?_
  refine v_callV (qi := 0) C [.int x] [.int x] kX1_sizeOfAny gX1_markOfAny_X1_sizeOfAny (c_sizeOfAny l D cs (sa := sa) (sb := sb) (ta := ta) (bf := upd (upd bf lf 23) (lf + 1) 20) (lf := ((lf + 1) + 1)) (tk := tk) (tq := tq) (tw := tw) (kf := kf) (sf := sf) (wf := wf) (pe := pe) (ti := ti) (aw := aw) (me := me) (sp := sp) (x := x) (by first | omega | (simp only [List.length_append, List.length_cons, List.length_nil]; omega)) (by first | assumption | omega)) ⟨Nat.le_of_ble_eq_true rfl, Nat.le_of_ble_eq_true rfl⟩ ⟨rfl, rfl⟩ ⟨Nat.zero_le _, Nat.zero_le _⟩ rfl 0 rfl rfl rfl rfl (Nat.le_of_ble_eq_true rfl) [0, 1, 2, 3, 4, 5] [(sa, .inr (1, [.ref ta, .ref sb, .int (nI (((lf + 1) + 1) + (syT (gA kf 8 x)).length))])), (sb, .inl (cs 0, 16, .inl (putL (upd (upd bf lf 23) (lf + 1) 20) ((lf + 1) + 1) (syT (gA kf 8 x))))), (ta, .inr (4, [.ref tk, .ref tq, .ref tw, .int pe, .int ti, .int aw, .int me, .int sp])), (tk, .inl (cs 0, 8, .inl kf)), (tq, .inl (cs 0, 8, .inl sf)), (tw, .inl (cs 0, 8, .inl wf))] rfl (by decide) (show [sa, sb, ta, tk, tq, tw] = [sa, sb, ta, tk, tq, tw] from rfl) (rfl) dX1_markOfAny_13 ?_
  refine V.sts (st' := [.int (syV (gA kf 8 x) (gA wf 8 x)), .int x]) rfl ?_
  refine v_isub C dX1_markOfAny_16 ?_
  exact v_iret C E (by first | rfl | (simp [*, putL, putL_app, maT, syT, saT, myT, Nat.add_assoc]; done) | (simp [*, putL, putL_app, maT, syT, saT, myT, Nat.add_assoc, Nat.add_comm 2]; done) | (simp_all [putL, putL_app, maT, syT, saT, myT, Nat.add_assoc]; done)) (by first | rfl | (simp [maV, syV, saV, myV, hl, hS, ↓reduceIte]; done) | (simp_all [maV, syV, saV, myV]; done)) dX1_markOfAny_17
theorem kX1_sizeOf : KD yX1_sizeOf wsX1_sizeOf cX1_sizeOf 2 (some .int) 1 := ⟨⟨_, rfl⟩, by decide, by decide +kernel, by decide +kernel, by decide +kernel⟩
theorem in_X1_sizeOf_X1 : ∀ w ∈ wsX10, w ∈ wsX1_sizeOf := by decide +kernel
theorem fl_X1_sizeOf_9 : FL RX1 wsX1_sizeOf RX1 RX1 TX1 3 1 0 9 := ⟨⟨in_X1_sizeOf_X1, rfl, by decide, rfl⟩, by decide +kernel⟩
theorem nq_X1_sizeOf_X4_kindOf : Cond.initialized yX4_kindOf.cls ∈ wsX1_sizeOf ∧ Cond.instanceMethod yX4_kindOf ∈ wsX1_sizeOf ∧ Cond.selects yX4_kindOf.cls yX4_kindOf yX4_kindOf ∈ wsX1_sizeOf := ⟨by decide +kernel, by decide +kernel, by decide +kernel⟩
theorem nq_X1_sizeOf_X5_isA : Cond.initialized yX5_isA.cls ∈ wsX1_sizeOf ∧ Cond.static yX5_isA ∈ wsX1_sizeOf := ⟨by decide +kernel, by decide +kernel⟩
set_option maxHeartbeats 4000000 in
set_option maxRecDepth 100000 in
theorem c_sizeOf (l : Launch) (D : va_G) (cs : Nat → ClassId) {sa : Nat} {sb : Nat} {ta : Nat} {bf : Nat → Int32} {lf : Nat} {tk : Nat} {tq : Nat} {tw : Nat} {kf : Nat → Int32} {sf : Nat → Int32} {wf : Nat → Int32} {pe : Int32} {ti : Int32} {aw : Int32} {me : Int32} {sp : Int32} {x : Int32} (hl : lf + 8 ≤ 16) (hS : ∀ t, s64 (sf t)) : CT l D (tz cs) yX1_sizeOf wsX1_sizeOf ({ frames := 5, cells := 0, slots := 0, locals := 110 }) [.ref sa, .int x] [(sa, .inr (1, [.ref ta, .ref sb, .int (nI lf)])), (sb, .inl (cs 0, 16, .inl bf)), (ta, .inr (4, [.ref tk, .ref tq, .ref tw, .int pe, .int ti, .int aw, .int me, .int sp])), (tk, .inl (cs 0, 8, .inl kf)), (tq, .inl (cs 0, 8, .inl sf)), (tw, .inl (cs 0, 8, .inl wf))] (some (.int (askV (gA kf 8 x) x (gA sf 8 x) (gA wf 8 x) (thI pe aw) 0))) [(sa, .inr (1, [.ref ta, .ref sb, .int (nI (lf + (askT (gA kf 8 x) 0).length))])), (sb, .inl (cs 0, 16, .inl (putL bf lf (askT (gA kf 8 x) 0)))), (ta, .inr (4, [.ref tk, .ref tq, .ref tw, .int pe, .int ti, .int aw, .int me, .int sp])), (tk, .inl (cs 0, 8, .inl kf)), (tq, .inl (cs 0, 8, .inl sf)), (tw, .inl (cs 0, 8, .inl wf))] := by
  refine CT.of kX1_sizeOf (Nat.le_of_ble_eq_true rfl) ?_
  intro p e s m below meth c A C E
  have C : VOk p s m _ c cX1_sizeOf 2 wsX1_sizeOf RX1 D (tz cs) A s.heap := C
  refine V.lvs (lv' := [(0, .ref sa), (1, .int x)]) [0, 1] rfl ?_
  refine v_aload_n C 0 dX1_sizeOf_0 rfl ?_
  refine v_get C (v := .ref ta) fl_X1_sizeOf_9 0 rfl rfl dX1_sizeOf_1 ?_
  refine v_iload_n C 1 dX1_sizeOf_4 rfl ?_
  refine v_callVN (qi := 0) C [.int x] [] kX4_kindOf gX1_sizeOf_X4_kindOf_n27 (host := "TableShares") (by decide +kernel) nq_X1_sizeOf_X4_kindOf (c_kindOf l D cs (ta := ta) (tk := tk) (tq := tq) (tw := tw) (pe := pe) (ti := ti) (aw := aw) (me := me) (sp := sp) (kf := kf) (x := x) ) ⟨Nat.le_of_ble_eq_true rfl, Nat.le_of_ble_eq_true rfl⟩ ⟨rfl, rfl⟩ ⟨Nat.zero_le _, Nat.zero_le _⟩ rfl 2 rfl rfl rfl rfl (Nat.le_of_ble_eq_true rfl) [2, 3] [(sa, .inr (1, [.ref ta, .ref sb, .int (nI lf)])), (sb, .inl (cs 0, 16, .inl bf)), (ta, .inr (4, [.ref tk, .ref tq, .ref tw, .int pe, .int ti, .int aw, .int me, .int sp])), (tk, .inl (cs 0, 8, .inl kf)), (tq, .inl (cs 0, 8, .inl sf)), (tw, .inl (cs 0, 8, .inl wf))] rfl (by decide) (show [ta, tk] = [ta, tk] from rfl) (rfl) dX1_sizeOf_5 ?_
  refine V.sts (st' := [.int (gA kf 8 x)]) rfl ?_
  refine v_iconst C (v := 1) dX1_sizeOf_8 (by decide) ?_
  refine v_callSN C [.int (gA kf 8 x), .int 1] [] kX5_isA gX1_sizeOf_X5_isA_n33 (host := "TableShares") (by decide +kernel) nq_X1_sizeOf_X5_isA (c_isA l D cs (x := (gA kf 8 x)) (k := 1) ) ⟨Nat.le_of_ble_eq_true rfl, Nat.le_of_ble_eq_true rfl⟩ ⟨rfl, rfl⟩ ⟨Nat.zero_le _, Nat.zero_le _⟩ rfl rfl (Nat.le_of_ble_eq_true rfl) [] [(sa, .inr (1, [.ref ta, .ref sb, .int (nI lf)])), (sb, .inl (cs 0, 16, .inl bf)), (ta, .inr (4, [.ref tk, .ref tq, .ref tw, .int pe, .int ti, .int aw, .int me, .int sp])), (tk, .inl (cs 0, 8, .inl kf)), (tq, .inl (cs 0, 8, .inl sf)), (tw, .inl (cs 0, 8, .inl wf))] rfl (by decide) rfl (rfl) dX1_sizeOf_9 ?_
  refine V.sts (st' := [.int (b2 (isAB (gA kf 8 x) 1))]) rfl ?_
  refine v_if_eqB C 23 dX1_sizeOf_12 (by decide) (fun c1 => ?_) (fun c1 => ?_)
  · skip
    refine v_aload_n C 0 dX1_sizeOf_23 rfl ?_
    refine v_iload_n C 1 dX1_sizeOf_24 rfl ?_
    refine v_callV (qi := 0) C [.int x] [] kX1_sizeOfAny gX1_sizeOf_X1_sizeOfAny (c_sizeOfAny l D cs (sa := sa) (sb := sb) (ta := ta) (bf := bf) (lf := lf) (tk := tk) (tq := tq) (tw := tw) (kf := kf) (sf := sf) (wf := wf) (pe := pe) (ti := ti) (aw := aw) (me := me) (sp := sp) (x := x) (by first | omega | (simp only [List.length_append, List.length_cons, List.length_nil]; omega)) (by first | assumption | omega)) ⟨Nat.le_of_ble_eq_true rfl, Nat.le_of_ble_eq_true rfl⟩ ⟨rfl, rfl⟩ ⟨Nat.zero_le _, Nat.zero_le _⟩ rfl 0 rfl rfl rfl rfl (Nat.le_of_ble_eq_true rfl) [0, 1, 2, 3, 4, 5] [(sa, .inr (1, [.ref ta, .ref sb, .int (nI (lf + (syT (gA kf 8 x)).length))])), (sb, .inl (cs 0, 16, .inl (putL bf lf (syT (gA kf 8 x))))), (ta, .inr (4, [.ref tk, .ref tq, .ref tw, .int pe, .int ti, .int aw, .int me, .int sp])), (tk, .inl (cs 0, 8, .inl kf)), (tq, .inl (cs 0, 8, .inl sf)), (tw, .inl (cs 0, 8, .inl wf))] rfl (by decide) (show [sa, sb, ta, tk, tq, tw] = [sa, sb, ta, tk, tq, tw] from rfl) (rfl) dX1_sizeOf_25 ?_
    refine V.sts (st' := [.int (syV (gA kf 8 x) (gA wf 8 x))]) rfl ?_
    exact v_iret C E (by simp [askT, *]) (by first | rfl | (simp [askV, hl, hS, c1, ↓reduceIte]; done) | (simp_all [askV]; done)) dX1_sizeOf_28
  · skip
    refine v_aload_n C 0 dX1_sizeOf_15 rfl ?_
    refine v_iload_n C 1 dX1_sizeOf_16 rfl ?_
    refine v_callV (qi := 0) C [.int x] [] kX1_sizeOfAll gX1_sizeOf_X1_sizeOfAll (c_sizeOfAll l D cs (sa := sa) (sb := sb) (ta := ta) (bf := bf) (lf := lf) (tk := tk) (tq := tq) (tw := tw) (kf := kf) (sf := sf) (wf := wf) (pe := pe) (ti := ti) (aw := aw) (me := me) (sp := sp) (x := x) (by first | omega | (simp only [List.length_append, List.length_cons, List.length_nil]; omega)) (by first | assumption | omega)) ⟨Nat.le_of_ble_eq_true rfl, Nat.le_of_ble_eq_true rfl⟩ ⟨rfl, rfl⟩ ⟨Nat.zero_le _, Nat.zero_le _⟩ rfl 0 rfl rfl rfl rfl (Nat.le_of_ble_eq_true rfl) [0, 1, 2, 3, 4, 5] [(sa, .inr (1, [.ref ta, .ref sb, .int (nI (lf + (saT (gA kf 8 x)).length))])), (sb, .inl (cs 0, 16, .inl (putL bf lf (saT (gA kf 8 x))))), (ta, .inr (4, [.ref tk, .ref tq, .ref tw, .int pe, .int ti, .int aw, .int me, .int sp])), (tk, .inl (cs 0, 8, .inl kf)), (tq, .inl (cs 0, 8, .inl sf)), (tw, .inl (cs 0, 8, .inl wf))] rfl (by decide) (show [sa, sb, ta, tk, tq, tw] = [sa, sb, ta, tk, tq, tw] from rfl) (rfl) dX1_sizeOf_17 ?_
    refine V.sts (st' := [.int (saV (gA kf 8 x) x (gA sf 8 x) (gA wf 8 x) (thI pe aw))]) rfl ?_
    refine v_goto C 28 dX1_sizeOf_20 (by decide) ?_
    exact v_iret C E (by simp [askT, *]) (by first | rfl | (simp [askV, hl, hS, c1, ↓reduceIte]; done) | (simp_all [askV]; done)) dX1_sizeOf_28
theorem kX1_markOf : KD yX1_markOf wsX1_markOf cX1_markOf 2 (some .int) 1 := ⟨⟨_, rfl⟩, by decide, by decide +kernel, by decide +kernel, by decide +kernel⟩
theorem in_X1_markOf_X1 : ∀ w ∈ wsX10, w ∈ wsX1_markOf := by decide +kernel
theorem fl_X1_markOf_9 : FL RX1 wsX1_markOf RX1 RX1 TX1 3 1 0 9 := ⟨⟨in_X1_markOf_X1, rfl, by decide, rfl⟩, by decide +kernel⟩
theorem nq_X1_markOf_X4_kindOf : Cond.initialized yX4_kindOf.cls ∈ wsX1_markOf ∧ Cond.instanceMethod yX4_kindOf ∈ wsX1_markOf ∧ Cond.selects yX4_kindOf.cls yX4_kindOf yX4_kindOf ∈ wsX1_markOf := ⟨by decide +kernel, by decide +kernel, by decide +kernel⟩
theorem nq_X1_markOf_X5_isA : Cond.initialized yX5_isA.cls ∈ wsX1_markOf ∧ Cond.static yX5_isA ∈ wsX1_markOf := ⟨by decide +kernel, by decide +kernel⟩
set_option maxHeartbeats 4000000 in
set_option maxRecDepth 100000 in
theorem c_markOf (l : Launch) (D : va_G) (cs : Nat → ClassId) {sa : Nat} {sb : Nat} {ta : Nat} {bf : Nat → Int32} {lf : Nat} {tk : Nat} {tq : Nat} {tw : Nat} {kf : Nat → Int32} {sf : Nat → Int32} {wf : Nat → Int32} {pe : Int32} {ti : Int32} {aw : Int32} {me : Int32} {sp : Int32} {x : Int32} (hl : lf + 8 ≤ 16) (hS : ∀ t, s64 (sf t)) : CT l D (tz cs) yX1_markOf wsX1_markOf ({ frames := 5, cells := 0, slots := 0, locals := 108 }) [.ref sa, .int x] [(sa, .inr (1, [.ref ta, .ref sb, .int (nI lf)])), (sb, .inl (cs 0, 16, .inl bf)), (ta, .inr (4, [.ref tk, .ref tq, .ref tw, .int pe, .int ti, .int aw, .int me, .int sp])), (tk, .inl (cs 0, 8, .inl kf)), (tq, .inl (cs 0, 8, .inl sf)), (tw, .inl (cs 0, 8, .inl wf))] (some (.int (askV (gA kf 8 x) x (gA sf 8 x) (gA wf 8 x) (thI pe aw) 1))) [(sa, .inr (1, [.ref ta, .ref sb, .int (nI (lf + (askT (gA kf 8 x) 1).length))])), (sb, .inl (cs 0, 16, .inl (putL bf lf (askT (gA kf 8 x) 1)))), (ta, .inr (4, [.ref tk, .ref tq, .ref tw, .int pe, .int ti, .int aw, .int me, .int sp])), (tk, .inl (cs 0, 8, .inl kf)), (tq, .inl (cs 0, 8, .inl sf)), (tw, .inl (cs 0, 8, .inl wf))] := by
  refine CT.of kX1_markOf (Nat.le_of_ble_eq_true rfl) ?_
  intro p e s m below meth c A C E
  have C : VOk p s m _ c cX1_markOf 2 wsX1_markOf RX1 D (tz cs) A s.heap := C
  refine V.lvs (lv' := [(0, .ref sa), (1, .int x)]) [0, 1] rfl ?_
  refine v_aload_n C 0 dX1_markOf_0 rfl ?_
  refine v_get C (v := .ref ta) fl_X1_markOf_9 0 rfl rfl dX1_markOf_1 ?_
  refine v_iload_n C 1 dX1_markOf_4 rfl ?_
  refine v_callVN (qi := 0) C [.int x] [] kX4_kindOf gX1_markOf_X4_kindOf_n27 (host := "TableShares") (by decide +kernel) nq_X1_markOf_X4_kindOf (c_kindOf l D cs (ta := ta) (tk := tk) (tq := tq) (tw := tw) (pe := pe) (ti := ti) (aw := aw) (me := me) (sp := sp) (kf := kf) (x := x) ) ⟨Nat.le_of_ble_eq_true rfl, Nat.le_of_ble_eq_true rfl⟩ ⟨rfl, rfl⟩ ⟨Nat.zero_le _, Nat.zero_le _⟩ rfl 2 rfl rfl rfl rfl (Nat.le_of_ble_eq_true rfl) [2, 3] [(sa, .inr (1, [.ref ta, .ref sb, .int (nI lf)])), (sb, .inl (cs 0, 16, .inl bf)), (ta, .inr (4, [.ref tk, .ref tq, .ref tw, .int pe, .int ti, .int aw, .int me, .int sp])), (tk, .inl (cs 0, 8, .inl kf)), (tq, .inl (cs 0, 8, .inl sf)), (tw, .inl (cs 0, 8, .inl wf))] rfl (by decide) (show [ta, tk] = [ta, tk] from rfl) (rfl) dX1_markOf_5 ?_
  refine V.sts (st' := [.int (gA kf 8 x)]) rfl ?_
  refine v_iconst C (v := 1) dX1_markOf_8 (by decide) ?_
  refine v_callSN C [.int (gA kf 8 x), .int 1] [] kX5_isA gX1_markOf_X5_isA_n33 (host := "TableShares") (by decide +kernel) nq_X1_markOf_X5_isA (c_isA l D cs (x := (gA kf 8 x)) (k := 1) ) ⟨Nat.le_of_ble_eq_true rfl, Nat.le_of_ble_eq_true rfl⟩ ⟨rfl, rfl⟩ ⟨Nat.zero_le _, Nat.zero_le _⟩ rfl rfl (Nat.le_of_ble_eq_true rfl) [] [(sa, .inr (1, [.ref ta, .ref sb, .int (nI lf)])), (sb, .inl (cs 0, 16, .inl bf)), (ta, .inr (4, [.ref tk, .ref tq, .ref tw, .int pe, .int ti, .int aw, .int me, .int sp])), (tk, .inl (cs 0, 8, .inl kf)), (tq, .inl (cs 0, 8, .inl sf)), (tw, .inl (cs 0, 8, .inl wf))] rfl (by decide) rfl (rfl) dX1_markOf_9 ?_
  refine V.sts (st' := [.int (b2 (isAB (gA kf 8 x) 1))]) rfl ?_
  refine v_if_eqB C 23 dX1_markOf_12 (by decide) (fun c1 => ?_) (fun c1 => ?_)
  · skip
    refine v_aload_n C 0 dX1_markOf_23 rfl ?_
    refine v_iload_n C 1 dX1_markOf_24 rfl ?_
    refine v_callV (qi := 0) C [.int x] [] kX1_markOfAny gX1_markOf_X1_markOfAny (c_markOfAny l D cs (sa := sa) (sb := sb) (ta := ta) (bf := bf) (lf := lf) (tk := tk) (tq := tq) (tw := tw) (kf := kf) (sf := sf) (wf := wf) (pe := pe) (ti := ti) (aw := aw) (me := me) (sp := sp) (x := x) (by first | omega | (simp only [List.length_append, List.length_cons, List.length_nil]; omega)) (by first | assumption | omega)) ⟨Nat.le_of_ble_eq_true rfl, Nat.le_of_ble_eq_true rfl⟩ ⟨rfl, rfl⟩ ⟨Nat.zero_le _, Nat.zero_le _⟩ rfl 0 rfl rfl rfl rfl (Nat.le_of_ble_eq_true rfl) [0, 1, 2, 3, 4, 5] [(sa, .inr (1, [.ref ta, .ref sb, .int (nI (lf + (myT (gA kf 8 x)).length))])), (sb, .inl (cs 0, 16, .inl (putL bf lf (myT (gA kf 8 x))))), (ta, .inr (4, [.ref tk, .ref tq, .ref tw, .int pe, .int ti, .int aw, .int me, .int sp])), (tk, .inl (cs 0, 8, .inl kf)), (tq, .inl (cs 0, 8, .inl sf)), (tw, .inl (cs 0, 8, .inl wf))] rfl (by decide) (show [sa, sb, ta, tk, tq, tw] = [sa, sb, ta, tk, tq, tw] from rfl) (rfl) dX1_markOf_25 ?_
    refine V.sts (st' := [.int (myV (gA kf 8 x) x (gA wf 8 x))]) rfl ?_
    exact v_iret C E (by simp [askT, *]) (by first | rfl | (simp [askV, hl, hS, c1, ↓reduceIte]; done) | (simp_all [askV]; done)) dX1_markOf_28
  · skip
    refine v_aload_n C 0 dX1_markOf_15 rfl ?_
    refine v_iload_n C 1 dX1_markOf_16 rfl ?_
    refine v_callV (qi := 0) C [.int x] [] kX1_markOfAll gX1_markOf_X1_markOfAll (c_markOfAll l D cs (sa := sa) (sb := sb) (ta := ta) (bf := bf) (lf := lf) (tk := tk) (tq := tq) (tw := tw) (kf := kf) (sf := sf) (wf := wf) (pe := pe) (ti := ti) (aw := aw) (me := me) (sp := sp) (x := x) (by first | omega | (simp only [List.length_append, List.length_cons, List.length_nil]; omega)) (by first | assumption | omega)) ⟨Nat.le_of_ble_eq_true rfl, Nat.le_of_ble_eq_true rfl⟩ ⟨rfl, rfl⟩ ⟨Nat.zero_le _, Nat.zero_le _⟩ rfl 0 rfl rfl rfl rfl (Nat.le_of_ble_eq_true rfl) [0, 1, 2, 3, 4, 5] [(sa, .inr (1, [.ref ta, .ref sb, .int (nI (lf + (maT (gA kf 8 x)).length))])), (sb, .inl (cs 0, 16, .inl (putL bf lf (maT (gA kf 8 x))))), (ta, .inr (4, [.ref tk, .ref tq, .ref tw, .int pe, .int ti, .int aw, .int me, .int sp])), (tk, .inl (cs 0, 8, .inl kf)), (tq, .inl (cs 0, 8, .inl sf)), (tw, .inl (cs 0, 8, .inl wf))] rfl (by decide) (show [sa, sb, ta, tk, tq, tw] = [sa, sb, ta, tk, tq, tw] from rfl) (rfl) dX1_markOf_17 ?_
    refine V.sts (st' := [.int (maV (gA kf 8 x) x (gA sf 8 x) (thI pe aw))]) rfl ?_
    refine v_goto C 28 dX1_markOf_20 (by decide) ?_
    exact v_iret C E (by simp [askT, *]) (by first | rfl | (simp [askV, hl, hS, c1, ↓reduceIte]; done) | (simp_all [askV]; done)) dX1_markOf_28
