theorem kX5_at : KD yX5_at wsX5_at cX5_at 2 (some .int) 2 := ⟨⟨_, rfl⟩, by decide, by decide +kernel, by decide +kernel, by decide +kernel⟩
set_option maxHeartbeats 4000000 in
set_option maxRecDepth 100000 in
theorem c_at (l : Launch) (D : va_G) (cs : Nat → ClassId) {ga : Nat} {n : Nat} {f : Nat → Int32} {i : Int32} (hn : n < 2147483648) : CT l D (tz cs) yX5_at wsX5_at ({ frames := 0, cells := 0, slots := 0, locals := 0 }) [.ref ga, .int i] [(ga, .inl (cs 0, n, .inl f))] (some (.int (gA f n i))) [(ga, .inl (cs 0, n, .inl f))] := by
  refine CT.of kX5_at (Nat.le_of_ble_eq_true rfl) ?_
  intro p e s m below meth c A C E
  have C : VOk p s m _ c cX5_at 2 wsX5_at RX5 D (tz cs) A s.heap := C
  refine V.lvs (lv' := [(0, .ref ga), (1, .int i)]) [0, 1] rfl ?_
  refine v_iload_n C 1 dX5_at_0 rfl ?_
  refine v_if_lt C 16 dX5_at_1 (by decide) (fun c1 => ?_) (fun c1 => ?_)
  · skip
    refine v_iconst C (v := 0) dX5_at_16 (by decide) ?_
    exact v_iret C E (rfl) (by first | rfl | (simp [gA, hn, c1, ↓reduceIte]; done) | (simp_all [gA]; done)) dX5_at_17
  · skip
    refine v_iload_n C 1 dX5_at_4 rfl ?_
    refine v_aload_n C 0 dX5_at_5 rfl ?_
    refine v_alen C (v := (Int32.ofNat n)) 0 0 rfl rfl rfl dX5_at_6 ?_
    refine v_icmp_ge C 16 dX5_at_7 (by decide) (fun c2 => ?_) (fun c2 => ?_)
    · skip
      refine v_iconst C (v := 0) dX5_at_16 (by decide) ?_
      exact v_iret C E (rfl) (by first | rfl | (simp [gA, hn, c1, c2, ↓reduceIte]; done) | (simp_all [gA]; done)) dX5_at_17
    · skip
      refine v_aload_n C 0 dX5_at_10 rfl ?_
      refine v_iload_n C 1 dX5_at_11 rfl ?_
      refine v_iald C 0 0 rfl rfl (f (Int32.toNatClampNeg i)) (rfl) (by assumption) dX5_at_12 ?_
      refine v_goto C 17 dX5_at_13 (by decide) ?_
      exact v_iret C E (rfl) (by first | rfl | (simp [gA, hn, c1, c2, ↓reduceIte]; done) | (simp_all [gA]; done)) dX5_at_17
theorem kX5_put : KD yX5_put wsX5_put cX5_put 3 none 3 := ⟨⟨_, rfl⟩, by decide, by decide +kernel, by decide +kernel, by decide +kernel⟩
set_option maxHeartbeats 4000000 in
set_option maxRecDepth 100000 in
theorem c_put (l : Launch) (D : va_G) (cs : Nat → ClassId) {ga : Nat} {n : Nat} {f : Nat → Int32} {i : Int32} {x : Int32} (hn : n < 2147483648) : CT l D (tz cs) yX5_put wsX5_put ({ frames := 0, cells := 0, slots := 0, locals := 0 }) [.ref ga, .int i, .int x] [(ga, .inl (cs 0, n, .inl f))] none [(ga, .inl (cs 0, n, .inl (pA f n i x)))] := by
  refine CT.of kX5_put (Nat.le_of_ble_eq_true rfl) ?_
  intro p e s m below meth c A C E
  have C : VOk p s m _ c cX5_put 3 wsX5_put RX5 D (tz cs) A s.heap := C
  refine V.lvs (lv' := [(0, .ref ga), (1, .int i), (2, .int x)]) [0, 1, 2] rfl ?_
  refine v_iload_n C 1 dX5_put_0 rfl ?_
  refine v_if_lt C 14 dX5_put_1 (by decide) (fun c1 => ?_) (fun c1 => ?_)
  · skip
    exact v_vret C E (by first | (simp [pA, *]; done) | (unfold pA; simp_all; done)) dX5_put_14
  · skip
    refine v_iload_n C 1 dX5_put_4 rfl ?_
    refine v_aload_n C 0 dX5_put_5 rfl ?_
    refine v_alen C (v := (Int32.ofNat n)) 0 0 rfl rfl rfl dX5_put_6 ?_
    refine v_icmp_ge C 14 dX5_put_7 (by decide) (fun c2 => ?_) (fun c2 => ?_)
    · skip
      exact v_vret C E (by first | (simp [pA, *]; done) | (unfold pA; simp_all; done)) dX5_put_14
    · skip
      refine v_aload_n C 0 dX5_put_10 rfl ?_
      refine v_iload_n C 1 dX5_put_11 rfl ?_
      refine v_iload_n C 2 dX5_put_12 rfl ?_
      refine v_iast C 0 0 rfl rfl (by first | assumption | exact in_of_ge (by omega) (by assumption) (by assumption)) [(ga, .inl (cs 0, n, .inl (upd f (Int32.toNatClampNeg i) x)))] (rfl) dX5_put_13 ?_
      exact v_vret C E (by first | (simp [pA, *]; done) | (unfold pA; simp_all; done)) dX5_put_14
theorem kX5_isZeroOrOne : KD yX5_isZeroOrOne wsX5_isZeroOrOne cX5_isZeroOrOne 1 (some .boolean) 1 := ⟨⟨_, rfl⟩, by decide, by decide +kernel, by decide +kernel, by decide +kernel⟩
set_option maxHeartbeats 4000000 in
set_option maxRecDepth 100000 in
theorem c_zo (l : Launch) (D : va_G) (cs : Nat → ClassId) {x : Int32} : CT l D (tz cs) yX5_isZeroOrOne wsX5_isZeroOrOne ({ frames := 0, cells := 0, slots := 0, locals := 0 }) [.int x] [] (some (.int (b2 (zo x)))) [] := by
  refine CT.of kX5_isZeroOrOne (Nat.le_of_ble_eq_true rfl) ?_
  intro p e s m below meth c A C E
  have C : VOk p s m _ c cX5_isZeroOrOne 1 wsX5_isZeroOrOne RX5 D (tz cs) A s.heap := C
  refine V.lvs (lv' := [(0, .int x)]) [0] rfl ?_
  refine v_iload_n C 0 dX5_isZeroOrOne_0 rfl ?_
  refine v_if_eq C 9 dX5_isZeroOrOne_1 (by decide) (fun c1 => ?_) (fun c1 => ?_)
  · skip
    refine v_iconst C (v := 1) dX5_isZeroOrOne_9 (by decide) ?_
    refine v_goto C 14 dX5_isZeroOrOne_10 (by decide) ?_
    exact v_zret C E (rfl) (by first | rfl | (simp [zo, b2, c1, ↓reduceIte]; done) | (simp_all [zo, b2]; done)) dX5_isZeroOrOne_14
  · skip
    refine v_iload_n C 0 dX5_isZeroOrOne_4 rfl ?_
    refine v_iconst C (v := 1) dX5_isZeroOrOne_5 (by decide) ?_
    refine v_icmp_ne C 13 dX5_isZeroOrOne_6 (by decide) (fun c2 => ?_) (fun c2 => ?_)
    · skip
      refine v_iconst C (v := 0) dX5_isZeroOrOne_13 (by decide) ?_
      exact v_zret C E (rfl) (by first | rfl | (simp [zo, b2, c1, c2, ↓reduceIte]; done) | (simp_all [zo, b2]; done)) dX5_isZeroOrOne_14
    · skip
      refine v_iconst C (v := 1) dX5_isZeroOrOne_9 (by decide) ?_
      refine v_goto C 14 dX5_isZeroOrOne_10 (by decide) ?_
      exact v_zret C E (rfl) (by first | rfl | (simp [zo, b2, c1, c2, ↓reduceIte]; done) | (simp_all [zo, b2]; done)) dX5_isZeroOrOne_14
theorem kX5_isLookedFor : KD yX5_isLookedFor wsX5_isLookedFor cX5_isLookedFor 1 (some .boolean) 1 := ⟨⟨_, rfl⟩, by decide, by decide +kernel, by decide +kernel, by decide +kernel⟩
set_option maxHeartbeats 4000000 in
set_option maxRecDepth 100000 in
theorem c_lkF (l : Launch) (D : va_G) (cs : Nat → ClassId) {x : Int32} : CT l D (tz cs) yX5_isLookedFor wsX5_isLookedFor ({ frames := 0, cells := 0, slots := 0, locals := 0 }) [.int x] [] (some (.int (b2 (lkF x)))) [] := by
  refine CT.of kX5_isLookedFor (Nat.le_of_ble_eq_true rfl) ?_
  intro p e s m below meth c A C E
  have C : VOk p s m _ c cX5_isLookedFor 1 wsX5_isLookedFor RX5 D (tz cs) A s.heap := C
  refine V.lvs (lv' := [(0, .int x)]) [0] rfl ?_
  refine v_iload_n C 0 dX5_isLookedFor_0 rfl ?_
  refine v_sipush C (v := -999) dX5_isLookedFor_1 (by decide) ?_
  refine v_icmp_lt C 18 dX5_isLookedFor_4 (by decide) (fun c1 => ?_) (fun c1 => ?_)
  · skip
    refine v_iconst C (v := 0) dX5_isLookedFor_18 (by decide) ?_
    exact v_zret C E (rfl) (by first | rfl | (simp [lkF, b2, c1, ↓reduceIte]; done) | (simp_all [lkF, b2]; done)) dX5_isLookedFor_19
  · skip
    refine v_iload_n C 0 dX5_isLookedFor_7 rfl ?_
    refine v_sipush C (v := 9999) dX5_isLookedFor_8 (by decide) ?_
    refine v_icmp_gt C 18 dX5_isLookedFor_11 (by decide) (fun c2 => ?_) (fun c2 => ?_)
    · skip
      refine v_iconst C (v := 0) dX5_isLookedFor_18 (by decide) ?_
      exact v_zret C E (rfl) (by first | rfl | (simp [lkF, b2, c1, c2, ↓reduceIte]; done) | (simp_all [lkF, b2]; done)) dX5_isLookedFor_19
    · skip
      refine v_iconst C (v := 1) dX5_isLookedFor_14 (by decide) ?_
      refine v_goto C 19 dX5_isLookedFor_15 (by decide) ?_
      exact v_zret C E (rfl) (by first | rfl | (simp [lkF, b2, c1, c2, ↓reduceIte]; done) | (simp_all [lkF, b2]; done)) dX5_isLookedFor_19
theorem kX5_has : KD yX5_has wsX5_has cX5_has 2 (some .boolean) 2 := ⟨⟨_, rfl⟩, by decide, by decide +kernel, by decide +kernel, by decide +kernel⟩
set_option maxHeartbeats 4000000 in
set_option maxRecDepth 100000 in
theorem c_has (l : Launch) (D : va_G) (cs : Nat → ClassId) {x : Int32} {q : Int32} : CT l D (tz cs) yX5_has wsX5_has ({ frames := 0, cells := 0, slots := 0, locals := 0 }) [.int x, .int q] [] (some (.int (b2 (hasB x q)))) [] := by
  refine CT.of kX5_has (Nat.le_of_ble_eq_true rfl) ?_
  intro p e s m below meth c A C E
  have C : VOk p s m _ c cX5_has 2 wsX5_has RX5 D (tz cs) A s.heap := C
  refine V.lvs (lv' := [(0, .int x), (1, .int q)]) [0, 1] rfl ?_
  refine v_iload_n C 0 dX5_has_0 rfl ?_
  refine v_iload_n C 1 dX5_has_1 rfl ?_
  refine v_ishr C dX5_has_2 ?_
  refine v_iconst C (v := 1) dX5_has_3 (by decide) ?_
  refine v_iand C dX5_has_4 ?_
  refine v_iconst C (v := 1) dX5_has_5 (by decide) ?_
  refine v_icmp_ne C 13 dX5_has_6 (by decide) (fun c1 => ?_) (fun c1 => ?_)
  · skip
    refine v_iconst C (v := 0) dX5_has_13 (by decide) ?_
    exact v_zret C E (rfl) (by first | rfl | (simp [hasB, b2, c1, ↓reduceIte]; done) | (simp_all [hasB, b2]; done)) dX5_has_14
  · skip
    refine v_iconst C (v := 1) dX5_has_9 (by decide) ?_
    refine v_goto C 14 dX5_has_10 (by decide) ?_
    exact v_zret C E (rfl) (by first | rfl | (simp [hasB, b2, c1, ↓reduceIte]; done) | (simp_all [hasB, b2]; done)) dX5_has_14
theorem kX4_stands : KD yX4_stands wsX4_stands cX4_stands 1 (some .boolean) 0 := ⟨⟨_, rfl⟩, by decide, by decide +kernel, by decide +kernel, by decide +kernel⟩
theorem in_X4_stands_X4 : ∀ w ∈ wsX40, w ∈ wsX4_stands := by decide +kernel
theorem fl_X4_stands_21 : FL RX4 wsX4_stands RX4 RX4 TX4 8 4 3 21 := ⟨⟨in_X4_stands_X4, rfl, by decide, rfl⟩, by decide +kernel⟩
set_option maxHeartbeats 4000000 in
set_option maxRecDepth 100000 in
theorem c_stands (l : Launch) (D : va_G) (cs : Nat → ClassId) {ta : Nat} {tk : Nat} {tq : Nat} {tw : Nat} {pe : Int32} {ti : Int32} {aw : Int32} {me : Int32} {sp : Int32} : CT l D (tz cs) yX4_stands wsX4_stands ({ frames := 0, cells := 0, slots := 0, locals := 0 }) [.ref ta] [(ta, .inr (4, [.ref tk, .ref tq, .ref tw, .int pe, .int ti, .int aw, .int me, .int sp]))] (some (.int (b2 (decide (0 < pe))))) [(ta, .inr (4, [.ref tk, .ref tq, .ref tw, .int pe, .int ti, .int aw, .int me, .int sp]))] := by
  refine CT.of kX4_stands (Nat.le_of_ble_eq_true rfl) ?_
  intro p e s m below meth c A C E
  have C : VOk p s m _ c cX4_stands 1 wsX4_stands RX4 D (tz cs) A s.heap := C
  refine V.lvs (lv' := [(0, .ref ta)]) [0] rfl ?_
  refine v_aload_n C 0 dX4_stands_0 rfl ?_
  refine v_get C (v := .int pe) fl_X4_stands_21 0 rfl rfl dX4_stands_1 ?_
  refine v_if_le C 11 dX4_stands_4 (by decide) (fun c1 => ?_) (fun c1 => ?_)
  · skip
    refine v_iconst C (v := 0) dX4_stands_11 (by decide) ?_
    exact v_zret C E (rfl) (by first | rfl | (simp [b2, c1, ↓reduceIte]; done) | (simp_all [b2]; done)) dX4_stands_12
  · skip
    refine v_iconst C (v := 1) dX4_stands_7 (by decide) ?_
    refine v_goto C 12 dX4_stands_8 (by decide) ?_
    exact v_zret C E (rfl) (by first | rfl | (simp [b2, c1, ↓reduceIte]; done) | (simp_all [b2]; done)) dX4_stands_12
theorem kX4_isPerson : KD yX4_isPerson wsX4_isPerson cX4_isPerson 2 (some .boolean) 1 := ⟨⟨_, rfl⟩, by decide, by decide +kernel, by decide +kernel, by decide +kernel⟩
theorem in_X4_isPerson_X4 : ∀ w ∈ wsX40, w ∈ wsX4_isPerson := by decide +kernel
theorem fl_X4_isPerson_21 : FL RX4 wsX4_isPerson RX4 RX4 TX4 8 4 3 21 := ⟨⟨in_X4_isPerson_X4, rfl, by decide, rfl⟩, by decide +kernel⟩
set_option maxHeartbeats 4000000 in
set_option maxRecDepth 100000 in
theorem c_isPerson (l : Launch) (D : va_G) (cs : Nat → ClassId) {ta : Nat} {tk : Nat} {tq : Nat} {tw : Nat} {pe : Int32} {ti : Int32} {aw : Int32} {me : Int32} {sp : Int32} {x : Int32} : CT l D (tz cs) yX4_isPerson wsX4_isPerson ({ frames := 0, cells := 0, slots := 0, locals := 0 }) [.ref ta, .int x] [(ta, .inr (4, [.ref tk, .ref tq, .ref tw, .int pe, .int ti, .int aw, .int me, .int sp]))] (some (.int (b2 (inB pe x)))) [(ta, .inr (4, [.ref tk, .ref tq, .ref tw, .int pe, .int ti, .int aw, .int me, .int sp]))] := by
  refine CT.of kX4_isPerson (Nat.le_of_ble_eq_true rfl) ?_
  intro p e s m below meth c A C E
  have C : VOk p s m _ c cX4_isPerson 2 wsX4_isPerson RX4 D (tz cs) A s.heap := C
  refine V.lvs (lv' := [(0, .ref ta), (1, .int x)]) [0, 1] rfl ?_
  refine v_iload_n C 1 dX4_isPerson_0 rfl ?_
  refine v_if_lt C 16 dX4_isPerson_1 (by decide) (fun c1 => ?_) (fun c1 => ?_)
  · skip
    refine v_iconst C (v := 0) dX4_isPerson_16 (by decide) ?_
    exact v_zret C E (rfl) (by first | rfl | (simp [inB, b2, c1, ↓reduceIte]; done) | (simp_all [inB, b2]; done)) dX4_isPerson_17
  · skip
    refine v_iload_n C 1 dX4_isPerson_4 rfl ?_
    refine v_aload_n C 0 dX4_isPerson_5 rfl ?_
    refine v_get C (v := .int pe) fl_X4_isPerson_21 0 rfl rfl dX4_isPerson_6 ?_
    refine v_icmp_ge C 16 dX4_isPerson_9 (by decide) (fun c2 => ?_) (fun c2 => ?_)
    · skip
      refine v_iconst C (v := 0) dX4_isPerson_16 (by decide) ?_
      exact v_zret C E (rfl) (by first | rfl | (simp [inB, b2, c1, c2, ↓reduceIte]; done) | (simp_all [inB, b2]; done)) dX4_isPerson_17
    · skip
      refine v_iconst C (v := 1) dX4_isPerson_12 (by decide) ?_
      refine v_goto C 17 dX4_isPerson_13 (by decide) ?_
      exact v_zret C E (rfl) (by first | rfl | (simp [inB, b2, c1, c2, ↓reduceIte]; done) | (simp_all [inB, b2]; done)) dX4_isPerson_17
theorem kX4_isTie : KD yX4_isTie wsX4_isTie cX4_isTie 2 (some .boolean) 1 := ⟨⟨_, rfl⟩, by decide, by decide +kernel, by decide +kernel, by decide +kernel⟩
theorem in_X4_isTie_X4 : ∀ w ∈ wsX40, w ∈ wsX4_isTie := by decide +kernel
theorem fl_X4_isTie_25 : FL RX4 wsX4_isTie RX4 RX4 TX4 8 4 4 25 := ⟨⟨in_X4_isTie_X4, rfl, by decide, rfl⟩, by decide +kernel⟩
set_option maxHeartbeats 4000000 in
set_option maxRecDepth 100000 in
theorem c_isTie (l : Launch) (D : va_G) (cs : Nat → ClassId) {ta : Nat} {tk : Nat} {tq : Nat} {tw : Nat} {pe : Int32} {ti : Int32} {aw : Int32} {me : Int32} {sp : Int32} {x : Int32} : CT l D (tz cs) yX4_isTie wsX4_isTie ({ frames := 0, cells := 0, slots := 0, locals := 0 }) [.ref ta, .int x] [(ta, .inr (4, [.ref tk, .ref tq, .ref tw, .int pe, .int ti, .int aw, .int me, .int sp]))] (some (.int (b2 (inB ti x)))) [(ta, .inr (4, [.ref tk, .ref tq, .ref tw, .int pe, .int ti, .int aw, .int me, .int sp]))] := by
  refine CT.of kX4_isTie (Nat.le_of_ble_eq_true rfl) ?_
  intro p e s m below meth c A C E
  have C : VOk p s m _ c cX4_isTie 2 wsX4_isTie RX4 D (tz cs) A s.heap := C
  refine V.lvs (lv' := [(0, .ref ta), (1, .int x)]) [0, 1] rfl ?_
  refine v_iload_n C 1 dX4_isTie_0 rfl ?_
  refine v_if_lt C 16 dX4_isTie_1 (by decide) (fun c1 => ?_) (fun c1 => ?_)
  · skip
    refine v_iconst C (v := 0) dX4_isTie_16 (by decide) ?_
    exact v_zret C E (rfl) (by first | rfl | (simp [inB, b2, c1, ↓reduceIte]; done) | (simp_all [inB, b2]; done)) dX4_isTie_17
  · skip
    refine v_iload_n C 1 dX4_isTie_4 rfl ?_
    refine v_aload_n C 0 dX4_isTie_5 rfl ?_
    refine v_get C (v := .int ti) fl_X4_isTie_25 0 rfl rfl dX4_isTie_6 ?_
    refine v_icmp_ge C 16 dX4_isTie_9 (by decide) (fun c2 => ?_) (fun c2 => ?_)
    · skip
      refine v_iconst C (v := 0) dX4_isTie_16 (by decide) ?_
      exact v_zret C E (rfl) (by first | rfl | (simp [inB, b2, c1, c2, ↓reduceIte]; done) | (simp_all [inB, b2]; done)) dX4_isTie_17
    · skip
      refine v_iconst C (v := 1) dX4_isTie_12 (by decide) ?_
      refine v_goto C 17 dX4_isTie_13 (by decide) ?_
      exact v_zret C E (rfl) (by first | rfl | (simp [inB, b2, c1, c2, ↓reduceIte]; done) | (simp_all [inB, b2]; done)) dX4_isTie_17
theorem kX4_everybody : KD yX4_everybody wsX4_everybody cX4_everybody 1 (some .int) 0 := ⟨⟨_, rfl⟩, by decide, by decide +kernel, by decide +kernel, by decide +kernel⟩
theorem in_X4_everybody_X4 : ∀ w ∈ wsX40, w ∈ wsX4_everybody := by decide +kernel
theorem fl_X4_everybody_21 : FL RX4 wsX4_everybody RX4 RX4 TX4 8 4 3 21 := ⟨⟨in_X4_everybody_X4, rfl, by decide, rfl⟩, by decide +kernel⟩
set_option maxHeartbeats 4000000 in
set_option maxRecDepth 100000 in
theorem c_everybody (l : Launch) (D : va_G) (cs : Nat → ClassId) {ta : Nat} {tk : Nat} {tq : Nat} {tw : Nat} {pe : Int32} {ti : Int32} {aw : Int32} {me : Int32} {sp : Int32} : CT l D (tz cs) yX4_everybody wsX4_everybody ({ frames := 0, cells := 0, slots := 0, locals := 0 }) [.ref ta] [(ta, .inr (4, [.ref tk, .ref tq, .ref tw, .int pe, .int ti, .int aw, .int me, .int sp]))] (some (.int (allI pe))) [(ta, .inr (4, [.ref tk, .ref tq, .ref tw, .int pe, .int ti, .int aw, .int me, .int sp]))] := by
  refine CT.of kX4_everybody (Nat.le_of_ble_eq_true rfl) ?_
  intro p e s m below meth c A C E
  have C : VOk p s m _ c cX4_everybody 1 wsX4_everybody RX4 D (tz cs) A s.heap := C
  refine V.lvs (lv' := [(0, .ref ta)]) [0] rfl ?_
  refine v_iconst C (v := 1) dX4_everybody_0 (by decide) ?_
  refine v_aload_n C 0 dX4_everybody_1 rfl ?_
  refine v_get C (v := .int pe) fl_X4_everybody_21 0 rfl rfl dX4_everybody_2 ?_
  refine v_ishl C dX4_everybody_5 ?_
  refine v_iconst C (v := 1) dX4_everybody_6 (by decide) ?_
  refine v_isub C dX4_everybody_7 ?_
  exact v_iret C E (rfl) (by first | rfl | (simp [allI, ↓reduceIte]; done) | (simp_all [allI]; done)) dX4_everybody_8
theorem kX4_there : KD yX4_there wsX4_there cX4_there 1 (some .int) 0 := ⟨⟨_, rfl⟩, by decide, by decide +kernel, by decide +kernel, by decide +kernel⟩
theorem in_X4_there_X4 : ∀ w ∈ wsX40, w ∈ wsX4_there := by decide +kernel
theorem fl_X4_there_28 : FL RX4 wsX4_there RX4 RX4 TX4 8 4 5 28 := ⟨⟨in_X4_there_X4, rfl, by decide, rfl⟩, by decide +kernel⟩
set_option maxHeartbeats 4000000 in
set_option maxRecDepth 100000 in
theorem c_there (l : Launch) (D : va_G) (cs : Nat → ClassId) {ta : Nat} {tk : Nat} {tq : Nat} {tw : Nat} {pe : Int32} {ti : Int32} {aw : Int32} {me : Int32} {sp : Int32} : CT l D (tz cs) yX4_there wsX4_there ({ frames := 1, cells := 0, slots := 0, locals := 20 }) [.ref ta] [(ta, .inr (4, [.ref tk, .ref tq, .ref tw, .int pe, .int ti, .int aw, .int me, .int sp]))] (some (.int (thI pe aw))) [(ta, .inr (4, [.ref tk, .ref tq, .ref tw, .int pe, .int ti, .int aw, .int me, .int sp]))] := by
  refine CT.of kX4_there (Nat.le_of_ble_eq_true rfl) ?_
  intro p e s m below meth c A C E
  have C : VOk p s m _ c cX4_there 1 wsX4_there RX4 D (tz cs) A s.heap := C
  refine V.lvs (lv' := [(0, .ref ta)]) [0] rfl ?_
  refine v_aload_n C 0 dX4_there_0 rfl ?_
  refine v_callV C [] [] kX4_everybody gX4_there_X4_everybody (c_everybody l D cs (ta := ta) (tk := tk) (tq := tq) (tw := tw) (pe := pe) (ti := ti) (aw := aw) (me := me) (sp := sp) ) ⟨Nat.le_of_ble_eq_true rfl, Nat.le_of_ble_eq_true rfl⟩ ⟨rfl, rfl⟩ ⟨Nat.zero_le _, Nat.zero_le _⟩ rfl 0 rfl rfl rfl rfl (by decide) [0] [(ta, .inr (4, [.ref tk, .ref tq, .ref tw, .int pe, .int ti, .int aw, .int me, .int sp]))] rfl (by decide) rfl (rfl) dX4_there_1 ?_
  refine V.sts (st' := [.int (allI pe)]) rfl ?_
  refine v_aload_n C 0 dX4_there_4 rfl ?_
  refine v_get C (v := .int aw) fl_X4_there_28 0 rfl rfl dX4_there_5 ?_
  refine v_iconst C (v := -1) dX4_there_8 (by decide) ?_
  refine v_ixor C dX4_there_9 ?_
  refine v_iand C dX4_there_10 ?_
  exact v_iret C E (rfl) (by first | rfl | (simp [thI, ↓reduceIte]; done) | (simp_all [thI]; done)) dX4_there_11
theorem kX4_isSet : KD yX4_isSet wsX4_isSet cX4_isSet 2 (some .boolean) 1 := ⟨⟨_, rfl⟩, by decide, by decide +kernel, by decide +kernel, by decide +kernel⟩
set_option maxHeartbeats 4000000 in
set_option maxRecDepth 100000 in
theorem c_isSet (l : Launch) (D : va_G) (cs : Nat → ClassId) {ta : Nat} {tk : Nat} {tq : Nat} {tw : Nat} {pe : Int32} {ti : Int32} {aw : Int32} {me : Int32} {sp : Int32} {x : Int32} : CT l D (tz cs) yX4_isSet wsX4_isSet ({ frames := 1, cells := 0, slots := 0, locals := 20 }) [.ref ta, .int x] [(ta, .inr (4, [.ref tk, .ref tq, .ref tw, .int pe, .int ti, .int aw, .int me, .int sp]))] (some (.int (b2 (setB pe x)))) [(ta, .inr (4, [.ref tk, .ref tq, .ref tw, .int pe, .int ti, .int aw, .int me, .int sp]))] := by
  refine CT.of kX4_isSet (Nat.le_of_ble_eq_true rfl) ?_
  intro p e s m below meth c A C E
  have C : VOk p s m _ c cX4_isSet 2 wsX4_isSet RX4 D (tz cs) A s.heap := C
  refine V.lvs (lv' := [(0, .ref ta), (1, .int x)]) [0, 1] rfl ?_
  refine v_iload_n C 1 dX4_isSet_0 rfl ?_
  refine v_if_lt C 16 dX4_isSet_1 (by decide) (fun c1 => ?_) (fun c1 => ?_)
  · skip
    refine v_iconst C (v := 0) dX4_isSet_16 (by decide) ?_
    exact v_zret C E (rfl) (by first | rfl | (simp [setB, b2, c1, ↓reduceIte]; done) | (simp_all [setB, b2]; done)) dX4_isSet_17
  · skip
    refine v_iload_n C 1 dX4_isSet_4 rfl ?_
    refine v_aload_n C 0 dX4_isSet_5 rfl ?_
    refine v_callV C [] [.int x] kX4_everybody gX4_isSet_X4_everybody (c_everybody l D cs (ta := ta) (tk := tk) (tq := tq) (tw := tw) (pe := pe) (ti := ti) (aw := aw) (me := me) (sp := sp) ) ⟨Nat.le_of_ble_eq_true rfl, Nat.le_of_ble_eq_true rfl⟩ ⟨rfl, rfl⟩ ⟨Nat.zero_le _, Nat.zero_le _⟩ rfl 0 rfl rfl rfl rfl (by decide) [0] [(ta, .inr (4, [.ref tk, .ref tq, .ref tw, .int pe, .int ti, .int aw, .int me, .int sp]))] rfl (by decide) rfl (rfl) dX4_isSet_6 ?_
    refine V.sts (st' := [.int (allI pe), .int x]) rfl ?_
    refine v_icmp_gt C 16 dX4_isSet_9 (by decide) (fun c2 => ?_) (fun c2 => ?_)
    · skip
      refine v_iconst C (v := 0) dX4_isSet_16 (by decide) ?_
      exact v_zret C E (rfl) (by first | rfl | (simp [setB, b2, c1, c2, ↓reduceIte]; done) | (simp_all [setB, b2]; done)) dX4_isSet_17
    · skip
      refine v_iconst C (v := 1) dX4_isSet_12 (by decide) ?_
      refine v_goto C 17 dX4_isSet_13 (by decide) ?_
      exact v_zret C E (rfl) (by first | rfl | (simp [setB, b2, c1, c2, ↓reduceIte]; done) | (simp_all [setB, b2]; done)) dX4_isSet_17
theorem kX4_kindOf : KD yX4_kindOf wsX4_kindOf cX4_kindOf 2 (some .int) 1 := ⟨⟨_, rfl⟩, by decide, by decide +kernel, by decide +kernel, by decide +kernel⟩
theorem in_X4_kindOf_X4 : ∀ w ∈ wsX40, w ∈ wsX4_kindOf := by decide +kernel
theorem fl_X4_kindOf_9 : FL RX4 wsX4_kindOf RX4 RX4 TX4 8 4 0 9 := ⟨⟨in_X4_kindOf_X4, rfl, by decide, rfl⟩, by decide +kernel⟩
theorem nq_X4_kindOf_X5_at : Cond.initialized yX5_at.cls ∈ wsX4_kindOf ∧ Cond.static yX5_at ∈ wsX4_kindOf := ⟨by decide +kernel, by decide +kernel⟩
set_option maxHeartbeats 4000000 in
set_option maxRecDepth 100000 in
theorem c_kindOf (l : Launch) (D : va_G) (cs : Nat → ClassId) {ta : Nat} {tk : Nat} {tq : Nat} {tw : Nat} {pe : Int32} {ti : Int32} {aw : Int32} {me : Int32} {sp : Int32} {kf : Nat → Int32} {x : Int32} : CT l D (tz cs) yX4_kindOf wsX4_kindOf ({ frames := 1, cells := 0, slots := 0, locals := 21 }) [.ref ta, .int x] [(ta, .inr (4, [.ref tk, .ref tq, .ref tw, .int pe, .int ti, .int aw, .int me, .int sp])), (tk, .inl (cs 0, 8, .inl kf))] (some (.int (gA kf 8 x))) [(ta, .inr (4, [.ref tk, .ref tq, .ref tw, .int pe, .int ti, .int aw, .int me, .int sp])), (tk, .inl (cs 0, 8, .inl kf))] := by
  refine CT.of kX4_kindOf (Nat.le_of_ble_eq_true rfl) ?_
  intro p e s m below meth c A C E
  have C : VOk p s m _ c cX4_kindOf 2 wsX4_kindOf RX4 D (tz cs) A s.heap := C
  refine V.lvs (lv' := [(0, .ref ta), (1, .int x)]) [0, 1] rfl ?_
  refine v_aload_n C 0 dX4_kindOf_0 rfl ?_
  refine v_get C (v := .ref tk) fl_X4_kindOf_9 0 rfl rfl dX4_kindOf_1 ?_
  refine v_iload_n C 1 dX4_kindOf_4 rfl ?_
  refine v_callSN C [.ref tk, .int x] [] kX5_at gX4_kindOf_X5_at_n37 (host := "TableShares") (by decide +kernel) nq_X4_kindOf_X5_at (c_at l D cs (ga := tk) (n := 8) (f := kf) (i := x) (by decide)) ⟨Nat.le_of_ble_eq_true rfl, Nat.le_of_ble_eq_true rfl⟩ ⟨rfl, rfl⟩ ⟨Nat.zero_le _, Nat.zero_le _⟩ rfl rfl (by decide) [1] [(ta, .inr (4, [.ref tk, .ref tq, .ref tw, .int pe, .int ti, .int aw, .int me, .int sp])), (tk, .inl (cs 0, 8, .inl kf))] rfl (by decide) rfl (rfl) dX4_kindOf_5 ?_
  refine V.sts (st' := [.int (gA kf 8 x)]) rfl ?_
  exact v_iret C E (rfl) (by first | rfl | (simp [↓reduceIte]; done) | (simp_all [b2]; done)) dX4_kindOf_8
theorem kX4_setOf : KD yX4_setOf wsX4_setOf cX4_setOf 2 (some .int) 1 := ⟨⟨_, rfl⟩, by decide, by decide +kernel, by decide +kernel, by decide +kernel⟩
theorem in_X4_setOf_X4 : ∀ w ∈ wsX40, w ∈ wsX4_setOf := by decide +kernel
theorem fl_X4_setOf_15 : FL RX4 wsX4_setOf RX4 RX4 TX4 8 4 1 15 := ⟨⟨in_X4_setOf_X4, rfl, by decide, rfl⟩, by decide +kernel⟩
theorem nq_X4_setOf_X5_at : Cond.initialized yX5_at.cls ∈ wsX4_setOf ∧ Cond.static yX5_at ∈ wsX4_setOf := ⟨by decide +kernel, by decide +kernel⟩
set_option maxHeartbeats 4000000 in
set_option maxRecDepth 100000 in
theorem c_setOf (l : Launch) (D : va_G) (cs : Nat → ClassId) {ta : Nat} {tk : Nat} {tq : Nat} {tw : Nat} {pe : Int32} {ti : Int32} {aw : Int32} {me : Int32} {sp : Int32} {sf : Nat → Int32} {x : Int32} : CT l D (tz cs) yX4_setOf wsX4_setOf ({ frames := 1, cells := 0, slots := 0, locals := 21 }) [.ref ta, .int x] [(ta, .inr (4, [.ref tk, .ref tq, .ref tw, .int pe, .int ti, .int aw, .int me, .int sp])), (tq, .inl (cs 0, 8, .inl sf))] (some (.int (gA sf 8 x))) [(ta, .inr (4, [.ref tk, .ref tq, .ref tw, .int pe, .int ti, .int aw, .int me, .int sp])), (tq, .inl (cs 0, 8, .inl sf))] := by
  refine CT.of kX4_setOf (Nat.le_of_ble_eq_true rfl) ?_
  intro p e s m below meth c A C E
  have C : VOk p s m _ c cX4_setOf 2 wsX4_setOf RX4 D (tz cs) A s.heap := C
  refine V.lvs (lv' := [(0, .ref ta), (1, .int x)]) [0, 1] rfl ?_
  refine v_aload_n C 0 dX4_setOf_0 rfl ?_
  refine v_get C (v := .ref tq) fl_X4_setOf_15 0 rfl rfl dX4_setOf_1 ?_
  refine v_iload_n C 1 dX4_setOf_4 rfl ?_
  refine v_callSN C [.ref tq, .int x] [] kX5_at gX4_setOf_X5_at_n37 (host := "TableShares") (by decide +kernel) nq_X4_setOf_X5_at (c_at l D cs (ga := tq) (n := 8) (f := sf) (i := x) (by decide)) ⟨Nat.le_of_ble_eq_true rfl, Nat.le_of_ble_eq_true rfl⟩ ⟨rfl, rfl⟩ ⟨Nat.zero_le _, Nat.zero_le _⟩ rfl rfl (by decide) [1] [(ta, .inr (4, [.ref tk, .ref tq, .ref tw, .int pe, .int ti, .int aw, .int me, .int sp])), (tq, .inl (cs 0, 8, .inl sf))] rfl (by decide) rfl (rfl) dX4_setOf_5 ?_
  refine V.sts (st' := [.int (gA sf 8 x)]) rfl ?_
  exact v_iret C E (rfl) (by first | rfl | (simp [↓reduceIte]; done) | (simp_all [b2]; done)) dX4_setOf_8
theorem kX4_worthOf : KD yX4_worthOf wsX4_worthOf cX4_worthOf 2 (some .int) 1 := ⟨⟨_, rfl⟩, by decide, by decide +kernel, by decide +kernel, by decide +kernel⟩
theorem in_X4_worthOf_X4 : ∀ w ∈ wsX40, w ∈ wsX4_worthOf := by decide +kernel
theorem fl_X4_worthOf_18 : FL RX4 wsX4_worthOf RX4 RX4 TX4 8 4 2 18 := ⟨⟨in_X4_worthOf_X4, rfl, by decide, rfl⟩, by decide +kernel⟩
theorem nq_X4_worthOf_X5_at : Cond.initialized yX5_at.cls ∈ wsX4_worthOf ∧ Cond.static yX5_at ∈ wsX4_worthOf := ⟨by decide +kernel, by decide +kernel⟩
set_option maxHeartbeats 4000000 in
set_option maxRecDepth 100000 in
theorem c_worthOf (l : Launch) (D : va_G) (cs : Nat → ClassId) {ta : Nat} {tk : Nat} {tq : Nat} {tw : Nat} {pe : Int32} {ti : Int32} {aw : Int32} {me : Int32} {sp : Int32} {wf : Nat → Int32} {x : Int32} : CT l D (tz cs) yX4_worthOf wsX4_worthOf ({ frames := 1, cells := 0, slots := 0, locals := 21 }) [.ref ta, .int x] [(ta, .inr (4, [.ref tk, .ref tq, .ref tw, .int pe, .int ti, .int aw, .int me, .int sp])), (tw, .inl (cs 0, 8, .inl wf))] (some (.int (gA wf 8 x))) [(ta, .inr (4, [.ref tk, .ref tq, .ref tw, .int pe, .int ti, .int aw, .int me, .int sp])), (tw, .inl (cs 0, 8, .inl wf))] := by
  refine CT.of kX4_worthOf (Nat.le_of_ble_eq_true rfl) ?_
  intro p e s m below meth c A C E
  have C : VOk p s m _ c cX4_worthOf 2 wsX4_worthOf RX4 D (tz cs) A s.heap := C
  refine V.lvs (lv' := [(0, .ref ta), (1, .int x)]) [0, 1] rfl ?_
  refine v_aload_n C 0 dX4_worthOf_0 rfl ?_
  refine v_get C (v := .ref tw) fl_X4_worthOf_18 0 rfl rfl dX4_worthOf_1 ?_
  refine v_iload_n C 1 dX4_worthOf_4 rfl ?_
  refine v_callSN C [.ref tw, .int x] [] kX5_at gX4_worthOf_X5_at_n37 (host := "TableShares") (by decide +kernel) nq_X4_worthOf_X5_at (c_at l D cs (ga := tw) (n := 8) (f := wf) (i := x) (by decide)) ⟨Nat.le_of_ble_eq_true rfl, Nat.le_of_ble_eq_true rfl⟩ ⟨rfl, rfl⟩ ⟨Nat.zero_le _, Nat.zero_le _⟩ rfl rfl (by decide) [1] [(ta, .inr (4, [.ref tk, .ref tq, .ref tw, .int pe, .int ti, .int aw, .int me, .int sp])), (tw, .inl (cs 0, 8, .inl wf))] rfl (by decide) rfl (rfl) dX4_worthOf_5 ?_
  refine V.sts (st' := [.int (gA wf 8 x)]) rfl ?_
  exact v_iret C E (rfl) (by first | rfl | (simp [↓reduceIte]; done) | (simp_all [b2]; done)) dX4_worthOf_8
theorem kX4_begin : KD yX4_begin wsX4_begin cX4_begin 2 none 1 := ⟨⟨_, rfl⟩, by decide, by decide +kernel, by decide +kernel, by decide +kernel⟩
theorem in_X4_begin_X4 : ∀ w ∈ wsX40, w ∈ wsX4_begin := by decide +kernel
theorem fl_X4_begin_21 : FL RX4 wsX4_begin RX4 RX4 TX4 8 4 3 21 := ⟨⟨in_X4_begin_X4, rfl, by decide, rfl⟩, by decide +kernel⟩
theorem fp_X4_3 : FP TX4 8 3 tyX4 .int := ⟨tyX4_ok, nmX4, rfl, by decide +kernel⟩
theorem fl_X4_begin_25 : FL RX4 wsX4_begin RX4 RX4 TX4 8 4 4 25 := ⟨⟨in_X4_begin_X4, rfl, by decide, rfl⟩, by decide +kernel⟩
theorem fp_X4_4 : FP TX4 8 4 tyX4 .int := ⟨tyX4_ok, nmX4, rfl, by decide +kernel⟩
theorem fl_X4_begin_28 : FL RX4 wsX4_begin RX4 RX4 TX4 8 4 5 28 := ⟨⟨in_X4_begin_X4, rfl, by decide, rfl⟩, by decide +kernel⟩
theorem fp_X4_5 : FP TX4 8 5 tyX4 .int := ⟨tyX4_ok, nmX4, rfl, by decide +kernel⟩
theorem fl_X4_begin_31 : FL RX4 wsX4_begin RX4 RX4 TX4 8 4 6 31 := ⟨⟨in_X4_begin_X4, rfl, by decide, rfl⟩, by decide +kernel⟩
theorem fp_X4_6 : FP TX4 8 6 tyX4 .int := ⟨tyX4_ok, nmX4, rfl, by decide +kernel⟩
theorem fl_X4_begin_34 : FL RX4 wsX4_begin RX4 RX4 TX4 8 4 7 34 := ⟨⟨in_X4_begin_X4, rfl, by decide, rfl⟩, by decide +kernel⟩
theorem fp_X4_7 : FP TX4 8 7 tyX4 .int := ⟨tyX4_ok, nmX4, rfl, by decide +kernel⟩
set_option maxHeartbeats 4000000 in
set_option maxRecDepth 100000 in
theorem c_begin (l : Launch) (D : va_G) (cs : Nat → ClassId) {ta : Nat} {tk : Nat} {tq : Nat} {tw : Nat} {pe : Int32} {ti : Int32} {aw : Int32} {me : Int32} {sp : Int32} {x : Int32} : CT l D (tz cs) yX4_begin wsX4_begin ({ frames := 0, cells := 0, slots := 0, locals := 0 }) [.ref ta, .int x] [(ta, .inr (4, [.ref tk, .ref tq, .ref tw, .int pe, .int ti, .int aw, .int me, .int sp]))] none [(ta, .inr (4, [.ref tk, .ref tq, .ref tw, .int x, .int 0, .int 0, .int 0, .int 0]))] := by
  refine CT.of kX4_begin (Nat.le_of_ble_eq_true rfl) ?_
  intro p e s m below meth c A C E
  have C : VOk p s m _ c cX4_begin 2 wsX4_begin RX4 D (tz cs) A s.heap := C
  refine V.lvs (lv' := [(0, .ref ta), (1, .int x)]) [0, 1] rfl ?_
  refine v_aload_n C 0 dX4_begin_0 rfl ?_
  refine v_iload_n C 1 dX4_begin_1 rfl ?_
  refine v_put C fl_X4_begin_21 fp_X4_3 0 rfl rfl rfl (by decide) [(ta, .inr (4, [.ref tk, .ref tq, .ref tw, .int x, .int ti, .int aw, .int me, .int sp]))] rfl dX4_begin_2 ?_
  refine v_aload_n C 0 dX4_begin_5 rfl ?_
  refine v_iconst C (v := 0) dX4_begin_6 (by decide) ?_
  refine v_put C fl_X4_begin_25 fp_X4_4 0 rfl rfl rfl (by decide) [(ta, .inr (4, [.ref tk, .ref tq, .ref tw, .int x, .int 0, .int aw, .int me, .int sp]))] rfl dX4_begin_7 ?_
  refine v_aload_n C 0 dX4_begin_10 rfl ?_
  refine v_iconst C (v := 0) dX4_begin_11 (by decide) ?_
  refine v_put C fl_X4_begin_28 fp_X4_5 0 rfl rfl rfl (by decide) [(ta, .inr (4, [.ref tk, .ref tq, .ref tw, .int x, .int 0, .int 0, .int me, .int sp]))] rfl dX4_begin_12 ?_
  refine v_aload_n C 0 dX4_begin_15 rfl ?_
  refine v_iconst C (v := 0) dX4_begin_16 (by decide) ?_
  refine v_put C fl_X4_begin_31 fp_X4_6 0 rfl rfl rfl (by decide) [(ta, .inr (4, [.ref tk, .ref tq, .ref tw, .int x, .int 0, .int 0, .int 0, .int sp]))] rfl dX4_begin_17 ?_
  refine v_aload_n C 0 dX4_begin_20 rfl ?_
  refine v_iconst C (v := 0) dX4_begin_21 (by decide) ?_
  refine v_put C fl_X4_begin_34 fp_X4_7 0 rfl rfl rfl (by decide) [(ta, .inr (4, [.ref tk, .ref tq, .ref tw, .int x, .int 0, .int 0, .int 0, .int 0]))] rfl dX4_begin_22 ?_
  exact v_vret C E (rfl) dX4_begin_25
