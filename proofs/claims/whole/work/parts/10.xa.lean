theorem kJ6_bitCount_0f7a4 : KD yJ6_bitCount_0f7a4 wsJ6_bitCount_0f7a4 cJ6_bitCount_0f7a4 1 (some .int) 1 := ⟨⟨_, rfl⟩, by decide, by decide +kernel, by decide +kernel, by decide +kernel⟩
set_option maxHeartbeats 4000000 in
set_option maxRecDepth 100000 in
theorem c_bc (l : Launch) (D : va_G) (cs : Nat → ClassId) {x : Int32} (hx : s64 x) : CT l D (tz cs) yJ6_bitCount_0f7a4 wsJ6_bitCount_0f7a4 ({ frames := 0, cells := 0, slots := 0, locals := 0 }) [.int x] [] (some (.int (pcI x))) [] := by
  refine CT.of kJ6_bitCount_0f7a4 (Nat.le_of_ble_eq_true rfl) ?_
  intro p e s m below meth c A C E
  have C : VOk p s m _ c cJ6_bitCount_0f7a4 1 wsJ6_bitCount_0f7a4 RJ6 D (tz cs) A s.heap := C
  refine V.lvs (lv' := [(0, .int x)]) [0] rfl ?_
  refine v_iload_n C 0 dJ6_bitCount_0f7a4_0 rfl ?_
  refine v_iload_n C 0 dJ6_bitCount_0f7a4_1 rfl ?_
  refine v_iconst C (v := 1) dJ6_bitCount_0f7a4_2 (by decide) ?_
  refine v_iushr C dJ6_bitCount_0f7a4_3 ?_
  refine v_ldcw C (v := 1431655765) (by decide +kernel) dJ6_bitCount_0f7a4_4 ?_
  refine v_iand C dJ6_bitCount_0f7a4_7 ?_
  refine v_isub C dJ6_bitCount_0f7a4_8 ?_
  refine V.top (fun x1 ex1 => ?_)
  refine v_istore_n C [(0, .int x1)] [0] dJ6_bitCount_0f7a4_9 (by decide) rfl ?_
  refine v_iload_n C 0 dJ6_bitCount_0f7a4_10 rfl ?_
  refine v_ldcw C (v := 858993459) (by decide +kernel) dJ6_bitCount_0f7a4_11 ?_
  refine v_iand C dJ6_bitCount_0f7a4_14 ?_
  refine v_iload_n C 0 dJ6_bitCount_0f7a4_15 rfl ?_
  refine v_iconst C (v := 2) dJ6_bitCount_0f7a4_16 (by decide) ?_
  refine v_iushr C dJ6_bitCount_0f7a4_17 ?_
  refine v_ldcw C (v := 858993459) (by decide +kernel) dJ6_bitCount_0f7a4_18 ?_
  refine v_iand C dJ6_bitCount_0f7a4_21 ?_
  refine v_iadd C dJ6_bitCount_0f7a4_22 ?_
  refine V.top (fun x2 ex2 => ?_)
  refine v_istore_n C [(0, .int x2)] [0] dJ6_bitCount_0f7a4_23 (by decide) rfl ?_
  refine v_iload_n C 0 dJ6_bitCount_0f7a4_24 rfl ?_
  refine v_iload_n C 0 dJ6_bitCount_0f7a4_25 rfl ?_
  refine v_iconst C (v := 4) dJ6_bitCount_0f7a4_26 (by decide) ?_
  refine v_iushr C dJ6_bitCount_0f7a4_27 ?_
  refine v_iadd C dJ6_bitCount_0f7a4_28 ?_
  refine v_ldcw C (v := 252645135) (by decide +kernel) dJ6_bitCount_0f7a4_29 ?_
  refine v_iand C dJ6_bitCount_0f7a4_32 ?_
  refine V.top (fun x3 ex3 => ?_)
  refine v_istore_n C [(0, .int x3)] [0] dJ6_bitCount_0f7a4_33 (by decide) rfl ?_
  refine v_iload_n C 0 dJ6_bitCount_0f7a4_34 rfl ?_
  refine v_iload_n C 0 dJ6_bitCount_0f7a4_35 rfl ?_
  refine v_bipush C (v := 8) dJ6_bitCount_0f7a4_36 (by decide) ?_
  refine v_iushr C dJ6_bitCount_0f7a4_38 ?_
  refine v_iadd C dJ6_bitCount_0f7a4_39 ?_
  refine V.top (fun x4 ex4 => ?_)
  refine v_istore_n C [(0, .int x4)] [0] dJ6_bitCount_0f7a4_40 (by decide) rfl ?_
  refine v_iload_n C 0 dJ6_bitCount_0f7a4_41 rfl ?_
  refine v_iload_n C 0 dJ6_bitCount_0f7a4_42 rfl ?_
  refine v_bipush C (v := 16) dJ6_bitCount_0f7a4_43 (by decide) ?_
  refine v_iushr C dJ6_bitCount_0f7a4_45 ?_
  refine v_iadd C dJ6_bitCount_0f7a4_46 ?_
  refine V.top (fun x5 ex5 => ?_)
  refine v_istore_n C [(0, .int x5)] [0] dJ6_bitCount_0f7a4_47 (by decide) rfl ?_
  refine v_iload_n C 0 dJ6_bitCount_0f7a4_48 rfl ?_
  refine v_bipush C (v := 63) dJ6_bitCount_0f7a4_49 (by decide) ?_
  refine v_iand C dJ6_bitCount_0f7a4_51 ?_
  exact v_iret C E (rfl) (by subst ex5 ex4 ex3 ex2 ex1; exact bc_s hx) dJ6_bitCount_0f7a4_52
theorem kX5_at : KD yX5_at wsX5_at cX5_at 2 (some .int) 2 := ⟨⟨_, rfl⟩, by decide, by decide +kernel, by decide +kernel, by decide +kernel⟩
set_option maxHeartbeats 4000000 in
set_option maxRecDepth 100000 in
theorem c_at (l : Launch) (D : va_G) (cs : Nat → ClassId) {ga : Nat} {n : Nat} {f : Nat → Int32} {i : Int32} (hn : n < 2147483648) : CT l D (tz cs) yX5_at wsX5_at ({ frames := 0, cells := 0, slots := 0, locals := 0 }) [.ref ga, .int i] [(ga, .inl (cs 0, n, .inl f))] (some (.int (gA f n i))) [(ga, .inl (cs 0, n, .inl f))] := by
  refine CT.of kX5_at (Nat.le_of_ble_eq_true rfl) ?_
  intro p e s m below meth c A C E
  have C : VOk p s m _ c cX5_at 2 wsX5_at RX5 D (tz cs) A s.heap := C
  refine V.lvs (lv' := [(0, .ref ga), (1, .int i)]) [0, 1] rfl ?_
  refine v_iload_n C 1 dX5_at_0 rfl ?_
  refine v_if_lt C 16 dX5_at_1 (by decide) (fun c1 => ?_) (fun c1 => ?_)
  · skip
    refine v_iconst C (v := 0) dX5_at_16 (by decide) ?_
    exact v_iret C E (rfl) (by first | rfl | (simp [gA, hn, c1, ↓reduceIte]; done) | (simp_all [gA]; done)) dX5_at_17
  · skip
    refine v_iload_n C 1 dX5_at_4 rfl ?_
    refine v_aload_n C 0 dX5_at_5 rfl ?_
    refine v_alen C (v := (Int32.ofNat n)) 0 0 rfl rfl rfl dX5_at_6 ?_
    refine v_icmp_ge C 16 dX5_at_7 (by decide) (fun c2 => ?_) (fun c2 => ?_)
    · skip
      refine v_iconst C (v := 0) dX5_at_16 (by decide) ?_
      exact v_iret C E (rfl) (by first | rfl | (simp [gA, hn, c1, c2, ↓reduceIte]; done) | (simp_all [gA]; done)) dX5_at_17
    · skip
      refine v_aload_n C 0 dX5_at_10 rfl ?_
      refine v_iload_n C 1 dX5_at_11 rfl ?_
      refine v_iald C 0 0 rfl rfl (f (Int32.toNatClampNeg i)) (rfl) (by first | assumption | exact in_of_ge (by omega) (by assumption) (by assumption)) dX5_at_12 ?_
      refine v_goto C 17 dX5_at_13 (by decide) ?_
      exact v_iret C E (rfl) (by first | rfl | (simp [gA, hn, c1, c2, ↓reduceIte]; done) | (simp_all [gA]; done)) dX5_at_17
theorem kX5_put : KD yX5_put wsX5_put cX5_put 3 none 3 := ⟨⟨_, rfl⟩, by decide, by decide +kernel, by decide +kernel, by decide +kernel⟩
set_option maxHeartbeats 4000000 in
set_option maxRecDepth 100000 in
theorem c_put (l : Launch) (D : va_G) (cs : Nat → ClassId) {ga : Nat} {n : Nat} {f : Nat → Int32} {i : Int32} {x : Int32} (hn : n < 2147483648) : CT l D (tz cs) yX5_put wsX5_put ({ frames := 0, cells := 0, slots := 0, locals := 0 }) [.ref ga, .int i, .int x] [(ga, .inl (cs 0, n, .inl f))] none [(ga, .inl (cs 0, n, .inl (pA f n i x)))] := by
  refine CT.of kX5_put (Nat.le_of_ble_eq_true rfl) ?_
  intro p e s m below meth c A C E
  have C : VOk p s m _ c cX5_put 3 wsX5_put RX5 D (tz cs) A s.heap := C
  refine V.lvs (lv' := [(0, .ref ga), (1, .int i), (2, .int x)]) [0, 1, 2] rfl ?_
  refine v_iload_n C 1 dX5_put_0 rfl ?_
  refine v_if_lt C 14 dX5_put_1 (by decide) (fun c1 => ?_) (fun c1 => ?_)
  · skip
    exact v_vret C E (by first | (simp [pA, *]; done) | (unfold pA; simp_all; done)) dX5_put_14
  · skip
    refine v_iload_n C 1 dX5_put_4 rfl ?_
    refine v_aload_n C 0 dX5_put_5 rfl ?_
    refine v_alen C (v := (Int32.ofNat n)) 0 0 rfl rfl rfl dX5_put_6 ?_
    refine v_icmp_ge C 14 dX5_put_7 (by decide) (fun c2 => ?_) (fun c2 => ?_)
    · skip
      exact v_vret C E (by first | (simp [pA, *]; done) | (unfold pA; simp_all; done)) dX5_put_14
    · skip
      refine v_aload_n C 0 dX5_put_10 rfl ?_
      refine v_iload_n C 1 dX5_put_11 rfl ?_
      refine v_iload_n C 2 dX5_put_12 rfl ?_
      refine v_iast C 0 0 rfl rfl (by first | assumption | exact in_of_ge (by omega) (by assumption) (by assumption)) [(ga, .inl (cs 0, n, .inl (upd f (Int32.toNatClampNeg i) x)))] (rfl) dX5_put_13 ?_
      exact v_vret C E (by first | (simp [pA, *]; done) | (unfold pA; simp_all; done)) dX5_put_14
theorem kX5_isZeroOrOne : KD yX5_isZeroOrOne wsX5_isZeroOrOne cX5_isZeroOrOne 1 (some .boolean) 1 := ⟨⟨_, rfl⟩, by decide, by decide +kernel, by decide +kernel, by decide +kernel⟩
set_option maxHeartbeats 4000000 in
set_option maxRecDepth 100000 in
theorem c_zo (l : Launch) (D : va_G) (cs : Nat → ClassId) {x : Int32} : CT l D (tz cs) yX5_isZeroOrOne wsX5_isZeroOrOne ({ frames := 0, cells := 0, slots := 0, locals := 0 }) [.int x] [] (some (.int (b2 (zo x)))) [] := by
  refine CT.of kX5_isZeroOrOne (Nat.le_of_ble_eq_true rfl) ?_
  intro p e s m below meth c A C E
  have C : VOk p s m _ c cX5_isZeroOrOne 1 wsX5_isZeroOrOne RX5 D (tz cs) A s.heap := C
  refine V.lvs (lv' := [(0, .int x)]) [0] rfl ?_
  refine v_iload_n C 0 dX5_isZeroOrOne_0 rfl ?_
  refine v_if_eq C 9 dX5_isZeroOrOne_1 (by decide) (fun c1 => ?_) (fun c1 => ?_)
  · skip
    refine v_iconst C (v := 1) dX5_isZeroOrOne_9 (by decide) ?_
    refine v_goto C 14 dX5_isZeroOrOne_10 (by decide) ?_
    exact v_zret C E (rfl) (by first | rfl | (simp [zo, b2, c1, ↓reduceIte]; done) | (simp_all [zo, b2]; done)) dX5_isZeroOrOne_14
  · skip
    refine v_iload_n C 0 dX5_isZeroOrOne_4 rfl ?_
    refine v_iconst C (v := 1) dX5_isZeroOrOne_5 (by decide) ?_
    refine v_icmp_ne C 13 dX5_isZeroOrOne_6 (by decide) (fun c2 => ?_) (fun c2 => ?_)
    · skip
      refine v_iconst C (v := 0) dX5_isZeroOrOne_13 (by decide) ?_
      exact v_zret C E (rfl) (by first | rfl | (simp [zo, b2, c1, c2, ↓reduceIte]; done) | (simp_all [zo, b2]; done)) dX5_isZeroOrOne_14
    · skip
      refine v_iconst C (v := 1) dX5_isZeroOrOne_9 (by decide) ?_
      refine v_goto C 14 dX5_isZeroOrOne_10 (by decide) ?_
      exact v_zret C E (rfl) (by first | rfl | (simp [zo, b2, c1, c2, ↓reduceIte]; done) | (simp_all [zo, b2]; done)) dX5_isZeroOrOne_14
theorem kX5_isLookedFor : KD yX5_isLookedFor wsX5_isLookedFor cX5_isLookedFor 1 (some .boolean) 1 := ⟨⟨_, rfl⟩, by decide, by decide +kernel, by decide +kernel, by decide +kernel⟩
set_option maxHeartbeats 4000000 in
set_option maxRecDepth 100000 in
theorem c_lkF (l : Launch) (D : va_G) (cs : Nat → ClassId) {x : Int32} : CT l D (tz cs) yX5_isLookedFor wsX5_isLookedFor ({ frames := 0, cells := 0, slots := 0, locals := 0 }) [.int x] [] (some (.int (b2 (lkF x)))) [] := by
  refine CT.of kX5_isLookedFor (Nat.le_of_ble_eq_true rfl) ?_
  intro p e s m below meth c A C E
  have C : VOk p s m _ c cX5_isLookedFor 1 wsX5_isLookedFor RX5 D (tz cs) A s.heap := C
  refine V.lvs (lv' := [(0, .int x)]) [0] rfl ?_
  refine v_iload_n C 0 dX5_isLookedFor_0 rfl ?_
  refine v_sipush C (v := -999) dX5_isLookedFor_1 (by decide) ?_
  refine v_icmp_lt C 18 dX5_isLookedFor_4 (by decide) (fun c1 => ?_) (fun c1 => ?_)
  · skip
    refine v_iconst C (v := 0) dX5_isLookedFor_18 (by decide) ?_
    exact v_zret C E (rfl) (by first | rfl | (simp [lkF, b2, c1, ↓reduceIte]; done) | (simp_all [lkF, b2]; done)) dX5_isLookedFor_19
  · skip
    refine v_iload_n C 0 dX5_isLookedFor_7 rfl ?_
    refine v_sipush C (v := 9999) dX5_isLookedFor_8 (by decide) ?_
    refine v_icmp_gt C 18 dX5_isLookedFor_11 (by decide) (fun c2 => ?_) (fun c2 => ?_)
    · skip
      refine v_iconst C (v := 0) dX5_isLookedFor_18 (by decide) ?_
      exact v_zret C E (rfl) (by first | rfl | (simp [lkF, b2, c1, c2, ↓reduceIte]; done) | (simp_all [lkF, b2]; done)) dX5_isLookedFor_19
    · skip
      refine v_iconst C (v := 1) dX5_isLookedFor_14 (by decide) ?_
      refine v_goto C 19 dX5_isLookedFor_15 (by decide) ?_
      exact v_zret C E (rfl) (by first | rfl | (simp [lkF, b2, c1, c2, ↓reduceIte]; done) | (simp_all [lkF, b2]; done)) dX5_isLookedFor_19
theorem kX5_has : KD yX5_has wsX5_has cX5_has 2 (some .boolean) 2 := ⟨⟨_, rfl⟩, by decide, by decide +kernel, by decide +kernel, by decide +kernel⟩
set_option maxHeartbeats 4000000 in
set_option maxRecDepth 100000 in
theorem c_has (l : Launch) (D : va_G) (cs : Nat → ClassId) {x : Int32} {q : Int32} : CT l D (tz cs) yX5_has wsX5_has ({ frames := 0, cells := 0, slots := 0, locals := 0 }) [.int x, .int q] [] (some (.int (b2 (hasB x q)))) [] := by
  refine CT.of kX5_has (Nat.le_of_ble_eq_true rfl) ?_
  intro p e s m below meth c A C E
  have C : VOk p s m _ c cX5_has 2 wsX5_has RX5 D (tz cs) A s.heap := C
  refine V.lvs (lv' := [(0, .int x), (1, .int q)]) [0, 1] rfl ?_
  refine v_iload_n C 0 dX5_has_0 rfl ?_
  refine v_iload_n C 1 dX5_has_1 rfl ?_
  refine v_ishr C dX5_has_2 ?_
  refine v_iconst C (v := 1) dX5_has_3 (by decide) ?_
  refine v_iand C dX5_has_4 ?_
  refine v_iconst C (v := 1) dX5_has_5 (by decide) ?_
  refine v_icmp_ne C 13 dX5_has_6 (by decide) (fun c1 => ?_) (fun c1 => ?_)
  · skip
    refine v_iconst C (v := 0) dX5_has_13 (by decide) ?_
    exact v_zret C E (rfl) (by first | rfl | (simp [hasB, b2, c1, ↓reduceIte]; done) | (simp_all [hasB, b2]; done)) dX5_has_14
  · skip
    refine v_iconst C (v := 1) dX5_has_9 (by decide) ?_
    refine v_goto C 14 dX5_has_10 (by decide) ?_
    exact v_zret C E (rfl) (by first | rfl | (simp [hasB, b2, c1, ↓reduceIte]; done) | (simp_all [hasB, b2]; done)) dX5_has_14
theorem kX4_stands : KD yX4_stands wsX4_stands cX4_stands 1 (some .boolean) 0 := ⟨⟨_, rfl⟩, by decide, by decide +kernel, by decide +kernel, by decide +kernel⟩
theorem in_X4_stands_X4 : ∀ w ∈ wsX40, w ∈ wsX4_stands := by decide +kernel
theorem fl_X4_stands_21 : FL RX4 wsX4_stands RX4 RX4 TX4 8 4 3 21 := ⟨⟨in_X4_stands_X4, rfl, by decide, rfl⟩, by decide +kernel⟩
set_option maxHeartbeats 4000000 in
set_option maxRecDepth 100000 in
theorem c_stands (l : Launch) (D : va_G) (cs : Nat → ClassId) {ta : Nat} {tk : Nat} {tq : Nat} {tw : Nat} {pe : Int32} {ti : Int32} {aw : Int32} {me : Int32} {sp : Int32} : CT l D (tz cs) yX4_stands wsX4_stands ({ frames := 0, cells := 0, slots := 0, locals := 0 }) [.ref ta] [(ta, .inr (4, [.ref tk, .ref tq, .ref tw, .int pe, .int ti, .int aw, .int me, .int sp]))] (some (.int (b2 (decide (0 < pe))))) [(ta, .inr (4, [.ref tk, .ref tq, .ref tw, .int pe, .int ti, .int aw, .int me, .int sp]))] := by
  refine CT.of kX4_stands (Nat.le_of_ble_eq_true rfl) ?_
  intro p e s m below meth c A C E
  have C : VOk p s m _ c cX4_stands 1 wsX4_stands RX4 D (tz cs) A s.heap := C
  refine V.lvs (lv' := [(0, .ref ta)]) [0] rfl ?_
  refine v_aload_n C 0 dX4_stands_0 rfl ?_
  refine v_get C (v := .int pe) fl_X4_stands_21 0 rfl rfl dX4_stands_1 ?_
  refine v_if_le C 11 dX4_stands_4 (by decide) (fun c1 => ?_) (fun c1 => ?_)
  · skip
    refine v_iconst C (v := 0) dX4_stands_11 (by decide) ?_
    exact v_zret C E (rfl) (by first | rfl | (simp [b2, c1, ↓reduceIte]; done) | (simp_all [b2]; done)) dX4_stands_12
  · skip
    refine v_iconst C (v := 1) dX4_stands_7 (by decide) ?_
    refine v_goto C 12 dX4_stands_8 (by decide) ?_
    exact v_zret C E (rfl) (by first | rfl | (simp [b2, c1, ↓reduceIte]; done) | (simp_all [b2]; done)) dX4_stands_12
theorem kX4_isPerson : KD yX4_isPerson wsX4_isPerson cX4_isPerson 2 (some .boolean) 1 := ⟨⟨_, rfl⟩, by decide, by decide +kernel, by decide +kernel, by decide +kernel⟩
theorem in_X4_isPerson_X4 : ∀ w ∈ wsX40, w ∈ wsX4_isPerson := by decide +kernel
theorem fl_X4_isPerson_21 : FL RX4 wsX4_isPerson RX4 RX4 TX4 8 4 3 21 := ⟨⟨in_X4_isPerson_X4, rfl, by decide, rfl⟩, by decide +kernel⟩
set_option maxHeartbeats 4000000 in
set_option maxRecDepth 100000 in
theorem c_isPerson (l : Launch) (D : va_G) (cs : Nat → ClassId) {ta : Nat} {tk : Nat} {tq : Nat} {tw : Nat} {pe : Int32} {ti : Int32} {aw : Int32} {me : Int32} {sp : Int32} {x : Int32} : CT l D (tz cs) yX4_isPerson wsX4_isPerson ({ frames := 0, cells := 0, slots := 0, locals := 0 }) [.ref ta, .int x] [(ta, .inr (4, [.ref tk, .ref tq, .ref tw, .int pe, .int ti, .int aw, .int me, .int sp]))] (some (.int (b2 (inB pe x)))) [(ta, .inr (4, [.ref tk, .ref tq, .ref tw, .int pe, .int ti, .int aw, .int me, .int sp]))] := by
  refine CT.of kX4_isPerson (Nat.le_of_ble_eq_true rfl) ?_
  intro p e s m below meth c A C E
  have C : VOk p s m _ c cX4_isPerson 2 wsX4_isPerson RX4 D (tz cs) A s.heap := C
  refine V.lvs (lv' := [(0, .ref ta), (1, .int x)]) [0, 1] rfl ?_
  refine v_iload_n C 1 dX4_isPerson_0 rfl ?_
  refine v_if_lt C 16 dX4_isPerson_1 (by decide) (fun c1 => ?_) (fun c1 => ?_)
  · skip
    refine v_iconst C (v := 0) dX4_isPerson_16 (by decide) ?_
    exact v_zret C E (rfl) (by first | rfl | (simp [inB, b2, c1, ↓reduceIte]; done) | (simp_all [inB, b2]; done)) dX4_isPerson_17
  · skip
    refine v_iload_n C 1 dX4_isPerson_4 rfl ?_
    refine v_aload_n C 0 dX4_isPerson_5 rfl ?_
    refine v_get C (v := .int pe) fl_X4_isPerson_21 0 rfl rfl dX4_isPerson_6 ?_
    refine v_icmp_ge C 16 dX4_isPerson_9 (by decide) (fun c2 => ?_) (fun c2 => ?_)
    · skip
      refine v_iconst C (v := 0) dX4_isPerson_16 (by decide) ?_
      exact v_zret C E (rfl) (by first | rfl | (simp [inB, b2, c1, c2, ↓reduceIte]; done) | (simp_all [inB, b2]; done)) dX4_isPerson_17
    · skip
      refine v_iconst C (v := 1) dX4_isPerson_12 (by decide) ?_
      refine v_goto C 17 dX4_isPerson_13 (by decide) ?_
      exact v_zret C E (rfl) (by first | rfl | (simp [inB, b2, c1, c2, ↓reduceIte]; done) | (simp_all [inB, b2]; done)) dX4_isPerson_17
theorem kX4_isTie : KD yX4_isTie wsX4_isTie cX4_isTie 2 (some .boolean) 1 := ⟨⟨_, rfl⟩, by decide, by decide +kernel, by decide +kernel, by decide +kernel⟩
theorem in_X4_isTie_X4 : ∀ w ∈ wsX40, w ∈ wsX4_isTie := by decide +kernel
theorem fl_X4_isTie_25 : FL RX4 wsX4_isTie RX4 RX4 TX4 8 4 4 25 := ⟨⟨in_X4_isTie_X4, rfl, by decide, rfl⟩, by decide +kernel⟩
set_option maxHeartbeats 4000000 in
set_option maxRecDepth 100000 in
theorem c_isTie (l : Launch) (D : va_G) (cs : Nat → ClassId) {ta : Nat} {tk : Nat} {tq : Nat} {tw : Nat} {pe : Int32} {ti : Int32} {aw : Int32} {me : Int32} {sp : Int32} {x : Int32} : CT l D (tz cs) yX4_isTie wsX4_isTie ({ frames := 0, cells := 0, slots := 0, locals := 0 }) [.ref ta, .int x] [(ta, .inr (4, [.ref tk, .ref tq, .ref tw, .int pe, .int ti, .int aw, .int me, .int sp]))] (some (.int (b2 (inB ti x)))) [(ta, .inr (4, [.ref tk, .ref tq, .ref tw, .int pe, .int ti, .int aw, .int me, .int sp]))] := by
  refine CT.of kX4_isTie (Nat.le_of_ble_eq_true rfl) ?_
  intro p e s m below meth c A C E
  have C : VOk p s m _ c cX4_isTie 2 wsX4_isTie RX4 D (tz cs) A s.heap := C
  refine V.lvs (lv' := [(0, .ref ta), (1, .int x)]) [0, 1] rfl ?_
  refine v_iload_n C 1 dX4_isTie_0 rfl ?_
  refine v_if_lt C 16 dX4_isTie_1 (by decide) (fun c1 => ?_) (fun c1 => ?_)
  · skip
    refine v_iconst C (v := 0) dX4_isTie_16 (by decide) ?_
    exact v_zret C E (rfl) (by first | rfl | (simp [inB, b2, c1, ↓reduceIte]; done) | (simp_all [inB, b2]; done)) dX4_isTie_17
  · skip
    refine v_iload_n C 1 dX4_isTie_4 rfl ?_
    refine v_aload_n C 0 dX4_isTie_5 rfl ?_
    refine v_get C (v := .int ti) fl_X4_isTie_25 0 rfl rfl dX4_isTie_6 ?_
    refine v_icmp_ge C 16 dX4_isTie_9 (by decide) (fun c2 => ?_) (fun c2 => ?_)
    · skip
      refine v_iconst C (v := 0) dX4_isTie_16 (by decide) ?_
      exact v_zret C E (rfl) (by first | rfl | (simp [inB, b2, c1, c2, ↓reduceIte]; done) | (simp_all [inB, b2]; done)) dX4_isTie_17
    · skip
      refine v_iconst C (v := 1) dX4_isTie_12 (by decide) ?_
      refine v_goto C 17 dX4_isTie_13 (by decide) ?_
      exact v_zret C E (rfl) (by first | rfl | (simp [inB, b2, c1, c2, ↓reduceIte]; done) | (simp_all [inB, b2]; done)) dX4_isTie_17
theorem kX4_everybody : KD yX4_everybody wsX4_everybody cX4_everybody 1 (some .int) 0 := ⟨⟨_, rfl⟩, by decide, by decide +kernel, by decide +kernel, by decide +kernel⟩
theorem in_X4_everybody_X4 : ∀ w ∈ wsX40, w ∈ wsX4_everybody := by decide +kernel
theorem fl_X4_everybody_21 : FL RX4 wsX4_everybody RX4 RX4 TX4 8 4 3 21 := ⟨⟨in_X4_everybody_X4, rfl, by decide, rfl⟩, by decide +kernel⟩
set_option maxHeartbeats 4000000 in
set_option maxRecDepth 100000 in
theorem c_everybody (l : Launch) (D : va_G) (cs : Nat → ClassId) {ta : Nat} {tk : Nat} {tq : Nat} {tw : Nat} {pe : Int32} {ti : Int32} {aw : Int32} {me : Int32} {sp : Int32} : CT l D (tz cs) yX4_everybody wsX4_everybody ({ frames := 0, cells := 0, slots := 0, locals := 0 }) [.ref ta] [(ta, .inr (4, [.ref tk, .ref tq, .ref tw, .int pe, .int ti, .int aw, .int me, .int sp]))] (some (.int (allI pe))) [(ta, .inr (4, [.ref tk, .ref tq, .ref tw, .int pe, .int ti, .int aw, .int me, .int sp]))] := by
  refine CT.of kX4_everybody (Nat.le_of_ble_eq_true rfl) ?_
  intro p e s m below meth c A C E
  have C : VOk p s m _ c cX4_everybody 1 wsX4_everybody RX4 D (tz cs) A s.heap := C
  refine V.lvs (lv' := [(0, .ref ta)]) [0] rfl ?_
  refine v_iconst C (v := 1) dX4_everybody_0 (by decide) ?_
  refine v_aload_n C 0 dX4_everybody_1 rfl ?_
  refine v_get C (v := .int pe) fl_X4_everybody_21 0 rfl rfl dX4_everybody_2 ?_
  refine v_ishl C dX4_everybody_5 ?_
  refine v_iconst C (v := 1) dX4_everybody_6 (by decide) ?_
  refine v_isub C dX4_everybody_7 ?_
  exact v_iret C E (rfl) (by first | rfl | (simp [allI, ↓reduceIte]; done) | (simp_all [allI]; done)) dX4_everybody_8
theorem kX4_there : KD yX4_there wsX4_there cX4_there 1 (some .int) 0 := ⟨⟨_, rfl⟩, by decide, by decide +kernel, by decide +kernel, by decide +kernel⟩
theorem in_X4_there_X4 : ∀ w ∈ wsX40, w ∈ wsX4_there := by decide +kernel
theorem fl_X4_there_28 : FL RX4 wsX4_there RX4 RX4 TX4 8 4 5 28 := ⟨⟨in_X4_there_X4, rfl, by decide, rfl⟩, by decide +kernel⟩
set_option maxHeartbeats 4000000 in
set_option maxRecDepth 100000 in
theorem c_there (l : Launch) (D : va_G) (cs : Nat → ClassId) {ta : Nat} {tk : Nat} {tq : Nat} {tw : Nat} {pe : Int32} {ti : Int32} {aw : Int32} {me : Int32} {sp : Int32} : CT l D (tz cs) yX4_there wsX4_there ({ frames := 1, cells := 0, slots := 0, locals := 20 }) [.ref ta] [(ta, .inr (4, [.ref tk, .ref tq, .ref tw, .int pe, .int ti, .int aw, .int me, .int sp]))] (some (.int (thI pe aw))) [(ta, .inr (4, [.ref tk, .ref tq, .ref tw, .int pe, .int ti, .int aw, .int me, .int sp]))] := by
  refine CT.of kX4_there (Nat.le_of_ble_eq_true rfl) ?_
  intro p e s m below meth c A C E
  have C : VOk p s m _ c cX4_there 1 wsX4_there RX4 D (tz cs) A s.heap := C
  refine V.lvs (lv' := [(0, .ref ta)]) [0] rfl ?_
  refine v_aload_n C 0 dX4_there_0 rfl ?_
  refine v_callV (qi := 0) C [] [] kX4_everybody gX4_there_X4_everybody (c_everybody l D cs (ta := ta) (tk := tk) (tq := tq) (tw := tw) (pe := pe) (ti := ti) (aw := aw) (me := me) (sp := sp) ) ⟨Nat.le_of_ble_eq_true rfl, Nat.le_of_ble_eq_true rfl⟩ ⟨rfl, rfl⟩ ⟨Nat.zero_le _, Nat.zero_le _⟩ rfl 0 rfl rfl rfl rfl (Nat.le_of_ble_eq_true rfl) [0] [(ta, .inr (4, [.ref tk, .ref tq, .ref tw, .int pe, .int ti, .int aw, .int me, .int sp]))] rfl (by decide) (show [ta] = [ta] from rfl) (rfl) dX4_there_1 ?_
  refine V.sts (st' := [.int (allI pe)]) rfl ?_
  refine v_aload_n C 0 dX4_there_4 rfl ?_
  refine v_get C (v := .int aw) fl_X4_there_28 0 rfl rfl dX4_there_5 ?_
  refine v_iconst C (v := -1) dX4_there_8 (by decide) ?_
  refine v_ixor C dX4_there_9 ?_
  refine v_iand C dX4_there_10 ?_
  exact v_iret C E (rfl) (by first | rfl | (simp [thI, ↓reduceIte]; done) | (simp_all [thI]; done)) dX4_there_11
theorem kX4_isSet : KD yX4_isSet wsX4_isSet cX4_isSet 2 (some .boolean) 1 := ⟨⟨_, rfl⟩, by decide, by decide +kernel, by decide +kernel, by decide +kernel⟩
set_option maxHeartbeats 4000000 in
set_option maxRecDepth 100000 in
theorem c_isSet (l : Launch) (D : va_G) (cs : Nat → ClassId) {ta : Nat} {tk : Nat} {tq : Nat} {tw : Nat} {pe : Int32} {ti : Int32} {aw : Int32} {me : Int32} {sp : Int32} {x : Int32} : CT l D (tz cs) yX4_isSet wsX4_isSet ({ frames := 1, cells := 0, slots := 0, locals := 20 }) [.ref ta, .int x] [(ta, .inr (4, [.ref tk, .ref tq, .ref tw, .int pe, .int ti, .int aw, .int me, .int sp]))] (some (.int (b2 (setB pe x)))) [(ta, .inr (4, [.ref tk, .ref tq, .ref tw, .int pe, .int ti, .int aw, .int me, .int sp]))] := by
  refine CT.of kX4_isSet (Nat.le_of_ble_eq_true rfl) ?_
  intro p e s m below meth c A C E
  have C : VOk p s m _ c cX4_isSet 2 wsX4_isSet RX4 D (tz cs) A s.heap := C
  refine V.lvs (lv' := [(0, .ref ta), (1, .int x)]) [0, 1] rfl ?_
  refine v_iload_n C 1 dX4_isSet_0 rfl ?_
  refine v_if_lt C 16 dX4_isSet_1 (by decide) (fun c1 => ?_) (fun c1 => ?_)
  · skip
    refine v_iconst C (v := 0) dX4_isSet_16 (by decide) ?_
    exact v_zret C E (rfl) (by first | rfl | (simp [setB, b2, c1, ↓reduceIte]; done) | (simp_all [setB, b2]; done)) dX4_isSet_17
  · skip
    refine v_iload_n C 1 dX4_isSet_4 rfl ?_
    refine v_aload_n C 0 dX4_isSet_5 rfl ?_
    refine v_callV (qi := 0) C [] [.int x] kX4_everybody gX4_isSet_X4_everybody (c_everybody l D cs (ta := ta) (tk := tk) (tq := tq) (tw := tw) (pe := pe) (ti := ti) (aw := aw) (me := me) (sp := sp) ) ⟨Nat.le_of_ble_eq_true rfl, Nat.le_of_ble_eq_true rfl⟩ ⟨rfl, rfl⟩ ⟨Nat.zero_le _, Nat.zero_le _⟩ rfl 0 rfl rfl rfl rfl (Nat.le_of_ble_eq_true rfl) [0] [(ta, .inr (4, [.ref tk, .ref tq, .ref tw, .int pe, .int ti, .int aw, .int me, .int sp]))] rfl (by decide) (show [ta] = [ta] from rfl) (rfl) dX4_isSet_6 ?_
    refine V.sts (st' := [.int (allI pe), .int x]) rfl ?_
    refine v_icmp_gt C 16 dX4_isSet_9 (by decide) (fun c2 => ?_) (fun c2 => ?_)
    · skip
      refine v_iconst C (v := 0) dX4_isSet_16 (by decide) ?_
      exact v_zret C E (rfl) (by first | rfl | (simp [setB, b2, c1, c2, ↓reduceIte]; done) | (simp_all [setB, b2]; done)) dX4_isSet_17
    · skip
      refine v_iconst C (v := 1) dX4_isSet_12 (by decide) ?_
      refine v_goto C 17 dX4_isSet_13 (by decide) ?_
      exact v_zret C E (rfl) (by first | rfl | (simp [setB, b2, c1, c2, ↓reduceIte]; done) | (simp_all [setB, b2]; done)) dX4_isSet_17
theorem kX4_kindOf : KD yX4_kindOf wsX4_kindOf cX4_kindOf 2 (some .int) 1 := ⟨⟨_, rfl⟩, by decide, by decide +kernel, by decide +kernel, by decide +kernel⟩
theorem in_X4_kindOf_X4 : ∀ w ∈ wsX40, w ∈ wsX4_kindOf := by decide +kernel
theorem fl_X4_kindOf_9 : FL RX4 wsX4_kindOf RX4 RX4 TX4 8 4 0 9 := ⟨⟨in_X4_kindOf_X4, rfl, by decide, rfl⟩, by decide +kernel⟩
theorem nq_X4_kindOf_X5_at : Cond.initialized yX5_at.cls ∈ wsX4_kindOf ∧ Cond.static yX5_at ∈ wsX4_kindOf := ⟨by decide +kernel, by decide +kernel⟩
set_option maxHeartbeats 4000000 in
set_option maxRecDepth 100000 in
theorem c_kindOf (l : Launch) (D : va_G) (cs : Nat → ClassId) {ta : Nat} {tk : Nat} {tq : Nat} {tw : Nat} {pe : Int32} {ti : Int32} {aw : Int32} {me : Int32} {sp : Int32} {kf : Nat → Int32} {x : Int32} : CT l D (tz cs) yX4_kindOf wsX4_kindOf ({ frames := 1, cells := 0, slots := 0, locals := 21 }) [.ref ta, .int x] [(ta, .inr (4, [.ref tk, .ref tq, .ref tw, .int pe, .int ti, .int aw, .int me, .int sp])), (tk, .inl (cs 0, 8, .inl kf))] (some (.int (gA kf 8 x))) [(ta, .inr (4, [.ref tk, .ref tq, .ref tw, .int pe, .int ti, .int aw, .int me, .int sp])), (tk, .inl (cs 0, 8, .inl kf))] := by
  refine CT.of kX4_kindOf (Nat.le_of_ble_eq_true rfl) ?_
  intro p e s m below meth c A C E
  have C : VOk p s m _ c cX4_kindOf 2 wsX4_kindOf RX4 D (tz cs) A s.heap := C
  refine V.lvs (lv' := [(0, .ref ta), (1, .int x)]) [0, 1] rfl ?_
  refine v_aload_n C 0 dX4_kindOf_0 rfl ?_
  refine v_get C (v := .ref tk) fl_X4_kindOf_9 0 rfl rfl dX4_kindOf_1 ?_
  refine v_iload_n C 1 dX4_kindOf_4 rfl ?_
  refine v_callSN C [.ref tk, .int x] [] kX5_at gX4_kindOf_X5_at_n37 (host := "TableShares") (by decide +kernel) nq_X4_kindOf_X5_at (c_at l D cs (ga := tk) (n := 8) (f := kf) (i := x) (by decide)) ⟨Nat.le_of_ble_eq_true rfl, Nat.le_of_ble_eq_true rfl⟩ ⟨rfl, rfl⟩ ⟨Nat.zero_le _, Nat.zero_le _⟩ rfl rfl (Nat.le_of_ble_eq_true rfl) [1] [(ta, .inr (4, [.ref tk, .ref tq, .ref tw, .int pe, .int ti, .int aw, .int me, .int sp])), (tk, .inl (cs 0, 8, .inl kf))] rfl (by decide) (show [tk] = [tk] from rfl) (rfl) dX4_kindOf_5 ?_
  refine V.sts (st' := [.int (gA kf 8 x)]) rfl ?_
  exact v_iret C E (rfl) (by first | rfl | (simp [↓reduceIte]; done) | (simp_all [b2]; done)) dX4_kindOf_8
theorem kX4_setOf : KD yX4_setOf wsX4_setOf cX4_setOf 2 (some .int) 1 := ⟨⟨_, rfl⟩, by decide, by decide +kernel, by decide +kernel, by decide +kernel⟩
theorem in_X4_setOf_X4 : ∀ w ∈ wsX40, w ∈ wsX4_setOf := by decide +kernel
theorem fl_X4_setOf_15 : FL RX4 wsX4_setOf RX4 RX4 TX4 8 4 1 15 := ⟨⟨in_X4_setOf_X4, rfl, by decide, rfl⟩, by decide +kernel⟩
theorem nq_X4_setOf_X5_at : Cond.initialized yX5_at.cls ∈ wsX4_setOf ∧ Cond.static yX5_at ∈ wsX4_setOf := ⟨by decide +kernel, by decide +kernel⟩
set_option maxHeartbeats 4000000 in
set_option maxRecDepth 100000 in
theorem c_setOf (l : Launch) (D : va_G) (cs : Nat → ClassId) {ta : Nat} {tk : Nat} {tq : Nat} {tw : Nat} {pe : Int32} {ti : Int32} {aw : Int32} {me : Int32} {sp : Int32} {sf : Nat → Int32} {x : Int32} : CT l D (tz cs) yX4_setOf wsX4_setOf ({ frames := 1, cells := 0, slots := 0, locals := 21 }) [.ref ta, .int x] [(ta, .inr (4, [.ref tk, .ref tq, .ref tw, .int pe, .int ti, .int aw, .int me, .int sp])), (tq, .inl (cs 0, 8, .inl sf))] (some (.int (gA sf 8 x))) [(ta, .inr (4, [.ref tk, .ref tq, .ref tw, .int pe, .int ti, .int aw, .int me, .int sp])), (tq, .inl (cs 0, 8, .inl sf))] := by
  refine CT.of kX4_setOf (Nat.le_of_ble_eq_true rfl) ?_
  intro p e s m below meth c A C E
  have C : VOk p s m _ c cX4_setOf 2 wsX4_setOf RX4 D (tz cs) A s.heap := C
  refine V.lvs (lv' := [(0, .ref ta), (1, .int x)]) [0, 1] rfl ?_
  refine v_aload_n C 0 dX4_setOf_0 rfl ?_
  refine v_get C (v := .ref tq) fl_X4_setOf_15 0 rfl rfl dX4_setOf_1 ?_
  refine v_iload_n C 1 dX4_setOf_4 rfl ?_
  refine v_callSN C [.ref tq, .int x] [] kX5_at gX4_setOf_X5_at_n37 (host := "TableShares") (by decide +kernel) nq_X4_setOf_X5_at (c_at l D cs (ga := tq) (n := 8) (f := sf) (i := x) (by decide)) ⟨Nat.le_of_ble_eq_true rfl, Nat.le_of_ble_eq_true rfl⟩ ⟨rfl, rfl⟩ ⟨Nat.zero_le _, Nat.zero_le _⟩ rfl rfl (Nat.le_of_ble_eq_true rfl) [1] [(ta, .inr (4, [.ref tk, .ref tq, .ref tw, .int pe, .int ti, .int aw, .int me, .int sp])), (tq, .inl (cs 0, 8, .inl sf))] rfl (by decide) (show [tq] = [tq] from rfl) (rfl) dX4_setOf_5 ?_
  refine V.sts (st' := [.int (gA sf 8 x)]) rfl ?_
  exact v_iret C E (rfl) (by first | rfl | (simp [↓reduceIte]; done) | (simp_all [b2]; done)) dX4_setOf_8
theorem kX4_worthOf : KD yX4_worthOf wsX4_worthOf cX4_worthOf 2 (some .int) 1 := ⟨⟨_, rfl⟩, by decide, by decide +kernel, by decide +kernel, by decide +kernel⟩
theorem in_X4_worthOf_X4 : ∀ w ∈ wsX40, w ∈ wsX4_worthOf := by decide +kernel
theorem fl_X4_worthOf_18 : FL RX4 wsX4_worthOf RX4 RX4 TX4 8 4 2 18 := ⟨⟨in_X4_worthOf_X4, rfl, by decide, rfl⟩, by decide +kernel⟩
theorem nq_X4_worthOf_X5_at : Cond.initialized yX5_at.cls ∈ wsX4_worthOf ∧ Cond.static yX5_at ∈ wsX4_worthOf := ⟨by decide +kernel, by decide +kernel⟩
set_option maxHeartbeats 4000000 in
set_option maxRecDepth 100000 in
theorem c_worthOf (l : Launch) (D : va_G) (cs : Nat → ClassId) {ta : Nat} {tk : Nat} {tq : Nat} {tw : Nat} {pe : Int32} {ti : Int32} {aw : Int32} {me : Int32} {sp : Int32} {wf : Nat → Int32} {x : Int32} : CT l D (tz cs) yX4_worthOf wsX4_worthOf ({ frames := 1, cells := 0, slots := 0, locals := 21 }) [.ref ta, .int x] [(ta, .inr (4, [.ref tk, .ref tq, .ref tw, .int pe, .int ti, .int aw, .int me, .int sp])), (tw, .inl (cs 0, 8, .inl wf))] (some (.int (gA wf 8 x))) [(ta, .inr (4, [.ref tk, .ref tq, .ref tw, .int pe, .int ti, .int aw, .int me, .int sp])), (tw, .inl (cs 0, 8, .inl wf))] := by
  refine CT.of kX4_worthOf (Nat.le_of_ble_eq_true rfl) ?_
  intro p e s m below meth c A C E
  have C : VOk p s m _ c cX4_worthOf 2 wsX4_worthOf RX4 D (tz cs) A s.heap := C
  refine V.lvs (lv' := [(0, .ref ta), (1, .int x)]) [0, 1] rfl ?_
  refine v_aload_n C 0 dX4_worthOf_0 rfl ?_
  refine v_get C (v := .ref tw) fl_X4_worthOf_18 0 rfl rfl dX4_worthOf_1 ?_
  refine v_iload_n C 1 dX4_worthOf_4 rfl ?_
  refine v_callSN C [.ref tw, .int x] [] kX5_at gX4_worthOf_X5_at_n37 (host := "TableShares") (by decide +kernel) nq_X4_worthOf_X5_at (c_at l D cs (ga := tw) (n := 8) (f := wf) (i := x) (by decide)) ⟨Nat.le_of_ble_eq_true rfl, Nat.le_of_ble_eq_true rfl⟩ ⟨rfl, rfl⟩ ⟨Nat.zero_le _, Nat.zero_le _⟩ rfl rfl (Nat.le_of_ble_eq_true rfl) [1] [(ta, .inr (4, [.ref tk, .ref tq, .ref tw, .int pe, .int ti, .int aw, .int me, .int sp])), (tw, .inl (cs 0, 8, .inl wf))] rfl (by decide) (show [tw] = [tw] from rfl) (rfl) dX4_worthOf_5 ?_
  refine V.sts (st' := [.int (gA wf 8 x)]) rfl ?_
  exact v_iret C E (rfl) (by first | rfl | (simp [↓reduceIte]; done) | (simp_all [b2]; done)) dX4_worthOf_8
theorem kX4_begin : KD yX4_begin wsX4_begin cX4_begin 2 none 1 := ⟨⟨_, rfl⟩, by decide, by decide +kernel, by decide +kernel, by decide +kernel⟩
theorem in_X4_begin_X4 : ∀ w ∈ wsX40, w ∈ wsX4_begin := by decide +kernel
theorem fl_X4_begin_21 : FL RX4 wsX4_begin RX4 RX4 TX4 8 4 3 21 := ⟨⟨in_X4_begin_X4, rfl, by decide, rfl⟩, by decide +kernel⟩
theorem fp_X4_3 : FP TX4 8 3 tyX4 .int := ⟨tyX4_ok, nmX4, rfl, by decide +kernel⟩
theorem fl_X4_begin_25 : FL RX4 wsX4_begin RX4 RX4 TX4 8 4 4 25 := ⟨⟨in_X4_begin_X4, rfl, by decide, rfl⟩, by decide +kernel⟩
theorem fp_X4_4 : FP TX4 8 4 tyX4 .int := ⟨tyX4_ok, nmX4, rfl, by decide +kernel⟩
theorem fl_X4_begin_28 : FL RX4 wsX4_begin RX4 RX4 TX4 8 4 5 28 := ⟨⟨in_X4_begin_X4, rfl, by decide, rfl⟩, by decide +kernel⟩
theorem fp_X4_5 : FP TX4 8 5 tyX4 .int := ⟨tyX4_ok, nmX4, rfl, by decide +kernel⟩
theorem fl_X4_begin_31 : FL RX4 wsX4_begin RX4 RX4 TX4 8 4 6 31 := ⟨⟨in_X4_begin_X4, rfl, by decide, rfl⟩, by decide +kernel⟩
theorem fp_X4_6 : FP TX4 8 6 tyX4 .int := ⟨tyX4_ok, nmX4, rfl, by decide +kernel⟩
theorem fl_X4_begin_34 : FL RX4 wsX4_begin RX4 RX4 TX4 8 4 7 34 := ⟨⟨in_X4_begin_X4, rfl, by decide, rfl⟩, by decide +kernel⟩
theorem fp_X4_7 : FP TX4 8 7 tyX4 .int := ⟨tyX4_ok, nmX4, rfl, by decide +kernel⟩
set_option maxHeartbeats 4000000 in
set_option maxRecDepth 100000 in
theorem c_begin (l : Launch) (D : va_G) (cs : Nat → ClassId) {ta : Nat} {tk : Nat} {tq : Nat} {tw : Nat} {pe : Int32} {ti : Int32} {aw : Int32} {me : Int32} {sp : Int32} {x : Int32} : CT l D (tz cs) yX4_begin wsX4_begin ({ frames := 0, cells := 0, slots := 0, locals := 0 }) [.ref ta, .int x] [(ta, .inr (4, [.ref tk, .ref tq, .ref tw, .int pe, .int ti, .int aw, .int me, .int sp]))] none [(ta, .inr (4, [.ref tk, .ref tq, .ref tw, .int x, .int 0, .int 0, .int 0, .int 0]))] := by
  refine CT.of kX4_begin (Nat.le_of_ble_eq_true rfl) ?_
  intro p e s m below meth c A C E
  have C : VOk p s m _ c cX4_begin 2 wsX4_begin RX4 D (tz cs) A s.heap := C
  refine V.lvs (lv' := [(0, .ref ta), (1, .int x)]) [0, 1] rfl ?_
  refine v_aload_n C 0 dX4_begin_0 rfl ?_
  refine v_iload_n C 1 dX4_begin_1 rfl ?_
  refine v_put C fl_X4_begin_21 fp_X4_3 0 rfl rfl rfl (Nat.le_of_ble_eq_true rfl) [(ta, .inr (4, [.ref tk, .ref tq, .ref tw, .int x, .int ti, .int aw, .int me, .int sp]))] rfl dX4_begin_2 ?_
  refine v_aload_n C 0 dX4_begin_5 rfl ?_
  refine v_iconst C (v := 0) dX4_begin_6 (by decide) ?_
  refine v_put C fl_X4_begin_25 fp_X4_4 0 rfl rfl rfl (Nat.le_of_ble_eq_true rfl) [(ta, .inr (4, [.ref tk, .ref tq, .ref tw, .int x, .int 0, .int aw, .int me, .int sp]))] rfl dX4_begin_7 ?_
  refine v_aload_n C 0 dX4_begin_10 rfl ?_
  refine v_iconst C (v := 0) dX4_begin_11 (by decide) ?_
  refine v_put C fl_X4_begin_28 fp_X4_5 0 rfl rfl rfl (Nat.le_of_ble_eq_true rfl) [(ta, .inr (4, [.ref tk, .ref tq, .ref tw, .int x, .int 0, .int 0, .int me, .int sp]))] rfl dX4_begin_12 ?_
  refine v_aload_n C 0 dX4_begin_15 rfl ?_
  refine v_iconst C (v := 0) dX4_begin_16 (by decide) ?_
  refine v_put C fl_X4_begin_31 fp_X4_6 0 rfl rfl rfl (Nat.le_of_ble_eq_true rfl) [(ta, .inr (4, [.ref tk, .ref tq, .ref tw, .int x, .int 0, .int 0, .int 0, .int sp]))] rfl dX4_begin_17 ?_
  refine v_aload_n C 0 dX4_begin_20 rfl ?_
  refine v_iconst C (v := 0) dX4_begin_21 (by decide) ?_
  refine v_put C fl_X4_begin_34 fp_X4_7 0 rfl rfl rfl (Nat.le_of_ble_eq_true rfl) [(ta, .inr (4, [.ref tk, .ref tq, .ref tw, .int x, .int 0, .int 0, .int 0, .int 0]))] rfl dX4_begin_22 ?_
  exact v_vret C E (rfl) dX4_begin_25
theorem kX4_counts : KD yX4_counts wsX4_counts cX4_counts 7 (some .int) 3 := ⟨⟨_, rfl⟩, by decide, by decide +kernel, by decide +kernel, by decide +kernel⟩
set_option maxHeartbeats 4000000 in
set_option maxRecDepth 100000 in
theorem c_counts (l : Launch) (D : va_G) (cs : Nat → ClassId) {ta : Nat} {tk : Nat} {tq : Nat} {tw : Nat} {sf : Nat → Int32} {wf : Nat → Int32} {pe : Int32} {ti : Int32} {aw : Int32} {me : Int32} {sp : Int32} {x : Int32} {kd : Int32} {th : Int32} (hS : ∀ t, s64 (sf t)) : CT l D (tz cs) yX4_counts wsX4_counts ({ frames := 2, cells := 0, slots := 0, locals := 42 }) [.ref ta, .int x, .int kd, .int th] [(ta, .inr (4, [.ref tk, .ref tq, .ref tw, .int pe, .int ti, .int aw, .int me, .int sp])), (tq, .inl (cs 0, 8, .inl sf)), (tw, .inl (cs 0, 8, .inl wf))] (some (.int (cnt kd (gA sf 8 x) (gA wf 8 x) th))) [(ta, .inr (4, [.ref tk, .ref tq, .ref tw, .int pe, .int ti, .int aw, .int me, .int sp])), (tq, .inl (cs 0, 8, .inl sf)), (tw, .inl (cs 0, 8, .inl wf))] := by
  refine CT.of kX4_counts (Nat.le_of_ble_eq_true rfl) ?_
  intro p e s m below meth c A C E
  have C : VOk p s m _ c cX4_counts 7 wsX4_counts RX4 D (tz cs) A s.heap := C
  refine V.lvs (lv' := [(0, .ref ta), (1, .int x), (2, .int kd), (3, .int th)]) [0, 1, 2, 3] rfl ?_
  refine v_aload_n C 0 dX4_counts_0 rfl ?_
  refine v_iload_n C 1 dX4_counts_1 rfl ?_
  refine v_callV (qi := 0) C [.int x] [] kX4_setOf gX4_counts_X4_setOf (c_setOf l D cs (ta := ta) (tk := tk) (tq := tq) (tw := tw) (pe := pe) (ti := ti) (aw := aw) (me := me) (sp := sp) (sf := sf) (x := x) ) ⟨Nat.le_of_ble_eq_true rfl, Nat.le_of_ble_eq_true rfl⟩ ⟨rfl, rfl⟩ ⟨Nat.zero_le _, Nat.zero_le _⟩ rfl 0 rfl rfl rfl rfl (Nat.le_of_ble_eq_true rfl) [0, 1] [(ta, .inr (4, [.ref tk, .ref tq, .ref tw, .int pe, .int ti, .int aw, .int me, .int sp])), (tq, .inl (cs 0, 8, .inl sf)), (tw, .inl (cs 0, 8, .inl wf))] rfl (by decide) (show [ta, tq] = [ta, tq] from rfl) (rfl) dX4_counts_2 ?_
  refine V.sts (st' := [.int (gA sf 8 x)]) rfl ?_
  refine v_istore C [(0, .ref ta), (1, .int x), (2, .int kd), (3, .int th), (4, .int (gA sf 8 x))] [1, 2, 3, 4, 0] dX4_counts_5 (by decide) rfl ?_
  refine v_aload_n C 0 dX4_counts_7 rfl ?_
  refine v_iload_n C 1 dX4_counts_8 rfl ?_
  refine v_callV (qi := 0) C [.int x] [] kX4_worthOf gX4_counts_X4_worthOf (c_worthOf l D cs (ta := ta) (tk := tk) (tq := tq) (tw := tw) (pe := pe) (ti := ti) (aw := aw) (me := me) (sp := sp) (wf := wf) (x := x) ) ⟨Nat.le_of_ble_eq_true rfl, Nat.le_of_ble_eq_true rfl⟩ ⟨rfl, rfl⟩ ⟨Nat.zero_le _, Nat.zero_le _⟩ rfl 0 rfl rfl rfl rfl (Nat.le_of_ble_eq_true rfl) [0, 2] [(ta, .inr (4, [.ref tk, .ref tq, .ref tw, .int pe, .int ti, .int aw, .int me, .int sp])), (tq, .inl (cs 0, 8, .inl sf)), (tw, .inl (cs 0, 8, .inl wf))] rfl (by decide) (show [ta, tw] = [ta, tw] from rfl) (rfl) dX4_counts_9 ?_
  refine V.sts (st' := [.int (gA wf 8 x)]) rfl ?_
  refine v_istore C [(0, .ref ta), (1, .int x), (2, .int kd), (3, .int th), (4, .int (gA sf 8 x)), (5, .int (gA wf 8 x))] [1, 2, 3, 4, 5, 0] dX4_counts_12 (by decide) rfl ?_
  refine v_iload C 4 dX4_counts_14 rfl ?_
  refine v_iload_n C 3 dX4_counts_16 rfl ?_
  refine v_iand C dX4_counts_17 ?_
  refine v_istore C [(0, .ref ta), (1, .int x), (2, .int kd), (3, .int th), (4, .int (gA sf 8 x)), (5, .int (gA wf 8 x)), (6, .int ((gA sf 8 x) &&& th))] [1, 2, 3, 4, 5, 6, 0] dX4_counts_18 (by decide) rfl ?_
  refine v_iload_n C 2 dX4_counts_20 rfl ?_
  rcases Decidable.em (kd = 1) with z1 | z1
  · skip
    refine v_tableIn C 56 dX4_counts_21 (by rw [z1]; decide) (by rw [z1]; decide) (by rw [z1]; rfl) (by decide) ?_
    refine v_iload C 6 dX4_counts_56 rfl ?_
    refine v_iload C 4 dX4_counts_58 rfl ?_
    refine v_icmp_ne C 68 dX4_counts_60 (by decide) (fun c2 => ?_) (fun c2 => ?_)
    · skip
      refine v_iconst C (v := 0) dX4_counts_68 (by decide) ?_
      exact v_iret C E (rfl) (by first | rfl | (simp [cnt, mxI, hS, z1, c2, ↓reduceIte]; done) | (simp_all [cnt, mxI]; done)) dX4_counts_69
    · skip
      refine v_iload C 5 dX4_counts_63 rfl ?_
      refine v_goto C 69 dX4_counts_65 (by decide) ?_
      exact v_iret C E (rfl) (by first | rfl | (simp [cnt, mxI, hS, z1, c2, ↓reduceIte]; done) | (simp_all [cnt, mxI]; done)) dX4_counts_69
  · skip
    rcases Decidable.em (kd = 2) with z3 | z3
    · skip
      refine v_tableIn C 70 dX4_counts_21 (by rw [z3]; decide) (by rw [z3]; decide) (by rw [z3]; rfl) (by decide) ?_
      refine v_iload C 6 dX4_counts_70 rfl ?_
      refine v_iload C 4 dX4_counts_72 rfl ?_
      refine v_icmp_ne C 83 dX4_counts_74 (by decide) (fun c4 => ?_) (fun c4 => ?_)
      · skip
        refine v_iconst C (v := 0) dX4_counts_83 (by decide) ?_
        exact v_iret C E (rfl) (by first | rfl | (simp [cnt, mxI, hS, z1, z3, c4, ↓reduceIte]; done) | (simp_all [cnt, mxI]; done)) dX4_counts_84
      · skip
        refine v_iload C 5 dX4_counts_77 rfl ?_
        refine v_ineg C dX4_counts_79 ?_
        refine v_goto C 84 dX4_counts_80 (by decide) ?_
        exact v_iret C E (rfl) (by first | rfl | (simp [cnt, mxI, hS, z1, z3, c4, ↓reduceIte]; done) | (simp_all [cnt, mxI]; done)) dX4_counts_84
    · skip
      rcases Decidable.em (kd = 3) with z5 | z5
      · skip
        refine v_tableIn C 85 dX4_counts_21 (by rw [z5]; decide) (by rw [z5]; decide) (by rw [z5]; rfl) (by decide) ?_
        refine v_iload C 5 dX4_counts_85 rfl ?_
        refine v_iconst C (v := 0) dX4_counts_87 (by decide) ?_
        refine v_iload C 6 dX4_counts_88 rfl ?_
        refine v_callS C [.int ((gA sf 8 x) &&& th)] [.int 0, .int (gA wf 8 x)] kJ6_bitCount_0f7a4 gX4_counts_J6_bitCount_0f7a4 (c_bc l D cs (x := ((gA sf 8 x) &&& th)) (s64_and (s64_gA hS))) ⟨Nat.le_of_ble_eq_true rfl, Nat.le_of_ble_eq_true rfl⟩ ⟨rfl, rfl⟩ ⟨Nat.zero_le _, Nat.zero_le _⟩ rfl rfl (Nat.le_of_ble_eq_true rfl) [] [(ta, .inr (4, [.ref tk, .ref tq, .ref tw, .int pe, .int ti, .int aw, .int me, .int sp])), (tq, .inl (cs 0, 8, .inl sf)), (tw, .inl (cs 0, 8, .inl wf))] rfl (by decide) rfl (rfl) dX4_counts_90 ?_
        refine V.sts (st' := [.int (pcI ((gA sf 8 x) &&& th)), .int 0, .int (gA wf 8 x)]) rfl ?_
        refine v_iconst C (v := 1) dX4_counts_93 (by decide) ?_
        refine v_isub C dX4_counts_94 ?_
        refine v_mmax C (by decide +kernel) (by decide +kernel) (by decide +kernel) (by decide +kernel) ⟨Nat.le_of_ble_eq_true rfl, Nat.le_of_ble_eq_true rfl⟩ ⟨Nat.zero_le _, Nat.zero_le _⟩ dX4_counts_95 ?_
        refine v_imul C dX4_counts_98 ?_
        exact v_iret C E (rfl) (by first | rfl | (simp [cnt, mxI, hS, z1, z3, z5, ↓reduceIte]; done) | (simp_all [cnt, mxI]; done)) dX4_counts_99
      · skip
        rcases Decidable.em (kd = 4) with z6 | z6
        · skip
          refine v_tableIn C 100 dX4_counts_21 (by rw [z6]; decide) (by rw [z6]; decide) (by rw [z6]; rfl) (by decide) ?_
          refine v_iload C 6 dX4_counts_100 rfl ?_
          refine v_if_eq C 110 dX4_counts_102 (by decide) (fun c7 => ?_) (fun c7 => ?_)
          · skip
            refine v_iconst C (v := 0) dX4_counts_110 (by decide) ?_
            exact v_iret C E (rfl) (by first | rfl | (simp [cnt, mxI, hS, z1, z3, z5, z6, c7, ↓reduceIte]; done) | (simp_all [cnt, mxI]; done)) dX4_counts_111
          · skip
            refine v_iload C 5 dX4_counts_105 rfl ?_
            refine v_goto C 111 dX4_counts_107 (by decide) ?_
            exact v_iret C E (rfl) (by first | rfl | (simp [cnt, mxI, hS, z1, z3, z5, z6, c7, ↓reduceIte]; done) | (simp_all [cnt, mxI]; done)) dX4_counts_111
        · skip
          rcases Decidable.em (kd = 5) with z8 | z8
          · skip
            refine v_tableIn C 112 dX4_counts_21 (by rw [z8]; decide) (by rw [z8]; decide) (by rw [z8]; rfl) (by decide) ?_
            refine v_iload C 6 dX4_counts_112 rfl ?_
            refine v_if_ne C 122 dX4_counts_114 (by decide) (fun c9 => ?_) (fun c9 => ?_)
            · skip
              refine v_iconst C (v := 0) dX4_counts_122 (by decide) ?_
              exact v_iret C E (rfl) (by first | rfl | (simp [cnt, mxI, hS, z1, z3, z5, z6, z8, c9, ↓reduceIte]; done) | (simp_all [cnt, mxI]; done)) dX4_counts_123
            · skip
              refine v_iload C 5 dX4_counts_117 rfl ?_
              refine v_goto C 123 dX4_counts_119 (by decide) ?_
              exact v_iret C E (rfl) (by first | rfl | (simp [cnt, mxI, hS, z1, z3, z5, z6, z8, c9, ↓reduceIte]; done) | (simp_all [cnt, mxI]; done)) dX4_counts_123
          · skip
            have tz1 : ¬ Int32.toInt kd = 1 := lv_neT z1 (by rfl)
            have tz3 : ¬ Int32.toInt kd = 2 := lv_neT z3 (by rfl)
            have tz5 : ¬ Int32.toInt kd = 3 := lv_neT z5 (by rfl)
            have tz6 : ¬ Int32.toInt kd = 4 := lv_neT z6 (by rfl)
            have tz8 : ¬ Int32.toInt kd = 5 := lv_neT z8 (by rfl)
            refine v_tableOut C 124 dX4_counts_21 (by omega) (by decide) ?_
            refine v_iconst C (v := 0) dX4_counts_124 (by decide) ?_
            exact v_iret C E (rfl) (by first | rfl | (simp [cnt, mxI, hS, z1, z3, z5, z6, z8, ↓reduceIte]; done) | (simp_all [cnt, mxI]; done)) dX4_counts_125
theorem kX4_worthOfSet : KD yX4_worthOfSet wsX4_worthOfSet cX4_worthOfSet 4 (some .int) 1 := ⟨⟨_, rfl⟩, by decide, by decide +kernel, by decide +kernel, by decide +kernel⟩
theorem in_X4_worthOfSet_X4 : ∀ w ∈ wsX40, w ∈ wsX4_worthOfSet := by decide +kernel
theorem fl_X4_worthOfSet_25 : FL RX4 wsX4_worthOfSet RX4 RX4 TX4 8 4 4 25 := ⟨⟨in_X4_worthOfSet_X4, rfl, by decide, rfl⟩, by decide +kernel⟩
set_option maxHeartbeats 4000000 in
set_option maxRecDepth 100000 in
theorem c_worthOfSet (l : Launch) (D : va_G) (cs : Nat → ClassId) {ta : Nat} {tk : Nat} {tq : Nat} {tw : Nat} {kf : Nat → Int32} {sf : Nat → Int32} {wf : Nat → Int32} {pe : Int32} {aw : Int32} {me : Int32} {sp : Int32} {tn : Nat} {th : Int32} (hS : ∀ t, s64 (sf t)) (hti : tn ≤ 8) : CT l D (tz cs) yX4_worthOfSet wsX4_worthOfSet ({ frames := 3, cells := 0, slots := 0, locals := 68 }) [.ref ta, .int th] [(ta, .inr (4, [.ref tk, .ref tq, .ref tw, .int pe, .int (nI tn), .int aw, .int me, .int sp])), (tk, .inl (cs 0, 8, .inl kf)), (tq, .inl (cs 0, 8, .inl sf)), (tw, .inl (cs 0, 8, .inl wf))] (some (.int (wsum kf sf wf th tn))) [(ta, .inr (4, [.ref tk, .ref tq, .ref tw, .int pe, .int (nI tn), .int aw, .int me, .int sp])), (tk, .inl (cs 0, 8, .inl kf)), (tq, .inl (cs 0, 8, .inl sf)), (tw, .inl (cs 0, 8, .inl wf))] := by
  refine CT.of kX4_worthOfSet (Nat.le_of_ble_eq_true rfl) ?_
  intro p e s m below meth c A C E
  have C : VOk p s m _ c cX4_worthOfSet 4 wsX4_worthOfSet RX4 D (tz cs) A s.heap := C
  refine V.lvs (lv' := [(0, .ref ta), (1, .int th)]) [0, 1] rfl ?_
  refine v_iconst C (v := 0) dX4_worthOfSet_0 (by decide) ?_
  refine v_istore_n C [(0, .ref ta), (1, .int th), (2, .int 0)] [1, 2, 0] dX4_worthOfSet_1 (by decide) rfl ?_
  refine v_iconst C (v := 0) dX4_worthOfSet_2 (by decide) ?_
  refine v_istore_n C [(0, .ref ta), (1, .int th), (2, .int 0), (3, .int 0)] [1, 2, 3, 0] dX4_worthOfSet_3 (by decide) rfl ?_
  have L4 : ∀ (n : Nat) (i : Nat) (y0 : Int32) (y1 : Int32), y0 = (wsum kf sf wf th i) → y1 = (nI i) → (i ≤ tn) → (tn - i) < n → V p l e ({ frames := 3, cells := 0, slots := 0, locals := 68 }) s m (List.toArray [.ref ta, .int th]) below meth c 0 0 (MQ below (vq_Q (some (.int (wsum kf sf wf th tn))) D [(ta, .inr (4, [.ref tk, .ref tq, .ref tw, .int pe, .int (nI tn), .int aw, .int me, .int sp])), (tk, .inl (cs 0, 8, .inl kf)), (tq, .inl (cs 0, 8, .inl sf)), (tw, .inl (cs 0, 8, .inl wf))] [(ta, .inr (4, [.ref tk, .ref tq, .ref tw, .int pe, .int (nI tn), .int aw, .int me, .int sp])), (tk, .inl (cs 0, 8, .inl kf)), (tq, .inl (cs 0, 8, .inl sf)), (tw, .inl (cs 0, 8, .inl wf))] s.heap.size) (List.toArray [.ref ta, .int th]) s 0 0 (va_A [(ta, .inr (4, [.ref tk, .ref tq, .ref tw, .int pe, .int (nI tn), .int aw, .int me, .int sp])), (tk, .inl (cs 0, 8, .inl kf)), (tq, .inl (cs 0, 8, .inl sf)), (tw, .inl (cs 0, 8, .inl wf))] s.heap.size)) 4 D A s.heap 4 [(0, .ref ta), (1, .int th), (2, .int y0), (3, .int y1)] [] [(ta, .inr (4, [.ref tk, .ref tq, .ref tw, .int pe, .int (nI tn), .int aw, .int me, .int sp])), (tk, .inl (cs 0, 8, .inl kf)), (tq, .inl (cs 0, 8, .inl sf)), (tw, .inl (cs 0, 8, .inl wf))] := by
    intro n
    induction n with
    | zero =>
      intros; omega
    | succ n ih4 =>
      intro i y0 y1 ey0 ey1 hi hn
      subst ey0
      subst ey1
      refine v_iload_n C 3 dX4_worthOfSet_4 rfl ?_
      refine v_aload_n C 0 dX4_worthOfSet_5 rfl ?_
      refine v_get C (v := .int (nI tn)) fl_X4_worthOfSet_25 0 rfl rfl dX4_worthOfSet_6 ?_
      refine v_icmp_ge C 32 dX4_worthOfSet_9 (by decide) (fun c1 => ?_) (fun c1 => ?_)
      · skip
        have hge : tn ≤ i := le_nI c1 (by omega) (by omega)
        refine v_iload_n C 2 dX4_worthOfSet_32 rfl ?_
        exact v_iret C E (rfl) (by rw [show i = tn by omega]) dX4_worthOfSet_33
      · skip
        have hlt : i < tn := nle_nI c1 (by omega) (by omega)
        refine v_iload_n C 2 dX4_worthOfSet_12 rfl ?_
        refine v_aload_n C 0 dX4_worthOfSet_13 rfl ?_
        refine v_iload_n C 3 dX4_worthOfSet_14 rfl ?_
        refine v_aload_n C 0 dX4_worthOfSet_15 rfl ?_
        refine v_iload_n C 3 dX4_worthOfSet_16 rfl ?_
        refine v_callV (qi := 0) C [.int (nI i)] [.int (nI i), .ref ta, .int (wsum kf sf wf th i)] kX4_kindOf gX4_worthOfSet_X4_kindOf (c_kindOf l D cs (ta := ta) (tk := tk) (tq := tq) (tw := tw) (pe := pe) (ti := (nI tn)) (aw := aw) (me := me) (sp := sp) (kf := kf) (x := (nI i)) ) ⟨Nat.le_of_ble_eq_true rfl, Nat.le_of_ble_eq_true rfl⟩ ⟨rfl, rfl⟩ ⟨Nat.zero_le _, Nat.zero_le _⟩ rfl 0 rfl rfl rfl rfl (Nat.le_of_ble_eq_true rfl) [0, 1] [(ta, .inr (4, [.ref tk, .ref tq, .ref tw, .int pe, .int (nI tn), .int aw, .int me, .int sp])), (tk, .inl (cs 0, 8, .inl kf)), (tq, .inl (cs 0, 8, .inl sf)), (tw, .inl (cs 0, 8, .inl wf))] rfl (by decide) (show [ta, tk] = [ta, tk] from rfl) (rfl) dX4_worthOfSet_17 ?_
        refine V.sts (st' := [.int (gA kf 8 (nI i)), .int (nI i), .ref ta, .int (wsum kf sf wf th i)]) rfl ?_
        refine v_iload_n C 1 dX4_worthOfSet_20 rfl ?_
        refine v_callV (qi := 0) C [.int (nI i), .int (gA kf 8 (nI i)), .int th] [.int (wsum kf sf wf th i)] kX4_counts gX4_worthOfSet_X4_counts (c_counts l D cs (ta := ta) (tk := tk) (tq := tq) (tw := tw) (sf := sf) (wf := wf) (pe := pe) (ti := (nI tn)) (aw := aw) (me := me) (sp := sp) (x := (nI i)) (kd := (gA kf 8 (nI i))) (th := th) (by first | assumption | omega)) ⟨Nat.le_of_ble_eq_true rfl, Nat.le_of_ble_eq_true rfl⟩ ⟨rfl, rfl⟩ ⟨Nat.zero_le _, Nat.zero_le _⟩ rfl 0 rfl rfl rfl rfl (Nat.le_of_ble_eq_true rfl) [0, 2, 3] [(ta, .inr (4, [.ref tk, .ref tq, .ref tw, .int pe, .int (nI tn), .int aw, .int me, .int sp])), (tk, .inl (cs 0, 8, .inl kf)), (tq, .inl (cs 0, 8, .inl sf)), (tw, .inl (cs 0, 8, .inl wf))] rfl (by decide) (show [ta, tq, tw] = [ta, tq, tw] from rfl) (rfl) dX4_worthOfSet_21 ?_
        refine V.sts (st' := [.int (cnt (gA kf 8 (nI i)) (gA sf 8 (nI i)) (gA wf 8 (nI i)) th), .int (wsum kf sf wf th i)]) rfl ?_
        refine v_iadd C dX4_worthOfSet_24 ?_
        refine v_istore_n C [(0, .ref ta), (1, .int th), (2, .int ((wsum kf sf wf th i) + (cnt (gA kf 8 (nI i)) (gA sf 8 (nI i)) (gA wf 8 (nI i)) th))), (3, .int (nI i))] [1, 2, 0, 3] dX4_worthOfSet_25 (by decide) rfl ?_
        refine v_iinc C (k := 3) (nI (i + 1)) [(0, .ref ta), (1, .int th), (2, .int ((wsum kf sf wf th i) + (cnt (gA kf 8 (nI i)) (gA sf 8 (nI i)) (gA wf 8 (nI i)) th))), (3, .int (nI (i + 1)))] [1, 2, 3, 0] dX4_worthOfSet_26 rfl (nI_inc _) (by decide) rfl ?_
        refine v_goto C 4 dX4_worthOfSet_29 (by decide) ?_
        exact ih4 (i + 1) _ _ (by rw [gA_in (by omega) (by decide), gA_in (by omega) (by decide), gA_in (by omega) (by decide)]; rfl) (rfl) (by first | assumption | omega) (by omega)
  exact L4 _ 0 _ _ (rfl) (rfl) (by first | assumption | omega) (Nat.lt_succ_self _)
theorem kX4_worthIfKind : KD yX4_worthIfKind wsX4_worthIfKind cX4_worthIfKind 4 (some .int) 3 := ⟨⟨_, rfl⟩, by decide, by decide +kernel, by decide +kernel, by decide +kernel⟩
set_option maxHeartbeats 4000000 in
set_option maxRecDepth 100000 in
theorem c_worthIfKind (l : Launch) (D : va_G) (cs : Nat → ClassId) {ta : Nat} {tk : Nat} {tq : Nat} {tw : Nat} {kf : Nat → Int32} {sf : Nat → Int32} {wf : Nat → Int32} {pe : Int32} {aw : Int32} {me : Int32} {sp : Int32} {tn : Nat} {th : Int32} {x : Int32} {kd : Int32} (hS : ∀ t, s64 (sf t)) (hti : tn ≤ 8) : CT l D (tz cs) yX4_worthIfKind wsX4_worthIfKind ({ frames := 4, cells := 0, slots := 0, locals := 91 }) [.ref ta, .int th, .int x, .int kd] [(ta, .inr (4, [.ref tk, .ref tq, .ref tw, .int pe, .int (nI tn), .int aw, .int me, .int sp])), (tk, .inl (cs 0, 8, .inl kf)), (tq, .inl (cs 0, 8, .inl sf)), (tw, .inl (cs 0, 8, .inl wf))] (some (.int (wsum kf sf wf th tn - cnt (gA kf 8 x) (gA sf 8 x) (gA wf 8 x) th + cnt kd (gA sf 8 x) (gA wf 8 x) th))) [(ta, .inr (4, [.ref tk, .ref tq, .ref tw, .int pe, .int (nI tn), .int aw, .int me, .int sp])), (tk, .inl (cs 0, 8, .inl kf)), (tq, .inl (cs 0, 8, .inl sf)), (tw, .inl (cs 0, 8, .inl wf))] := by
  refine CT.of kX4_worthIfKind (Nat.le_of_ble_eq_true rfl) ?_
  intro p e s m below meth c A C E
  have C : VOk p s m _ c cX4_worthIfKind 4 wsX4_worthIfKind RX4 D (tz cs) A s.heap := C
  refine V.lvs (lv' := [(0, .ref ta), (1, .int th), (2, .int x), (3, .int kd)]) [0, 1, 2, 3] rfl ?_
  refine v_aload_n C 0 dX4_worthIfKind_0 rfl ?_
  refine v_iload_n C 1 dX4_worthIfKind_1 rfl ?_
  refine v_callV (qi := 0) C [.int th] [] kX4_worthOfSet gX4_worthIfKind_X4_worthOfSet (c_worthOfSet l D cs (ta := ta) (tk := tk) (tq := tq) (tw := tw) (kf := kf) (sf := sf) (wf := wf) (pe := pe) (aw := aw) (me := me) (sp := sp) (tn := tn) (th := th) (by first | assumption | omega) (by first | assumption | omega)) ⟨Nat.le_of_ble_eq_true rfl, Nat.le_of_ble_eq_true rfl⟩ ⟨rfl, rfl⟩ ⟨Nat.zero_le _, Nat.zero_le _⟩ rfl 0 rfl rfl rfl rfl (Nat.le_of_ble_eq_true rfl) [0, 1, 2, 3] [(ta, .inr (4, [.ref tk, .ref tq, .ref tw, .int pe, .int (nI tn), .int aw, .int me, .int sp])), (tk, .inl (cs 0, 8, .inl kf)), (tq, .inl (cs 0, 8, .inl sf)), (tw, .inl (cs 0, 8, .inl wf))] rfl (by decide) (show [ta, tk, tq, tw] = [ta, tk, tq, tw] from rfl) (rfl) dX4_worthIfKind_2 ?_
  refine V.sts (st' := [.int (wsum kf sf wf th tn)]) rfl ?_
  refine v_aload_n C 0 dX4_worthIfKind_5 rfl ?_
  refine v_iload_n C 2 dX4_worthIfKind_6 rfl ?_
  refine v_aload_n C 0 dX4_worthIfKind_7 rfl ?_
  refine v_iload_n C 2 dX4_worthIfKind_8 rfl ?_
  refine v_callV (qi := 0) C [.int x] [.int x, .ref ta, .int (wsum kf sf wf th tn)] kX4_kindOf gX4_worthIfKind_X4_kindOf (c_kindOf l D cs (ta := ta) (tk := tk) (tq := tq) (tw := tw) (pe := pe) (ti := (nI tn)) (aw := aw) (me := me) (sp := sp) (kf := kf) (x := x) ) ⟨Nat.le_of_ble_eq_true rfl, Nat.le_of_ble_eq_true rfl⟩ ⟨rfl, rfl⟩ ⟨Nat.zero_le _, Nat.zero_le _⟩ rfl 0 rfl rfl rfl rfl (Nat.le_of_ble_eq_true rfl) [0, 1] [(ta, .inr (4, [.ref tk, .ref tq, .ref tw, .int pe, .int (nI tn), .int aw, .int me, .int sp])), (tk, .inl (cs 0, 8, .inl kf)), (tq, .inl (cs 0, 8, .inl sf)), (tw, .inl (cs 0, 8, .inl wf))] rfl (by decide) (show [ta, tk] = [ta, tk] from rfl) (rfl) dX4_worthIfKind_9 ?_
  refine V.sts (st' := [.int (gA kf 8 x), .int x, .ref ta, .int (wsum kf sf wf th tn)]) rfl ?_
  refine v_iload_n C 1 dX4_worthIfKind_12 rfl ?_
  refine v_callV (qi := 0) C [.int x, .int (gA kf 8 x), .int th] [.int (wsum kf sf wf th tn)] kX4_counts gX4_worthIfKind_X4_counts (c_counts l D cs (ta := ta) (tk := tk) (tq := tq) (tw := tw) (sf := sf) (wf := wf) (pe := pe) (ti := (nI tn)) (aw := aw) (me := me) (sp := sp) (x := x) (kd := (gA kf 8 x)) (th := th) (by first | assumption | omega)) ⟨Nat.le_of_ble_eq_true rfl, Nat.le_of_ble_eq_true rfl⟩ ⟨rfl, rfl⟩ ⟨Nat.zero_le _, Nat.zero_le _⟩ rfl 0 rfl rfl rfl rfl (Nat.le_of_ble_eq_true rfl) [0, 2, 3] [(ta, .inr (4, [.ref tk, .ref tq, .ref tw, .int pe, .int (nI tn), .int aw, .int me, .int sp])), (tk, .inl (cs 0, 8, .inl kf)), (tq, .inl (cs 0, 8, .inl sf)), (tw, .inl (cs 0, 8, .inl wf))] rfl (by decide) (show [ta, tq, tw] = [ta, tq, tw] from rfl) (rfl) dX4_worthIfKind_13 ?_
  refine V.sts (st' := [.int (cnt (gA kf 8 x) (gA sf 8 x) (gA wf 8 x) th), .int (wsum kf sf wf th tn)]) rfl ?_
  refine v_isub C dX4_worthIfKind_16 ?_
  refine v_aload_n C 0 dX4_worthIfKind_17 rfl ?_
  refine v_iload_n C 2 dX4_worthIfKind_18 rfl ?_
  refine v_iload_n C 3 dX4_worthIfKind_19 rfl ?_
  refine v_iload_n C 1 dX4_worthIfKind_20 rfl ?_
  refine v_callV (qi := 0) C [.int x, .int kd, .int th] [.int ((wsum kf sf wf th tn) - (cnt (gA kf 8 x) (gA sf 8 x) (gA wf 8 x) th))] kX4_counts gX4_worthIfKind_X4_counts (c_counts l D cs (ta := ta) (tk := tk) (tq := tq) (tw := tw) (sf := sf) (wf := wf) (pe := pe) (ti := (nI tn)) (aw := aw) (me := me) (sp := sp) (x := x) (kd := kd) (th := th) (by first | assumption | omega)) ⟨Nat.le_of_ble_eq_true rfl, Nat.le_of_ble_eq_true rfl⟩ ⟨rfl, rfl⟩ ⟨Nat.zero_le _, Nat.zero_le _⟩ rfl 0 rfl rfl rfl rfl (Nat.le_of_ble_eq_true rfl) [0, 2, 3] [(ta, .inr (4, [.ref tk, .ref tq, .ref tw, .int pe, .int (nI tn), .int aw, .int me, .int sp])), (tk, .inl (cs 0, 8, .inl kf)), (tq, .inl (cs 0, 8, .inl sf)), (tw, .inl (cs 0, 8, .inl wf))] rfl (by decide) (show [ta, tq, tw] = [ta, tq, tw] from rfl) (rfl) dX4_worthIfKind_21 ?_
  refine V.sts (st' := [.int (cnt kd (gA sf 8 x) (gA wf 8 x) th), .int ((wsum kf sf wf th tn) - (cnt (gA kf 8 x) (gA sf 8 x) (gA wf 8 x) th))]) rfl ?_
  refine v_iadd C dX4_worthIfKind_24 ?_
  exact v_iret C E (rfl) (by first | rfl | (simp [hS, hti, ↓reduceIte]; done) | (simp_all [b2]; done)) dX4_worthIfKind_25
theorem kX4_addedBy : KD yX4_addedBy wsX4_addedBy cX4_addedBy 3 (some .int) 2 := ⟨⟨_, rfl⟩, by decide, by decide +kernel, by decide +kernel, by decide +kernel⟩
set_option maxHeartbeats 4000000 in
set_option maxRecDepth 100000 in
theorem c_addedBy (l : Launch) (D : va_G) (cs : Nat → ClassId) {ta : Nat} {tk : Nat} {tq : Nat} {tw : Nat} {kf : Nat → Int32} {sf : Nat → Int32} {wf : Nat → Int32} {pe : Int32} {aw : Int32} {me : Int32} {sp : Int32} {tn : Nat} {q : Int32} {x : Int32} (hS : ∀ t, s64 (sf t)) (hti : tn ≤ 8) : CT l D (tz cs) yX4_addedBy wsX4_addedBy ({ frames := 4, cells := 0, slots := 0, locals := 91 }) [.ref ta, .int q, .int x] [(ta, .inr (4, [.ref tk, .ref tq, .ref tw, .int pe, .int (nI tn), .int aw, .int me, .int sp])), (tk, .inl (cs 0, 8, .inl kf)), (tq, .inl (cs 0, 8, .inl sf)), (tw, .inl (cs 0, 8, .inl wf))] (some (.int (adI kf sf wf tn x q))) [(ta, .inr (4, [.ref tk, .ref tq, .ref tw, .int pe, .int (nI tn), .int aw, .int me, .int sp])), (tk, .inl (cs 0, 8, .inl kf)), (tq, .inl (cs 0, 8, .inl sf)), (tw, .inl (cs 0, 8, .inl wf))] := by
  refine CT.of kX4_addedBy (Nat.le_of_ble_eq_true rfl) ?_
  intro p e s m below meth c A C E
  have C : VOk p s m _ c cX4_addedBy 3 wsX4_addedBy RX4 D (tz cs) A s.heap := C
  refine V.lvs (lv' := [(0, .ref ta), (1, .int q), (2, .int x)]) [0, 1, 2] rfl ?_
  refine v_aload_n C 0 dX4_addedBy_0 rfl ?_
  refine v_iload_n C 2 dX4_addedBy_1 rfl ?_
  refine v_iconst C (v := 1) dX4_addedBy_2 (by decide) ?_
  refine v_iload_n C 1 dX4_addedBy_3 rfl ?_
  refine v_ishl C dX4_addedBy_4 ?_
  refine v_ior C dX4_addedBy_5 ?_
  refine v_callV (qi := 0) C [.int (x ||| (1 <<< (q &&& 31)))] [] kX4_worthOfSet gX4_addedBy_X4_worthOfSet (c_worthOfSet l D cs (ta := ta) (tk := tk) (tq := tq) (tw := tw) (kf := kf) (sf := sf) (wf := wf) (pe := pe) (aw := aw) (me := me) (sp := sp) (tn := tn) (th := (x ||| (1 <<< (q &&& 31)))) (by first | assumption | omega) (by first | assumption | omega)) ⟨Nat.le_of_ble_eq_true rfl, Nat.le_of_ble_eq_true rfl⟩ ⟨rfl, rfl⟩ ⟨Nat.zero_le _, Nat.zero_le _⟩ rfl 0 rfl rfl rfl rfl (Nat.le_of_ble_eq_true rfl) [0, 1, 2, 3] [(ta, .inr (4, [.ref tk, .ref tq, .ref tw, .int pe, .int (nI tn), .int aw, .int me, .int sp])), (tk, .inl (cs 0, 8, .inl kf)), (tq, .inl (cs 0, 8, .inl sf)), (tw, .inl (cs 0, 8, .inl wf))] rfl (by decide) (show [ta, tk, tq, tw] = [ta, tk, tq, tw] from rfl) (rfl) dX4_addedBy_6 ?_
  refine V.sts (st' := [.int (wsum kf sf wf (x ||| (1 <<< (q &&& 31))) tn)]) rfl ?_
  refine v_aload_n C 0 dX4_addedBy_9 rfl ?_
  refine v_iload_n C 2 dX4_addedBy_10 rfl ?_
  refine v_callV (qi := 0) C [.int x] [.int (wsum kf sf wf (x ||| (1 <<< (q &&& 31))) tn)] kX4_worthOfSet gX4_addedBy_X4_worthOfSet (c_worthOfSet l D cs (ta := ta) (tk := tk) (tq := tq) (tw := tw) (kf := kf) (sf := sf) (wf := wf) (pe := pe) (aw := aw) (me := me) (sp := sp) (tn := tn) (th := x) (by first | assumption | omega) (by first | assumption | omega)) ⟨Nat.le_of_ble_eq_true rfl, Nat.le_of_ble_eq_true rfl⟩ ⟨rfl, rfl⟩ ⟨Nat.zero_le _, Nat.zero_le _⟩ rfl 0 rfl rfl rfl rfl (Nat.le_of_ble_eq_true rfl) [0, 1, 2, 3] [(ta, .inr (4, [.ref tk, .ref tq, .ref tw, .int pe, .int (nI tn), .int aw, .int me, .int sp])), (tk, .inl (cs 0, 8, .inl kf)), (tq, .inl (cs 0, 8, .inl sf)), (tw, .inl (cs 0, 8, .inl wf))] rfl (by decide) (show [ta, tk, tq, tw] = [ta, tk, tq, tw] from rfl) (rfl) dX4_addedBy_11 ?_
  refine V.sts (st' := [.int (wsum kf sf wf x tn), .int (wsum kf sf wf (x ||| (1 <<< (q &&& 31))) tn)]) rfl ?_
  refine v_isub C dX4_addedBy_14 ?_
  exact v_iret C E (rfl) (by first | rfl | (simp [adI, hS, hti, ↓reduceIte]; done) | (simp_all [adI]; done)) dX4_addedBy_15
theorem kX4_lostWithout : KD yX4_lostWithout wsX4_lostWithout cX4_lostWithout 2 (some .int) 1 := ⟨⟨_, rfl⟩, by decide, by decide +kernel, by decide +kernel, by decide +kernel⟩
set_option maxHeartbeats 4000000 in
set_option maxRecDepth 100000 in
theorem c_lostWithout (l : Launch) (D : va_G) (cs : Nat → ClassId) {ta : Nat} {tk : Nat} {tq : Nat} {tw : Nat} {kf : Nat → Int32} {sf : Nat → Int32} {wf : Nat → Int32} {pe : Int32} {aw : Int32} {me : Int32} {sp : Int32} {tn : Nat} {x : Int32} (hS : ∀ t, s64 (sf t)) (hti : tn ≤ 8) : CT l D (tz cs) yX4_lostWithout wsX4_lostWithout ({ frames := 4, cells := 0, slots := 0, locals := 91 }) [.ref ta, .int x] [(ta, .inr (4, [.ref tk, .ref tq, .ref tw, .int pe, .int (nI tn), .int aw, .int me, .int sp])), (tk, .inl (cs 0, 8, .inl kf)), (tq, .inl (cs 0, 8, .inl sf)), (tw, .inl (cs 0, 8, .inl wf))] (some (.int (loI kf sf wf tn pe x))) [(ta, .inr (4, [.ref tk, .ref tq, .ref tw, .int pe, .int (nI tn), .int aw, .int me, .int sp])), (tk, .inl (cs 0, 8, .inl kf)), (tq, .inl (cs 0, 8, .inl sf)), (tw, .inl (cs 0, 8, .inl wf))] := by
  refine CT.of kX4_lostWithout (Nat.le_of_ble_eq_true rfl) ?_
  intro p e s m below meth c A C E
  have C : VOk p s m _ c cX4_lostWithout 2 wsX4_lostWithout RX4 D (tz cs) A s.heap := C
  refine V.lvs (lv' := [(0, .ref ta), (1, .int x)]) [0, 1] rfl ?_
  refine v_aload_n C 0 dX4_lostWithout_0 rfl ?_
  refine v_aload_n C 0 dX4_lostWithout_1 rfl ?_
  refine v_callV (qi := 0) C [] [.ref ta] kX4_everybody gX4_lostWithout_X4_everybody (c_everybody l D cs (ta := ta) (tk := tk) (tq := tq) (tw := tw) (pe := pe) (ti := (nI tn)) (aw := aw) (me := me) (sp := sp) ) ⟨Nat.le_of_ble_eq_true rfl, Nat.le_of_ble_eq_true rfl⟩ ⟨rfl, rfl⟩ ⟨Nat.zero_le _, Nat.zero_le _⟩ rfl 0 rfl rfl rfl rfl (Nat.le_of_ble_eq_true rfl) [0] [(ta, .inr (4, [.ref tk, .ref tq, .ref tw, .int pe, .int (nI tn), .int aw, .int me, .int sp])), (tk, .inl (cs 0, 8, .inl kf)), (tq, .inl (cs 0, 8, .inl sf)), (tw, .inl (cs 0, 8, .inl wf))] rfl (by decide) (show [ta] = [ta] from rfl) (rfl) dX4_lostWithout_2 ?_
  refine V.sts (st' := [.int (allI pe), .ref ta]) rfl ?_
  refine v_callV (qi := 0) C [.int (allI pe)] [] kX4_worthOfSet gX4_lostWithout_X4_worthOfSet (c_worthOfSet l D cs (ta := ta) (tk := tk) (tq := tq) (tw := tw) (kf := kf) (sf := sf) (wf := wf) (pe := pe) (aw := aw) (me := me) (sp := sp) (tn := tn) (th := (allI pe)) (by first | assumption | omega) (by first | assumption | omega)) ⟨Nat.le_of_ble_eq_true rfl, Nat.le_of_ble_eq_true rfl⟩ ⟨rfl, rfl⟩ ⟨Nat.zero_le _, Nat.zero_le _⟩ rfl 0 rfl rfl rfl rfl (Nat.le_of_ble_eq_true rfl) [0, 1, 2, 3] [(ta, .inr (4, [.ref tk, .ref tq, .ref tw, .int pe, .int (nI tn), .int aw, .int me, .int sp])), (tk, .inl (cs 0, 8, .inl kf)), (tq, .inl (cs 0, 8, .inl sf)), (tw, .inl (cs 0, 8, .inl wf))] rfl (by decide) (show [ta, tk, tq, tw] = [ta, tk, tq, tw] from rfl) (rfl) dX4_lostWithout_5 ?_
  refine V.sts (st' := [.int (wsum kf sf wf (allI pe) tn)]) rfl ?_
  refine v_aload_n C 0 dX4_lostWithout_8 rfl ?_
  refine v_aload_n C 0 dX4_lostWithout_9 rfl ?_
  refine v_callV (qi := 0) C [] [.ref ta, .int (wsum kf sf wf (allI pe) tn)] kX4_everybody gX4_lostWithout_X4_everybody (c_everybody l D cs (ta := ta) (tk := tk) (tq := tq) (tw := tw) (pe := pe) (ti := (nI tn)) (aw := aw) (me := me) (sp := sp) ) ⟨Nat.le_of_ble_eq_true rfl, Nat.le_of_ble_eq_true rfl⟩ ⟨rfl, rfl⟩ ⟨Nat.zero_le _, Nat.zero_le _⟩ rfl 0 rfl rfl rfl rfl (Nat.le_of_ble_eq_true rfl) [0] [(ta, .inr (4, [.ref tk, .ref tq, .ref tw, .int pe, .int (nI tn), .int aw, .int me, .int sp])), (tk, .inl (cs 0, 8, .inl kf)), (tq, .inl (cs 0, 8, .inl sf)), (tw, .inl (cs 0, 8, .inl wf))] rfl (by decide) (show [ta] = [ta] from rfl) (rfl) dX4_lostWithout_10 ?_
  refine V.sts (st' := [.int (allI pe), .ref ta, .int (wsum kf sf wf (allI pe) tn)]) rfl ?_
  refine v_iload_n C 1 dX4_lostWithout_13 rfl ?_
  refine v_iconst C (v := -1) dX4_lostWithout_14 (by decide) ?_
  refine v_ixor C dX4_lostWithout_15 ?_
  refine v_iand C dX4_lostWithout_16 ?_
  refine v_callV (qi := 0) C [.int ((allI pe) &&& (x ^^^ (-1)))] [.int (wsum kf sf wf (allI pe) tn)] kX4_worthOfSet gX4_lostWithout_X4_worthOfSet (c_worthOfSet l D cs (ta := ta) (tk := tk) (tq := tq) (tw := tw) (kf := kf) (sf := sf) (wf := wf) (pe := pe) (aw := aw) (me := me) (sp := sp) (tn := tn) (th := ((allI pe) &&& (x ^^^ (-1)))) (by first | assumption | omega) (by first | assumption | omega)) ⟨Nat.le_of_ble_eq_true rfl, Nat.le_of_ble_eq_true rfl⟩ ⟨rfl, rfl⟩ ⟨Nat.zero_le _, Nat.zero_le _⟩ rfl 0 rfl rfl rfl rfl (Nat.le_of_ble_eq_true rfl) [0, 1, 2, 3] [(ta, .inr (4, [.ref tk, .ref tq, .ref tw, .int pe, .int (nI tn), .int aw, .int me, .int sp])), (tk, .inl (cs 0, 8, .inl kf)), (tq, .inl (cs 0, 8, .inl sf)), (tw, .inl (cs 0, 8, .inl wf))] rfl (by decide) (show [ta, tk, tq, tw] = [ta, tk, tq, tw] from rfl) (rfl) dX4_lostWithout_17 ?_
  refine V.sts (st' := [.int (wsum kf sf wf ((allI pe) &&& (x ^^^ (-1))) tn), .int (wsum kf sf wf (allI pe) tn)]) rfl ?_
  refine v_isub C dX4_lostWithout_20 ?_
  exact v_iret C E (rfl) (by first | rfl | (simp [loI, hS, hti, ↓reduceIte]; done) | (simp_all [loI]; done)) dX4_lostWithout_21
theorem kX4_areMissedOnlyTogether : KD yX4_areMissedOnlyTogether wsX4_areMissedOnlyTogether cX4_areMissedOnlyTogether 3 (some .boolean) 2 := ⟨⟨_, rfl⟩, by decide, by decide +kernel, by decide +kernel, by decide +kernel⟩
set_option maxHeartbeats 4000000 in
set_option maxRecDepth 100000 in
theorem c_missedOnly (l : Launch) (D : va_G) (cs : Nat → ClassId) {ta : Nat} {tk : Nat} {tq : Nat} {tw : Nat} {kf : Nat → Int32} {sf : Nat → Int32} {wf : Nat → Int32} {pe : Int32} {aw : Int32} {me : Int32} {sp : Int32} {tn : Nat} {q1 : Int32} {q2 : Int32} (hS : ∀ t, s64 (sf t)) (hti : tn ≤ 8) : CT l D (tz cs) yX4_areMissedOnlyTogether wsX4_areMissedOnlyTogether ({ frames := 5, cells := 0, slots := 0, locals := 112 }) [.ref ta, .int q1, .int q2] [(ta, .inr (4, [.ref tk, .ref tq, .ref tw, .int pe, .int (nI tn), .int aw, .int me, .int sp])), (tk, .inl (cs 0, 8, .inl kf)), (tq, .inl (cs 0, 8, .inl sf)), (tw, .inl (cs 0, 8, .inl wf))] (some (.int (b2 (mtB kf sf wf tn pe q1 q2)))) [(ta, .inr (4, [.ref tk, .ref tq, .ref tw, .int pe, .int (nI tn), .int aw, .int me, .int sp])), (tk, .inl (cs 0, 8, .inl kf)), (tq, .inl (cs 0, 8, .inl sf)), (tw, .inl (cs 0, 8, .inl wf))] := by
  refine CT.of kX4_areMissedOnlyTogether (Nat.le_of_ble_eq_true rfl) ?_
  intro p e s m below meth c A C E
  have C : VOk p s m _ c cX4_areMissedOnlyTogether 3 wsX4_areMissedOnlyTogether RX4 D (tz cs) A s.heap := C
  refine V.lvs (lv' := [(0, .ref ta), (1, .int q1), (2, .int q2)]) [0, 1, 2] rfl ?_
  refine v_aload_n C 0 dX4_areMissedOnlyTogether_0 rfl ?_
  refine v_iconst C (v := 1) dX4_areMissedOnlyTogether_1 (by decide) ?_
  refine v_iload_n C 1 dX4_areMissedOnlyTogether_2 rfl ?_
  refine v_ishl C dX4_areMissedOnlyTogether_3 ?_
  refine v_callV (qi := 0) C [.int (1 <<< (q1 &&& 31))] [] kX4_lostWithout gX4_areMissedOnlyTogether_X4_lostWithout (c_lostWithout l D cs (ta := ta) (tk := tk) (tq := tq) (tw := tw) (kf := kf) (sf := sf) (wf := wf) (pe := pe) (aw := aw) (me := me) (sp := sp) (tn := tn) (x := (1 <<< (q1 &&& 31))) (by first | assumption | omega) (by first | assumption | omega)) ⟨Nat.le_of_ble_eq_true rfl, Nat.le_of_ble_eq_true rfl⟩ ⟨rfl, rfl⟩ ⟨Nat.zero_le _, Nat.zero_le _⟩ rfl 0 rfl rfl rfl rfl (Nat.le_of_ble_eq_true rfl) [0, 1, 2, 3] [(ta, .inr (4, [.ref tk, .ref tq, .ref tw, .int pe, .int (nI tn), .int aw, .int me, .int sp])), (tk, .inl (cs 0, 8, .inl kf)), (tq, .inl (cs 0, 8, .inl sf)), (tw, .inl (cs 0, 8, .inl wf))] rfl (by decide) (show [ta, tk, tq, tw] = [ta, tk, tq, tw] from rfl) (rfl) dX4_areMissedOnlyTogether_4 ?_
  refine V.sts (st' := [.int (loI kf sf wf tn pe (1 <<< (q1 &&& 31)))]) rfl ?_
  refine v_if_ne C 38 dX4_areMissedOnlyTogether_7 (by decide) (fun c1 => ?_) (fun c1 => ?_)
  · skip
    refine v_iconst C (v := 0) dX4_areMissedOnlyTogether_38 (by decide) ?_
    exact v_zret C E (rfl) (by first | rfl | (simp [mtB, b2, hS, hti, c1, ↓reduceIte]; done) | (simp_all [mtB, b2]; done)) dX4_areMissedOnlyTogether_39
  · skip
    refine v_aload_n C 0 dX4_areMissedOnlyTogether_10 rfl ?_
    refine v_iconst C (v := 1) dX4_areMissedOnlyTogether_11 (by decide) ?_
    refine v_iload_n C 2 dX4_areMissedOnlyTogether_12 rfl ?_
    refine v_ishl C dX4_areMissedOnlyTogether_13 ?_
    refine v_callV (qi := 0) C [.int (1 <<< (q2 &&& 31))] [] kX4_lostWithout gX4_areMissedOnlyTogether_X4_lostWithout (c_lostWithout l D cs (ta := ta) (tk := tk) (tq := tq) (tw := tw) (kf := kf) (sf := sf) (wf := wf) (pe := pe) (aw := aw) (me := me) (sp := sp) (tn := tn) (x := (1 <<< (q2 &&& 31))) (by first | assumption | omega) (by first | assumption | omega)) ⟨Nat.le_of_ble_eq_true rfl, Nat.le_of_ble_eq_true rfl⟩ ⟨rfl, rfl⟩ ⟨Nat.zero_le _, Nat.zero_le _⟩ rfl 0 rfl rfl rfl rfl (Nat.le_of_ble_eq_true rfl) [0, 1, 2, 3] [(ta, .inr (4, [.ref tk, .ref tq, .ref tw, .int pe, .int (nI tn), .int aw, .int me, .int sp])), (tk, .inl (cs 0, 8, .inl kf)), (tq, .inl (cs 0, 8, .inl sf)), (tw, .inl (cs 0, 8, .inl wf))] rfl (by decide) (show [ta, tk, tq, tw] = [ta, tk, tq, tw] from rfl) (rfl) dX4_areMissedOnlyTogether_14 ?_
    refine V.sts (st' := [.int (loI kf sf wf tn pe (1 <<< (q2 &&& 31)))]) rfl ?_
    refine v_if_ne C 38 dX4_areMissedOnlyTogether_17 (by decide) (fun c2 => ?_) (fun c2 => ?_)
    · skip
      refine v_iconst C (v := 0) dX4_areMissedOnlyTogether_38 (by decide) ?_
      exact v_zret C E (rfl) (by first | rfl | (simp [mtB, b2, hS, hti, c1, c2, ↓reduceIte]; done) | (simp_all [mtB, b2]; done)) dX4_areMissedOnlyTogether_39
    · skip
      refine v_aload_n C 0 dX4_areMissedOnlyTogether_20 rfl ?_
      refine v_iconst C (v := 1) dX4_areMissedOnlyTogether_21 (by decide) ?_
      refine v_iload_n C 1 dX4_areMissedOnlyTogether_22 rfl ?_
      refine v_ishl C dX4_areMissedOnlyTogether_23 ?_
      refine v_iconst C (v := 1) dX4_areMissedOnlyTogether_24 (by decide) ?_
      refine v_iload_n C 2 dX4_areMissedOnlyTogether_25 rfl ?_
      refine v_ishl C dX4_areMissedOnlyTogether_26 ?_
      refine v_ior C dX4_areMissedOnlyTogether_27 ?_
      refine v_callV (qi := 0) C [.int ((1 <<< (q1 &&& 31)) ||| (1 <<< (q2 &&& 31)))] [] kX4_lostWithout gX4_areMissedOnlyTogether_X4_lostWithout (c_lostWithout l D cs (ta := ta) (tk := tk) (tq := tq) (tw := tw) (kf := kf) (sf := sf) (wf := wf) (pe := pe) (aw := aw) (me := me) (sp := sp) (tn := tn) (x := ((1 <<< (q1 &&& 31)) ||| (1 <<< (q2 &&& 31)))) (by first | assumption | omega) (by first | assumption | omega)) ⟨Nat.le_of_ble_eq_true rfl, Nat.le_of_ble_eq_true rfl⟩ ⟨rfl, rfl⟩ ⟨Nat.zero_le _, Nat.zero_le _⟩ rfl 0 rfl rfl rfl rfl (Nat.le_of_ble_eq_true rfl) [0, 1, 2, 3] [(ta, .inr (4, [.ref tk, .ref tq, .ref tw, .int pe, .int (nI tn), .int aw, .int me, .int sp])), (tk, .inl (cs 0, 8, .inl kf)), (tq, .inl (cs 0, 8, .inl sf)), (tw, .inl (cs 0, 8, .inl wf))] rfl (by decide) (show [ta, tk, tq, tw] = [ta, tk, tq, tw] from rfl) (rfl) dX4_areMissedOnlyTogether_28 ?_
      refine V.sts (st' := [.int (loI kf sf wf tn pe ((1 <<< (q1 &&& 31)) ||| (1 <<< (q2 &&& 31))))]) rfl ?_
      refine v_if_le C 38 dX4_areMissedOnlyTogether_31 (by decide) (fun c3 => ?_) (fun c3 => ?_)
      · skip
        refine v_iconst C (v := 0) dX4_areMissedOnlyTogether_38 (by decide) ?_
        exact v_zret C E (rfl) (by first | rfl | (simp [mtB, b2, hS, hti, c1, c2, c3, ↓reduceIte]; done) | (simp_all [mtB, b2]; done)) dX4_areMissedOnlyTogether_39
      · skip
        refine v_iconst C (v := 1) dX4_areMissedOnlyTogether_34 (by decide) ?_
        refine v_goto C 39 dX4_areMissedOnlyTogether_35 (by decide) ?_
        exact v_zret C E (rfl) (by first | rfl | (simp [mtB, b2, hS, hti, c1, c2, c3, ↓reduceIte]; done) | (simp_all [mtB, b2]; done)) dX4_areMissedOnlyTogether_39
