theorem kX2_append : KD yX2_append wsX2_append cX2_append 2 none 1 := ⟨⟨_, rfl⟩, by decide, by decide +kernel, by decide +kernel, by decide +kernel⟩
theorem in_X2_append_X2 : ∀ w ∈ wsX20, w ∈ wsX2_append := by decide +kernel
theorem fl_X2_append_15 : FL RX2 wsX2_append RX2 RX2 TX2 6 2 1 15 := ⟨⟨in_X2_append_X2, rfl, by decide, rfl⟩, by decide +kernel⟩
theorem fl_X2_append_9 : FL RX2 wsX2_append RX2 RX2 TX2 6 2 0 9 := ⟨⟨in_X2_append_X2, rfl, by decide, rfl⟩, by decide +kernel⟩
theorem nq_X2_append_X5_put : Cond.initialized yX5_put.cls ∈ wsX2_append ∧ Cond.static yX5_put ∈ wsX2_append := ⟨by decide +kernel, by decide +kernel⟩
theorem fp_X2_1 : FP TX2 6 1 tyX2 .int := ⟨tyX2_ok, nmX2, rfl, by decide +kernel⟩
set_option maxHeartbeats 4000000 in
set_option maxRecDepth 100000 in
theorem c_append (l : Launch) (D : va_G) (cs : Nat → ClassId) {xd : Nat} {xt : Nat} {f : Nat → Int32} {len : Nat} {pl : Int32} {nx : Int32} {so : Int32} {va : Int32} {x : Int32} (hl : len < 120) : CT l D (tz cs) yX2_append wsX2_append ({ frames := 1, cells := 0, slots := 0, locals := 22 }) [.ref xd, .int x] [(xd, .inr (2, [.ref xt, .int (nI len), .int pl, .int nx, .int so, .int va])), (xt, .inl (cs 0, 120, .inl f))] none [(xd, .inr (2, [.ref xt, .int (nI (len + 1)), .int pl, .int nx, .int so, .int va])), (xt, .inl (cs 0, 120, .inl (upd f len x)))] := by
  refine CT.of kX2_append (Nat.le_of_ble_eq_true rfl) ?_
  intro p e s m below meth c A C E
  have C : VOk p s m _ c cX2_append 2 wsX2_append RX2 D (tz cs) A s.heap := C
  refine V.lvs (lv' := [(0, .ref xd), (1, .int x)]) [0, 1] rfl ?_
  refine v_aload_n C 0 dX2_append_0 rfl ?_
  refine v_get C (v := .int (nI len)) fl_X2_append_15 0 rfl rfl dX2_append_1 ?_
  refine v_bipush C (v := 120) dX2_append_4 (by decide) ?_
  refine v_icmp_ge C 31 dX2_append_6 (by decide) (fun c1 => ?_) (fun c1 => ?_)
  · exact absurd c1 (nI_ge (a := len) (b := 120) hl (by decide))
  · skip
    refine v_aload_n C 0 dX2_append_9 rfl ?_
    refine v_get C (v := .ref xt) fl_X2_append_9 0 rfl rfl dX2_append_10 ?_
    refine v_aload_n C 0 dX2_append_13 rfl ?_
    refine v_get C (v := .int (nI len)) fl_X2_append_15 0 rfl rfl dX2_append_14 ?_
    refine v_iload_n C 1 dX2_append_17 rfl ?_
    refine v_callSN C [.ref xt, .int (nI len), .int x] [] kX5_put gX2_append_X5_put_n19 (host := "TableShares") (by decide +kernel) nq_X2_append_X5_put (c_put l D cs (ga := xt) (n := 120) (f := f) (i := (nI len)) (x := x) (by decide)) ⟨Nat.le_of_ble_eq_true rfl, Nat.le_of_ble_eq_true rfl⟩ ⟨rfl, rfl⟩ ⟨Nat.zero_le _, Nat.zero_le _⟩ rfl rfl (Nat.le_of_ble_eq_true rfl) [1] [(xd, .inr (2, [.ref xt, .int (nI len), .int pl, .int nx, .int so, .int va])), (xt, .inl (cs 0, 120, .inl (pA f 120 (nI len) x)))] rfl (by decide) (show [xt] = [xt] from rfl) (rfl) dX2_append_18 ?_
    refine V.sts (st' := []) rfl ?_
    refine v_aload_n C 0 dX2_append_21 rfl ?_
    refine v_dup C dX2_append_22 rfl ?_
    refine v_get C (v := .int (nI len)) fl_X2_append_15 0 rfl rfl dX2_append_23 ?_
    refine v_iconst C (v := 1) dX2_append_26 (by decide) ?_
    refine v_iadd C dX2_append_27 ?_
    refine v_put C fl_X2_append_15 fp_X2_1 0 rfl rfl rfl (Nat.le_of_ble_eq_true rfl) [(xd, .inr (2, [.ref xt, .int ((nI len) + 1), .int pl, .int nx, .int so, .int va])), (xt, .inl (cs 0, 120, .inl (pA f 120 (nI len) x)))] rfl dX2_append_28 ?_
    exact v_vret C E (by rw [pA_in (by omega) (by decide), nI_1]) dX2_append_31
theorem kX2_isFigure : KD yX2_isFigure wsX2_isFigure cX2_isFigure 1 (some .boolean) 1 := ⟨⟨_, rfl⟩, by decide, by decide +kernel, by decide +kernel, by decide +kernel⟩
set_option maxHeartbeats 4000000 in
set_option maxRecDepth 100000 in
theorem c_isFigure (l : Launch) (D : va_G) (cs : Nat → ClassId) {x : Int32} : CT l D (tz cs) yX2_isFigure wsX2_isFigure ({ frames := 0, cells := 0, slots := 0, locals := 0 }) [.int x] [] (some (.int (b2 (fig x)))) [] := by
  refine CT.of kX2_isFigure (Nat.le_of_ble_eq_true rfl) ?_
  intro p e s m below meth c A C E
  have C : VOk p s m _ c cX2_isFigure 1 wsX2_isFigure RX2 D (tz cs) A s.heap := C
  refine V.lvs (lv' := [(0, .int x)]) [0] rfl ?_
  refine v_iload_n C 0 dX2_isFigure_0 rfl ?_
  refine v_bipush C (v := 48) dX2_isFigure_1 (by decide) ?_
  refine v_icmp_lt C 16 dX2_isFigure_3 (by decide) (fun c1 => ?_) (fun c1 => ?_)
  · skip
    refine v_iconst C (v := 0) dX2_isFigure_16 (by decide) ?_
    exact v_zret C E (rfl) (by first | rfl | (simp [fig, b2, c1, ↓reduceIte]; done) | (simp_all [fig, b2]; done)) dX2_isFigure_17
  · skip
    refine v_iload_n C 0 dX2_isFigure_6 rfl ?_
    refine v_bipush C (v := 57) dX2_isFigure_7 (by decide) ?_
    refine v_icmp_gt C 16 dX2_isFigure_9 (by decide) (fun c2 => ?_) (fun c2 => ?_)
    · skip
      refine v_iconst C (v := 0) dX2_isFigure_16 (by decide) ?_
      exact v_zret C E (rfl) (by first | rfl | (simp [fig, b2, c1, c2, ↓reduceIte]; done) | (simp_all [fig, b2]; done)) dX2_isFigure_17
    · skip
      refine v_iconst C (v := 1) dX2_isFigure_12 (by decide) ?_
      refine v_goto C 17 dX2_isFigure_13 (by decide) ?_
      exact v_zret C E (rfl) (by first | rfl | (simp [fig, b2, c1, c2, ↓reduceIte]; done) | (simp_all [fig, b2]; done)) dX2_isFigure_17
theorem kX2_sortOf : KD yX2_sortOf wsX2_sortOf cX2_sortOf 1 (some .int) 1 := ⟨⟨_, rfl⟩, by decide, by decide +kernel, by decide +kernel, by decide +kernel⟩
set_option maxHeartbeats 4000000 in
set_option maxRecDepth 100000 in
theorem c_sortOf (l : Launch) (D : va_G) (cs : Nat → ClassId) {x : Int32} : CT l D (tz cs) yX2_sortOf wsX2_sortOf ({ frames := 0, cells := 0, slots := 0, locals := 0 }) [.int x] [] (some (.int (soI x))) [] := by
  refine CT.of kX2_sortOf (Nat.le_of_ble_eq_true rfl) ?_
  intro p e s m below meth c A C E
  have C : VOk p s m _ c cX2_sortOf 1 wsX2_sortOf RX2 D (tz cs) A s.heap := C
  refine V.lvs (lv' := [(0, .int x)]) [0] rfl ?_
  refine v_iload_n C 0 dX2_sortOf_0 rfl ?_
  refine v_bipush C (v := 97) dX2_sortOf_1 (by decide) ?_
  refine v_icmp_lt C 14 dX2_sortOf_3 (by decide) (fun c1 => ?_) (fun c1 => ?_)
  · skip
    refine v_iload_n C 0 dX2_sortOf_14 rfl ?_
    refine v_bipush C (v := 44) dX2_sortOf_15 (by decide) ?_
    refine v_icmp_eq C 26 dX2_sortOf_17 (by decide) (fun c2 => ?_) (fun c2 => ?_)
    · skip
      refine v_iconst C (v := 2) dX2_sortOf_26 (by decide) ?_
      refine v_goto C 31 dX2_sortOf_27 (by decide) ?_
      exact v_iret C E (rfl) (by first | rfl | (simp [soI, c1, c2, ↓reduceIte]; done) | (simp_all [soI]; done)) dX2_sortOf_31
    · skip
      refine v_iload_n C 0 dX2_sortOf_20 rfl ?_
      refine v_bipush C (v := 59) dX2_sortOf_21 (by decide) ?_
      refine v_icmp_ne C 30 dX2_sortOf_23 (by decide) (fun c3 => ?_) (fun c3 => ?_)
      · skip
        refine v_iconst C (v := 4) dX2_sortOf_30 (by decide) ?_
        exact v_iret C E (rfl) (by first | rfl | (simp [soI, c1, c2, c3, ↓reduceIte]; done) | (simp_all [soI]; done)) dX2_sortOf_31
      · skip
        refine v_iconst C (v := 2) dX2_sortOf_26 (by decide) ?_
        refine v_goto C 31 dX2_sortOf_27 (by decide) ?_
        exact v_iret C E (rfl) (by first | rfl | (simp [soI, c1, c2, c3, ↓reduceIte]; done) | (simp_all [soI]; done)) dX2_sortOf_31
  · skip
    refine v_iload_n C 0 dX2_sortOf_6 rfl ?_
    refine v_bipush C (v := 122) dX2_sortOf_7 (by decide) ?_
    refine v_icmp_gt C 14 dX2_sortOf_9 (by decide) (fun c4 => ?_) (fun c4 => ?_)
    · skip
      refine v_iload_n C 0 dX2_sortOf_14 rfl ?_
      refine v_bipush C (v := 44) dX2_sortOf_15 (by decide) ?_
      refine v_icmp_eq C 26 dX2_sortOf_17 (by decide) (fun c5 => ?_) (fun c5 => ?_)
      · skip
        refine v_iconst C (v := 2) dX2_sortOf_26 (by decide) ?_
        refine v_goto C 31 dX2_sortOf_27 (by decide) ?_
        exact v_iret C E (rfl) (by first | rfl | (simp [soI, c1, c4, c5, ↓reduceIte]; done) | (simp_all [soI]; done)) dX2_sortOf_31
      · skip
        refine v_iload_n C 0 dX2_sortOf_20 rfl ?_
        refine v_bipush C (v := 59) dX2_sortOf_21 (by decide) ?_
        refine v_icmp_ne C 30 dX2_sortOf_23 (by decide) (fun c6 => ?_) (fun c6 => ?_)
        · skip
          refine v_iconst C (v := 4) dX2_sortOf_30 (by decide) ?_
          exact v_iret C E (rfl) (by first | rfl | (simp [soI, c1, c4, c5, c6, ↓reduceIte]; done) | (simp_all [soI]; done)) dX2_sortOf_31
        · skip
          refine v_iconst C (v := 2) dX2_sortOf_26 (by decide) ?_
          refine v_goto C 31 dX2_sortOf_27 (by decide) ?_
          exact v_iret C E (rfl) (by first | rfl | (simp [soI, c1, c4, c5, c6, ↓reduceIte]; done) | (simp_all [soI]; done)) dX2_sortOf_31
    · skip
      refine v_iconst C (v := 0) dX2_sortOf_12 (by decide) ?_
      exact v_iret C E (rfl) (by first | rfl | (simp [soI, c1, c4, ↓reduceIte]; done) | (simp_all [soI]; done)) dX2_sortOf_13
theorem kX2_kindToldBy : KD yX2_kindToldBy wsX2_kindToldBy cX2_kindToldBy 1 (some .int) 1 := ⟨⟨_, rfl⟩, by decide, by decide +kernel, by decide +kernel, by decide +kernel⟩
set_option maxHeartbeats 4000000 in
set_option maxRecDepth 100000 in
theorem c_kindToldBy (l : Launch) (D : va_G) (cs : Nat → ClassId) {x : Int32} : CT l D (tz cs) yX2_kindToldBy wsX2_kindToldBy ({ frames := 0, cells := 0, slots := 0, locals := 0 }) [.int x] [] (some (.int (kdI x))) [] := by
  refine CT.of kX2_kindToldBy (Nat.le_of_ble_eq_true rfl) ?_
  intro p e s m below meth c A C E
  have C : VOk p s m _ c cX2_kindToldBy 1 wsX2_kindToldBy RX2 D (tz cs) A s.heap := C
  refine V.lvs (lv' := [(0, .int x)]) [0] rfl ?_
  refine v_iload_n C 0 dX2_kindToldBy_0 rfl ?_
  rcases Decidable.em (x = 97) with z1 | z1
  · skip
    refine v_lookup C (off := 51) 52 dX2_kindToldBy_1 (by decide) (by first | (rw [z1]; done) | (rw [z1]; rfl)) (by decide) ?_
    refine v_iconst C (v := 1) dX2_kindToldBy_52 (by decide) ?_
    exact v_iret C E (rfl) (by first | rfl | (simp [kdI, z1, ↓reduceIte]; done) | (simp_all [kdI]; done)) dX2_kindToldBy_53
  · skip
    rcases Decidable.em (x = 109) with z2 | z2
    · skip
      refine v_lookup C (off := 55) 56 dX2_kindToldBy_1 (by decide) (by first | (rw [z2]; done) | (rw [z2]; rfl)) (by decide) ?_
      refine v_iconst C (v := 3) dX2_kindToldBy_56 (by decide) ?_
      exact v_iret C E (rfl) (by first | rfl | (simp [kdI, z1, z2, ↓reduceIte]; done) | (simp_all [kdI]; done)) dX2_kindToldBy_57
    · skip
      rcases Decidable.em (x = 110) with z3 | z3
      · skip
        refine v_lookup C (off := 59) 60 dX2_kindToldBy_1 (by decide) (by first | (rw [z3]; done) | (rw [z3]; rfl)) (by decide) ?_
        refine v_iconst C (v := 5) dX2_kindToldBy_60 (by decide) ?_
        exact v_iret C E (rfl) (by first | rfl | (simp [kdI, z1, z2, z3, ↓reduceIte]; done) | (simp_all [kdI]; done)) dX2_kindToldBy_61
      · skip
        rcases Decidable.em (x = 113) with z4 | z4
        · skip
          refine v_lookup C (off := 53) 54 dX2_kindToldBy_1 (by decide) (by first | (rw [z4]; done) | (rw [z4]; rfl)) (by decide) ?_
          refine v_iconst C (v := 2) dX2_kindToldBy_54 (by decide) ?_
          exact v_iret C E (rfl) (by first | rfl | (simp [kdI, z1, z2, z3, z4, ↓reduceIte]; done) | (simp_all [kdI]; done)) dX2_kindToldBy_55
        · skip
          rcases Decidable.em (x = 121) with z5 | z5
          · skip
            refine v_lookup C (off := 57) 58 dX2_kindToldBy_1 (by decide) (by first | (rw [z5]; done) | (rw [z5]; rfl)) (by decide) ?_
            refine v_iconst C (v := 4) dX2_kindToldBy_58 (by decide) ?_
            exact v_iret C E (rfl) (by first | rfl | (simp [kdI, z1, z2, z3, z4, z5, ↓reduceIte]; done) | (simp_all [kdI]; done)) dX2_kindToldBy_59
          · skip
            refine v_lookup C (off := 61) 62 dX2_kindToldBy_1 (by decide) ((lv_osw z1 (by rfl)).trans ((lv_osw z2 (by rfl)).trans ((lv_osw z3 (by rfl)).trans ((lv_osw z4 (by rfl)).trans ((lv_osw z5 (by rfl)).trans (rfl)))))) (by decide) ?_
            refine v_iconst C (v := 0) dX2_kindToldBy_62 (by decide) ?_
            exact v_iret C E (rfl) (by first | rfl | (simp [kdI, z1, z2, z3, z4, z5, ↓reduceIte]; done) | (simp_all [kdI]; done)) dX2_kindToldBy_63
theorem kX2_readFigures : KD yX2_readFigures wsX2_readFigures cX2_readFigures 3 none 0 := ⟨⟨_, rfl⟩, by decide, by decide +kernel, by decide +kernel, by decide +kernel⟩
theorem in_X2_readFigures_X2 : ∀ w ∈ wsX20, w ∈ wsX2_readFigures := by decide +kernel
theorem fl_X2_readFigures_70 : FL RX2 wsX2_readFigures RX2 RX2 TX2 6 2 2 70 := ⟨⟨in_X2_readFigures_X2, rfl, by decide, rfl⟩, by decide +kernel⟩
theorem fl_X2_readFigures_15 : FL RX2 wsX2_readFigures RX2 RX2 TX2 6 2 1 15 := ⟨⟨in_X2_readFigures_X2, rfl, by decide, rfl⟩, by decide +kernel⟩
theorem fl_X2_readFigures_33 : FL RX2 wsX2_readFigures RX2 RX2 TX2 6 2 4 33 := ⟨⟨in_X2_readFigures_X2, rfl, by decide, rfl⟩, by decide +kernel⟩
theorem fp_X2_4 : FP TX2 6 4 tyX2 .int := ⟨tyX2_ok, nmX2, rfl, by decide +kernel⟩
theorem fl_X2_readFigures_23 : FL RX2 wsX2_readFigures RX2 RX2 TX2 6 2 3 23 := ⟨⟨in_X2_readFigures_X2, rfl, by decide, rfl⟩, by decide +kernel⟩
theorem fp_X2_3 : FP TX2 6 3 tyX2 .int := ⟨tyX2_ok, nmX2, rfl, by decide +kernel⟩
theorem fl_X2_readFigures_9 : FL RX2 wsX2_readFigures RX2 RX2 TX2 6 2 0 9 := ⟨⟨in_X2_readFigures_X2, rfl, by decide, rfl⟩, by decide +kernel⟩
theorem nq_X2_readFigures_X5_at : Cond.initialized yX5_at.cls ∈ wsX2_readFigures ∧ Cond.static yX5_at ∈ wsX2_readFigures := ⟨by decide +kernel, by decide +kernel⟩
theorem fl_X2_readFigures_39 : FL RX2 wsX2_readFigures RX2 RX2 TX2 6 2 5 39 := ⟨⟨in_X2_readFigures_X2, rfl, by decide, rfl⟩, by decide +kernel⟩
theorem fp_X2_5 : FP TX2 6 5 tyX2 .int := ⟨tyX2_ok, nmX2, rfl, by decide +kernel⟩
set_option maxHeartbeats 4000000 in
set_option maxRecDepth 100000 in
theorem c_readFigures (l : Launch) (D : va_G) (cs : Nat → ClassId) {xd : Nat} {xt : Nat} {f : Nat → Int32} {len : Nat} {q : Nat} {nx : Int32} {so : Int32} (hq : q ≤ len) (hlen : len ≤ 120) : CT l D (tz cs) yX2_readFigures wsX2_readFigures ({ frames := 1, cells := 0, slots := 0, locals := 21 }) [.ref xd] [(xd, .inr (2, [.ref xt, .int (nI len), .int (nI q), .int nx, .int so, .int 0])), (xt, .inl (cs 0, 120, .inl f))] none [(xd, .inr (2, [.ref xt, .int (nI len), .int (nI q), .int (nI (q + dg f (len - q) q)), .int (if dg f (len - q) q ≤ 2 then 1 else 4), .int (dv f q (dg f (len - q) q))])), (xt, .inl (cs 0, 120, .inl f))] := by
  refine CT.of kX2_readFigures (Nat.le_of_ble_eq_true rfl) ?_
  intro p e s m below meth c A C E
  have C : VOk p s m _ c cX2_readFigures 3 wsX2_readFigures RX2 D (tz cs) A s.heap := C
  refine V.lvs (lv' := [(0, .ref xd)]) [0] rfl ?_
  refine v_iconst C (v := 0) dX2_readFigures_0 (by decide) ?_
  refine v_istore_n C [(0, .ref xd), (1, .int 0)] [1, 0] dX2_readFigures_1 (by decide) rfl ?_
  refine v_aload_n C 0 dX2_readFigures_2 rfl ?_
  refine v_get C (v := .int (nI q)) fl_X2_readFigures_70 0 rfl rfl dX2_readFigures_3 ?_
  refine v_istore_n C [(0, .ref xd), (1, .int 0), (2, .int (nI q))] [1, 2, 0] dX2_readFigures_6 (by decide) rfl ?_
  have L7 : ∀ (n : Nat) (k : Nat) (y0 : Int32) (y1 : Int32) (y2 : Int32), y0 = (nI k) → y1 = (nI (q + k)) → y2 = (dv f q k) → (k ≤ len - q ∧ dg f (len - q) q = k + dg f (len - q - k) (q + k)) → (len - q - k) < n → V p l e ({ frames := 1, cells := 0, slots := 0, locals := 21 }) s m (List.toArray [.ref xd]) below meth c 0 0 (MQ below (vq_Q none D [(xd, .inr (2, [.ref xt, .int (nI len), .int (nI q), .int (nI (q + dg f (len - q) q)), .int (if dg f (len - q) q ≤ 2 then 1 else 4), .int (dv f q (dg f (len - q) q))])), (xt, .inl (cs 0, 120, .inl f))] [(xd, .inr (2, [.ref xt, .int (nI len), .int (nI q), .int nx, .int so, .int 0])), (xt, .inl (cs 0, 120, .inl f))] s.heap.size) (List.toArray [.ref xd]) s 0 0 (va_A [(xd, .inr (2, [.ref xt, .int (nI len), .int (nI q), .int nx, .int so, .int 0])), (xt, .inl (cs 0, 120, .inl f))] s.heap.size)) 3 D A s.heap 7 [(0, .ref xd), (1, .int y0), (2, .int y1)] [] [(xd, .inr (2, [.ref xt, .int (nI len), .int (nI q), .int nx, .int so, .int y2])), (xt, .inl (cs 0, 120, .inl f))] := by
    intro n
    induction n with
    | zero =>
      intros; omega
    | succ n ih7 =>
      intro k y0 y1 y2 ey0 ey1 ey2 hk hn
      subst ey0
      subst ey1
      subst ey2
      refine v_iload_n C 2 dX2_readFigures_7 rfl ?_
      refine v_aload_n C 0 dX2_readFigures_8 rfl ?_
      refine v_get C (v := .int (nI len)) fl_X2_readFigures_15 0 rfl rfl dX2_readFigures_9 ?_
      refine v_icmp_ge C 66 dX2_readFigures_12 (by decide) (fun c1 => ?_) (fun c1 => ?_)
      · skip
        have hd : dg f (len - q) q = k := by first | (have h9 := le_nI c1 (by omega) (by omega); rw [hk.2, show len - q - k = 0 by omega]; rfl) | (rw [hk.2, show len - q - k = (len - q - k - 1) + 1 by omega, dg, if_neg (by rw [c1]; decide)]; rfl)
        refine v_aload_n C 0 dX2_readFigures_66 rfl ?_
        refine v_iload_n C 1 dX2_readFigures_67 rfl ?_
        refine v_iconst C (v := 2) dX2_readFigures_68 (by decide) ?_
        refine v_icmp_gt C 76 dX2_readFigures_69 (by decide) (fun c2 => ?_) (fun c2 => ?_)
        · skip
          refine v_iconst C (v := 4) dX2_readFigures_76 (by decide) ?_
          refine v_put C fl_X2_readFigures_33 fp_X2_4 0 rfl rfl rfl (Nat.le_of_ble_eq_true rfl) [(xd, .inr (2, [.ref xt, .int (nI len), .int (nI q), .int nx, .int 4, .int (dv f q k)])), (xt, .inl (cs 0, 120, .inl f))] rfl dX2_readFigures_77 ?_
          refine v_aload_n C 0 dX2_readFigures_80 rfl ?_
          refine v_aload_n C 0 dX2_readFigures_81 rfl ?_
          refine v_get C (v := .int (nI q)) fl_X2_readFigures_70 0 rfl rfl dX2_readFigures_82 ?_
          refine v_iload_n C 1 dX2_readFigures_85 rfl ?_
          refine v_iadd C dX2_readFigures_86 ?_
          refine v_put C fl_X2_readFigures_23 fp_X2_3 0 rfl rfl rfl (Nat.le_of_ble_eq_true rfl) [(xd, .inr (2, [.ref xt, .int (nI len), .int (nI q), .int ((nI q) + (nI k)), .int 4, .int (dv f q k)])), (xt, .inl (cs 0, 120, .inl f))] rfl dX2_readFigures_87 ?_
          exact v_vret C E (by rw [hd, nI_add, if_neg (by have h9 := lt_nI (a := 2) (b := k) c2 (by omega) (by omega); omega)]) dX2_readFigures_90
        · skip
          refine v_iconst C (v := 1) dX2_readFigures_72 (by decide) ?_
          refine v_goto C 77 dX2_readFigures_73 (by decide) ?_
          refine v_put C fl_X2_readFigures_33 fp_X2_4 0 rfl rfl rfl (Nat.le_of_ble_eq_true rfl) [(xd, .inr (2, [.ref xt, .int (nI len), .int (nI q), .int nx, .int 1, .int (dv f q k)])), (xt, .inl (cs 0, 120, .inl f))] rfl dX2_readFigures_77 ?_
          refine v_aload_n C 0 dX2_readFigures_80 rfl ?_
          refine v_aload_n C 0 dX2_readFigures_81 rfl ?_
          refine v_get C (v := .int (nI q)) fl_X2_readFigures_70 0 rfl rfl dX2_readFigures_82 ?_
          refine v_iload_n C 1 dX2_readFigures_85 rfl ?_
          refine v_iadd C dX2_readFigures_86 ?_
          refine v_put C fl_X2_readFigures_23 fp_X2_3 0 rfl rfl rfl (Nat.le_of_ble_eq_true rfl) [(xd, .inr (2, [.ref xt, .int (nI len), .int (nI q), .int ((nI q) + (nI k)), .int 1, .int (dv f q k)])), (xt, .inl (cs 0, 120, .inl f))] rfl dX2_readFigures_87 ?_
          exact v_vret C E (by rw [hd, nI_add, if_pos (by have h9 := nlt_nI (a := 2) (b := k) c2 (by omega) (by omega); omega)]) dX2_readFigures_90
      · skip
        have hlt : q + k < len := nle_nI c1 (by omega) (by omega)
        refine v_aload_n C 0 dX2_readFigures_15 rfl ?_
        refine v_get C (v := .ref xt) fl_X2_readFigures_9 0 rfl rfl dX2_readFigures_16 ?_
        refine v_iload_n C 2 dX2_readFigures_19 rfl ?_
        refine v_callSN C [.ref xt, .int (nI (q + k))] [] kX5_at gX2_readFigures_X5_at_n73 (host := "TableShares") (by decide +kernel) nq_X2_readFigures_X5_at (c_at l D cs (ga := xt) (n := 120) (f := f) (i := (nI (q + k))) (by decide)) ⟨Nat.le_of_ble_eq_true rfl, Nat.le_of_ble_eq_true rfl⟩ ⟨rfl, rfl⟩ ⟨Nat.zero_le _, Nat.zero_le _⟩ rfl rfl (Nat.le_of_ble_eq_true rfl) [1] [(xd, .inr (2, [.ref xt, .int (nI len), .int (nI q), .int nx, .int so, .int (dv f q k)])), (xt, .inl (cs 0, 120, .inl f))] rfl (by decide) (show [xt] = [xt] from rfl) (rfl) dX2_readFigures_20 ?_
        refine V.sts (st' := [.int (gA f 120 (nI (q + k)))]) rfl ?_
        refine V.topr (y := f (q + k)) (gA_in (by omega) (by decide)) ?_
        refine v_callS C [.int (f (q + k))] [] kX2_isFigure gX2_readFigures_X2_isFigure (c_isFigure l D cs (x := f (q + k)) ) ⟨Nat.le_of_ble_eq_true rfl, Nat.le_of_ble_eq_true rfl⟩ ⟨rfl, rfl⟩ ⟨Nat.zero_le _, Nat.zero_le _⟩ rfl rfl (Nat.le_of_ble_eq_true rfl) [] [(xd, .inr (2, [.ref xt, .int (nI len), .int (nI q), .int nx, .int so, .int (dv f q k)])), (xt, .inl (cs 0, 120, .inl f))] rfl (by decide) rfl (rfl) dX2_readFigures_23 ?_
        refine V.sts (st' := [.int (b2 (fig (f (q + k))))]) rfl ?_
        refine v_if_eqB C 66 dX2_readFigures_26 (by decide) (fun c3 => ?_) (fun c3 => ?_)
        · skip
          have hd : dg f (len - q) q = k := by first | (have h9 := le_nI c3 (by omega) (by omega); rw [hk.2, show len - q - k = 0 by omega]; rfl) | (rw [hk.2, show len - q - k = (len - q - k - 1) + 1 by omega, dg, if_neg (by rw [c3]; decide)]; rfl)
          refine v_aload_n C 0 dX2_readFigures_66 rfl ?_
          refine v_iload_n C 1 dX2_readFigures_67 rfl ?_
          refine v_iconst C (v := 2) dX2_readFigures_68 (by decide) ?_
          refine v_icmp_gt C 76 dX2_readFigures_69 (by decide) (fun c4 => ?_) (fun c4 => ?_)
          · skip
            refine v_iconst C (v := 4) dX2_readFigures_76 (by decide) ?_
            refine v_put C fl_X2_readFigures_33 fp_X2_4 0 rfl rfl rfl (Nat.le_of_ble_eq_true rfl) [(xd, .inr (2, [.ref xt, .int (nI len), .int (nI q), .int nx, .int 4, .int (dv f q k)])), (xt, .inl (cs 0, 120, .inl f))] rfl dX2_readFigures_77 ?_
            refine v_aload_n C 0 dX2_readFigures_80 rfl ?_
            refine v_aload_n C 0 dX2_readFigures_81 rfl ?_
            refine v_get C (v := .int (nI q)) fl_X2_readFigures_70 0 rfl rfl dX2_readFigures_82 ?_
            refine v_iload_n C 1 dX2_readFigures_85 rfl ?_
            refine v_iadd C dX2_readFigures_86 ?_
            refine v_put C fl_X2_readFigures_23 fp_X2_3 0 rfl rfl rfl (Nat.le_of_ble_eq_true rfl) [(xd, .inr (2, [.ref xt, .int (nI len), .int (nI q), .int ((nI q) + (nI k)), .int 4, .int (dv f q k)])), (xt, .inl (cs 0, 120, .inl f))] rfl dX2_readFigures_87 ?_
            exact v_vret C E (by rw [hd, nI_add, if_neg (by have h9 := lt_nI (a := 2) (b := k) c4 (by omega) (by omega); omega)]) dX2_readFigures_90
          · skip
            refine v_iconst C (v := 1) dX2_readFigures_72 (by decide) ?_
            refine v_goto C 77 dX2_readFigures_73 (by decide) ?_
            refine v_put C fl_X2_readFigures_33 fp_X2_4 0 rfl rfl rfl (Nat.le_of_ble_eq_true rfl) [(xd, .inr (2, [.ref xt, .int (nI len), .int (nI q), .int nx, .int 1, .int (dv f q k)])), (xt, .inl (cs 0, 120, .inl f))] rfl dX2_readFigures_77 ?_
            refine v_aload_n C 0 dX2_readFigures_80 rfl ?_
            refine v_aload_n C 0 dX2_readFigures_81 rfl ?_
            refine v_get C (v := .int (nI q)) fl_X2_readFigures_70 0 rfl rfl dX2_readFigures_82 ?_
            refine v_iload_n C 1 dX2_readFigures_85 rfl ?_
            refine v_iadd C dX2_readFigures_86 ?_
            refine v_put C fl_X2_readFigures_23 fp_X2_3 0 rfl rfl rfl (Nat.le_of_ble_eq_true rfl) [(xd, .inr (2, [.ref xt, .int (nI len), .int (nI q), .int ((nI q) + (nI k)), .int 1, .int (dv f q k)])), (xt, .inl (cs 0, 120, .inl f))] rfl dX2_readFigures_87 ?_
            exact v_vret C E (by rw [hd, nI_add, if_pos (by have h9 := nlt_nI (a := 2) (b := k) c4 (by omega) (by omega); omega)]) dX2_readFigures_90
        · skip
          refine v_iinc C (k := 1) (nI (k + 1)) [(0, .ref xd), (1, .int (nI (k + 1))), (2, .int (nI (q + k)))] [1, 0, 2] dX2_readFigures_29 rfl (nI_inc _) (by decide) rfl ?_
          refine v_iload_n C 1 dX2_readFigures_32 rfl ?_
          refine v_iconst C (v := 2) dX2_readFigures_33 (by decide) ?_
          refine v_icmp_gt C 60 dX2_readFigures_34 (by decide) (fun c5 => ?_) (fun c5 => ?_)
          · skip
            refine v_iinc C (k := 2) (nI ((q + k) + 1)) [(0, .ref xd), (1, .int (nI (k + 1))), (2, .int (nI ((q + k) + 1)))] [1, 2, 0] dX2_readFigures_60 rfl (nI_inc _) (by decide) rfl ?_
            refine v_goto C 7 dX2_readFigures_63 (by decide) ?_
            exact ih7 (k + 1) _ _ _ (rfl) (rfl) (by rw [dv, if_neg (by have h9 := lt_nI (a := 2) (b := k + 1) c5 (by omega) (by omega); omega)]) (⟨by omega, by rw [hk.2, show len - q - k = (len - q - (k + 1)) + 1 by omega, dg, if_pos c3, Nat.add_assoc q k 1]; omega⟩) (by omega)
          · skip
            refine v_aload_n C 0 dX2_readFigures_37 rfl ?_
            refine v_bipush C (v := 10) dX2_readFigures_38 (by decide) ?_
            refine v_aload_n C 0 dX2_readFigures_40 rfl ?_
            refine v_get C (v := .int (dv f q k)) fl_X2_readFigures_39 0 rfl rfl dX2_readFigures_41 ?_
            refine v_imul C dX2_readFigures_44 ?_
            refine v_aload_n C 0 dX2_readFigures_45 rfl ?_
            refine v_get C (v := .ref xt) fl_X2_readFigures_9 0 rfl rfl dX2_readFigures_46 ?_
            refine v_iload_n C 2 dX2_readFigures_49 rfl ?_
            refine v_callSN C [.ref xt, .int (nI (q + k))] [.int (10 * (dv f q k)), .ref xd] kX5_at gX2_readFigures_X5_at_n73 (host := "TableShares") (by decide +kernel) nq_X2_readFigures_X5_at (c_at l D cs (ga := xt) (n := 120) (f := f) (i := (nI (q + k))) (by decide)) ⟨Nat.le_of_ble_eq_true rfl, Nat.le_of_ble_eq_true rfl⟩ ⟨rfl, rfl⟩ ⟨Nat.zero_le _, Nat.zero_le _⟩ rfl rfl (Nat.le_of_ble_eq_true rfl) [1] [(xd, .inr (2, [.ref xt, .int (nI len), .int (nI q), .int nx, .int so, .int (dv f q k)])), (xt, .inl (cs 0, 120, .inl f))] rfl (by decide) (show [xt] = [xt] from rfl) (rfl) dX2_readFigures_50 ?_
            refine V.sts (st' := [.int (gA f 120 (nI (q + k))), .int (10 * (dv f q k)), .ref xd]) rfl ?_
            refine v_iadd C dX2_readFigures_53 ?_
            refine v_bipush C (v := 48) dX2_readFigures_54 (by decide) ?_
            refine v_isub C dX2_readFigures_56 ?_
            refine v_put C fl_X2_readFigures_39 fp_X2_5 0 rfl rfl rfl (Nat.le_of_ble_eq_true rfl) [(xd, .inr (2, [.ref xt, .int (nI len), .int (nI q), .int nx, .int so, .int (((10 * (dv f q k)) + (gA f 120 (nI (q + k)))) - 48)])), (xt, .inl (cs 0, 120, .inl f))] rfl dX2_readFigures_57 ?_
            refine v_iinc C (k := 2) (nI ((q + k) + 1)) [(0, .ref xd), (1, .int (nI (k + 1))), (2, .int (nI ((q + k) + 1)))] [1, 2, 0] dX2_readFigures_60 rfl (nI_inc _) (by decide) rfl ?_
            refine v_goto C 7 dX2_readFigures_63 (by decide) ?_
            exact ih7 (k + 1) _ _ _ (rfl) (rfl) (by rw [dv, if_pos (by have h9 := nlt_nI (a := 2) (b := k + 1) c5 (by omega) (by omega); omega), gA_in (by omega) (by decide)]) (⟨by omega, by rw [hk.2, show len - q - k = (len - q - (k + 1)) + 1 by omega, dg, if_pos c3, Nat.add_assoc q k 1]; omega⟩) (by omega)
  exact L7 _ 0 _ _ _ (rfl) (rfl) (rfl) (⟨Nat.zero_le _, by rw [Nat.zero_add]; rfl⟩) (Nat.lt_succ_self _)
theorem kX2_step : KD yX2_step wsX2_step cX2_step 1 none 0 := ⟨⟨_, rfl⟩, by decide, by decide +kernel, by decide +kernel, by decide +kernel⟩
theorem in_X2_step_X2 : ∀ w ∈ wsX20, w ∈ wsX2_step := by decide +kernel
theorem fl_X2_step_23 : FL RX2 wsX2_step RX2 RX2 TX2 6 2 3 23 := ⟨⟨in_X2_step_X2, rfl, by decide, rfl⟩, by decide +kernel⟩
theorem fl_X2_step_70 : FL RX2 wsX2_step RX2 RX2 TX2 6 2 2 70 := ⟨⟨in_X2_step_X2, rfl, by decide, rfl⟩, by decide +kernel⟩
theorem fp_X2_2 : FP TX2 6 2 tyX2 .int := ⟨tyX2_ok, nmX2, rfl, by decide +kernel⟩
theorem fl_X2_step_39 : FL RX2 wsX2_step RX2 RX2 TX2 6 2 5 39 := ⟨⟨in_X2_step_X2, rfl, by decide, rfl⟩, by decide +kernel⟩
theorem fl_X2_step_15 : FL RX2 wsX2_step RX2 RX2 TX2 6 2 1 15 := ⟨⟨in_X2_step_X2, rfl, by decide, rfl⟩, by decide +kernel⟩
theorem fl_X2_step_9 : FL RX2 wsX2_step RX2 RX2 TX2 6 2 0 9 := ⟨⟨in_X2_step_X2, rfl, by decide, rfl⟩, by decide +kernel⟩
theorem nq_X2_step_X5_at : Cond.initialized yX5_at.cls ∈ wsX2_step ∧ Cond.static yX5_at ∈ wsX2_step := ⟨by decide +kernel, by decide +kernel⟩
theorem fl_X2_step_33 : FL RX2 wsX2_step RX2 RX2 TX2 6 2 4 33 := ⟨⟨in_X2_step_X2, rfl, by decide, rfl⟩, by decide +kernel⟩
set_option maxHeartbeats 4000000 in
set_option maxRecDepth 100000 in
theorem c_step (l : Launch) (D : va_G) (cs : Nat → ClassId) {xd : Nat} {xt : Nat} {f : Nat → Int32} {len : Nat} {q : Nat} {pl : Int32} {so : Int32} {va : Int32} (hq : q ≤ len) (hlen : len ≤ 120) : CT l D (tz cs) yX2_step wsX2_step ({ frames := 2, cells := 0, slots := 0, locals := 43 }) [.ref xd] [(xd, .inr (2, [.ref xt, .int (nI len), .int pl, .int (nI q), .int so, .int va])), (xt, .inl (cs 0, 120, .inl f))] none [(xd, .inr (2, [.ref xt, .int (nI len), .int (nI q), .int (nI (tkN f len q)), .int (tkS f len q), .int (tkV f len q)])), (xt, .inl (cs 0, 120, .inl f))] := by
  refine CT.of kX2_step (Nat.le_of_ble_eq_true rfl) ?_
  intro p e s m below meth c A C E
  have C : VOk p s m _ c cX2_step 1 wsX2_step RX2 D (tz cs) A s.heap := C
  refine V.lvs (lv' := [(0, .ref xd)]) [0] rfl ?_
  refine v_aload_n C 0 dX2_step_0 rfl ?_
  refine v_aload_n C 0 dX2_step_1 rfl ?_
  refine v_get C (v := .int (nI q)) fl_X2_step_23 0 rfl rfl dX2_step_2 ?_
  refine v_put C fl_X2_step_70 fp_X2_2 0 rfl rfl rfl (Nat.le_of_ble_eq_true rfl) [(xd, .inr (2, [.ref xt, .int (nI len), .int (nI q), .int (nI q), .int so, .int va])), (xt, .inl (cs 0, 120, .inl f))] rfl dX2_step_5 ?_
  refine v_aload_n C 0 dX2_step_8 rfl ?_
  refine v_iconst C (v := 0) dX2_step_9 (by decide) ?_
  refine v_put C fl_X2_step_39 fp_X2_5 0 rfl rfl rfl (Nat.le_of_ble_eq_true rfl) [(xd, .inr (2, [.ref xt, .int (nI len), .int (nI q), .int (nI q), .int so, .int 0])), (xt, .inl (cs 0, 120, .inl f))] rfl dX2_step_10 ?_
  refine v_aload_n C 0 dX2_step_13 rfl ?_
  refine v_get C (v := .int (nI q)) fl_X2_step_70 0 rfl rfl dX2_step_14 ?_
  refine v_aload_n C 0 dX2_step_17 rfl ?_
  refine v_get C (v := .int (nI len)) fl_X2_step_15 0 rfl rfl dX2_step_18 ?_
  refine v_icmp_lt C 32 dX2_step_21 (by decide) (fun c1 => ?_) (fun c1 => ?_)
  · skip
    have hlt : q < len := lt_nI c1 (by omega) (by omega)
    refine v_aload_n C 0 dX2_step_32 rfl ?_
    refine v_get C (v := .ref xt) fl_X2_step_9 0 rfl rfl dX2_step_33 ?_
    refine v_aload_n C 0 dX2_step_36 rfl ?_
    refine v_get C (v := .int (nI q)) fl_X2_step_70 0 rfl rfl dX2_step_37 ?_
    refine v_callSN C [.ref xt, .int (nI q)] [] kX5_at gX2_step_X5_at_n73 (host := "TableShares") (by decide +kernel) nq_X2_step_X5_at (c_at l D cs (ga := xt) (n := 120) (f := f) (i := (nI q)) (by decide)) ⟨Nat.le_of_ble_eq_true rfl, Nat.le_of_ble_eq_true rfl⟩ ⟨rfl, rfl⟩ ⟨Nat.zero_le _, Nat.zero_le _⟩ rfl rfl (Nat.le_of_ble_eq_true rfl) [1] [(xd, .inr (2, [.ref xt, .int (nI len), .int (nI q), .int (nI q), .int so, .int 0])), (xt, .inl (cs 0, 120, .inl f))] rfl (by decide) (show [xt] = [xt] from rfl) (rfl) dX2_step_40 ?_
    refine V.sts (st' := [.int (gA f 120 (nI q))]) rfl ?_
    refine V.topr (y := f q) (gA_in (by omega) (by decide)) ?_
    refine v_callS C [.int (f q)] [] kX2_isFigure gX2_step_X2_isFigure (c_isFigure l D cs (x := f q) ) ⟨Nat.le_of_ble_eq_true rfl, Nat.le_of_ble_eq_true rfl⟩ ⟨rfl, rfl⟩ ⟨Nat.zero_le _, Nat.zero_le _⟩ rfl rfl (Nat.le_of_ble_eq_true rfl) [] [(xd, .inr (2, [.ref xt, .int (nI len), .int (nI q), .int (nI q), .int so, .int 0])), (xt, .inl (cs 0, 120, .inl f))] rfl (by decide) rfl (rfl) dX2_step_43 ?_
    refine V.sts (st' := [.int (b2 (fig (f q)))]) rfl ?_
    refine v_if_eqB C 56 dX2_step_46 (by decide) (fun c2 => ?_) (fun c2 => ?_)
    · skip
      refine v_aload_n C 0 dX2_step_56 rfl ?_
      refine v_aload_n C 0 dX2_step_57 rfl ?_
      refine v_get C (v := .ref xt) fl_X2_step_9 0 rfl rfl dX2_step_58 ?_
      refine v_aload_n C 0 dX2_step_61 rfl ?_
      refine v_get C (v := .int (nI q)) fl_X2_step_70 0 rfl rfl dX2_step_62 ?_
      refine v_callSN C [.ref xt, .int (nI q)] [.ref xd] kX5_at gX2_step_X5_at_n73 (host := "TableShares") (by decide +kernel) nq_X2_step_X5_at (c_at l D cs (ga := xt) (n := 120) (f := f) (i := (nI q)) (by decide)) ⟨Nat.le_of_ble_eq_true rfl, Nat.le_of_ble_eq_true rfl⟩ ⟨rfl, rfl⟩ ⟨Nat.zero_le _, Nat.zero_le _⟩ rfl rfl (Nat.le_of_ble_eq_true rfl) [1] [(xd, .inr (2, [.ref xt, .int (nI len), .int (nI q), .int (nI q), .int so, .int 0])), (xt, .inl (cs 0, 120, .inl f))] rfl (by decide) (show [xt] = [xt] from rfl) (rfl) dX2_step_65 ?_
      refine V.sts (st' := [.int (gA f 120 (nI q)), .ref xd]) rfl ?_
      refine V.topr (y := f q) (gA_in (by omega) (by decide)) ?_
      refine v_put C fl_X2_step_39 fp_X2_5 0 rfl rfl rfl (Nat.le_of_ble_eq_true rfl) [(xd, .inr (2, [.ref xt, .int (nI len), .int (nI q), .int (nI q), .int so, .int (f q)])), (xt, .inl (cs 0, 120, .inl f))] rfl dX2_step_68 ?_
      refine v_aload_n C 0 dX2_step_71 rfl ?_
      refine v_aload_n C 0 dX2_step_72 rfl ?_
      refine v_get C (v := .int (f q)) fl_X2_step_39 0 rfl rfl dX2_step_73 ?_
      refine v_callS C [.int (f q)] [.ref xd] kX2_sortOf gX2_step_X2_sortOf (c_sortOf l D cs (x := (f q)) ) ⟨Nat.le_of_ble_eq_true rfl, Nat.le_of_ble_eq_true rfl⟩ ⟨rfl, rfl⟩ ⟨Nat.zero_le _, Nat.zero_le _⟩ rfl rfl (Nat.le_of_ble_eq_true rfl) [] [(xd, .inr (2, [.ref xt, .int (nI len), .int (nI q), .int (nI q), .int so, .int (f q)])), (xt, .inl (cs 0, 120, .inl f))] rfl (by decide) rfl (rfl) dX2_step_76 ?_
      refine V.sts (st' := [.int (soI (f q)), .ref xd]) rfl ?_
      refine v_put C fl_X2_step_33 fp_X2_4 0 rfl rfl rfl (Nat.le_of_ble_eq_true rfl) [(xd, .inr (2, [.ref xt, .int (nI len), .int (nI q), .int (nI q), .int (soI (f q)), .int (f q)])), (xt, .inl (cs 0, 120, .inl f))] rfl dX2_step_79 ?_
      refine v_aload_n C 0 dX2_step_82 rfl ?_
      refine v_aload_n C 0 dX2_step_83 rfl ?_
      refine v_get C (v := .int (nI q)) fl_X2_step_70 0 rfl rfl dX2_step_84 ?_
      refine v_iconst C (v := 1) dX2_step_87 (by decide) ?_
      refine v_iadd C dX2_step_88 ?_
      refine v_put C fl_X2_step_23 fp_X2_3 0 rfl rfl rfl (Nat.le_of_ble_eq_true rfl) [(xd, .inr (2, [.ref xt, .int (nI len), .int (nI q), .int ((nI q) + 1), .int (soI (f q)), .int (f q)])), (xt, .inl (cs 0, 120, .inl f))] rfl dX2_step_89 ?_
      exact v_vret C E (by first | (simp only [tkN, tkS, tkV, if_pos hge]; done) | (simp only [tkN, tkS, tkV, if_neg (Nat.not_le.mpr hlt), if_pos c2]; done) | (simp [tkN, tkS, tkV, Nat.not_le.mpr hlt, c2, nI_1]; done)) dX2_step_92
    · skip
      refine v_aload_n C 0 dX2_step_49 rfl ?_
      refine v_callV (qi := 0) C [] [] kX2_readFigures gX2_step_X2_readFigures (c_readFigures l D cs (xd := xd) (xt := xt) (f := f) (len := len) (q := q) (nx := (nI q)) (so := so) (by first | assumption | omega) (by first | assumption | omega)) ⟨Nat.le_of_ble_eq_true rfl, Nat.le_of_ble_eq_true rfl⟩ ⟨rfl, rfl⟩ ⟨Nat.zero_le _, Nat.zero_le _⟩ rfl 0 rfl rfl rfl rfl (Nat.le_of_ble_eq_true rfl) [0, 1] [(xd, .inr (2, [.ref xt, .int (nI len), .int (nI q), .int (nI (q + dg f (len - q) q)), .int (if dg f (len - q) q ≤ 2 then 1 else 4), .int (dv f q (dg f (len - q) q))])), (xt, .inl (cs 0, 120, .inl f))] rfl (by decide) (show [xd, xt] = [xd, xt] from rfl) (rfl) dX2_step_50 ?_
      refine V.sts (st' := []) rfl ?_
      refine v_goto C 92 dX2_step_53 (by decide) ?_
      exact v_vret C E (by first | (simp only [tkN, tkS, tkV, if_pos hge]; done) | (simp only [tkN, tkS, tkV, if_neg (Nat.not_le.mpr hlt), if_pos c2]; done) | (simp [tkN, tkS, tkV, Nat.not_le.mpr hlt, c2, nI_1]; done)) dX2_step_92
  · skip
    have hge : len ≤ q := nlt_nI c1 (by omega) (by omega)
    refine v_aload_n C 0 dX2_step_24 rfl ?_
    refine v_iconst C (v := 3) dX2_step_25 (by decide) ?_
    refine v_put C fl_X2_step_33 fp_X2_4 0 rfl rfl rfl (Nat.le_of_ble_eq_true rfl) [(xd, .inr (2, [.ref xt, .int (nI len), .int (nI q), .int (nI q), .int 3, .int 0])), (xt, .inl (cs 0, 120, .inl f))] rfl dX2_step_26 ?_
    refine v_goto C 92 dX2_step_29 (by decide) ?_
    exact v_vret C E (by first | (simp only [tkN, tkS, tkV, if_pos hge]; done) | (simp only [tkN, tkS, tkV, if_neg (Nat.not_le.mpr hlt), if_pos c1]; done) | (simp [tkN, tkS, tkV, Nat.not_le.mpr hlt, c1, nI_1]; done)) dX2_step_92
theorem kX2_numberFault : KD yX2_numberFault wsX2_numberFault cX2_numberFault 3 (some .int) 2 := ⟨⟨_, rfl⟩, by decide, by decide +kernel, by decide +kernel, by decide +kernel⟩
theorem in_X2_numberFault_X2 : ∀ w ∈ wsX20, w ∈ wsX2_numberFault := by decide +kernel
theorem fl_X2_numberFault_33 : FL RX2 wsX2_numberFault RX2 RX2 TX2 6 2 4 33 := ⟨⟨in_X2_numberFault_X2, rfl, by decide, rfl⟩, by decide +kernel⟩
theorem fl_X2_numberFault_39 : FL RX2 wsX2_numberFault RX2 RX2 TX2 6 2 5 39 := ⟨⟨in_X2_numberFault_X2, rfl, by decide, rfl⟩, by decide +kernel⟩
set_option maxHeartbeats 4000000 in
set_option maxRecDepth 100000 in
theorem c_numberFault (l : Launch) (D : va_G) (cs : Nat → ClassId) {xd : Nat} {xt : Nat} {f : Nat → Int32} {len : Nat} {q : Nat} {lo : Int32} {hi : Int32} (hq : q ≤ len) (hlen : len ≤ 120) : CT l D (tz cs) yX2_numberFault wsX2_numberFault ({ frames := 3, cells := 0, slots := 0, locals := 63 }) [.ref xd, .int lo, .int hi] [(xd, .inr (2, [.ref xt, .int (nI len), .int (nI q), .int (nI (tkN f len q)), .int (tkS f len q), .int (tkV f len q)])), (xt, .inl (cs 0, 120, .inl f))] (some (.int (nfI f len (tkN f len q) lo hi))) [(xd, .inr (2, [.ref xt, .int (nI len), .int (nI (tkN f len q)), .int (nI (tkN f len (tkN f len q))), .int (tkS f len (tkN f len q)), .int (tkV f len (tkN f len q))])), (xt, .inl (cs 0, 120, .inl f))] := by
  refine CT.of kX2_numberFault (Nat.le_of_ble_eq_true rfl) ?_
  intro p e s m below meth c A C E
  have C : VOk p s m _ c cX2_numberFault 3 wsX2_numberFault RX2 D (tz cs) A s.heap := C
  refine V.lvs (lv' := [(0, .ref xd), (1, .int lo), (2, .int hi)]) [0, 1, 2] rfl ?_
  refine v_aload_n C 0 dX2_numberFault_0 rfl ?_
  refine v_callV (qi := 0) C [] [] kX2_step gX2_numberFault_X2_step (c_step l D cs (xd := xd) (xt := xt) (f := f) (len := len) (q := (tkN f len q)) (pl := (nI q)) (so := (tkS f len q)) (va := (tkV f len q)) (by first | assumption | exact tkN_le (by assumption) | exact tkN_le (tkN_le (by assumption)) | exact tkN_le (tkN_le (tkN_le (by assumption))) | exact tkN_le (tkN_le (tkN_le (tkN_le (by assumption))))) (by first | assumption | omega)) ⟨Nat.le_of_ble_eq_true rfl, Nat.le_of_ble_eq_true rfl⟩ ⟨rfl, rfl⟩ ⟨Nat.zero_le _, Nat.zero_le _⟩ rfl 0 rfl rfl rfl rfl (Nat.le_of_ble_eq_true rfl) [0, 1] [(xd, .inr (2, [.ref xt, .int (nI len), .int (nI (tkN f len q)), .int (nI (tkN f len (tkN f len q))), .int (tkS f len (tkN f len q)), .int (tkV f len (tkN f len q))])), (xt, .inl (cs 0, 120, .inl f))] rfl (by decide) (show [xd, xt] = [xd, xt] from rfl) (rfl) dX2_numberFault_1 ?_
  refine V.sts (st' := []) rfl ?_
  refine v_aload_n C 0 dX2_numberFault_4 rfl ?_
  refine v_get C (v := .int (tkS f len (tkN f len q))) fl_X2_numberFault_33 0 rfl rfl dX2_numberFault_5 ?_
  refine v_iconst C (v := 1) dX2_numberFault_8 (by decide) ?_
  refine v_icmp_eq C 14 dX2_numberFault_9 (by decide) (fun c1 => ?_) (fun c1 => ?_)
  · skip
    refine v_aload_n C 0 dX2_numberFault_14 rfl ?_
    refine v_get C (v := .int (tkV f len (tkN f len q))) fl_X2_numberFault_39 0 rfl rfl dX2_numberFault_15 ?_
    refine v_iload_n C 1 dX2_numberFault_18 rfl ?_
    refine v_icmp_lt C 30 dX2_numberFault_19 (by decide) (fun c2 => ?_) (fun c2 => ?_)
    · skip
      refine v_iconst C (v := 2) dX2_numberFault_30 (by decide) ?_
      refine v_goto C 35 dX2_numberFault_31 (by decide) ?_
      exact v_iret C E (rfl) (by first | rfl | (simp [nfI, hq, hlen, c1, c2, ↓reduceIte]; done) | (simp_all [nfI]; done)) dX2_numberFault_35
    · skip
      refine v_aload_n C 0 dX2_numberFault_22 rfl ?_
      refine v_get C (v := .int (tkV f len (tkN f len q))) fl_X2_numberFault_39 0 rfl rfl dX2_numberFault_23 ?_
      refine v_iload_n C 2 dX2_numberFault_26 rfl ?_
      refine v_icmp_le C 34 dX2_numberFault_27 (by decide) (fun c3 => ?_) (fun c3 => ?_)
      · skip
        refine v_iconst C (v := 0) dX2_numberFault_34 (by decide) ?_
        exact v_iret C E (rfl) (by first | rfl | (simp [nfI, hq, hlen, c1, c2, c3, ↓reduceIte]; done) | (simp_all [nfI]; done)) dX2_numberFault_35
      · skip
        refine v_iconst C (v := 2) dX2_numberFault_30 (by decide) ?_
        refine v_goto C 35 dX2_numberFault_31 (by decide) ?_
        exact v_iret C E (rfl) (by first | rfl | (simp [nfI, hq, hlen, c1, c2, c3, ↓reduceIte]; done) | (simp_all [nfI]; done)) dX2_numberFault_35
  · skip
    refine v_iconst C (v := 1) dX2_numberFault_12 (by decide) ?_
    exact v_iret C E (rfl) (by first | rfl | (simp [nfI, hq, hlen, c1, ↓reduceIte]; done) | (simp_all [nfI]; done)) dX2_numberFault_13
theorem kX2_signFault : KD yX2_signFault wsX2_signFault cX2_signFault 2 (some .int) 1 := ⟨⟨_, rfl⟩, by decide, by decide +kernel, by decide +kernel, by decide +kernel⟩
theorem in_X2_signFault_X2 : ∀ w ∈ wsX20, w ∈ wsX2_signFault := by decide +kernel
theorem fl_X2_signFault_33 : FL RX2 wsX2_signFault RX2 RX2 TX2 6 2 4 33 := ⟨⟨in_X2_signFault_X2, rfl, by decide, rfl⟩, by decide +kernel⟩
theorem fl_X2_signFault_39 : FL RX2 wsX2_signFault RX2 RX2 TX2 6 2 5 39 := ⟨⟨in_X2_signFault_X2, rfl, by decide, rfl⟩, by decide +kernel⟩
set_option maxHeartbeats 4000000 in
set_option maxRecDepth 100000 in
theorem c_signFault (l : Launch) (D : va_G) (cs : Nat → ClassId) {xd : Nat} {xt : Nat} {f : Nat → Int32} {len : Nat} {q : Nat} {sg : Int32} (hq : q ≤ len) (hlen : len ≤ 120) : CT l D (tz cs) yX2_signFault wsX2_signFault ({ frames := 3, cells := 0, slots := 0, locals := 63 }) [.ref xd, .int sg] [(xd, .inr (2, [.ref xt, .int (nI len), .int (nI q), .int (nI (tkN f len q)), .int (tkS f len q), .int (tkV f len q)])), (xt, .inl (cs 0, 120, .inl f))] (some (.int (sfI f len (tkN f len q) sg))) [(xd, .inr (2, [.ref xt, .int (nI len), .int (nI (tkN f len q)), .int (nI (tkN f len (tkN f len q))), .int (tkS f len (tkN f len q)), .int (tkV f len (tkN f len q))])), (xt, .inl (cs 0, 120, .inl f))] := by
  refine CT.of kX2_signFault (Nat.le_of_ble_eq_true rfl) ?_
  intro p e s m below meth c A C E
  have C : VOk p s m _ c cX2_signFault 2 wsX2_signFault RX2 D (tz cs) A s.heap := C
  refine V.lvs (lv' := [(0, .ref xd), (1, .int sg)]) [0, 1] rfl ?_
  refine v_aload_n C 0 dX2_signFault_0 rfl ?_
  refine v_callV (qi := 0) C [] [] kX2_step gX2_signFault_X2_step (c_step l D cs (xd := xd) (xt := xt) (f := f) (len := len) (q := (tkN f len q)) (pl := (nI q)) (so := (tkS f len q)) (va := (tkV f len q)) (by first | assumption | exact tkN_le (by assumption) | exact tkN_le (tkN_le (by assumption)) | exact tkN_le (tkN_le (tkN_le (by assumption))) | exact tkN_le (tkN_le (tkN_le (tkN_le (by assumption))))) (by first | assumption | omega)) ⟨Nat.le_of_ble_eq_true rfl, Nat.le_of_ble_eq_true rfl⟩ ⟨rfl, rfl⟩ ⟨Nat.zero_le _, Nat.zero_le _⟩ rfl 0 rfl rfl rfl rfl (Nat.le_of_ble_eq_true rfl) [0, 1] [(xd, .inr (2, [.ref xt, .int (nI len), .int (nI (tkN f len q)), .int (nI (tkN f len (tkN f len q))), .int (tkS f len (tkN f len q)), .int (tkV f len (tkN f len q))])), (xt, .inl (cs 0, 120, .inl f))] rfl (by decide) (show [xd, xt] = [xd, xt] from rfl) (rfl) dX2_signFault_1 ?_
  refine V.sts (st' := []) rfl ?_
  refine v_aload_n C 0 dX2_signFault_4 rfl ?_
  refine v_get C (v := .int (tkS f len (tkN f len q))) fl_X2_signFault_33 0 rfl rfl dX2_signFault_5 ?_
  refine v_iconst C (v := 2) dX2_signFault_8 (by decide) ?_
  refine v_icmp_ne C 24 dX2_signFault_9 (by decide) (fun c1 => ?_) (fun c1 => ?_)
  · skip
    refine v_iconst C (v := 1) dX2_signFault_24 (by decide) ?_
    exact v_iret C E (rfl) (by first | rfl | (simp [sfI, hq, hlen, c1, ↓reduceIte]; done) | (simp_all [sfI]; done)) dX2_signFault_25
  · skip
    refine v_aload_n C 0 dX2_signFault_12 rfl ?_
    refine v_get C (v := .int (tkV f len (tkN f len q))) fl_X2_signFault_39 0 rfl rfl dX2_signFault_13 ?_
    refine v_iload_n C 1 dX2_signFault_16 rfl ?_
    refine v_icmp_ne C 24 dX2_signFault_17 (by decide) (fun c2 => ?_) (fun c2 => ?_)
    · skip
      refine v_iconst C (v := 1) dX2_signFault_24 (by decide) ?_
      exact v_iret C E (rfl) (by first | rfl | (simp [sfI, hq, hlen, c1, c2, ↓reduceIte]; done) | (simp_all [sfI]; done)) dX2_signFault_25
    · skip
      refine v_iconst C (v := 0) dX2_signFault_20 (by decide) ?_
      refine v_goto C 25 dX2_signFault_21 (by decide) ?_
      exact v_iret C E (rfl) (by first | rfl | (simp [sfI, hq, hlen, c1, c2, ↓reduceIte]; done) | (simp_all [sfI]; done)) dX2_signFault_25
