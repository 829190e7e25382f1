theorem kX3_begin : KD yX3_begin wsX3_begin cX3_begin 4 none 2 := ⟨⟨_, rfl⟩, by decide, by decide +kernel, by decide +kernel, by decide +kernel⟩
theorem in_X3_begin_X3 : ∀ w ∈ wsX30, w ∈ wsX3_begin := by decide +kernel
theorem fl_X3_begin_15 : FL RX3 wsX3_begin RX3 RX3 TX3 4 3 1 15 := ⟨⟨in_X3_begin_X3, rfl, by decide, rfl⟩, by decide +kernel⟩
theorem fp_X3_1 : FP TX3 4 1 tyX3 .boolean := ⟨tyX3_ok, nmX3, rfl, by decide +kernel⟩
theorem fl_X3_begin_19 : FL RX3 wsX3_begin RX3 RX3 TX3 4 3 2 19 := ⟨⟨in_X3_begin_X3, rfl, by decide, rfl⟩, by decide +kernel⟩
theorem fp_X3_2 : FP TX3 4 2 tyX3 .int := ⟨tyX3_ok, nmX3, rfl, by decide +kernel⟩
theorem fl_X3_begin_23 : FL RX3 wsX3_begin RX3 RX3 TX3 4 3 3 23 := ⟨⟨in_X3_begin_X3, rfl, by decide, rfl⟩, by decide +kernel⟩
theorem fp_X3_3 : FP TX3 4 3 tyX3 .int := ⟨tyX3_ok, nmX3, rfl, by decide +kernel⟩
theorem fl_X3_begin_9 : FL RX3 wsX3_begin RX3 RX3 TX3 4 3 0 9 := ⟨⟨in_X3_begin_X3, rfl, by decide, rfl⟩, by decide +kernel⟩
set_option maxHeartbeats 4000000 in
set_option maxRecDepth 100000 in
theorem c_rbegin (l : Launch) (D : va_G) (cs : Nat → ClassId) {ra : Nat} {rp : Nat} {rf : Nat → Int32} {sd : Bool} {la : Int32} {ln : Int32} {x : Int32} {y : Int32} : CT l D (tz cs) yX3_begin wsX3_begin ({ frames := 0, cells := 0, slots := 0, locals := 0 }) [.ref ra, .int x, .int y] [(ra, .inr (3, [.ref rp, .int (b2 sd), .int la, .int ln])), (rp, .inl (cs 0, 40, .inl rf))] none [(ra, .inr (3, [.ref rp, .int (b2 true), .int x, .int y])), (rp, .inl (cs 0, 40, .inl (zrF rf 40)))] := by
  refine CT.of kX3_begin (Nat.le_of_ble_eq_true rfl) ?_
  intro p e s m below meth c A C E
  have C : VOk p s m _ c cX3_begin 4 wsX3_begin RX3 D (tz cs) A s.heap := C
  refine V.lvs (lv' := [(0, .ref ra), (1, .int x), (2, .int y)]) [0, 1, 2] rfl ?_
  refine v_aload_n C 0 dX3_begin_0 rfl ?_
  refine v_iconst C (v := 1) dX3_begin_1 (by decide) ?_
  refine v_put C fl_X3_begin_15 fp_X3_1 0 rfl rfl rfl (Nat.le_of_ble_eq_true rfl) [(ra, .inr (3, [.ref rp, .int 1, .int la, .int ln])), (rp, .inl (cs 0, 40, .inl rf))] rfl dX3_begin_2 ?_
  refine v_aload_n C 0 dX3_begin_5 rfl ?_
  refine v_iload_n C 1 dX3_begin_6 rfl ?_
  refine v_put C fl_X3_begin_19 fp_X3_2 0 rfl rfl rfl (Nat.le_of_ble_eq_true rfl) [(ra, .inr (3, [.ref rp, .int 1, .int x, .int ln])), (rp, .inl (cs 0, 40, .inl rf))] rfl dX3_begin_7 ?_
  refine v_aload_n C 0 dX3_begin_10 rfl ?_
  refine v_iload_n C 2 dX3_begin_11 rfl ?_
  refine v_put C fl_X3_begin_23 fp_X3_3 0 rfl rfl rfl (Nat.le_of_ble_eq_true rfl) [(ra, .inr (3, [.ref rp, .int 1, .int x, .int y])), (rp, .inl (cs 0, 40, .inl rf))] rfl dX3_begin_12 ?_
  refine v_iconst C (v := 0) dX3_begin_15 (by decide) ?_
  refine v_istore_n C [(0, .ref ra), (1, .int x), (2, .int y), (3, .int 0)] [1, 2, 3, 0] dX3_begin_16 (by decide) rfl ?_
  have L17 : ∀ (n : Nat) (i : Nat) (y0 : Int32) (y1 : Nat → Int32), y0 = (nI i) → y1 = zrF rf i → (i ≤ 40) → (40 - i) < n → V p l e ({ frames := 0, cells := 0, slots := 0, locals := 0 }) s m (List.toArray [.ref ra, .int x, .int y]) below meth c 0 0 (MQ below (vq_Q none D [(ra, .inr (3, [.ref rp, .int (b2 true), .int x, .int y])), (rp, .inl (cs 0, 40, .inl (zrF rf 40)))] [(ra, .inr (3, [.ref rp, .int (b2 sd), .int la, .int ln])), (rp, .inl (cs 0, 40, .inl rf))] s.heap.size) (List.toArray [.ref ra, .int x, .int y]) s 0 0 (va_A [(ra, .inr (3, [.ref rp, .int (b2 sd), .int la, .int ln])), (rp, .inl (cs 0, 40, .inl rf))] s.heap.size)) 4 D A s.heap 17 [(0, .ref ra), (1, .int x), (2, .int y), (3, .int y0)] [] [(ra, .inr (3, [.ref rp, .int 1, .int x, .int y])), (rp, .inl (cs 0, 40, .inl y1))] := by
    intro n
    induction n with
    | zero =>
      intros; omega
    | succ n ih17 =>
      intro i y0 y1 ey0 ey1 hi hn
      subst ey0
      subst ey1
      refine v_iload_n C 3 dX3_begin_17 rfl ?_
      refine v_aload_n C 0 dX3_begin_18 rfl ?_
      refine v_get C (v := .ref rp) fl_X3_begin_9 0 rfl rfl dX3_begin_19 ?_
      refine v_alen C (v := 40) 1 0 rfl rfl rfl dX3_begin_22 ?_
      refine v_icmp_ge C 39 dX3_begin_23 (by decide) (fun c1 => ?_) (fun c1 => ?_)
      · skip
        have hge : 40 ≤ i := le_nI (a := 40) (b := i) c1 (by omega) (by omega)
        exact v_vret C E (by rw [show i = 40 by omega]; rfl) dX3_begin_39
      · skip
        have hlt : i < 40 := nle_nI (b := i) (a := 40) c1 (by omega) (by omega)
        refine v_aload_n C 0 dX3_begin_26 rfl ?_
        refine v_get C (v := .ref rp) fl_X3_begin_9 0 rfl rfl dX3_begin_27 ?_
        refine v_iload_n C 3 dX3_begin_30 rfl ?_
        refine v_iconst C (v := 0) dX3_begin_31 (by decide) ?_
        refine v_iast C 1 0 rfl rfl (vp_in_nI (by omega) (by omega)) [(ra, .inr (3, [.ref rp, .int 1, .int x, .int y])), (rp, .inl (cs 0, 40, .inl (upd (zrF rf i) i 0)))] (by rw [nI_clamp (by omega)]; rfl) dX3_begin_32 ?_
        refine v_iinc C (k := 3) (nI (i + 1)) [(0, .ref ra), (1, .int x), (2, .int y), (3, .int (nI (i + 1)))] [1, 2, 3, 0] dX3_begin_33 rfl (nI_inc _) (by decide) rfl ?_
        refine v_goto C 17 dX3_begin_36 (by decide) ?_
        exact ih17 (i + 1) _ _ (rfl) (zrF_s _ _) (by first | assumption | omega) (by omega)
  exact L17 _ 0 _ _ (rfl) (zrF_0 _) (by first | assumption | omega) (Nat.lt_succ_self _)
theorem kX3_holds : KD yX3_holds wsX3_holds cX3_holds 3 (some .boolean) 2 := ⟨⟨_, rfl⟩, by decide, by decide +kernel, by decide +kernel, by decide +kernel⟩
theorem in_X3_holds_X3 : ∀ w ∈ wsX30, w ∈ wsX3_holds := by decide +kernel
theorem fl_X3_holds_23 : FL RX3 wsX3_holds RX3 RX3 TX3 4 3 3 23 := ⟨⟨in_X3_holds_X3, rfl, by decide, rfl⟩, by decide +kernel⟩
set_option maxHeartbeats 4000000 in
set_option maxRecDepth 100000 in
theorem c_holds (l : Launch) (D : va_G) (cs : Nat → ClassId) {ra : Nat} {rp : Nat} {sd : Bool} {la : Int32} {ln : Int32} {i : Int32} {q : Int32} : CT l D (tz cs) yX3_holds wsX3_holds ({ frames := 0, cells := 0, slots := 0, locals := 0 }) [.ref ra, .int i, .int q] [(ra, .inr (3, [.ref rp, .int (b2 sd), .int la, .int ln]))] (some (.int (b2 (hold ln i q)))) [(ra, .inr (3, [.ref rp, .int (b2 sd), .int la, .int ln]))] := by
  refine CT.of kX3_holds (Nat.le_of_ble_eq_true rfl) ?_
  intro p e s m below meth c A C E
  have C : VOk p s m _ c cX3_holds 3 wsX3_holds RX3 D (tz cs) A s.heap := C
  refine V.lvs (lv' := [(0, .ref ra), (1, .int i), (2, .int q)]) [0, 1, 2] rfl ?_
  refine v_iload_n C 1 dX3_holds_0 rfl ?_
  refine v_if_lt C 22 dX3_holds_1 (by decide) (fun c1 => ?_) (fun c1 => ?_)
  · skip
    refine v_iconst C (v := 0) dX3_holds_22 (by decide) ?_
    exact v_zret C E (rfl) (by first | rfl | (simp [hold, b2, c1, ↓reduceIte]; done) | (simp_all [hold, b2]; done)) dX3_holds_23
  · skip
    refine v_iload_n C 2 dX3_holds_4 rfl ?_
    refine v_if_lt C 22 dX3_holds_5 (by decide) (fun c2 => ?_) (fun c2 => ?_)
    · skip
      refine v_iconst C (v := 0) dX3_holds_22 (by decide) ?_
      exact v_zret C E (rfl) (by first | rfl | (simp [hold, b2, c1, c2, ↓reduceIte]; done) | (simp_all [hold, b2]; done)) dX3_holds_23
    · skip
      refine v_iload_n C 1 dX3_holds_8 rfl ?_
      refine v_aload_n C 0 dX3_holds_9 rfl ?_
      refine v_get C (v := .int ln) fl_X3_holds_23 0 rfl rfl dX3_holds_10 ?_
      refine v_iload_n C 2 dX3_holds_13 rfl ?_
      refine v_isub C dX3_holds_14 ?_
      refine v_icmp_gt C 22 dX3_holds_15 (by decide) (fun c3 => ?_) (fun c3 => ?_)
      · skip
        refine v_iconst C (v := 0) dX3_holds_22 (by decide) ?_
        exact v_zret C E (rfl) (by first | rfl | (simp [hold, b2, c1, c2, c3, ↓reduceIte]; done) | (simp_all [hold, b2]; done)) dX3_holds_23
      · skip
        refine v_iconst C (v := 1) dX3_holds_18 (by decide) ?_
        refine v_goto C 23 dX3_holds_19 (by decide) ?_
        exact v_zret C E (rfl) (by first | rfl | (simp [hold, b2, c1, c2, c3, ↓reduceIte]; done) | (simp_all [hold, b2]; done)) dX3_holds_23
theorem kX3_item : KD yX3_item wsX3_item cX3_item 2 (some .int) 1 := ⟨⟨_, rfl⟩, by decide, by decide +kernel, by decide +kernel, by decide +kernel⟩
theorem in_X3_item_X3 : ∀ w ∈ wsX30, w ∈ wsX3_item := by decide +kernel
theorem fl_X3_item_9 : FL RX3 wsX3_item RX3 RX3 TX3 4 3 0 9 := ⟨⟨in_X3_item_X3, rfl, by decide, rfl⟩, by decide +kernel⟩
theorem nq_X3_item_X5_at : Cond.initialized yX5_at.cls ∈ wsX3_item ∧ Cond.static yX5_at ∈ wsX3_item := ⟨by decide +kernel, by decide +kernel⟩
set_option maxHeartbeats 4000000 in
set_option maxRecDepth 100000 in
theorem c_item (l : Launch) (D : va_G) (cs : Nat → ClassId) {ra : Nat} {rp : Nat} {rf : Nat → Int32} {sd : Bool} {la : Int32} {ln : Int32} {i : Int32} : CT l D (tz cs) yX3_item wsX3_item ({ frames := 1, cells := 0, slots := 0, locals := 21 }) [.ref ra, .int i] [(ra, .inr (3, [.ref rp, .int (b2 sd), .int la, .int ln])), (rp, .inl (cs 0, 40, .inl rf))] (some (.int (gA rf 40 i))) [(ra, .inr (3, [.ref rp, .int (b2 sd), .int la, .int ln])), (rp, .inl (cs 0, 40, .inl rf))] := by
  refine CT.of kX3_item (Nat.le_of_ble_eq_true rfl) ?_
  intro p e s m below meth c A C E
  have C : VOk p s m _ c cX3_item 2 wsX3_item RX3 D (tz cs) A s.heap := C
  refine V.lvs (lv' := [(0, .ref ra), (1, .int i)]) [0, 1] rfl ?_
  refine v_aload_n C 0 dX3_item_0 rfl ?_
  refine v_get C (v := .ref rp) fl_X3_item_9 0 rfl rfl dX3_item_1 ?_
  refine v_iload_n C 1 dX3_item_4 rfl ?_
  refine v_callSN C [.ref rp, .int i] [] kX5_at gX3_item_X5_at_n26 (host := "TableShares") (by decide +kernel) nq_X3_item_X5_at (c_at l D cs (ga := rp) (n := 40) (f := rf) (i := i) (by decide)) ⟨Nat.le_of_ble_eq_true rfl, Nat.le_of_ble_eq_true rfl⟩ ⟨rfl, rfl⟩ ⟨Nat.zero_le _, Nat.zero_le _⟩ rfl rfl (Nat.le_of_ble_eq_true rfl) [1] [(ra, .inr (3, [.ref rp, .int (b2 sd), .int la, .int ln])), (rp, .inl (cs 0, 40, .inl rf))] rfl (by decide) (show [rp] = [rp] from rfl) (rfl) dX3_item_5 ?_
  refine V.sts (st' := [.int (gA rf 40 i)]) rfl ?_
  exact v_iret C E (rfl) (by first | rfl | (simp [↓reduceIte]; done) | (simp_all [b2]; done)) dX3_item_8
theorem kX3_write : KD yX3_write wsX3_write cX3_write 3 none 2 := ⟨⟨_, rfl⟩, by decide, by decide +kernel, by decide +kernel, by decide +kernel⟩
theorem in_X3_write_X3 : ∀ w ∈ wsX30, w ∈ wsX3_write := by decide +kernel
theorem fl_X3_write_19 : FL RX3 wsX3_write RX3 RX3 TX3 4 3 2 19 := ⟨⟨in_X3_write_X3, rfl, by decide, rfl⟩, by decide +kernel⟩
theorem fl_X3_write_9 : FL RX3 wsX3_write RX3 RX3 TX3 4 3 0 9 := ⟨⟨in_X3_write_X3, rfl, by decide, rfl⟩, by decide +kernel⟩
theorem nq_X3_write_X5_put : Cond.initialized yX5_put.cls ∈ wsX3_write ∧ Cond.static yX5_put ∈ wsX3_write := ⟨by decide +kernel, by decide +kernel⟩
set_option maxHeartbeats 4000000 in
set_option maxRecDepth 100000 in
theorem c_write (l : Launch) (D : va_G) (cs : Nat → ClassId) {ra : Nat} {rp : Nat} {rf : Nat → Int32} {sd : Bool} {la : Int32} {ln : Int32} {i : Int32} {v : Int32} : CT l D (tz cs) yX3_write wsX3_write ({ frames := 1, cells := 0, slots := 0, locals := 22 }) [.ref ra, .int i, .int v] [(ra, .inr (3, [.ref rp, .int (b2 sd), .int la, .int ln])), (rp, .inl (cs 0, 40, .inl rf))] none [(ra, .inr (3, [.ref rp, .int (b2 sd), .int la, .int ln])), (rp, .inl (cs 0, 40, .inl (pA rf 40 i (asL la v))))] := by
  refine CT.of kX3_write (Nat.le_of_ble_eq_true rfl) ?_
  intro p e s m below meth c A C E
  have C : VOk p s m _ c cX3_write 3 wsX3_write RX3 D (tz cs) A s.heap := C
  refine V.lvs (lv' := [(0, .ref ra), (1, .int i), (2, .int v)]) [0, 1, 2] rfl ?_
  refine v_aload_n C 0 dX3_write_0 rfl ?_
  refine v_get C (v := .int la) fl_X3_write_19 0 rfl rfl dX3_write_1 ?_
  rcases Decidable.em (la = 0) with z1 | z1
  · skip
    refine v_lookup C (off := 28) 32 dX3_write_4 (by decide) (by first | (rw [z1]; done) | (rw [z1]; rfl)) (by decide) ?_
    refine v_aload_n C 0 dX3_write_32 rfl ?_
    refine v_get C (v := .ref rp) fl_X3_write_9 0 rfl rfl dX3_write_33 ?_
    refine v_iload_n C 1 dX3_write_36 rfl ?_
    refine v_iload_n C 2 dX3_write_37 rfl ?_
    refine v_i2b C dX3_write_38 ?_
    refine v_callSN C [.ref rp, .int i, .int (Int8.toInt32 (Int32.toInt8 v))] [] kX5_put gX3_write_X5_put_n30 (host := "TableShares") (by decide +kernel) nq_X3_write_X5_put (c_put l D cs (ga := rp) (n := 40) (f := rf) (i := i) (x := (Int8.toInt32 (Int32.toInt8 v))) (by decide)) ⟨Nat.le_of_ble_eq_true rfl, Nat.le_of_ble_eq_true rfl⟩ ⟨rfl, rfl⟩ ⟨Nat.zero_le _, Nat.zero_le _⟩ rfl rfl (Nat.le_of_ble_eq_true rfl) [1] [(ra, .inr (3, [.ref rp, .int (b2 sd), .int la, .int ln])), (rp, .inl (cs 0, 40, .inl (pA rf 40 i (Int8.toInt32 (Int32.toInt8 v)))))] rfl (by decide) (show [rp] = [rp] from rfl) (rfl) dX3_write_39 ?_
    refine V.sts (st' := []) rfl ?_
    refine v_goto C 67 dX3_write_42 (by decide) ?_
    exact v_vret C E (by first | rfl | (simp [asL, *]; done) | (simp_all [asL]; done)) dX3_write_67
  · skip
    rcases Decidable.em (la = 1) with z2 | z2
    · skip
      refine v_lookup C (off := 41) 45 dX3_write_4 (by decide) (by first | (rw [z2]; done) | (rw [z2]; rfl)) (by decide) ?_
      refine v_aload_n C 0 dX3_write_45 rfl ?_
      refine v_get C (v := .ref rp) fl_X3_write_9 0 rfl rfl dX3_write_46 ?_
      refine v_iload_n C 1 dX3_write_49 rfl ?_
      refine v_iload_n C 2 dX3_write_50 rfl ?_
      refine v_i2s C dX3_write_51 ?_
      refine v_callSN C [.ref rp, .int i, .int (Int16.toInt32 (Int32.toInt16 v))] [] kX5_put gX3_write_X5_put_n30 (host := "TableShares") (by decide +kernel) nq_X3_write_X5_put (c_put l D cs (ga := rp) (n := 40) (f := rf) (i := i) (x := (Int16.toInt32 (Int32.toInt16 v))) (by decide)) ⟨Nat.le_of_ble_eq_true rfl, Nat.le_of_ble_eq_true rfl⟩ ⟨rfl, rfl⟩ ⟨Nat.zero_le _, Nat.zero_le _⟩ rfl rfl (Nat.le_of_ble_eq_true rfl) [1] [(ra, .inr (3, [.ref rp, .int (b2 sd), .int la, .int ln])), (rp, .inl (cs 0, 40, .inl (pA rf 40 i (Int16.toInt32 (Int32.toInt16 v)))))] rfl (by decide) (show [rp] = [rp] from rfl) (rfl) dX3_write_52 ?_
      refine V.sts (st' := []) rfl ?_
      refine v_goto C 67 dX3_write_55 (by decide) ?_
      exact v_vret C E (by first | rfl | (simp [asL, *]; done) | (simp_all [asL]; done)) dX3_write_67
    · skip
      refine v_lookup C (off := 54) 58 dX3_write_4 (by decide) ((lv_osw z1 (by rfl)).trans ((lv_osw z2 (by rfl)).trans (rfl))) (by decide) ?_
      refine v_aload_n C 0 dX3_write_58 rfl ?_
      refine v_get C (v := .ref rp) fl_X3_write_9 0 rfl rfl dX3_write_59 ?_
      refine v_iload_n C 1 dX3_write_62 rfl ?_
      refine v_iload_n C 2 dX3_write_63 rfl ?_
      refine v_callSN C [.ref rp, .int i, .int v] [] kX5_put gX3_write_X5_put_n30 (host := "TableShares") (by decide +kernel) nq_X3_write_X5_put (c_put l D cs (ga := rp) (n := 40) (f := rf) (i := i) (x := v) (by decide)) ⟨Nat.le_of_ble_eq_true rfl, Nat.le_of_ble_eq_true rfl⟩ ⟨rfl, rfl⟩ ⟨Nat.zero_le _, Nat.zero_le _⟩ rfl rfl (Nat.le_of_ble_eq_true rfl) [1] [(ra, .inr (3, [.ref rp, .int (b2 sd), .int la, .int ln])), (rp, .inl (cs 0, 40, .inl (pA rf 40 i v)))] rfl (by decide) (show [rp] = [rp] from rfl) (rfl) dX3_write_64 ?_
      refine V.sts (st' := []) rfl ?_
      exact v_vret C E (by first | rfl | (simp [asL, *]; done) | (simp_all [asL]; done)) dX3_write_67
theorem kX3_takeFrom : KD yX3_takeFrom wsX3_takeFrom cX3_takeFrom 5 none 4 := ⟨⟨_, rfl⟩, by decide, by decide +kernel, by decide +kernel, by decide +kernel⟩
theorem in_X3_takeFrom_X3 : ∀ w ∈ wsX30, w ∈ wsX3_takeFrom := by decide +kernel
theorem fl_X3_takeFrom_9 : FL RX3 wsX3_takeFrom RX3 RX3 TX3 4 3 0 9 := ⟨⟨in_X3_takeFrom_X3, rfl, by decide, rfl⟩, by decide +kernel⟩
set_option maxHeartbeats 4000000 in
set_option maxRecDepth 100000 in
theorem c_takeFrom (l : Launch) (D : va_G) (cs : Nat → ClassId) {ra : Nat} {rp : Nat} {rb : Nat} {rq : Nat} {rf : Nat → Int32} {rg : Nat → Int32} {sd : Bool} {sd2 : Bool} {la : Int32} {ln : Int32} {la2 : Int32} {ln2 : Int32} {i : Int32} {j : Int32} {q : Int32} (hh1 : hold ln2 i q = true) (hh2 : hold ln j q = true) (hb1 : i.toNatClampNeg + q.toNatClampNeg ≤ 40) (hb2 : j.toNatClampNeg + q.toNatClampNeg ≤ 40) : CT l D (tz cs) yX3_takeFrom wsX3_takeFrom ({ frames := 1, cells := 0, slots := 0, locals := 40 }) [.ref ra, .ref rb, .int i, .int j, .int q] [(ra, .inr (3, [.ref rp, .int (b2 sd), .int la, .int ln])), (rp, .inl (cs 0, 40, .inl rf)), (rb, .inr (3, [.ref rq, .int (b2 sd2), .int la2, .int ln2])), (rq, .inl (cs 0, 40, .inl rg))] none [(ra, .inr (3, [.ref rp, .int (b2 sd), .int la, .int ln])), (rp, .inl (cs 0, 40, .inl (va_cpy rg rf (Int32.toNatClampNeg i) (Int32.toNatClampNeg j) (Int32.toNatClampNeg q)))), (rb, .inr (3, [.ref rq, .int (b2 sd2), .int la2, .int ln2])), (rq, .inl (cs 0, 40, .inl rg))] := by
  refine CT.of kX3_takeFrom (Nat.le_of_ble_eq_true rfl) ?_
  intro p e s m below meth c A C E
  have C : VOk p s m _ c cX3_takeFrom 5 wsX3_takeFrom RX3 D (tz cs) A s.heap := C
  refine V.lvs (lv' := [(0, .ref ra), (1, .ref rb), (2, .int i), (3, .int j), (4, .int q)]) [0, 1, 2, 3, 4] rfl ?_
  refine v_aload_n C 1 dX3_takeFrom_0 rfl ?_
  refine v_iload_n C 2 dX3_takeFrom_1 rfl ?_
  refine v_iload C 4 dX3_takeFrom_2 rfl ?_
  refine v_callV (qi := 0) C [.int i, .int q] [] kX3_holds gX3_takeFrom_X3_holds (c_holds l D cs (ra := rb) (rp := rq) (sd := sd2) (la := la2) (ln := ln2) (i := i) (q := q) ) ⟨Nat.le_of_ble_eq_true rfl, Nat.le_of_ble_eq_true rfl⟩ ⟨rfl, rfl⟩ ⟨Nat.zero_le _, Nat.zero_le _⟩ rfl 2 rfl rfl rfl rfl (Nat.le_of_ble_eq_true rfl) [2] [(ra, .inr (3, [.ref rp, .int (b2 sd), .int la, .int ln])), (rp, .inl (cs 0, 40, .inl rf)), (rb, .inr (3, [.ref rq, .int (b2 sd2), .int la2, .int ln2])), (rq, .inl (cs 0, 40, .inl rg))] rfl (by decide) (show [rb] = [rb] from rfl) (rfl) dX3_takeFrom_4 ?_
  refine V.sts (st' := [.int (b2 (hold ln2 i q))]) rfl ?_
  refine v_if_eqB C 35 dX3_takeFrom_7 (by decide) (fun c1 => ?_) (fun c1 => ?_)
  · exact absurd c1 (by rw [hh1]; decide)
  · skip
    refine v_aload_n C 0 dX3_takeFrom_10 rfl ?_
    refine v_iload_n C 3 dX3_takeFrom_11 rfl ?_
    refine v_iload C 4 dX3_takeFrom_12 rfl ?_
    refine v_callV (qi := 0) C [.int j, .int q] [] kX3_holds gX3_takeFrom_X3_holds (c_holds l D cs (ra := ra) (rp := rp) (sd := sd) (la := la) (ln := ln) (i := j) (q := q) ) ⟨Nat.le_of_ble_eq_true rfl, Nat.le_of_ble_eq_true rfl⟩ ⟨rfl, rfl⟩ ⟨Nat.zero_le _, Nat.zero_le _⟩ rfl 0 rfl rfl rfl rfl (Nat.le_of_ble_eq_true rfl) [0] [(ra, .inr (3, [.ref rp, .int (b2 sd), .int la, .int ln])), (rp, .inl (cs 0, 40, .inl rf)), (rb, .inr (3, [.ref rq, .int (b2 sd2), .int la2, .int ln2])), (rq, .inl (cs 0, 40, .inl rg))] rfl (by decide) (show [ra] = [ra] from rfl) (rfl) dX3_takeFrom_14 ?_
    refine V.sts (st' := [.int (b2 (hold ln j q))]) rfl ?_
    refine v_if_eqB C 35 dX3_takeFrom_17 (by decide) (fun c2 => ?_) (fun c2 => ?_)
    · exact absurd c2 (by rw [hh2]; decide)
    · skip
      refine v_aload_n C 1 dX3_takeFrom_20 rfl ?_
      refine v_get C (v := .ref rq) fl_X3_takeFrom_9 2 rfl rfl dX3_takeFrom_21 ?_
      refine v_iload_n C 2 dX3_takeFrom_24 rfl ?_
      refine v_aload_n C 0 dX3_takeFrom_25 rfl ?_
      refine v_get C (v := .ref rp) fl_X3_takeFrom_9 0 rfl rfl dX3_takeFrom_26 ?_
      refine v_iload_n C 3 dX3_takeFrom_29 rfl ?_
      refine v_iload C 4 dX3_takeFrom_30 rfl ?_
      refine v_copyi C 3 1 0 0 rfl rfl rfl rfl (hold_i hh1) (hold_i hh2) (hold_n hh1) hb1 hb2 [(ra, .inr (3, [.ref rp, .int (b2 sd), .int la, .int ln])), (rp, .inl (cs 0, 40, .inl (va_cpy rg rf (Int32.toNatClampNeg i) (Int32.toNatClampNeg j) (Int32.toNatClampNeg q)))), (rb, .inr (3, [.ref rq, .int (b2 sd2), .int la2, .int ln2])), (rq, .inl (cs 0, 40, .inl rg))] rfl (by decide +kernel) (by decide +kernel) (by decide +kernel) (by decide +kernel) ⟨Nat.le_of_ble_eq_true rfl, Nat.le_of_ble_eq_true rfl⟩ dX3_takeFrom_32 ?_
      exact v_vret C E (rfl) dX3_takeFrom_35
set_option maxHeartbeats 4000000 in
set_option maxRecDepth 100000 in
theorem c_takeSelf (l : Launch) (D : va_G) (cs : Nat → ClassId) {ra : Nat} {rp : Nat} {rf : Nat → Int32} {sd : Bool} {la : Int32} {ln : Int32} {i : Int32} {j : Int32} {q : Int32} (hh1 : hold ln i q = true) (hh2 : hold ln j q = true) (hb1 : i.toNatClampNeg + q.toNatClampNeg ≤ 40) (hb2 : j.toNatClampNeg + q.toNatClampNeg ≤ 40) : CT l D (tz cs) yX3_takeFrom wsX3_takeFrom ({ frames := 1, cells := 0, slots := 0, locals := 40 }) [.ref ra, .ref ra, .int i, .int j, .int q] [(ra, .inr (3, [.ref rp, .int (b2 sd), .int la, .int ln])), (rp, .inl (cs 0, 40, .inl rf))] none [(ra, .inr (3, [.ref rp, .int (b2 sd), .int la, .int ln])), (rp, .inl (cs 0, 40, .inl (va_cpy rf rf (Int32.toNatClampNeg i) (Int32.toNatClampNeg j) (Int32.toNatClampNeg q))))] := by
  refine CT.of kX3_takeFrom (Nat.le_of_ble_eq_true rfl) ?_
  intro p e s m below meth c A C E
  have C : VOk p s m _ c cX3_takeFrom 5 wsX3_takeFrom RX3 D (tz cs) A s.heap := C
  refine V.lvs (lv' := [(0, .ref ra), (1, .ref ra), (2, .int i), (3, .int j), (4, .int q)]) [0, 1, 2, 3, 4] rfl ?_
  refine v_aload_n C 1 dX3_takeFrom_0 rfl ?_
  refine v_iload_n C 2 dX3_takeFrom_1 rfl ?_
  refine v_iload C 4 dX3_takeFrom_2 rfl ?_
  refine v_callV (qi := 0) C [.int i, .int q] [] kX3_holds gX3_takeFrom_X3_holds (c_holds l D cs (ra := ra) (rp := rp) (sd := sd) (la := la) (ln := ln) (i := i) (q := q) ) ⟨Nat.le_of_ble_eq_true rfl, Nat.le_of_ble_eq_true rfl⟩ ⟨rfl, rfl⟩ ⟨Nat.zero_le _, Nat.zero_le _⟩ rfl 0 rfl rfl rfl rfl (Nat.le_of_ble_eq_true rfl) [0] [(ra, .inr (3, [.ref rp, .int (b2 sd), .int la, .int ln])), (rp, .inl (cs 0, 40, .inl rf))] rfl (by decide) (show [ra] = [ra] from rfl) (rfl) dX3_takeFrom_4 ?_
  refine V.sts (st' := [.int (b2 (hold ln i q))]) rfl ?_
  refine v_if_eqB C 35 dX3_takeFrom_7 (by decide) (fun c1 => ?_) (fun c1 => ?_)
  · exact absurd c1 (by rw [hh1]; decide)
  · skip
    refine v_aload_n C 0 dX3_takeFrom_10 rfl ?_
    refine v_iload_n C 3 dX3_takeFrom_11 rfl ?_
    refine v_iload C 4 dX3_takeFrom_12 rfl ?_
    refine v_callV (qi := 0) C [.int j, .int q] [] kX3_holds gX3_takeFrom_X3_holds (c_holds l D cs (ra := ra) (rp := rp) (sd := sd) (la := la) (ln := ln) (i := j) (q := q) ) ⟨Nat.le_of_ble_eq_true rfl, Nat.le_of_ble_eq_true rfl⟩ ⟨rfl, rfl⟩ ⟨Nat.zero_le _, Nat.zero_le _⟩ rfl 0 rfl rfl rfl rfl (Nat.le_of_ble_eq_true rfl) [0] [(ra, .inr (3, [.ref rp, .int (b2 sd), .int la, .int ln])), (rp, .inl (cs 0, 40, .inl rf))] rfl (by decide) (show [ra] = [ra] from rfl) (rfl) dX3_takeFrom_14 ?_
    refine V.sts (st' := [.int (b2 (hold ln j q))]) rfl ?_
    refine v_if_eqB C 35 dX3_takeFrom_17 (by decide) (fun c2 => ?_) (fun c2 => ?_)
    · exact absurd c2 (by rw [hh2]; decide)
    · skip
      refine v_aload_n C 1 dX3_takeFrom_20 rfl ?_
      refine v_get C (v := .ref rp) fl_X3_takeFrom_9 0 rfl rfl dX3_takeFrom_21 ?_
      refine v_iload_n C 2 dX3_takeFrom_24 rfl ?_
      refine v_aload_n C 0 dX3_takeFrom_25 rfl ?_
      refine v_get C (v := .ref rp) fl_X3_takeFrom_9 0 rfl rfl dX3_takeFrom_26 ?_
      refine v_iload_n C 3 dX3_takeFrom_29 rfl ?_
      refine v_iload C 4 dX3_takeFrom_30 rfl ?_
      refine v_copyi C 1 1 0 0 rfl rfl rfl rfl (hold_i hh1) (hold_i hh2) (hold_n hh1) hb1 hb2 [(ra, .inr (3, [.ref rp, .int (b2 sd), .int la, .int ln])), (rp, .inl (cs 0, 40, .inl (va_cpy rf rf (Int32.toNatClampNeg i) (Int32.toNatClampNeg j) (Int32.toNatClampNeg q))))] rfl (by decide +kernel) (by decide +kernel) (by decide +kernel) (by decide +kernel) ⟨Nat.le_of_ble_eq_true rfl, Nat.le_of_ble_eq_true rfl⟩ dX3_takeFrom_32 ?_
      exact v_vret C E (rfl) dX3_takeFrom_35
theorem kX3_sumOf : KD yX3_sumOf wsX3_sumOf cX3_sumOf 7 (some .long) 3 := ⟨⟨_, rfl⟩, by decide, by decide +kernel, by decide +kernel, by decide +kernel⟩
theorem nq_X3_sumOf_X5_has : Cond.initialized yX5_has.cls ∈ wsX3_sumOf ∧ Cond.static yX5_has ∈ wsX3_sumOf := ⟨by decide +kernel, by decide +kernel⟩
set_option maxHeartbeats 4000000 in
set_option maxRecDepth 100000 in
theorem c_sumOf (l : Launch) (D : va_G) (cs : Nat → ClassId) {ra : Nat} {rp : Nat} {rf : Nat → Int32} {sd : Bool} {la : Int32} {ln : Int32} {x : Int32} {ix : Int32} {pn : Nat} (hp : pn ≤ 6) : CT l D (tz cs) yX3_sumOf wsX3_sumOf ({ frames := 2, cells := 0, slots := 0, locals := 42 }) [.ref ra, .int x, .int ix, .int (nI pn)] [(ra, .inr (3, [.ref rp, .int (b2 sd), .int la, .int ln])), (rp, .inl (cs 0, 40, .inl rf))] (some (.long (sumL rf ix x pn))) [(ra, .inr (3, [.ref rp, .int (b2 sd), .int la, .int ln])), (rp, .inl (cs 0, 40, .inl rf))] := by
  refine CT.of kX3_sumOf (Nat.le_of_ble_eq_true rfl) ?_
  intro p e s m below meth c A C E
  have C : VOk p s m _ c cX3_sumOf 7 wsX3_sumOf RX3 D (tz cs) A s.heap := C
  refine V.lvs (lv' := [(0, .ref ra), (1, .int x), (2, .int ix), (3, .int (nI pn))]) [0, 1, 2, 3] rfl ?_
  refine v_lconst C (v := 0) dX3_sumOf_0 (by decide) ?_
  refine v_lstore C [(0, .ref ra), (1, .int x), (2, .int ix), (3, .int (nI pn)), (4, .long 0)] [1, 2, 3, 4, 0] dX3_sumOf_1 (by decide) rfl ?_
  refine v_iconst C (v := 0) dX3_sumOf_3 (by decide) ?_
  refine v_istore C [(0, .ref ra), (1, .int x), (2, .int ix), (3, .int (nI pn)), (4, .long 0), (6, .int 0)] [1, 2, 3, 4, 5, 0] dX3_sumOf_4 (by decide) rfl ?_
  have L6 : ∀ (n : Nat) (i : Nat) (y0 : Int64) (y1 : Int32), y0 = (sumL rf ix x i) → y1 = (nI i) → (i ≤ pn) → (pn - i) < n → V p l e ({ frames := 2, cells := 0, slots := 0, locals := 42 }) s m (List.toArray [.ref ra, .int x, .int ix, .int (nI pn)]) below meth c 0 0 (MQ below (vq_Q (some (.long (sumL rf ix x pn))) D [(ra, .inr (3, [.ref rp, .int (b2 sd), .int la, .int ln])), (rp, .inl (cs 0, 40, .inl rf))] [(ra, .inr (3, [.ref rp, .int (b2 sd), .int la, .int ln])), (rp, .inl (cs 0, 40, .inl rf))] s.heap.size) (List.toArray [.ref ra, .int x, .int ix, .int (nI pn)]) s 0 0 (va_A [(ra, .inr (3, [.ref rp, .int (b2 sd), .int la, .int ln])), (rp, .inl (cs 0, 40, .inl rf))] s.heap.size)) 7 D A s.heap 6 [(0, .ref ra), (1, .int x), (2, .int ix), (3, .int (nI pn)), (4, .long y0), (6, .int y1)] [] [(ra, .inr (3, [.ref rp, .int (b2 sd), .int la, .int ln])), (rp, .inl (cs 0, 40, .inl rf))] := by
    intro n
    induction n with
    | zero =>
      intros; omega
    | succ n ih6 =>
      intro i y0 y1 ey0 ey1 hi hn
      subst ey0
      subst ey1
      refine v_iload C 5 dX3_sumOf_6 rfl ?_
      refine v_iload_n C 3 dX3_sumOf_8 rfl ?_
      refine v_icmp_ge C 41 dX3_sumOf_9 (by decide) (fun c1 => ?_) (fun c1 => ?_)
      · skip
        have hge : pn ≤ i := le_nI c1 (by omega) (by omega)
        refine v_lload C 4 dX3_sumOf_41 rfl ?_
        exact v_lret C E (rfl) (by rw [show i = pn by omega]) dX3_sumOf_43
      · skip
        have hlt : i < pn := nle_nI c1 (by omega) (by omega)
        refine v_iload_n C 1 dX3_sumOf_12 rfl ?_
        refine v_iload C 5 dX3_sumOf_13 rfl ?_
        refine v_callSN C [.int x, .int (nI i)] [] kX5_has gX3_sumOf_X5_has_n44 (host := "TableShares") (by decide +kernel) nq_X3_sumOf_X5_has (c_has l D cs (x := x) (q := (nI i)) ) ⟨Nat.le_of_ble_eq_true rfl, Nat.le_of_ble_eq_true rfl⟩ ⟨rfl, rfl⟩ ⟨Nat.zero_le _, Nat.zero_le _⟩ rfl rfl (Nat.le_of_ble_eq_true rfl) [] [(ra, .inr (3, [.ref rp, .int (b2 sd), .int la, .int ln])), (rp, .inl (cs 0, 40, .inl rf))] rfl (by decide) rfl (rfl) dX3_sumOf_15 ?_
        refine V.sts (st' := [.int (b2 (hasB x (nI i)))]) rfl ?_
        refine v_if_eqB C 35 dX3_sumOf_18 (by decide) (fun c2 => ?_) (fun c2 => ?_)
        · skip
          refine v_iinc C (k := 5) (nI (i + 1)) [(0, .ref ra), (1, .int x), (2, .int ix), (3, .int (nI pn)), (4, .long (sumL rf ix x i)), (6, .int (nI (i + 1)))] [1, 2, 3, 4, 5, 0] dX3_sumOf_35 rfl (nI_inc _) (by decide) rfl ?_
          refine v_goto C 6 dX3_sumOf_38 (by decide) ?_
          exact ih6 (i + 1) _ _ (by rw [sumL, if_neg (by rw [c2]; decide)]) (rfl) (by first | assumption | omega) (by omega)
        · skip
          refine v_lload C 4 dX3_sumOf_21 rfl ?_
          refine v_aload_n C 0 dX3_sumOf_23 rfl ?_
          refine v_iload_n C 2 dX3_sumOf_24 rfl ?_
          refine v_iload C 5 dX3_sumOf_25 rfl ?_
          refine v_iadd C dX3_sumOf_27 ?_
          refine v_callV (qi := 0) C [.int (ix + (nI i))] [.long (sumL rf ix x i)] kX3_item gX3_sumOf_X3_item (c_item l D cs (ra := ra) (rp := rp) (rf := rf) (sd := sd) (la := la) (ln := ln) (i := (ix + (nI i))) ) ⟨Nat.le_of_ble_eq_true rfl, Nat.le_of_ble_eq_true rfl⟩ ⟨rfl, rfl⟩ ⟨Nat.zero_le _, Nat.zero_le _⟩ rfl 0 rfl rfl rfl rfl (Nat.le_of_ble_eq_true rfl) [0, 1] [(ra, .inr (3, [.ref rp, .int (b2 sd), .int la, .int ln])), (rp, .inl (cs 0, 40, .inl rf))] rfl (by decide) (show [ra, rp] = [ra, rp] from rfl) (rfl) dX3_sumOf_28 ?_
          refine V.sts (st' := [.int (gA rf 40 (ix + (nI i))), .long (sumL rf ix x i)]) rfl ?_
          refine v_i2l C dX3_sumOf_31 ?_
          refine v_ladd C dX3_sumOf_32 ?_
          refine v_lstore C [(0, .ref ra), (1, .int x), (2, .int ix), (3, .int (nI pn)), (4, .long ((sumL rf ix x i) + (Int32.toInt64 (gA rf 40 (ix + (nI i)))))), (6, .int (nI i))] [1, 2, 3, 4, 0, 5] dX3_sumOf_33 (by decide) rfl ?_
          refine v_iinc C (k := 5) (nI (i + 1)) [(0, .ref ra), (1, .int x), (2, .int ix), (3, .int (nI pn)), (4, .long ((sumL rf ix x i) + (Int32.toInt64 (gA rf 40 (ix + (nI i)))))), (6, .int (nI (i + 1)))] [1, 2, 3, 4, 5, 0] dX3_sumOf_35 rfl (nI_inc _) (by decide) rfl ?_
          refine v_goto C 6 dX3_sumOf_38 (by decide) ?_
          exact ih6 (i + 1) _ _ (by rw [sumL, if_pos c2]) (rfl) (by first | assumption | omega) (by omega)
  exact L6 _ 0 _ _ (rfl) (rfl) (by first | assumption | omega) (Nat.lt_succ_self _)
