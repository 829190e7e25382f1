set_option maxRecDepth 100000 in
theorem kX0_init : KD yX0_init wsX0_init cX0_init 1 none 0 := ⟨⟨_, rfl⟩, by decide, by decide +kernel, by decide +kernel, by decide +kernel⟩
set_option maxRecDepth 100000 in
theorem in_X0_init_self : ∀ w ∈ wsX00, w ∈ wsX0_init := by decide +kernel
set_option maxRecDepth 100000 in
theorem fl_X0_init_9 : FL RX0 wsX0_init RX0 RX0 TX0 2 0 0 9 := ⟨⟨in_X0_init_self, rfl, by decide, rfl⟩, by decide +kernel⟩
set_option maxHeartbeats 8000000 in
set_option maxRecDepth 100000 in
theorem c_X0_init (l : Launch) (D : va_G) (cs : Nat → ClassId) (xo : Nat) : CN l D (tz cs) yX0_init wsX0_init ({ frames := 1, cells := 1, slots := 96, locals := 12 }) 1 96 [.ref xo] [(xo, .inr (0, [.null, .int 0]))] (fun ad => [(xo, .inr (0, [.ref (ad 0), .int 0])), (ad 0, .inl (cs 0, 96, .inl (fun _ => 0)))]) := by
  refine CN.of kX0_init (Nat.le_of_ble_eq_true rfl) ?_
  intro p e s m below meth c A C hQ hin E
  have C : VOk p s m _ c cX0_init 1 wsX0_init RX0 D (tz cs) A s.heap := C
  refine V.lvs (lv' := [(0, .ref xo)]) [0] rfl ?_
  refine v_aload_n C 0 dX0_init_0 rfl ?_
  refine v_objInit C (by decide +kernel) (by decide +kernel) (by decide +kernel) ⟨Nat.le_of_ble_eq_true rfl, Nat.le_of_ble_eq_true rfl⟩ dX0_init_1 ?_
  refine v_aload_n C 0 dX0_init_4 rfl ?_
  refine v_bipush C (v := 96) dX0_init_5 (by decide) ?_
  refine v_newI C 0 rfl (by decide +kernel) 96 (by decide) (by decide) (by decide) ⟨Nat.le_of_ble_eq_true rfl, Nat.le_of_ble_eq_true rfl⟩ dX0_init_7 (fun q7 => ?_)
  refine V.wss (ws' := [(xo, .inr (0, [.null, .int 0])), (q7, .inl (cs 0, 96, .inl (fun _ => 0)))]) rfl ?_
  refine v_putF C fl_X0_init_9 tyX0_ok nmX0 rfl (ty := .array .int) (by decide +kernel) hin rfl 0 rfl rfl rfl (Nat.le_of_ble_eq_true rfl) [(xo, .inr (0, [.ref q7, .int 0])), (q7, .inl (cs 0, 96, .inl (fun _ => 0)))] rfl dX0_init_9 ?_
  exact v_endN C E (fun n => List.getD [q7] n 0) [0, 1] rfl (by decide) ⟨Nat.le_of_ble_eq_true rfl, Nat.le_of_ble_eq_true rfl⟩ dX0_init_12
set_option maxRecDepth 100000 in
theorem kX1_init : KD yX1_init wsX1_init cX1_init 2 none 1 := ⟨⟨_, rfl⟩, by decide, by decide +kernel, by decide +kernel, by decide +kernel⟩
set_option maxRecDepth 100000 in
theorem in_X1_init_self : ∀ w ∈ wsX10, w ∈ wsX1_init := by decide +kernel
set_option maxRecDepth 100000 in
theorem fl_X1_init_9 : FL RX1 wsX1_init RX1 RX1 TX1 3 1 0 9 := ⟨⟨in_X1_init_self, rfl, by decide, rfl⟩, by decide +kernel⟩
set_option maxRecDepth 100000 in
theorem fl_X1_init_15 : FL RX1 wsX1_init RX1 RX1 TX1 3 1 1 15 := ⟨⟨in_X1_init_self, rfl, by decide, rfl⟩, by decide +kernel⟩
set_option maxHeartbeats 8000000 in
set_option maxRecDepth 100000 in
theorem c_X1_init (l : Launch) (D : va_G) (cs : Nat → ClassId) (xo : Nat) (ta : Nat) : CN l D (tz cs) yX1_init wsX1_init ({ frames := 1, cells := 1, slots := 16, locals := 12 }) 1 16 [.ref xo, .ref ta] [(xo, .inr (1, [.null, .null, .int 0]))] (fun ad => [(xo, .inr (1, [.ref ta, .ref (ad 0), .int 0])), (ad 0, .inl (cs 0, 16, .inl (fun _ => 0)))]) := by
  refine CN.of kX1_init (Nat.le_of_ble_eq_true rfl) ?_
  intro p e s m below meth c A C hQ hin E
  have C : VOk p s m _ c cX1_init 2 wsX1_init RX1 D (tz cs) A s.heap := C
  refine V.lvs (lv' := [(0, .ref xo), (1, .ref ta)]) [0, 1] rfl ?_
  refine v_aload_n C 0 dX1_init_0 rfl ?_
  refine v_objInit C (by decide +kernel) (by decide +kernel) (by decide +kernel) ⟨Nat.le_of_ble_eq_true rfl, Nat.le_of_ble_eq_true rfl⟩ dX1_init_1 ?_
  refine v_aload_n C 0 dX1_init_4 rfl ?_
  refine v_aload_n C 1 dX1_init_5 rfl ?_
  refine v_putF C fl_X1_init_9 tyX1_ok nmX1 rfl (ty := .object "TableShares$Table") (by decide +kernel) hin rfl 0 rfl rfl rfl (Nat.le_of_ble_eq_true rfl) [(xo, .inr (1, [.ref ta, .null, .int 0]))] rfl dX1_init_6 ?_
  refine v_aload_n C 0 dX1_init_9 rfl ?_
  refine v_bipush C (v := 16) dX1_init_10 (by decide) ?_
  refine v_newI C 0 rfl (by decide +kernel) 16 (by decide) (by decide) (by decide) ⟨Nat.le_of_ble_eq_true rfl, Nat.le_of_ble_eq_true rfl⟩ dX1_init_12 (fun q12 => ?_)
  refine V.wss (ws' := [(xo, .inr (1, [.ref ta, .null, .int 0])), (q12, .inl (cs 0, 16, .inl (fun _ => 0)))]) rfl ?_
  refine v_putF C fl_X1_init_15 tyX1_ok nmX1 rfl (ty := .array .int) (by decide +kernel) hin rfl 0 rfl rfl rfl (Nat.le_of_ble_eq_true rfl) [(xo, .inr (1, [.ref ta, .ref q12, .int 0])), (q12, .inl (cs 0, 16, .inl (fun _ => 0)))] rfl dX1_init_14 ?_
  exact v_endN C E (fun n => List.getD [q12] n 0) [0, 1] rfl (by decide) ⟨Nat.le_of_ble_eq_true rfl, Nat.le_of_ble_eq_true rfl⟩ dX1_init_17
set_option maxRecDepth 100000 in
theorem kX2_init : KD yX2_init wsX2_init cX2_init 1 none 0 := ⟨⟨_, rfl⟩, by decide, by decide +kernel, by decide +kernel, by decide +kernel⟩
set_option maxRecDepth 100000 in
theorem in_X2_init_self : ∀ w ∈ wsX20, w ∈ wsX2_init := by decide +kernel
set_option maxRecDepth 100000 in
theorem fl_X2_init_9 : FL RX2 wsX2_init RX2 RX2 TX2 6 2 0 9 := ⟨⟨in_X2_init_self, rfl, by decide, rfl⟩, by decide +kernel⟩
set_option maxHeartbeats 8000000 in
set_option maxRecDepth 100000 in
theorem c_X2_init (l : Launch) (D : va_G) (cs : Nat → ClassId) (xo : Nat) : CN l D (tz cs) yX2_init wsX2_init ({ frames := 1, cells := 1, slots := 120, locals := 12 }) 1 120 [.ref xo] [(xo, .inr (2, [.null, .int 0, .int 0, .int 0, .int 0, .int 0]))] (fun ad => [(xo, .inr (2, [.ref (ad 0), .int 0, .int 0, .int 0, .int 0, .int 0])), (ad 0, .inl (cs 0, 120, .inl (fun _ => 0)))]) := by
  refine CN.of kX2_init (Nat.le_of_ble_eq_true rfl) ?_
  intro p e s m below meth c A C hQ hin E
  have C : VOk p s m _ c cX2_init 1 wsX2_init RX2 D (tz cs) A s.heap := C
  refine V.lvs (lv' := [(0, .ref xo)]) [0] rfl ?_
  refine v_aload_n C 0 dX2_init_0 rfl ?_
  refine v_objInit C (by decide +kernel) (by decide +kernel) (by decide +kernel) ⟨Nat.le_of_ble_eq_true rfl, Nat.le_of_ble_eq_true rfl⟩ dX2_init_1 ?_
  refine v_aload_n C 0 dX2_init_4 rfl ?_
  refine v_bipush C (v := 120) dX2_init_5 (by decide) ?_
  refine v_newI C 0 rfl (by decide +kernel) 120 (by decide) (by decide) (by decide) ⟨Nat.le_of_ble_eq_true rfl, Nat.le_of_ble_eq_true rfl⟩ dX2_init_7 (fun q7 => ?_)
  refine V.wss (ws' := [(xo, .inr (2, [.null, .int 0, .int 0, .int 0, .int 0, .int 0])), (q7, .inl (cs 0, 120, .inl (fun _ => 0)))]) rfl ?_
  refine v_putF C fl_X2_init_9 tyX2_ok nmX2 rfl (ty := .array .int) (by decide +kernel) hin rfl 0 rfl rfl rfl (Nat.le_of_ble_eq_true rfl) [(xo, .inr (2, [.ref q7, .int 0, .int 0, .int 0, .int 0, .int 0])), (q7, .inl (cs 0, 120, .inl (fun _ => 0)))] rfl dX2_init_9 ?_
  exact v_endN C E (fun n => List.getD [q7] n 0) [0, 1] rfl (by decide) ⟨Nat.le_of_ble_eq_true rfl, Nat.le_of_ble_eq_true rfl⟩ dX2_init_12
set_option maxRecDepth 100000 in
theorem kX3_init : KD yX3_init wsX3_init cX3_init 1 none 0 := ⟨⟨_, rfl⟩, by decide, by decide +kernel, by decide +kernel, by decide +kernel⟩
set_option maxRecDepth 100000 in
theorem in_X3_init_self : ∀ w ∈ wsX30, w ∈ wsX3_init := by decide +kernel
set_option maxRecDepth 100000 in
theorem fl_X3_init_9 : FL RX3 wsX3_init RX3 RX3 TX3 4 3 0 9 := ⟨⟨in_X3_init_self, rfl, by decide, rfl⟩, by decide +kernel⟩
set_option maxHeartbeats 8000000 in
set_option maxRecDepth 100000 in
theorem c_X3_init (l : Launch) (D : va_G) (cs : Nat → ClassId) (xo : Nat) : CN l D (tz cs) yX3_init wsX3_init ({ frames := 1, cells := 1, slots := 40, locals := 12 }) 1 40 [.ref xo] [(xo, .inr (3, [.null, .int 0, .int 0, .int 0]))] (fun ad => [(xo, .inr (3, [.ref (ad 0), .int 0, .int 0, .int 0])), (ad 0, .inl (cs 0, 40, .inl (fun _ => 0)))]) := by
  refine CN.of kX3_init (Nat.le_of_ble_eq_true rfl) ?_
  intro p e s m below meth c A C hQ hin E
  have C : VOk p s m _ c cX3_init 1 wsX3_init RX3 D (tz cs) A s.heap := C
  refine V.lvs (lv' := [(0, .ref xo)]) [0] rfl ?_
  refine v_aload_n C 0 dX3_init_0 rfl ?_
  refine v_objInit C (by decide +kernel) (by decide +kernel) (by decide +kernel) ⟨Nat.le_of_ble_eq_true rfl, Nat.le_of_ble_eq_true rfl⟩ dX3_init_1 ?_
  refine v_aload_n C 0 dX3_init_4 rfl ?_
  refine v_bipush C (v := 40) dX3_init_5 (by decide) ?_
  refine v_newI C 0 rfl (by decide +kernel) 40 (by decide) (by decide) (by decide) ⟨Nat.le_of_ble_eq_true rfl, Nat.le_of_ble_eq_true rfl⟩ dX3_init_7 (fun q7 => ?_)
  refine V.wss (ws' := [(xo, .inr (3, [.null, .int 0, .int 0, .int 0])), (q7, .inl (cs 0, 40, .inl (fun _ => 0)))]) rfl ?_
  refine v_putF C fl_X3_init_9 tyX3_ok nmX3 rfl (ty := .array .int) (by decide +kernel) hin rfl 0 rfl rfl rfl (Nat.le_of_ble_eq_true rfl) [(xo, .inr (3, [.ref q7, .int 0, .int 0, .int 0])), (q7, .inl (cs 0, 40, .inl (fun _ => 0)))] rfl dX3_init_9 ?_
  exact v_endN C E (fun n => List.getD [q7] n 0) [0, 1] rfl (by decide) ⟨Nat.le_of_ble_eq_true rfl, Nat.le_of_ble_eq_true rfl⟩ dX3_init_12
set_option maxRecDepth 100000 in
theorem kX4_init : KD yX4_init wsX4_init cX4_init 1 none 0 := ⟨⟨_, rfl⟩, by decide, by decide +kernel, by decide +kernel, by decide +kernel⟩
set_option maxRecDepth 100000 in
theorem in_X4_init_self : ∀ w ∈ wsX40, w ∈ wsX4_init := by decide +kernel
set_option maxRecDepth 100000 in
theorem fl_X4_init_9 : FL RX4 wsX4_init RX4 RX4 TX4 8 4 0 9 := ⟨⟨in_X4_init_self, rfl, by decide, rfl⟩, by decide +kernel⟩
set_option maxRecDepth 100000 in
theorem fl_X4_init_15 : FL RX4 wsX4_init RX4 RX4 TX4 8 4 1 15 := ⟨⟨in_X4_init_self, rfl, by decide, rfl⟩, by decide +kernel⟩
set_option maxRecDepth 100000 in
theorem fl_X4_init_18 : FL RX4 wsX4_init RX4 RX4 TX4 8 4 2 18 := ⟨⟨in_X4_init_self, rfl, by decide, rfl⟩, by decide +kernel⟩
set_option maxHeartbeats 8000000 in
set_option maxRecDepth 100000 in
theorem c_X4_init (l : Launch) (D : va_G) (cs : Nat → ClassId) (xo : Nat) : CN l D (tz cs) yX4_init wsX4_init ({ frames := 1, cells := 3, slots := 24, locals := 12 }) 3 24 [.ref xo] [(xo, .inr (4, [.null, .null, .null, .int 0, .int 0, .int 0, .int 0, .int 0]))] (fun ad => [(xo, .inr (4, [.ref (ad 0), .ref (ad 1), .ref (ad 2), .int 0, .int 0, .int 0, .int 0, .int 0])), (ad 0, .inl (cs 0, 8, .inl (fun _ => 0))), (ad 1, .inl (cs 0, 8, .inl (fun _ => 0))), (ad 2, .inl (cs 0, 8, .inl (fun _ => 0)))]) := by
  refine CN.of kX4_init (Nat.le_of_ble_eq_true rfl) ?_
  intro p e s m below meth c A C hQ hin E
  have C : VOk p s m _ c cX4_init 1 wsX4_init RX4 D (tz cs) A s.heap := C
  refine V.lvs (lv' := [(0, .ref xo)]) [0] rfl ?_
  refine v_aload_n C 0 dX4_init_0 rfl ?_
  refine v_objInit C (by decide +kernel) (by decide +kernel) (by decide +kernel) ⟨Nat.le_of_ble_eq_true rfl, Nat.le_of_ble_eq_true rfl⟩ dX4_init_1 ?_
  refine v_aload_n C 0 dX4_init_4 rfl ?_
  refine v_bipush C (v := 8) dX4_init_5 (by decide) ?_
  refine v_newI C 0 rfl (by decide +kernel) 8 (by decide) (by decide) (by decide) ⟨Nat.le_of_ble_eq_true rfl, Nat.le_of_ble_eq_true rfl⟩ dX4_init_7 (fun q7 => ?_)
  refine V.wss (ws' := [(xo, .inr (4, [.null, .null, .null, .int 0, .int 0, .int 0, .int 0, .int 0])), (q7, .inl (cs 0, 8, .inl (fun _ => 0)))]) rfl ?_
  refine v_putF C fl_X4_init_9 tyX4_ok nmX4 rfl (ty := .array .int) (by decide +kernel) hin rfl 0 rfl rfl rfl (Nat.le_of_ble_eq_true rfl) [(xo, .inr (4, [.ref q7, .null, .null, .int 0, .int 0, .int 0, .int 0, .int 0])), (q7, .inl (cs 0, 8, .inl (fun _ => 0)))] rfl dX4_init_9 ?_
  refine v_aload_n C 0 dX4_init_12 rfl ?_
  refine v_bipush C (v := 8) dX4_init_13 (by decide) ?_
  refine v_newI C 0 rfl (by decide +kernel) 8 (by decide) (by decide) (by decide) ⟨Nat.le_of_ble_eq_true rfl, Nat.le_of_ble_eq_true rfl⟩ dX4_init_15 (fun q15 => ?_)
  refine V.wss (ws' := [(xo, .inr (4, [.ref q7, .null, .null, .int 0, .int 0, .int 0, .int 0, .int 0])), (q7, .inl (cs 0, 8, .inl (fun _ => 0))), (q15, .inl (cs 0, 8, .inl (fun _ => 0)))]) rfl ?_
  refine v_putF C fl_X4_init_15 tyX4_ok nmX4 rfl (ty := .array .int) (by decide +kernel) hin rfl 0 rfl rfl rfl (Nat.le_of_ble_eq_true rfl) [(xo, .inr (4, [.ref q7, .ref q15, .null, .int 0, .int 0, .int 0, .int 0, .int 0])), (q7, .inl (cs 0, 8, .inl (fun _ => 0))), (q15, .inl (cs 0, 8, .inl (fun _ => 0)))] rfl dX4_init_17 ?_
  refine v_aload_n C 0 dX4_init_20 rfl ?_
  refine v_bipush C (v := 8) dX4_init_21 (by decide) ?_
  refine v_newI C 0 rfl (by decide +kernel) 8 (by decide) (by decide) (by decide) ⟨Nat.le_of_ble_eq_true rfl, Nat.le_of_ble_eq_true rfl⟩ dX4_init_23 (fun q23 => ?_)
  refine V.wss (ws' := [(xo, .inr (4, [.ref q7, .ref q15, .null, .int 0, .int 0, .int 0, .int 0, .int 0])), (q7, .inl (cs 0, 8, .inl (fun _ => 0))), (q15, .inl (cs 0, 8, .inl (fun _ => 0))), (q23, .inl (cs 0, 8, .inl (fun _ => 0)))]) rfl ?_
  refine v_putF C fl_X4_init_18 tyX4_ok nmX4 rfl (ty := .array .int) (by decide +kernel) hin rfl 0 rfl rfl rfl (Nat.le_of_ble_eq_true rfl) [(xo, .inr (4, [.ref q7, .ref q15, .ref q23, .int 0, .int 0, .int 0, .int 0, .int 0])), (q7, .inl (cs 0, 8, .inl (fun _ => 0))), (q15, .inl (cs 0, 8, .inl (fun _ => 0))), (q23, .inl (cs 0, 8, .inl (fun _ => 0)))] rfl dX4_init_25 ?_
  exact v_endN C E (fun n => List.getD [q7, q15, q23] n 0) [0, 1, 2, 3] rfl (by decide) ⟨Nat.le_of_ble_eq_true rfl, Nat.le_of_ble_eq_true rfl⟩ dX4_init_28
set_option maxRecDepth 100000 in
theorem kX6_init : KD yX6_init wsX6_init cX6_init 2 none 0 := ⟨⟨_, rfl⟩, by decide, by decide +kernel, by decide +kernel, by decide +kernel⟩
set_option maxRecDepth 100000 in
theorem in_X6_init_self : ∀ w ∈ wsX60, w ∈ wsX6_init := by decide +kernel
set_option maxRecDepth 100000 in
theorem fl_X6_init_7 : FL RX6 wsX6_init RX6 RX6 TX6 22 6 0 7 := ⟨⟨in_X6_init_self, rfl, by decide, rfl⟩, by decide +kernel⟩
set_option maxRecDepth 100000 in
theorem fl_X6_init_13 : FL RX6 wsX6_init RX6 RX6 TX6 22 6 1 13 := ⟨⟨in_X6_init_self, rfl, by decide, rfl⟩, by decide +kernel⟩
set_option maxRecDepth 100000 in
theorem fl_X6_init_16 : FL RX6 wsX6_init RX6 RX6 TX6 22 6 2 16 := ⟨⟨in_X6_init_self, rfl, by decide, rfl⟩, by decide +kernel⟩
set_option maxRecDepth 100000 in
theorem fl_X6_init_19 : FL RX6 wsX6_init RX6 RX6 TX6 22 6 5 19 := ⟨⟨in_X6_init_self, rfl, by decide, rfl⟩, by decide +kernel⟩
set_option maxRecDepth 100000 in
theorem fl_X6_init_22 : FL RX6 wsX6_init RX6 RX6 TX6 22 6 6 22 := ⟨⟨in_X6_init_self, rfl, by decide, rfl⟩, by decide +kernel⟩
set_option maxRecDepth 100000 in
theorem fl_X6_init_25 : FL RX6 wsX6_init RX6 RX6 TX6 22 6 7 25 := ⟨⟨in_X6_init_self, rfl, by decide, rfl⟩, by decide +kernel⟩
set_option maxRecDepth 100000 in
theorem fl_X6_init_28 : FL RX6 wsX6_init RX6 RX6 TX6 22 6 15 28 := ⟨⟨in_X6_init_self, rfl, by decide, rfl⟩, by decide +kernel⟩
set_option maxRecDepth 100000 in
theorem fl_X6_init_31 : FL RX6 wsX6_init RX6 RX6 TX6 22 6 16 31 := ⟨⟨in_X6_init_self, rfl, by decide, rfl⟩, by decide +kernel⟩
set_option maxRecDepth 100000 in
theorem fl_X6_init_34 : FL RX6 wsX6_init RX6 RX6 TX6 22 6 18 34 := ⟨⟨in_X6_init_self, rfl, by decide, rfl⟩, by decide +kernel⟩
set_option maxRecDepth 100000 in
theorem fl_X6_init_38 : FL RX6 wsX6_init RX6 RX6 TX6 22 6 19 38 := ⟨⟨in_X6_init_self, rfl, by decide, rfl⟩, by decide +kernel⟩
set_option maxRecDepth 100000 in
theorem fl_X6_init_41 : FL RX6 wsX6_init RX6 RX6 TX6 22 6 20 41 := ⟨⟨in_X6_init_self, rfl, by decide, rfl⟩, by decide +kernel⟩
set_option maxHeartbeats 8000000 in
set_option maxRecDepth 100000 in
theorem c_X6_init (l : Launch) (D : va_G) (cs : Nat → ClassId) (xo : Nat) : CN l D (tz cs) yX6_init wsX6_init ({ frames := 1, cells := 11, slots := 1326, locals := 12 }) 11 1326 [.ref xo] [(xo, .inr (6, [.null, .null, .null, .int 0, .int 0, .null, .null, .null, .int 0, .int 0, .int 0, .int 0, .int 0, .int 0, .int 0, .null, .null, .int 0, .null, .null, .null, .int 0]))] (fun ad => [(xo, .inr (6, [.ref (ad 42), .ref (ad 43), .ref (ad 44), .int 0, .int 0, .ref (ad 45), .ref (ad 46), .ref (ad 47), .int 0, .int 0, .int 0, .int 0, .int 0, .int 0, .int 0, .ref (ad 48), .ref (ad 49), .int 0, .ref (ad 50), .ref (ad 51), .ref (ad 52), .int 0])), (ad 42, .inl (cs 0, 8, .inl (fun _ => 0))), (ad 43, .inl (cs 0, 8, .inl (upd (upd (upd (upd (upd (upd (upd (upd (fun _ => 0) 0 (-1)) 1 (-1)) 2 (-1)) 3 (-1)) 4 (-1)) 5 (-1)) 6 (-1)) 7 (-1)))), (ad 44, .inl (cs 0, 320, .inl (fun _ => 0))), (ad 45, .inl (cs 0, 29, .inl (fun _ => 0))), (ad 46, .inl (cs 0, 40, .inl (fun _ => 0))), (ad 47, .inl (cs 0, 120, .inl (fun _ => 0))), (ad 48, .inl (cs 0, 29, .inl (fun _ => 0))), (ad 49, .inl (cs 0, 696, .inl (fun _ => 0))), (ad 50, .inl (cs 1, 2, .inl (fun _ => 0))), (ad 51, .inl (cs 0, 58, .inl (fun _ => 0))), (ad 52, .inl (cs 0, 16, .inl (fun _ => 0)))]) := by
  refine CN.of kX6_init (Nat.le_of_ble_eq_true rfl) ?_
  intro p e s m below meth c A C hQ hin E
  have C : VOk p s m _ c cX6_init 2 wsX6_init RX6 D (tz cs) A s.heap := C
  refine V.lvs (lv' := [(0, .ref xo)]) [0] rfl ?_
  refine v_aload_n C 0 dX6_init_0 rfl ?_
  refine v_objInit C (by decide +kernel) (by decide +kernel) (by decide +kernel) ⟨Nat.le_of_ble_eq_true rfl, Nat.le_of_ble_eq_true rfl⟩ dX6_init_1 ?_
  refine v_aload_n C 0 dX6_init_4 rfl ?_
  refine v_bipush C (v := 8) dX6_init_5 (by decide) ?_
  refine v_newI C 0 rfl (by decide +kernel) 8 (by decide) (by decide) (by decide) ⟨Nat.le_of_ble_eq_true rfl, Nat.le_of_ble_eq_true rfl⟩ dX6_init_7 (fun q7 => ?_)
  refine V.wss (ws' := [(xo, .inr (6, [.null, .null, .null, .int 0, .int 0, .null, .null, .null, .int 0, .int 0, .int 0, .int 0, .int 0, .int 0, .int 0, .null, .null, .int 0, .null, .null, .null, .int 0])), (q7, .inl (cs 0, 8, .inl (fun _ => 0)))]) rfl ?_
  refine v_putF C fl_X6_init_7 tyX6_ok nmX6 rfl (ty := .array .int) (by decide +kernel) hin rfl 0 rfl rfl rfl (Nat.le_of_ble_eq_true rfl) [(xo, .inr (6, [.ref q7, .null, .null, .int 0, .int 0, .null, .null, .null, .int 0, .int 0, .int 0, .int 0, .int 0, .int 0, .int 0, .null, .null, .int 0, .null, .null, .null, .int 0])), (q7, .inl (cs 0, 8, .inl (fun _ => 0)))] rfl dX6_init_9 ?_
  refine v_aload_n C 0 dX6_init_12 rfl ?_
  refine v_bipush C (v := 8) dX6_init_13 (by decide) ?_
  refine v_newI C 0 rfl (by decide +kernel) 8 (by decide) (by decide) (by decide) ⟨Nat.le_of_ble_eq_true rfl, Nat.le_of_ble_eq_true rfl⟩ dX6_init_15 (fun q15 => ?_)
  refine V.wss (ws' := [(xo, .inr (6, [.ref q7, .null, .null, .int 0, .int 0, .null, .null, .null, .int 0, .int 0, .int 0, .int 0, .int 0, .int 0, .int 0, .null, .null, .int 0, .null, .null, .null, .int 0])), (q7, .inl (cs 0, 8, .inl (fun _ => 0))), (q15, .inl (cs 0, 8, .inl (fun _ => 0)))]) rfl ?_
  refine v_putF C fl_X6_init_13 tyX6_ok nmX6 rfl (ty := .array .int) (by decide +kernel) hin rfl 0 rfl rfl rfl (Nat.le_of_ble_eq_true rfl) [(xo, .inr (6, [.ref q7, .ref q15, .null, .int 0, .int 0, .null, .null, .null, .int 0, .int 0, .int 0, .int 0, .int 0, .int 0, .int 0, .null, .null, .int 0, .null, .null, .null, .int 0])), (q7, .inl (cs 0, 8, .inl (fun _ => 0))), (q15, .inl (cs 0, 8, .inl (fun _ => 0)))] rfl dX6_init_17 ?_
  refine v_aload_n C 0 dX6_init_20 rfl ?_
  refine v_sipush C (v := 320) dX6_init_21 (by decide) ?_
  refine v_newI C 0 rfl (by decide +kernel) 320 (by decide) (by decide) (by decide) ⟨Nat.le_of_ble_eq_true rfl, Nat.le_of_ble_eq_true rfl⟩ dX6_init_24 (fun q24 => ?_)
  refine V.wss (ws' := [(xo, .inr (6, [.ref q7, .ref q15, .null, .int 0, .int 0, .null, .null, .null, .int 0, .int 0, .int 0, .int 0, .int 0, .int 0, .int 0, .null, .null, .int 0, .null, .null, .null, .int 0])), (q7, .inl (cs 0, 8, .inl (fun _ => 0))), (q15, .inl (cs 0, 8, .inl (fun _ => 0))), (q24, .inl (cs 0, 320, .inl (fun _ => 0)))]) rfl ?_
  refine v_putF C fl_X6_init_16 tyX6_ok nmX6 rfl (ty := .array .int) (by decide +kernel) hin rfl 0 rfl rfl rfl (Nat.le_of_ble_eq_true rfl) [(xo, .inr (6, [.ref q7, .ref q15, .ref q24, .int 0, .int 0, .null, .null, .null, .int 0, .int 0, .int 0, .int 0, .int 0, .int 0, .int 0, .null, .null, .int 0, .null, .null, .null, .int 0])), (q7, .inl (cs 0, 8, .inl (fun _ => 0))), (q15, .inl (cs 0, 8, .inl (fun _ => 0))), (q24, .inl (cs 0, 320, .inl (fun _ => 0)))] rfl dX6_init_26 ?_
  refine v_aload_n C 0 dX6_init_29 rfl ?_
  refine v_bipush C (v := 29) dX6_init_30 (by decide) ?_
  refine v_newI C 0 rfl (by decide +kernel) 29 (by decide) (by decide) (by decide) ⟨Nat.le_of_ble_eq_true rfl, Nat.le_of_ble_eq_true rfl⟩ dX6_init_32 (fun q32 => ?_)
  refine V.wss (ws' := [(xo, .inr (6, [.ref q7, .ref q15, .ref q24, .int 0, .int 0, .null, .null, .null, .int 0, .int 0, .int 0, .int 0, .int 0, .int 0, .int 0, .null, .null, .int 0, .null, .null, .null, .int 0])), (q7, .inl (cs 0, 8, .inl (fun _ => 0))), (q15, .inl (cs 0, 8, .inl (fun _ => 0))), (q24, .inl (cs 0, 320, .inl (fun _ => 0))), (q32, .inl (cs 0, 29, .inl (fun _ => 0)))]) rfl ?_
  refine v_putF C fl_X6_init_19 tyX6_ok nmX6 rfl (ty := .array .int) (by decide +kernel) hin rfl 0 rfl rfl rfl (Nat.le_of_ble_eq_true rfl) [(xo, .inr (6, [.ref q7, .ref q15, .ref q24, .int 0, .int 0, .ref q32, .null, .null, .int 0, .int 0, .int 0, .int 0, .int 0, .int 0, .int 0, .null, .null, .int 0, .null, .null, .null, .int 0])), (q7, .inl (cs 0, 8, .inl (fun _ => 0))), (q15, .inl (cs 0, 8, .inl (fun _ => 0))), (q24, .inl (cs 0, 320, .inl (fun _ => 0))), (q32, .inl (cs 0, 29, .inl (fun _ => 0)))] rfl dX6_init_34 ?_
  refine v_aload_n C 0 dX6_init_37 rfl ?_
  refine v_bipush C (v := 40) dX6_init_38 (by decide) ?_
  refine v_newI C 0 rfl (by decide +kernel) 40 (by decide) (by decide) (by decide) ⟨Nat.le_of_ble_eq_true rfl, Nat.le_of_ble_eq_true rfl⟩ dX6_init_40 (fun q40 => ?_)
  refine V.wss (ws' := [(xo, .inr (6, [.ref q7, .ref q15, .ref q24, .int 0, .int 0, .ref q32, .null, .null, .int 0, .int 0, .int 0, .int 0, .int 0, .int 0, .int 0, .null, .null, .int 0, .null, .null, .null, .int 0])), (q7, .inl (cs 0, 8, .inl (fun _ => 0))), (q15, .inl (cs 0, 8, .inl (fun _ => 0))), (q24, .inl (cs 0, 320, .inl (fun _ => 0))), (q32, .inl (cs 0, 29, .inl (fun _ => 0))), (q40, .inl (cs 0, 40, .inl (fun _ => 0)))]) rfl ?_
  refine v_putF C fl_X6_init_22 tyX6_ok nmX6 rfl (ty := .array .int) (by decide +kernel) hin rfl 0 rfl rfl rfl (Nat.le_of_ble_eq_true rfl) [(xo, .inr (6, [.ref q7, .ref q15, .ref q24, .int 0, .int 0, .ref q32, .ref q40, .null, .int 0, .int 0, .int 0, .int 0, .int 0, .int 0, .int 0, .null, .null, .int 0, .null, .null, .null, .int 0])), (q7, .inl (cs 0, 8, .inl (fun _ => 0))), (q15, .inl (cs 0, 8, .inl (fun _ => 0))), (q24, .inl (cs 0, 320, .inl (fun _ => 0))), (q32, .inl (cs 0, 29, .inl (fun _ => 0))), (q40, .inl (cs 0, 40, .inl (fun _ => 0)))] rfl dX6_init_42 ?_
  refine v_aload_n C 0 dX6_init_45 rfl ?_
  refine v_bipush C (v := 120) dX6_init_46 (by decide) ?_
  refine v_newI C 0 rfl (by decide +kernel) 120 (by decide) (by decide) (by decide) ⟨Nat.le_of_ble_eq_true rfl, Nat.le_of_ble_eq_true rfl⟩ dX6_init_48 (fun q48 => ?_)
  refine V.wss (ws' := [(xo, .inr (6, [.ref q7, .ref q15, .ref q24, .int 0, .int 0, .ref q32, .ref q40, .null, .int 0, .int 0, .int 0, .int 0, .int 0, .int 0, .int 0, .null, .null, .int 0, .null, .null, .null, .int 0])), (q7, .inl (cs 0, 8, .inl (fun _ => 0))), (q15, .inl (cs 0, 8, .inl (fun _ => 0))), (q24, .inl (cs 0, 320, .inl (fun _ => 0))), (q32, .inl (cs 0, 29, .inl (fun _ => 0))), (q40, .inl (cs 0, 40, .inl (fun _ => 0))), (q48, .inl (cs 0, 120, .inl (fun _ => 0)))]) rfl ?_
  refine v_putF C fl_X6_init_25 tyX6_ok nmX6 rfl (ty := .array .int) (by decide +kernel) hin rfl 0 rfl rfl rfl (Nat.le_of_ble_eq_true rfl) [(xo, .inr (6, [.ref q7, .ref q15, .ref q24, .int 0, .int 0, .ref q32, .ref q40, .ref q48, .int 0, .int 0, .int 0, .int 0, .int 0, .int 0, .int 0, .null, .null, .int 0, .null, .null, .null, .int 0])), (q7, .inl (cs 0, 8, .inl (fun _ => 0))), (q15, .inl (cs 0, 8, .inl (fun _ => 0))), (q24, .inl (cs 0, 320, .inl (fun _ => 0))), (q32, .inl (cs 0, 29, .inl (fun _ => 0))), (q40, .inl (cs 0, 40, .inl (fun _ => 0))), (q48, .inl (cs 0, 120, .inl (fun _ => 0)))] rfl dX6_init_50 ?_
  refine v_aload_n C 0 dX6_init_53 rfl ?_
  refine v_bipush C (v := 29) dX6_init_54 (by decide) ?_
  refine v_newI C 0 rfl (by decide +kernel) 29 (by decide) (by decide) (by decide) ⟨Nat.le_of_ble_eq_true rfl, Nat.le_of_ble_eq_true rfl⟩ dX6_init_56 (fun q56 => ?_)
  refine V.wss (ws' := [(xo, .inr (6, [.ref q7, .ref q15, .ref q24, .int 0, .int 0, .ref q32, .ref q40, .ref q48, .int 0, .int 0, .int 0, .int 0, .int 0, .int 0, .int 0, .null, .null, .int 0, .null, .null, .null, .int 0])), (q7, .inl (cs 0, 8, .inl (fun _ => 0))), (q15, .inl (cs 0, 8, .inl (fun _ => 0))), (q24, .inl (cs 0, 320, .inl (fun _ => 0))), (q32, .inl (cs 0, 29, .inl (fun _ => 0))), (q40, .inl (cs 0, 40, .inl (fun _ => 0))), (q48, .inl (cs 0, 120, .inl (fun _ => 0))), (q56, .inl (cs 0, 29, .inl (fun _ => 0)))]) rfl ?_
  refine v_putF C fl_X6_init_28 tyX6_ok nmX6 rfl (ty := .array .int) (by decide +kernel) hin rfl 0 rfl rfl rfl (Nat.le_of_ble_eq_true rfl) [(xo, .inr (6, [.ref q7, .ref q15, .ref q24, .int 0, .int 0, .ref q32, .ref q40, .ref q48, .int 0, .int 0, .int 0, .int 0, .int 0, .int 0, .int 0, .ref q56, .null, .int 0, .null, .null, .null, .int 0])), (q7, .inl (cs 0, 8, .inl (fun _ => 0))), (q15, .inl (cs 0, 8, .inl (fun _ => 0))), (q24, .inl (cs 0, 320, .inl (fun _ => 0))), (q32, .inl (cs 0, 29, .inl (fun _ => 0))), (q40, .inl (cs 0, 40, .inl (fun _ => 0))), (q48, .inl (cs 0, 120, .inl (fun _ => 0))), (q56, .inl (cs 0, 29, .inl (fun _ => 0)))] rfl dX6_init_58 ?_
  refine v_aload_n C 0 dX6_init_61 rfl ?_
  refine v_sipush C (v := 696) dX6_init_62 (by decide) ?_
  refine v_newI C 0 rfl (by decide +kernel) 696 (by decide) (by decide) (by decide) ⟨Nat.le_of_ble_eq_true rfl, Nat.le_of_ble_eq_true rfl⟩ dX6_init_65 (fun q65 => ?_)
  refine V.wss (ws' := [(xo, .inr (6, [.ref q7, .ref q15, .ref q24, .int 0, .int 0, .ref q32, .ref q40, .ref q48, .int 0, .int 0, .int 0, .int 0, .int 0, .int 0, .int 0, .ref q56, .null, .int 0, .null, .null, .null, .int 0])), (q7, .inl (cs 0, 8, .inl (fun _ => 0))), (q15, .inl (cs 0, 8, .inl (fun _ => 0))), (q24, .inl (cs 0, 320, .inl (fun _ => 0))), (q32, .inl (cs 0, 29, .inl (fun _ => 0))), (q40, .inl (cs 0, 40, .inl (fun _ => 0))), (q48, .inl (cs 0, 120, .inl (fun _ => 0))), (q56, .inl (cs 0, 29, .inl (fun _ => 0))), (q65, .inl (cs 0, 696, .inl (fun _ => 0)))]) rfl ?_
  refine v_putF C fl_X6_init_31 tyX6_ok nmX6 rfl (ty := .array .int) (by decide +kernel) hin rfl 0 rfl rfl rfl (Nat.le_of_ble_eq_true rfl) [(xo, .inr (6, [.ref q7, .ref q15, .ref q24, .int 0, .int 0, .ref q32, .ref q40, .ref q48, .int 0, .int 0, .int 0, .int 0, .int 0, .int 0, .int 0, .ref q56, .ref q65, .int 0, .null, .null, .null, .int 0])), (q7, .inl (cs 0, 8, .inl (fun _ => 0))), (q15, .inl (cs 0, 8, .inl (fun _ => 0))), (q24, .inl (cs 0, 320, .inl (fun _ => 0))), (q32, .inl (cs 0, 29, .inl (fun _ => 0))), (q40, .inl (cs 0, 40, .inl (fun _ => 0))), (q48, .inl (cs 0, 120, .inl (fun _ => 0))), (q56, .inl (cs 0, 29, .inl (fun _ => 0))), (q65, .inl (cs 0, 696, .inl (fun _ => 0)))] rfl dX6_init_67 ?_
  refine v_aload_n C 0 dX6_init_70 rfl ?_
  refine v_iconst C (v := 2) dX6_init_71 (by decide) ?_
  refine v_newZ C 1 rfl (by decide +kernel) 2 (by decide) (by decide) (by decide) ⟨Nat.le_of_ble_eq_true rfl, Nat.le_of_ble_eq_true rfl⟩ dX6_init_72 (fun q72 => ?_)
  refine V.wss (ws' := [(xo, .inr (6, [.ref q7, .ref q15, .ref q24, .int 0, .int 0, .ref q32, .ref q40, .ref q48, .int 0, .int 0, .int 0, .int 0, .int 0, .int 0, .int 0, .ref q56, .ref q65, .int 0, .null, .null, .null, .int 0])), (q7, .inl (cs 0, 8, .inl (fun _ => 0))), (q15, .inl (cs 0, 8, .inl (fun _ => 0))), (q24, .inl (cs 0, 320, .inl (fun _ => 0))), (q32, .inl (cs 0, 29, .inl (fun _ => 0))), (q40, .inl (cs 0, 40, .inl (fun _ => 0))), (q48, .inl (cs 0, 120, .inl (fun _ => 0))), (q56, .inl (cs 0, 29, .inl (fun _ => 0))), (q65, .inl (cs 0, 696, .inl (fun _ => 0))), (q72, .inl (cs 1, 2, .inl (fun _ => 0)))]) rfl ?_
  refine v_putF C fl_X6_init_34 tyX6_ok nmX6 rfl (ty := .array .boolean) (by decide +kernel) hin rfl 0 rfl rfl rfl (Nat.le_of_ble_eq_true rfl) [(xo, .inr (6, [.ref q7, .ref q15, .ref q24, .int 0, .int 0, .ref q32, .ref q40, .ref q48, .int 0, .int 0, .int 0, .int 0, .int 0, .int 0, .int 0, .ref q56, .ref q65, .int 0, .ref q72, .null, .null, .int 0])), (q7, .inl (cs 0, 8, .inl (fun _ => 0))), (q15, .inl (cs 0, 8, .inl (fun _ => 0))), (q24, .inl (cs 0, 320, .inl (fun _ => 0))), (q32, .inl (cs 0, 29, .inl (fun _ => 0))), (q40, .inl (cs 0, 40, .inl (fun _ => 0))), (q48, .inl (cs 0, 120, .inl (fun _ => 0))), (q56, .inl (cs 0, 29, .inl (fun _ => 0))), (q65, .inl (cs 0, 696, .inl (fun _ => 0))), (q72, .inl (cs 1, 2, .inl (fun _ => 0)))] rfl dX6_init_74 ?_
  refine v_aload_n C 0 dX6_init_77 rfl ?_
  refine v_bipush C (v := 58) dX6_init_78 (by decide) ?_
  refine v_newI C 0 rfl (by decide +kernel) 58 (by decide) (by decide) (by decide) ⟨Nat.le_of_ble_eq_true rfl, Nat.le_of_ble_eq_true rfl⟩ dX6_init_80 (fun q80 => ?_)
  refine V.wss (ws' := [(xo, .inr (6, [.ref q7, .ref q15, .ref q24, .int 0, .int 0, .ref q32, .ref q40, .ref q48, .int 0, .int 0, .int 0, .int 0, .int 0, .int 0, .int 0, .ref q56, .ref q65, .int 0, .ref q72, .null, .null, .int 0])), (q7, .inl (cs 0, 8, .inl (fun _ => 0))), (q15, .inl (cs 0, 8, .inl (fun _ => 0))), (q24, .inl (cs 0, 320, .inl (fun _ => 0))), (q32, .inl (cs 0, 29, .inl (fun _ => 0))), (q40, .inl (cs 0, 40, .inl (fun _ => 0))), (q48, .inl (cs 0, 120, .inl (fun _ => 0))), (q56, .inl (cs 0, 29, .inl (fun _ => 0))), (q65, .inl (cs 0, 696, .inl (fun _ => 0))), (q72, .inl (cs 1, 2, .inl (fun _ => 0))), (q80, .inl (cs 0, 58, .inl (fun _ => 0)))]) rfl ?_
  refine v_putF C fl_X6_init_38 tyX6_ok nmX6 rfl (ty := .array .int) (by decide +kernel) hin rfl 0 rfl rfl rfl (Nat.le_of_ble_eq_true rfl) [(xo, .inr (6, [.ref q7, .ref q15, .ref q24, .int 0, .int 0, .ref q32, .ref q40, .ref q48, .int 0, .int 0, .int 0, .int 0, .int 0, .int 0, .int 0, .ref q56, .ref q65, .int 0, .ref q72, .ref q80, .null, .int 0])), (q7, .inl (cs 0, 8, .inl (fun _ => 0))), (q15, .inl (cs 0, 8, .inl (fun _ => 0))), (q24, .inl (cs 0, 320, .inl (fun _ => 0))), (q32, .inl (cs 0, 29, .inl (fun _ => 0))), (q40, .inl (cs 0, 40, .inl (fun _ => 0))), (q48, .inl (cs 0, 120, .inl (fun _ => 0))), (q56, .inl (cs 0, 29, .inl (fun _ => 0))), (q65, .inl (cs 0, 696, .inl (fun _ => 0))), (q72, .inl (cs 1, 2, .inl (fun _ => 0))), (q80, .inl (cs 0, 58, .inl (fun _ => 0)))] rfl dX6_init_82 ?_
  refine v_aload_n C 0 dX6_init_85 rfl ?_
  refine v_bipush C (v := 16) dX6_init_86 (by decide) ?_
  refine v_newI C 0 rfl (by decide +kernel) 16 (by decide) (by decide) (by decide) ⟨Nat.le_of_ble_eq_true rfl, Nat.le_of_ble_eq_true rfl⟩ dX6_init_88 (fun q88 => ?_)
  refine V.wss (ws' := [(xo, .inr (6, [.ref q7, .ref q15, .ref q24, .int 0, .int 0, .ref q32, .ref q40, .ref q48, .int 0, .int 0, .int 0, .int 0, .int 0, .int 0, .int 0, .ref q56, .ref q65, .int 0, .ref q72, .ref q80, .null, .int 0])), (q7, .inl (cs 0, 8, .inl (fun _ => 0))), (q15, .inl (cs 0, 8, .inl (fun _ => 0))), (q24, .inl (cs 0, 320, .inl (fun _ => 0))), (q32, .inl (cs 0, 29, .inl (fun _ => 0))), (q40, .inl (cs 0, 40, .inl (fun _ => 0))), (q48, .inl (cs 0, 120, .inl (fun _ => 0))), (q56, .inl (cs 0, 29, .inl (fun _ => 0))), (q65, .inl (cs 0, 696, .inl (fun _ => 0))), (q72, .inl (cs 1, 2, .inl (fun _ => 0))), (q80, .inl (cs 0, 58, .inl (fun _ => 0))), (q88, .inl (cs 0, 16, .inl (fun _ => 0)))]) rfl ?_
  refine v_putF C fl_X6_init_41 tyX6_ok nmX6 rfl (ty := .array .int) (by decide +kernel) hin rfl 0 rfl rfl rfl (Nat.le_of_ble_eq_true rfl) [(xo, .inr (6, [.ref q7, .ref q15, .ref q24, .int 0, .int 0, .ref q32, .ref q40, .ref q48, .int 0, .int 0, .int 0, .int 0, .int 0, .int 0, .int 0, .ref q56, .ref q65, .int 0, .ref q72, .ref q80, .ref q88, .int 0])), (q7, .inl (cs 0, 8, .inl (fun _ => 0))), (q15, .inl (cs 0, 8, .inl (fun _ => 0))), (q24, .inl (cs 0, 320, .inl (fun _ => 0))), (q32, .inl (cs 0, 29, .inl (fun _ => 0))), (q40, .inl (cs 0, 40, .inl (fun _ => 0))), (q48, .inl (cs 0, 120, .inl (fun _ => 0))), (q56, .inl (cs 0, 29, .inl (fun _ => 0))), (q65, .inl (cs 0, 696, .inl (fun _ => 0))), (q72, .inl (cs 1, 2, .inl (fun _ => 0))), (q80, .inl (cs 0, 58, .inl (fun _ => 0))), (q88, .inl (cs 0, 16, .inl (fun _ => 0)))] rfl dX6_init_90 ?_
  refine v_iconst C (v := 0) dX6_init_93 (by decide) ?_
  refine v_istore_n C [(0, .ref xo), (1, .int 0)] [1, 0] dX6_init_94 (by decide) rfl ?_
  refine v_iload_n C 1 dX6_init_95 rfl ?_
  refine v_bipush C (v := 8) dX6_init_96 (by decide) ?_
  refine v_icmp_ge C 114 dX6_init_98 (by decide) (fun hc => absurd hc (show ¬ (8 : Int32) ≤ 0 by decide)) (fun _ => ?_)
  refine v_aload_n C 0 dX6_init_101 rfl ?_
  refine v_get C (v := .ref q15) fl_X6_init_13 0 rfl rfl dX6_init_102 ?_
  refine v_iload_n C 1 dX6_init_105 rfl ?_
  refine v_iconst C (v := (-1)) dX6_init_106 (by decide) ?_
  refine v_iast C 2 0 rfl rfl (by unfold vp_in; decide) [(xo, .inr (6, [.ref q7, .ref q15, .ref q24, .int 0, .int 0, .ref q32, .ref q40, .ref q48, .int 0, .int 0, .int 0, .int 0, .int 0, .int 0, .int 0, .ref q56, .ref q65, .int 0, .ref q72, .ref q80, .ref q88, .int 0])), (q7, .inl (cs 0, 8, .inl (fun _ => 0))), (q15, .inl (cs 0, 8, .inl (upd (fun _ => 0) 0 (-1)))), (q24, .inl (cs 0, 320, .inl (fun _ => 0))), (q32, .inl (cs 0, 29, .inl (fun _ => 0))), (q40, .inl (cs 0, 40, .inl (fun _ => 0))), (q48, .inl (cs 0, 120, .inl (fun _ => 0))), (q56, .inl (cs 0, 29, .inl (fun _ => 0))), (q65, .inl (cs 0, 696, .inl (fun _ => 0))), (q72, .inl (cs 1, 2, .inl (fun _ => 0))), (q80, .inl (cs 0, 58, .inl (fun _ => 0))), (q88, .inl (cs 0, 16, .inl (fun _ => 0)))] rfl dX6_init_107 ?_
  refine v_iinc C (k := 1) (1) [(0, .ref xo), (1, .int 1)] [1, 0] dX6_init_108 rfl (by decide) (by decide) rfl ?_
  refine v_goto C 95 dX6_init_111 (by decide) ?_
  refine v_iload_n C 1 dX6_init_95 rfl ?_
  refine v_bipush C (v := 8) dX6_init_96 (by decide) ?_
  refine v_icmp_ge C 114 dX6_init_98 (by decide) (fun hc => absurd hc (show ¬ (8 : Int32) ≤ 1 by decide)) (fun _ => ?_)
  refine v_aload_n C 0 dX6_init_101 rfl ?_
  refine v_get C (v := .ref q15) fl_X6_init_13 0 rfl rfl dX6_init_102 ?_
  refine v_iload_n C 1 dX6_init_105 rfl ?_
  refine v_iconst C (v := (-1)) dX6_init_106 (by decide) ?_
  refine v_iast C 2 0 rfl rfl (by unfold vp_in; decide) [(xo, .inr (6, [.ref q7, .ref q15, .ref q24, .int 0, .int 0, .ref q32, .ref q40, .ref q48, .int 0, .int 0, .int 0, .int 0, .int 0, .int 0, .int 0, .ref q56, .ref q65, .int 0, .ref q72, .ref q80, .ref q88, .int 0])), (q7, .inl (cs 0, 8, .inl (fun _ => 0))), (q15, .inl (cs 0, 8, .inl (upd (upd (fun _ => 0) 0 (-1)) 1 (-1)))), (q24, .inl (cs 0, 320, .inl (fun _ => 0))), (q32, .inl (cs 0, 29, .inl (fun _ => 0))), (q40, .inl (cs 0, 40, .inl (fun _ => 0))), (q48, .inl (cs 0, 120, .inl (fun _ => 0))), (q56, .inl (cs 0, 29, .inl (fun _ => 0))), (q65, .inl (cs 0, 696, .inl (fun _ => 0))), (q72, .inl (cs 1, 2, .inl (fun _ => 0))), (q80, .inl (cs 0, 58, .inl (fun _ => 0))), (q88, .inl (cs 0, 16, .inl (fun _ => 0)))] rfl dX6_init_107 ?_
  refine v_iinc C (k := 1) (2) [(0, .ref xo), (1, .int 2)] [1, 0] dX6_init_108 rfl (by decide) (by decide) rfl ?_
  refine v_goto C 95 dX6_init_111 (by decide) ?_
  refine v_iload_n C 1 dX6_init_95 rfl ?_
  refine v_bipush C (v := 8) dX6_init_96 (by decide) ?_
  refine v_icmp_ge C 114 dX6_init_98 (by decide) (fun hc => absurd hc (show ¬ (8 : Int32) ≤ 2 by decide)) (fun _ => ?_)
  refine v_aload_n C 0 dX6_init_101 rfl ?_
  refine v_get C (v := .ref q15) fl_X6_init_13 0 rfl rfl dX6_init_102 ?_
  refine v_iload_n C 1 dX6_init_105 rfl ?_
  refine v_iconst C (v := (-1)) dX6_init_106 (by decide) ?_
  refine v_iast C 2 0 rfl rfl (by unfold vp_in; decide) [(xo, .inr (6, [.ref q7, .ref q15, .ref q24, .int 0, .int 0, .ref q32, .ref q40, .ref q48, .int 0, .int 0, .int 0, .int 0, .int 0, .int 0, .int 0, .ref q56, .ref q65, .int 0, .ref q72, .ref q80, .ref q88, .int 0])), (q7, .inl (cs 0, 8, .inl (fun _ => 0))), (q15, .inl (cs 0, 8, .inl (upd (upd (upd (fun _ => 0) 0 (-1)) 1 (-1)) 2 (-1)))), (q24, .inl (cs 0, 320, .inl (fun _ => 0))), (q32, .inl (cs 0, 29, .inl (fun _ => 0))), (q40, .inl (cs 0, 40, .inl (fun _ => 0))), (q48, .inl (cs 0, 120, .inl (fun _ => 0))), (q56, .inl (cs 0, 29, .inl (fun _ => 0))), (q65, .inl (cs 0, 696, .inl (fun _ => 0))), (q72, .inl (cs 1, 2, .inl (fun _ => 0))), (q80, .inl (cs 0, 58, .inl (fun _ => 0))), (q88, .inl (cs 0, 16, .inl (fun _ => 0)))] rfl dX6_init_107 ?_
  refine v_iinc C (k := 1) (3) [(0, .ref xo), (1, .int 3)] [1, 0] dX6_init_108 rfl (by decide) (by decide) rfl ?_
  refine v_goto C 95 dX6_init_111 (by decide) ?_
  refine v_iload_n C 1 dX6_init_95 rfl ?_
  refine v_bipush C (v := 8) dX6_init_96 (by decide) ?_
  refine v_icmp_ge C 114 dX6_init_98 (by decide) (fun hc => absurd hc (show ¬ (8 : Int32) ≤ 3 by decide)) (fun _ => ?_)
  refine v_aload_n C 0 dX6_init_101 rfl ?_
  refine v_get C (v := .ref q15) fl_X6_init_13 0 rfl rfl dX6_init_102 ?_
  refine v_iload_n C 1 dX6_init_105 rfl ?_
  refine v_iconst C (v := (-1)) dX6_init_106 (by decide) ?_
  refine v_iast C 2 0 rfl rfl (by unfold vp_in; decide) [(xo, .inr (6, [.ref q7, .ref q15, .ref q24, .int 0, .int 0, .ref q32, .ref q40, .ref q48, .int 0, .int 0, .int 0, .int 0, .int 0, .int 0, .int 0, .ref q56, .ref q65, .int 0, .ref q72, .ref q80, .ref q88, .int 0])), (q7, .inl (cs 0, 8, .inl (fun _ => 0))), (q15, .inl (cs 0, 8, .inl (upd (upd (upd (upd (fun _ => 0) 0 (-1)) 1 (-1)) 2 (-1)) 3 (-1)))), (q24, .inl (cs 0, 320, .inl (fun _ => 0))), (q32, .inl (cs 0, 29, .inl (fun _ => 0))), (q40, .inl (cs 0, 40, .inl (fun _ => 0))), (q48, .inl (cs 0, 120, .inl (fun _ => 0))), (q56, .inl (cs 0, 29, .inl (fun _ => 0))), (q65, .inl (cs 0, 696, .inl (fun _ => 0))), (q72, .inl (cs 1, 2, .inl (fun _ => 0))), (q80, .inl (cs 0, 58, .inl (fun _ => 0))), (q88, .inl (cs 0, 16, .inl (fun _ => 0)))] rfl dX6_init_107 ?_
  refine v_iinc C (k := 1) (4) [(0, .ref xo), (1, .int 4)] [1, 0] dX6_init_108 rfl (by decide) (by decide) rfl ?_
  refine v_goto C 95 dX6_init_111 (by decide) ?_
  refine v_iload_n C 1 dX6_init_95 rfl ?_
  refine v_bipush C (v := 8) dX6_init_96 (by decide) ?_
  refine v_icmp_ge C 114 dX6_init_98 (by decide) (fun hc => absurd hc (show ¬ (8 : Int32) ≤ 4 by decide)) (fun _ => ?_)
  refine v_aload_n C 0 dX6_init_101 rfl ?_
  refine v_get C (v := .ref q15) fl_X6_init_13 0 rfl rfl dX6_init_102 ?_
  refine v_iload_n C 1 dX6_init_105 rfl ?_
  refine v_iconst C (v := (-1)) dX6_init_106 (by decide) ?_
  refine v_iast C 2 0 rfl rfl (by unfold vp_in; decide) [(xo, .inr (6, [.ref q7, .ref q15, .ref q24, .int 0, .int 0, .ref q32, .ref q40, .ref q48, .int 0, .int 0, .int 0, .int 0, .int 0, .int 0, .int 0, .ref q56, .ref q65, .int 0, .ref q72, .ref q80, .ref q88, .int 0])), (q7, .inl (cs 0, 8, .inl (fun _ => 0))), (q15, .inl (cs 0, 8, .inl (upd (upd (upd (upd (upd (fun _ => 0) 0 (-1)) 1 (-1)) 2 (-1)) 3 (-1)) 4 (-1)))), (q24, .inl (cs 0, 320, .inl (fun _ => 0))), (q32, .inl (cs 0, 29, .inl (fun _ => 0))), (q40, .inl (cs 0, 40, .inl (fun _ => 0))), (q48, .inl (cs 0, 120, .inl (fun _ => 0))), (q56, .inl (cs 0, 29, .inl (fun _ => 0))), (q65, .inl (cs 0, 696, .inl (fun _ => 0))), (q72, .inl (cs 1, 2, .inl (fun _ => 0))), (q80, .inl (cs 0, 58, .inl (fun _ => 0))), (q88, .inl (cs 0, 16, .inl (fun _ => 0)))] rfl dX6_init_107 ?_
  refine v_iinc C (k := 1) (5) [(0, .ref xo), (1, .int 5)] [1, 0] dX6_init_108 rfl (by decide) (by decide) rfl ?_
  refine v_goto C 95 dX6_init_111 (by decide) ?_
  refine v_iload_n C 1 dX6_init_95 rfl ?_
  refine v_bipush C (v := 8) dX6_init_96 (by decide) ?_
  refine v_icmp_ge C 114 dX6_init_98 (by decide) (fun hc => absurd hc (show ¬ (8 : Int32) ≤ 5 by decide)) (fun _ => ?_)
  refine v_aload_n C 0 dX6_init_101 rfl ?_
  refine v_get C (v := .ref q15) fl_X6_init_13 0 rfl rfl dX6_init_102 ?_
  refine v_iload_n C 1 dX6_init_105 rfl ?_
  refine v_iconst C (v := (-1)) dX6_init_106 (by decide) ?_
  refine v_iast C 2 0 rfl rfl (by unfold vp_in; decide) [(xo, .inr (6, [.ref q7, .ref q15, .ref q24, .int 0, .int 0, .ref q32, .ref q40, .ref q48, .int 0, .int 0, .int 0, .int 0, .int 0, .int 0, .int 0, .ref q56, .ref q65, .int 0, .ref q72, .ref q80, .ref q88, .int 0])), (q7, .inl (cs 0, 8, .inl (fun _ => 0))), (q15, .inl (cs 0, 8, .inl (upd (upd (upd (upd (upd (upd (fun _ => 0) 0 (-1)) 1 (-1)) 2 (-1)) 3 (-1)) 4 (-1)) 5 (-1)))), (q24, .inl (cs 0, 320, .inl (fun _ => 0))), (q32, .inl (cs 0, 29, .inl (fun _ => 0))), (q40, .inl (cs 0, 40, .inl (fun _ => 0))), (q48, .inl (cs 0, 120, .inl (fun _ => 0))), (q56, .inl (cs 0, 29, .inl (fun _ => 0))), (q65, .inl (cs 0, 696, .inl (fun _ => 0))), (q72, .inl (cs 1, 2, .inl (fun _ => 0))), (q80, .inl (cs 0, 58, .inl (fun _ => 0))), (q88, .inl (cs 0, 16, .inl (fun _ => 0)))] rfl dX6_init_107 ?_
  refine v_iinc C (k := 1) (6) [(0, .ref xo), (1, .int 6)] [1, 0] dX6_init_108 rfl (by decide) (by decide) rfl ?_
  refine v_goto C 95 dX6_init_111 (by decide) ?_
  refine v_iload_n C 1 dX6_init_95 rfl ?_
  refine v_bipush C (v := 8) dX6_init_96 (by decide) ?_
  refine v_icmp_ge C 114 dX6_init_98 (by decide) (fun hc => absurd hc (show ¬ (8 : Int32) ≤ 6 by decide)) (fun _ => ?_)
  refine v_aload_n C 0 dX6_init_101 rfl ?_
  refine v_get C (v := .ref q15) fl_X6_init_13 0 rfl rfl dX6_init_102 ?_
  refine v_iload_n C 1 dX6_init_105 rfl ?_
  refine v_iconst C (v := (-1)) dX6_init_106 (by decide) ?_
  refine v_iast C 2 0 rfl rfl (by unfold vp_in; decide) [(xo, .inr (6, [.ref q7, .ref q15, .ref q24, .int 0, .int 0, .ref q32, .ref q40, .ref q48, .int 0, .int 0, .int 0, .int 0, .int 0, .int 0, .int 0, .ref q56, .ref q65, .int 0, .ref q72, .ref q80, .ref q88, .int 0])), (q7, .inl (cs 0, 8, .inl (fun _ => 0))), (q15, .inl (cs 0, 8, .inl (upd (upd (upd (upd (upd (upd (upd (fun _ => 0) 0 (-1)) 1 (-1)) 2 (-1)) 3 (-1)) 4 (-1)) 5 (-1)) 6 (-1)))), (q24, .inl (cs 0, 320, .inl (fun _ => 0))), (q32, .inl (cs 0, 29, .inl (fun _ => 0))), (q40, .inl (cs 0, 40, .inl (fun _ => 0))), (q48, .inl (cs 0, 120, .inl (fun _ => 0))), (q56, .inl (cs 0, 29, .inl (fun _ => 0))), (q65, .inl (cs 0, 696, .inl (fun _ => 0))), (q72, .inl (cs 1, 2, .inl (fun _ => 0))), (q80, .inl (cs 0, 58, .inl (fun _ => 0))), (q88, .inl (cs 0, 16, .inl (fun _ => 0)))] rfl dX6_init_107 ?_
  refine v_iinc C (k := 1) (7) [(0, .ref xo), (1, .int 7)] [1, 0] dX6_init_108 rfl (by decide) (by decide) rfl ?_
  refine v_goto C 95 dX6_init_111 (by decide) ?_
  refine v_iload_n C 1 dX6_init_95 rfl ?_
  refine v_bipush C (v := 8) dX6_init_96 (by decide) ?_
  refine v_icmp_ge C 114 dX6_init_98 (by decide) (fun hc => absurd hc (show ¬ (8 : Int32) ≤ 7 by decide)) (fun _ => ?_)
  refine v_aload_n C 0 dX6_init_101 rfl ?_
  refine v_get C (v := .ref q15) fl_X6_init_13 0 rfl rfl dX6_init_102 ?_
  refine v_iload_n C 1 dX6_init_105 rfl ?_
  refine v_iconst C (v := (-1)) dX6_init_106 (by decide) ?_
  refine v_iast C 2 0 rfl rfl (by unfold vp_in; decide) [(xo, .inr (6, [.ref q7, .ref q15, .ref q24, .int 0, .int 0, .ref q32, .ref q40, .ref q48, .int 0, .int 0, .int 0, .int 0, .int 0, .int 0, .int 0, .ref q56, .ref q65, .int 0, .ref q72, .ref q80, .ref q88, .int 0])), (q7, .inl (cs 0, 8, .inl (fun _ => 0))), (q15, .inl (cs 0, 8, .inl (upd (upd (upd (upd (upd (upd (upd (upd (fun _ => 0) 0 (-1)) 1 (-1)) 2 (-1)) 3 (-1)) 4 (-1)) 5 (-1)) 6 (-1)) 7 (-1)))), (q24, .inl (cs 0, 320, .inl (fun _ => 0))), (q32, .inl (cs 0, 29, .inl (fun _ => 0))), (q40, .inl (cs 0, 40, .inl (fun _ => 0))), (q48, .inl (cs 0, 120, .inl (fun _ => 0))), (q56, .inl (cs 0, 29, .inl (fun _ => 0))), (q65, .inl (cs 0, 696, .inl (fun _ => 0))), (q72, .inl (cs 1, 2, .inl (fun _ => 0))), (q80, .inl (cs 0, 58, .inl (fun _ => 0))), (q88, .inl (cs 0, 16, .inl (fun _ => 0)))] rfl dX6_init_107 ?_
  refine v_iinc C (k := 1) (8) [(0, .ref xo), (1, .int 8)] [1, 0] dX6_init_108 rfl (by decide) (by decide) rfl ?_
  refine v_goto C 95 dX6_init_111 (by decide) ?_
  refine v_iload_n C 1 dX6_init_95 rfl ?_
  refine v_bipush C (v := 8) dX6_init_96 (by decide) ?_
  refine v_icmp_ge C 114 dX6_init_98 (by decide) (fun _ => ?_) (fun hc => absurd (show (8 : Int32) ≤ 8 by decide) hc)
  exact v_endN C E (fun n => List.getD [0, 0, 0, 0, 0, 0, 0, 0, 0, 0, 0, 0, 0, 0, 0, 0, 0, 0, 0, 0, 0, 0, 0, 0, 0, 0, 0, 0, 0, 0, 0, 0, 0, 0, 0, 0, 0, 0, 0, 0, 0, 0, q7, q15, q24, q32, q40, q48, q56, q65, q72, q80, q88] n 0) [0, 1, 2, 3, 4, 5, 6, 7, 8, 9, 10, 11] rfl (by decide) ⟨Nat.le_of_ble_eq_true rfl, Nat.le_of_ble_eq_true rfl⟩ dX6_init_114
