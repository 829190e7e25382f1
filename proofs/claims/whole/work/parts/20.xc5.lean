theorem kX5_found : KD yX5_found wsX5_found cX5_found 2 (some .int) 1 := ⟨⟨_, rfl⟩, by decide, by decide +kernel, by decide +kernel, by decide +kernel⟩
theorem in_X5_found_X5 : ∀ w ∈ wsX50, w ∈ wsX5_found := by decide +kernel
theorem fl_X5_found_57 : FL RX5 wsX5_found RX5 RX5 TX5 9 5 8 57 := ⟨⟨in_X5_found_X5, rfl, by decide, rfl⟩, by decide +kernel⟩
theorem fp_X5_8 : FP TX5 9 8 tyX5 .int := ⟨tyX5_ok, nmX5, rfl, by decide +kernel⟩
set_option maxHeartbeats 4000000 in
set_option maxRecDepth 100000 in
theorem c_found (l : Launch) (D : va_G) (cs : Nat → ClassId) {xo : Nat} {xr : Nat} {xd : Nat} {ta : Nat} {tb : Nat} {xi : Nat} {aa : Nat} {sa : Nat} {lf : Int32} {fg : Int32} {x : Int32} : CT l D (tz cs) yX5_found wsX5_found ({ frames := 0, cells := 0, slots := 0, locals := 0 }) [.ref xo, .int x] [(xo, .inr (5, [.ref xr, .ref xd, .ref ta, .ref tb, .ref xi, .ref aa, .ref sa, .int lf, .int fg]))] (some (.int (-1000010 - x))) [(xo, .inr (5, [.ref xr, .ref xd, .ref ta, .ref tb, .ref xi, .ref aa, .ref sa, .int lf, .int x]))] := by
  refine CT.of kX5_found (Nat.le_of_ble_eq_true rfl) ?_
  intro p e s m below meth c A C E
  have C : VOk p s m _ c cX5_found 2 wsX5_found RX5 D (tz cs) A s.heap := C
  refine V.lvs (lv' := [(0, .ref xo), (1, .int x)]) [0, 1] rfl ?_
  refine v_aload_n C 0 dX5_found_0 rfl ?_
  refine v_iload_n C 1 dX5_found_1 rfl ?_
  refine v_put C fl_X5_found_57 fp_X5_8 0 rfl rfl rfl (Nat.le_of_ble_eq_true rfl) [(xo, .inr (5, [.ref xr, .ref xd, .ref ta, .ref tb, .ref xi, .ref aa, .ref sa, .int lf, .int x]))] rfl dX5_found_2 ?_
  refine v_ldcw C (v := -1000010) (by decide +kernel) dX5_found_5 ?_
  refine v_iload_n C 1 dX5_found_8 rfl ?_
  refine v_isub C dX5_found_9 ?_
  exact v_iret C E (rfl) (by first | rfl | (simp [↓reduceIte]; done) | (simp_all [b2]; done)) dX5_found_10
theorem kX5_well : KD yX5_well wsX5_well cX5_well 2 (some .int) 1 := ⟨⟨_, rfl⟩, by decide, by decide +kernel, by decide +kernel, by decide +kernel⟩
theorem in_X5_well_X5 : ∀ w ∈ wsX50, w ∈ wsX5_well := by decide +kernel
theorem fl_X5_well_57 : FL RX5 wsX5_well RX5 RX5 TX5 9 5 8 57 := ⟨⟨in_X5_well_X5, rfl, by decide, rfl⟩, by decide +kernel⟩
set_option maxHeartbeats 4000000 in
set_option maxRecDepth 100000 in
theorem c_well (l : Launch) (D : va_G) (cs : Nat → ClassId) {xo : Nat} {xr : Nat} {xd : Nat} {ta : Nat} {tb : Nat} {xi : Nat} {aa : Nat} {sa : Nat} {lf : Int32} {fg : Int32} {x : Int32} : CT l D (tz cs) yX5_well wsX5_well ({ frames := 0, cells := 0, slots := 0, locals := 0 }) [.ref xo, .int x] [(xo, .inr (5, [.ref xr, .ref xd, .ref ta, .ref tb, .ref xi, .ref aa, .ref sa, .int lf, .int fg]))] (some (.int x)) [(xo, .inr (5, [.ref xr, .ref xd, .ref ta, .ref tb, .ref xi, .ref aa, .ref sa, .int lf, .int 0]))] := by
  refine CT.of kX5_well (Nat.le_of_ble_eq_true rfl) ?_
  intro p e s m below meth c A C E
  have C : VOk p s m _ c cX5_well 2 wsX5_well RX5 D (tz cs) A s.heap := C
  refine V.lvs (lv' := [(0, .ref xo), (1, .int x)]) [0, 1] rfl ?_
  refine v_aload_n C 0 dX5_well_0 rfl ?_
  refine v_iconst C (v := 0) dX5_well_1 (by decide) ?_
  refine v_put C fl_X5_well_57 fp_X5_8 0 rfl rfl rfl (Nat.le_of_ble_eq_true rfl) [(xo, .inr (5, [.ref xr, .ref xd, .ref ta, .ref tb, .ref xi, .ref aa, .ref sa, .int lf, .int 0]))] rfl dX5_well_2 ?_
  refine v_iload_n C 1 dX5_well_5 rfl ?_
  exact v_iret C E (rfl) (by first | rfl | (simp [↓reduceIte]; done) | (simp_all [b2]; done)) dX5_well_6
theorem kX5_rowAt : KD yX5_rowAt wsX5_rowAt cX5_rowAt 2 (some (.object "TableShares$Row")) 1 := ⟨⟨_, rfl⟩, by decide, by decide +kernel, by decide +kernel, by decide +kernel⟩
theorem in_X5_rowAt_X5 : ∀ w ∈ wsX50, w ∈ wsX5_rowAt := by decide +kernel
theorem fl_X5_rowAt_11 : FL RX5 wsX5_rowAt RX5 RX5 TX5 9 5 0 11 := ⟨⟨in_X5_rowAt_X5, rfl, by decide, rfl⟩, by decide +kernel⟩
set_option maxHeartbeats 4000000 in
set_option maxRecDepth 100000 in
theorem c_rowAtIn (l : Launch) (D : va_G) (cs : Nat → ClassId) {xo : Nat} {xr : Nat} {xd : Nat} {ta : Nat} {tb : Nat} {xi : Nat} {aa : Nat} {sa : Nat} {lf : Int32} {fg : Int32} {g : Nat → Option Nat} {j : Nat} {r : Nat} (hj : j < 8) (hg : g j = some r) : CT l D (tz cs) yX5_rowAt wsX5_rowAt ({ frames := 0, cells := 0, slots := 0, locals := 0 }) [.ref xo, .int (nI j)] [(xo, .inr (5, [.ref xr, .ref xd, .ref ta, .ref tb, .ref xi, .ref aa, .ref sa, .int lf, .int fg])), (xr, .inl (cs 2, 8, .inr (.inr (.inr (.inr g)))))] (some (.ref r)) [(xo, .inr (5, [.ref xr, .ref xd, .ref ta, .ref tb, .ref xi, .ref aa, .ref sa, .int lf, .int fg])), (xr, .inl (cs 2, 8, .inr (.inr (.inr (.inr g)))))] := by
  refine CT.of kX5_rowAt (Nat.le_of_ble_eq_true rfl) ?_
  intro p e s m below meth c A C E
  have C : VOk p s m _ c cX5_rowAt 2 wsX5_rowAt RX5 D (tz cs) A s.heap := C
  refine V.lvs (lv' := [(0, .ref xo), (1, .int (nI j))]) [0, 1] rfl ?_
  refine v_iload_n C 1 dX5_rowAt_0 rfl ?_
  refine v_if_lt C 22 dX5_rowAt_1 (by decide) (fun c1 => ?_) (fun c1 => ?_)
  · exact absurd c1 (nI_pos (by omega))
  · skip
    refine v_iload_n C 1 dX5_rowAt_4 rfl ?_
    refine v_aload_n C 0 dX5_rowAt_5 rfl ?_
    refine v_get C (v := .ref xr) fl_X5_rowAt_11 0 rfl rfl dX5_rowAt_6 ?_
    refine v_alen C (v := 8) 1 2 rfl rfl rfl dX5_rowAt_9 ?_
    refine v_icmp_ge C 22 dX5_rowAt_10 (by decide) (fun c2 => ?_) (fun c2 => ?_)
    · exact absurd c2 (nI_ge (b := 8) hj (by decide))
    · skip
      refine v_aload_n C 0 dX5_rowAt_13 rfl ?_
      refine v_get C (v := .ref xr) fl_X5_rowAt_11 0 rfl rfl dX5_rowAt_14 ?_
      refine v_iload_n C 1 dX5_rowAt_17 rfl ?_
      refine v_aldq C 1 2 rfl rfl r (by rw [nI_clamp (by omega)]; exact hg) (vp_in_nI hj (by decide)) dX5_rowAt_18 ?_
      refine v_goto C 23 dX5_rowAt_19 (by decide) ?_
      exact v_aret C E (rfl) dX5_rowAt_23
set_option maxHeartbeats 4000000 in
set_option maxRecDepth 100000 in
theorem c_rowAtOut (l : Launch) (D : va_G) (cs : Nat → ClassId) {xo : Nat} {xr : Nat} {xd : Nat} {ta : Nat} {tb : Nat} {xi : Nat} {aa : Nat} {sa : Nat} {lf : Int32} {fg : Int32} {g : Nat → Option Nat} {x : Int32} (ho : x < 0 ∨ 8 ≤ x) : CT l D (tz cs) yX5_rowAt wsX5_rowAt ({ frames := 0, cells := 0, slots := 0, locals := 0 }) [.ref xo, .int x] [(xo, .inr (5, [.ref xr, .ref xd, .ref ta, .ref tb, .ref xi, .ref aa, .ref sa, .int lf, .int fg])), (xr, .inl (cs 2, 8, .inr (.inr (.inr (.inr g)))))] (some (.null)) [(xo, .inr (5, [.ref xr, .ref xd, .ref ta, .ref tb, .ref xi, .ref aa, .ref sa, .int lf, .int fg])), (xr, .inl (cs 2, 8, .inr (.inr (.inr (.inr g)))))] := by
  refine CT.of kX5_rowAt (Nat.le_of_ble_eq_true rfl) ?_
  intro p e s m below meth c A C E
  have C : VOk p s m _ c cX5_rowAt 2 wsX5_rowAt RX5 D (tz cs) A s.heap := C
  refine V.lvs (lv' := [(0, .ref xo), (1, .int x)]) [0, 1] rfl ?_
  refine v_iload_n C 1 dX5_rowAt_0 rfl ?_
  refine v_if_lt C 22 dX5_rowAt_1 (by decide) (fun c1 => ?_) (fun c1 => ?_)
  · skip
    refine v_null C dX5_rowAt_22 ?_
    exact v_aretN C E (rfl) dX5_rowAt_23
  · skip
    refine v_iload_n C 1 dX5_rowAt_4 rfl ?_
    refine v_aload_n C 0 dX5_rowAt_5 rfl ?_
    refine v_get C (v := .ref xr) fl_X5_rowAt_11 0 rfl rfl dX5_rowAt_6 ?_
    refine v_alen C (v := 8) 1 2 rfl rfl rfl dX5_rowAt_9 ?_
    refine v_icmp_ge C 22 dX5_rowAt_10 (by decide) (fun c2 => ?_) (fun c2 => ?_)
    · skip
      refine v_null C dX5_rowAt_22 ?_
      exact v_aretN C E (rfl) dX5_rowAt_23
    · exact absurd c2 (fun z => ho.elim (fun q => c1 q) z)
theorem kX5_imageAt : KD yX5_imageAt wsX5_imageAt cX5_imageAt 2 (some (.object "TableShares$Table")) 1 := ⟨⟨_, rfl⟩, by decide, by decide +kernel, by decide +kernel, by decide +kernel⟩
theorem in_X5_imageAt_X5 : ∀ w ∈ wsX50, w ∈ wsX5_imageAt := by decide +kernel
theorem fl_X5_imageAt_33 : FL RX5 wsX5_imageAt RX5 RX5 TX5 9 5 4 33 := ⟨⟨in_X5_imageAt_X5, rfl, by decide, rfl⟩, by decide +kernel⟩
set_option maxHeartbeats 4000000 in
set_option maxRecDepth 100000 in
theorem c_imageAtIn (l : Launch) (D : va_G) (cs : Nat → ClassId) {xo : Nat} {xr : Nat} {xd : Nat} {ta : Nat} {tb : Nat} {xi : Nat} {aa : Nat} {sa : Nat} {lf : Int32} {fg : Int32} {g : Nat → Option Nat} {j : Nat} {r : Nat} (hj : j < 2) (hg : g j = some r) : CT l D (tz cs) yX5_imageAt wsX5_imageAt ({ frames := 0, cells := 0, slots := 0, locals := 0 }) [.ref xo, .int (nI j)] [(xo, .inr (5, [.ref xr, .ref xd, .ref ta, .ref tb, .ref xi, .ref aa, .ref sa, .int lf, .int fg])), (xi, .inl (cs 3, 2, .inr (.inr (.inr (.inr g)))))] (some (.ref r)) [(xo, .inr (5, [.ref xr, .ref xd, .ref ta, .ref tb, .ref xi, .ref aa, .ref sa, .int lf, .int fg])), (xi, .inl (cs 3, 2, .inr (.inr (.inr (.inr g)))))] := by
  refine CT.of kX5_imageAt (Nat.le_of_ble_eq_true rfl) ?_
  intro p e s m below meth c A C E
  have C : VOk p s m _ c cX5_imageAt 2 wsX5_imageAt RX5 D (tz cs) A s.heap := C
  refine V.lvs (lv' := [(0, .ref xo), (1, .int (nI j))]) [0, 1] rfl ?_
  refine v_iload_n C 1 dX5_imageAt_0 rfl ?_
  refine v_if_lt C 22 dX5_imageAt_1 (by decide) (fun c1 => ?_) (fun c1 => ?_)
  · exact absurd c1 (nI_pos (by omega))
  · skip
    refine v_iload_n C 1 dX5_imageAt_4 rfl ?_
    refine v_aload_n C 0 dX5_imageAt_5 rfl ?_
    refine v_get C (v := .ref xi) fl_X5_imageAt_33 0 rfl rfl dX5_imageAt_6 ?_
    refine v_alen C (v := 2) 1 3 rfl rfl rfl dX5_imageAt_9 ?_
    refine v_icmp_ge C 22 dX5_imageAt_10 (by decide) (fun c2 => ?_) (fun c2 => ?_)
    · exact absurd c2 (nI_ge (b := 2) hj (by decide))
    · skip
      refine v_aload_n C 0 dX5_imageAt_13 rfl ?_
      refine v_get C (v := .ref xi) fl_X5_imageAt_33 0 rfl rfl dX5_imageAt_14 ?_
      refine v_iload_n C 1 dX5_imageAt_17 rfl ?_
      refine v_aldq C 1 3 rfl rfl r (by rw [nI_clamp (by omega)]; exact hg) (vp_in_nI hj (by decide)) dX5_imageAt_18 ?_
      refine v_goto C 23 dX5_imageAt_19 (by decide) ?_
      exact v_aret C E (rfl) dX5_imageAt_23
set_option maxHeartbeats 4000000 in
set_option maxRecDepth 100000 in
theorem c_imageAtOut (l : Launch) (D : va_G) (cs : Nat → ClassId) {xo : Nat} {xr : Nat} {xd : Nat} {ta : Nat} {tb : Nat} {xi : Nat} {aa : Nat} {sa : Nat} {lf : Int32} {fg : Int32} {g : Nat → Option Nat} {x : Int32} (ho : x < 0 ∨ 2 ≤ x) : CT l D (tz cs) yX5_imageAt wsX5_imageAt ({ frames := 0, cells := 0, slots := 0, locals := 0 }) [.ref xo, .int x] [(xo, .inr (5, [.ref xr, .ref xd, .ref ta, .ref tb, .ref xi, .ref aa, .ref sa, .int lf, .int fg])), (xi, .inl (cs 3, 2, .inr (.inr (.inr (.inr g)))))] (some (.null)) [(xo, .inr (5, [.ref xr, .ref xd, .ref ta, .ref tb, .ref xi, .ref aa, .ref sa, .int lf, .int fg])), (xi, .inl (cs 3, 2, .inr (.inr (.inr (.inr g)))))] := by
  refine CT.of kX5_imageAt (Nat.le_of_ble_eq_true rfl) ?_
  intro p e s m below meth c A C E
  have C : VOk p s m _ c cX5_imageAt 2 wsX5_imageAt RX5 D (tz cs) A s.heap := C
  refine V.lvs (lv' := [(0, .ref xo), (1, .int x)]) [0, 1] rfl ?_
  refine v_iload_n C 1 dX5_imageAt_0 rfl ?_
  refine v_if_lt C 22 dX5_imageAt_1 (by decide) (fun c1 => ?_) (fun c1 => ?_)
  · skip
    refine v_null C dX5_imageAt_22 ?_
    exact v_aretN C E (rfl) dX5_imageAt_23
  · skip
    refine v_iload_n C 1 dX5_imageAt_4 rfl ?_
    refine v_aload_n C 0 dX5_imageAt_5 rfl ?_
    refine v_get C (v := .ref xi) fl_X5_imageAt_33 0 rfl rfl dX5_imageAt_6 ?_
    refine v_alen C (v := 2) 1 3 rfl rfl rfl dX5_imageAt_9 ?_
    refine v_icmp_ge C 22 dX5_imageAt_10 (by decide) (fun c2 => ?_) (fun c2 => ?_)
    · skip
      refine v_null C dX5_imageAt_22 ?_
      exact v_aretN C E (rfl) dX5_imageAt_23
    · exact absurd c2 (fun z => ho.elim (fun q => c1 q) z)
theorem kX5_rowsThatStand : KD yX5_rowsThatStand wsX5_rowsThatStand cX5_rowsThatStand 4 (some .int) 0 := ⟨⟨_, rfl⟩, by decide, by decide +kernel, by decide +kernel, by decide +kernel⟩
theorem in_X5_rowsThatStand_X3 : ∀ w ∈ wsX30, w ∈ wsX5_rowsThatStand := by decide +kernel
theorem fn_X5_rowsThatStand_76 : FLN RX5 wsX5_rowsThatStand RX3 RX3 TX3 4 3 1 76 := ⟨⟨in_X5_rowsThatStand_X3, rfl, by decide, rfl⟩, "TableShares", by decide +kernel⟩
set_option maxHeartbeats 4000000 in
set_option maxRecDepth 100000 in
theorem c_rowsThatStand (l : Launch) (D : va_G) (cs : Nat → ClassId) {xo : Nat} {xr : Nat} {xd : Nat} {ta : Nat} {tb : Nat} {xi : Nat} {aa : Nat} {sa : Nat} {lf : Int32} {fg : Int32} {g : Nat → Option Nat} {rr : Nat → Nat} {rp : Nat → Nat} {rst : Nat → Bool} {rla : Nat → Int32} {rln : Nat → Int32} {rf : Nat → Nat → Int32} (hg : ∀ j, j < 8 → g j = some (rr j)) : CT l D (tz cs) yX5_rowsThatStand wsX5_rowsThatStand ({ frames := 1, cells := 0, slots := 0, locals := 21 }) [.ref xo] [(xo, .inr (5, [.ref xr, .ref xd, .ref ta, .ref tb, .ref xi, .ref aa, .ref sa, .int lf, .int fg])), (xr, .inl (cs 2, 8, .inr (.inr (.inr (.inr g))))), (rr 0, .inr (3, [.ref (rp 0), .int (b2 (rst 0)), .int (rla 0), .int (rln 0)])), (rp 0, .inl (cs 0, 40, .inl (rf 0))), (rr 1, .inr (3, [.ref (rp 1), .int (b2 (rst 1)), .int (rla 1), .int (rln 1)])), (rp 1, .inl (cs 0, 40, .inl (rf 1))), (rr 2, .inr (3, [.ref (rp 2), .int (b2 (rst 2)), .int (rla 2), .int (rln 2)])), (rp 2, .inl (cs 0, 40, .inl (rf 2))), (rr 3, .inr (3, [.ref (rp 3), .int (b2 (rst 3)), .int (rla 3), .int (rln 3)])), (rp 3, .inl (cs 0, 40, .inl (rf 3))), (rr 4, .inr (3, [.ref (rp 4), .int (b2 (rst 4)), .int (rla 4), .int (rln 4)])), (rp 4, .inl (cs 0, 40, .inl (rf 4))), (rr 5, .inr (3, [.ref (rp 5), .int (b2 (rst 5)), .int (rla 5), .int (rln 5)])), (rp 5, .inl (cs 0, 40, .inl (rf 5))), (rr 6, .inr (3, [.ref (rp 6), .int (b2 (rst 6)), .int (rla 6), .int (rln 6)])), (rp 6, .inl (cs 0, 40, .inl (rf 6))), (rr 7, .inr (3, [.ref (rp 7), .int (b2 (rst 7)), .int (rla 7), .int (rln 7)])), (rp 7, .inl (cs 0, 40, .inl (rf 7)))] (some (.int (nI (cntS rst 8)))) [(xo, .inr (5, [.ref xr, .ref xd, .ref ta, .ref tb, .ref xi, .ref aa, .ref sa, .int lf, .int fg])), (xr, .inl (cs 2, 8, .inr (.inr (.inr (.inr g))))), (rr 0, .inr (3, [.ref (rp 0), .int (b2 (rst 0)), .int (rla 0), .int (rln 0)])), (rp 0, .inl (cs 0, 40, .inl (rf 0))), (rr 1, .inr (3, [.ref (rp 1), .int (b2 (rst 1)), .int (rla 1), .int (rln 1)])), (rp 1, .inl (cs 0, 40, .inl (rf 1))), (rr 2, .inr (3, [.ref (rp 2), .int (b2 (rst 2)), .int (rla 2), .int (rln 2)])), (rp 2, .inl (cs 0, 40, .inl (rf 2))), (rr 3, .inr (3, [.ref (rp 3), .int (b2 (rst 3)), .int (rla 3), .int (rln 3)])), (rp 3, .inl (cs 0, 40, .inl (rf 3))), (rr 4, .inr (3, [.ref (rp 4), .int (b2 (rst 4)), .int (rla 4), .int (rln 4)])), (rp 4, .inl (cs 0, 40, .inl (rf 4))), (rr 5, .inr (3, [.ref (rp 5), .int (b2 (rst 5)), .int (rla 5), .int (rln 5)])), (rp 5, .inl (cs 0, 40, .inl (rf 5))), (rr 6, .inr (3, [.ref (rp 6), .int (b2 (rst 6)), .int (rla 6), .int (rln 6)])), (rp 6, .inl (cs 0, 40, .inl (rf 6))), (rr 7, .inr (3, [.ref (rp 7), .int (b2 (rst 7)), .int (rla 7), .int (rln 7)])), (rp 7, .inl (cs 0, 40, .inl (rf 7)))] := by
  refine CT.of kX5_rowsThatStand (Nat.le_of_ble_eq_true rfl) ?_
  intro p e s m below meth c A C E
  have C : VOk p s m _ c cX5_rowsThatStand 4 wsX5_rowsThatStand RX5 D (tz cs) A s.heap := C
  refine V.lvs (lv' := [(0, .ref xo)]) [0] rfl ?_
  refine v_iconst C (v := 0) dX5_rowsThatStand_0 (by decide) ?_
  refine v_istore_n C [(0, .ref xo), (1, .int 0)] [1, 0] dX5_rowsThatStand_1 (by decide) rfl ?_
  refine v_iconst C (v := 0) dX5_rowsThatStand_2 (by decide) ?_
  refine v_istore_n C [(0, .ref xo), (1, .int 0), (2, .int 0)] [1, 2, 0] dX5_rowsThatStand_3 (by decide) rfl ?_
  have L4 : ∀ (n : Nat) (i : Nat) (y0 : Int32) (y1 : Int32), y0 = (nI (cntS rst i)) → y1 = (nI i) → (i ≤ 8) → (8 - i) < n → V p l e ({ frames := 1, cells := 0, slots := 0, locals := 21 }) s m (List.toArray [.ref xo]) below meth c 0 0 (MQ below (vq_Q (some (.int (nI (cntS rst 8)))) D [(xo, .inr (5, [.ref xr, .ref xd, .ref ta, .ref tb, .ref xi, .ref aa, .ref sa, .int lf, .int fg])), (xr, .inl (cs 2, 8, .inr (.inr (.inr (.inr g))))), (rr 0, .inr (3, [.ref (rp 0), .int (b2 (rst 0)), .int (rla 0), .int (rln 0)])), (rp 0, .inl (cs 0, 40, .inl (rf 0))), (rr 1, .inr (3, [.ref (rp 1), .int (b2 (rst 1)), .int (rla 1), .int (rln 1)])), (rp 1, .inl (cs 0, 40, .inl (rf 1))), (rr 2, .inr (3, [.ref (rp 2), .int (b2 (rst 2)), .int (rla 2), .int (rln 2)])), (rp 2, .inl (cs 0, 40, .inl (rf 2))), (rr 3, .inr (3, [.ref (rp 3), .int (b2 (rst 3)), .int (rla 3), .int (rln 3)])), (rp 3, .inl (cs 0, 40, .inl (rf 3))), (rr 4, .inr (3, [.ref (rp 4), .int (b2 (rst 4)), .int (rla 4), .int (rln 4)])), (rp 4, .inl (cs 0, 40, .inl (rf 4))), (rr 5, .inr (3, [.ref (rp 5), .int (b2 (rst 5)), .int (rla 5), .int (rln 5)])), (rp 5, .inl (cs 0, 40, .inl (rf 5))), (rr 6, .inr (3, [.ref (rp 6), .int (b2 (rst 6)), .int (rla 6), .int (rln 6)])), (rp 6, .inl (cs 0, 40, .inl (rf 6))), (rr 7, .inr (3, [.ref (rp 7), .int (b2 (rst 7)), .int (rla 7), .int (rln 7)])), (rp 7, .inl (cs 0, 40, .inl (rf 7)))] [(xo, .inr (5, [.ref xr, .ref xd, .ref ta, .ref tb, .ref xi, .ref aa, .ref sa, .int lf, .int fg])), (xr, .inl (cs 2, 8, .inr (.inr (.inr (.inr g))))), (rr 0, .inr (3, [.ref (rp 0), .int (b2 (rst 0)), .int (rla 0), .int (rln 0)])), (rp 0, .inl (cs 0, 40, .inl (rf 0))), (rr 1, .inr (3, [.ref (rp 1), .int (b2 (rst 1)), .int (rla 1), .int (rln 1)])), (rp 1, .inl (cs 0, 40, .inl (rf 1))), (rr 2, .inr (3, [.ref (rp 2), .int (b2 (rst 2)), .int (rla 2), .int (rln 2)])), (rp 2, .inl (cs 0, 40, .inl (rf 2))), (rr 3, .inr (3, [.ref (rp 3), .int (b2 (rst 3)), .int (rla 3), .int (rln 3)])), (rp 3, .inl (cs 0, 40, .inl (rf 3))), (rr 4, .inr (3, [.ref (rp 4), .int (b2 (rst 4)), .int (rla 4), .int (rln 4)])), (rp 4, .inl (cs 0, 40, .inl (rf 4))), (rr 5, .inr (3, [.ref (rp 5), .int (b2 (rst 5)), .int (rla 5), .int (rln 5)])), (rp 5, .inl (cs 0, 40, .inl (rf 5))), (rr 6, .inr (3, [.ref (rp 6), .int (b2 (rst 6)), .int (rla 6), .int (rln 6)])), (rp 6, .inl (cs 0, 40, .inl (rf 6))), (rr 7, .inr (3, [.ref (rp 7), .int (b2 (rst 7)), .int (rla 7), .int (rln 7)])), (rp 7, .inl (cs 0, 40, .inl (rf 7)))] s.heap.size) (List.toArray [.ref xo]) s 0 0 (va_A [(xo, .inr (5, [.ref xr, .ref xd, .ref ta, .ref tb, .ref xi, .ref aa, .ref sa, .int lf, .int fg])), (xr, .inl (cs 2, 8, .inr (.inr (.inr (.inr g))))), (rr 0, .inr (3, [.ref (rp 0), .int (b2 (rst 0)), .int (rla 0), .int (rln 0)])), (rp 0, .inl (cs 0, 40, .inl (rf 0))), (rr 1, .inr (3, [.ref (rp 1), .int (b2 (rst 1)), .int (rla 1), .int (rln 1)])), (rp 1, .inl (cs 0, 40, .inl (rf 1))), (rr 2, .inr (3, [.ref (rp 2), .int (b2 (rst 2)), .int (rla 2), .int (rln 2)])), (rp 2, .inl (cs 0, 40, .inl (rf 2))), (rr 3, .inr (3, [.ref (rp 3), .int (b2 (rst 3)), .int (rla 3), .int (rln 3)])), (rp 3, .inl (cs 0, 40, .inl (rf 3))), (rr 4, .inr (3, [.ref (rp 4), .int (b2 (rst 4)), .int (rla 4), .int (rln 4)])), (rp 4, .inl (cs 0, 40, .inl (rf 4))), (rr 5, .inr (3, [.ref (rp 5), .int (b2 (rst 5)), .int (rla 5), .int (rln 5)])), (rp 5, .inl (cs 0, 40, .inl (rf 5))), (rr 6, .inr (3, [.ref (rp 6), .int (b2 (rst 6)), .int (rla 6), .int (rln 6)])), (rp 6, .inl (cs 0, 40, .inl (rf 6))), (rr 7, .inr (3, [.ref (rp 7), .int (b2 (rst 7)), .int (rla 7), .int (rln 7)])), (rp 7, .inl (cs 0, 40, .inl (rf 7)))] s.heap.size)) 4 D A s.heap 4 [(0, .ref xo), (1, .int y0), (2, .int y1)] [] [(xo, .inr (5, [.ref xr, .ref xd, .ref ta, .ref tb, .ref xi, .ref aa, .ref sa, .int lf, .int fg])), (xr, .inl (cs 2, 8, .inr (.inr (.inr (.inr g))))), (rr 0, .inr (3, [.ref (rp 0), .int (b2 (rst 0)), .int (rla 0), .int (rln 0)])), (rp 0, .inl (cs 0, 40, .inl (rf 0))), (rr 1, .inr (3, [.ref (rp 1), .int (b2 (rst 1)), .int (rla 1), .int (rln 1)])), (rp 1, .inl (cs 0, 40, .inl (rf 1))), (rr 2, .inr (3, [.ref (rp 2), .int (b2 (rst 2)), .int (rla 2), .int (rln 2)])), (rp 2, .inl (cs 0, 40, .inl (rf 2))), (rr 3, .inr (3, [.ref (rp 3), .int (b2 (rst 3)), .int (rla 3), .int (rln 3)])), (rp 3, .inl (cs 0, 40, .inl (rf 3))), (rr 4, .inr (3, [.ref (rp 4), .int (b2 (rst 4)), .int (rla 4), .int (rln 4)])), (rp 4, .inl (cs 0, 40, .inl (rf 4))), (rr 5, .inr (3, [.ref (rp 5), .int (b2 (rst 5)), .int (rla 5), .int (rln 5)])), (rp 5, .inl (cs 0, 40, .inl (rf 5))), (rr 6, .inr (3, [.ref (rp 6), .int (b2 (rst 6)), .int (rla 6), .int (rln 6)])), (rp 6, .inl (cs 0, 40, .inl (rf 6))), (rr 7, .inr (3, [.ref (rp 7), .int (b2 (rst 7)), .int (rla 7), .int (rln 7)])), (rp 7, .inl (cs 0, 40, .inl (rf 7)))] := by
    intro n
    induction n with
    | zero =>
      intros; omega
    | succ n ih4 =>
      intro i y0 y1 ey0 ey1 hi hn
      subst ey0
      subst ey1
      refine v_iload_n C 2 dX5_rowsThatStand_4 rfl ?_
      refine v_bipush C (v := 8) dX5_rowsThatStand_5 (by decide) ?_
      refine v_icmp_ge C 36 dX5_rowsThatStand_7 (by decide) (fun c1 => ?_) (fun c1 => ?_)
      · skip
        have hge : 8 ≤ i := le_nI (a := 8) (b := i) c1 (by omega) (by omega)
        refine v_iload_n C 1 dX5_rowsThatStand_36 rfl ?_
        exact v_iret C E (rfl) (by rw [show i = 8 by omega]) dX5_rowsThatStand_37
      · skip
        have hlt : i < 8 := nle_nI (b := i) (a := 8) c1 (by omega) (by omega)
        rcases (show i = 0 ∨ i = 1 ∨ i = 2 ∨ i = 3 ∨ i = 4 ∨ i = 5 ∨ i = 6 ∨ i = 7 by omega) with rfl | rfl | rfl | rfl | rfl | rfl | rfl | rfl
        · skip
          refine v_aload_n C 0 dX5_rowsThatStand_10 rfl ?_
          refine v_iload_n C 2 dX5_rowsThatStand_11 rfl ?_
          refine v_callV (qi := 0) C [.int (nI 0)] [] kX5_rowAt gX5_rowsThatStand_X5_rowAt (c_rowAtIn l D cs (xo := xo) (xr := xr) (xd := xd) (ta := ta) (tb := tb) (xi := xi) (aa := aa) (sa := sa) (lf := lf) (fg := fg) (g := g) (j := 0) (r := (rr 0)) (by decide) (hg _ (by decide))) ⟨Nat.le_of_ble_eq_true rfl, Nat.le_of_ble_eq_true rfl⟩ ⟨rfl, rfl⟩ ⟨Nat.zero_le _, Nat.zero_le _⟩ rfl 0 rfl rfl rfl rfl (Nat.le_of_ble_eq_true rfl) [0, 1] [(xo, .inr (5, [.ref xr, .ref xd, .ref ta, .ref tb, .ref xi, .ref aa, .ref sa, .int lf, .int fg])), (xr, .inl (cs 2, 8, .inr (.inr (.inr (.inr g))))), (rr 0, .inr (3, [.ref (rp 0), .int (b2 (rst 0)), .int (rla 0), .int (rln 0)])), (rp 0, .inl (cs 0, 40, .inl (rf 0))), (rr 1, .inr (3, [.ref (rp 1), .int (b2 (rst 1)), .int (rla 1), .int (rln 1)])), (rp 1, .inl (cs 0, 40, .inl (rf 1))), (rr 2, .inr (3, [.ref (rp 2), .int (b2 (rst 2)), .int (rla 2), .int (rln 2)])), (rp 2, .inl (cs 0, 40, .inl (rf 2))), (rr 3, .inr (3, [.ref (rp 3), .int (b2 (rst 3)), .int (rla 3), .int (rln 3)])), (rp 3, .inl (cs 0, 40, .inl (rf 3))), (rr 4, .inr (3, [.ref (rp 4), .int (b2 (rst 4)), .int (rla 4), .int (rln 4)])), (rp 4, .inl (cs 0, 40, .inl (rf 4))), (rr 5, .inr (3, [.ref (rp 5), .int (b2 (rst 5)), .int (rla 5), .int (rln 5)])), (rp 5, .inl (cs 0, 40, .inl (rf 5))), (rr 6, .inr (3, [.ref (rp 6), .int (b2 (rst 6)), .int (rla 6), .int (rln 6)])), (rp 6, .inl (cs 0, 40, .inl (rf 6))), (rr 7, .inr (3, [.ref (rp 7), .int (b2 (rst 7)), .int (rla 7), .int (rln 7)])), (rp 7, .inl (cs 0, 40, .inl (rf 7)))] rfl (by decide) (show [xo, xr] = [xo, xr] from rfl) (rfl) dX5_rowsThatStand_12 ?_
          refine V.sts (st' := [.ref (rr 0)]) rfl ?_
          refine v_astore_n C [(0, .ref xo), (1, .int (nI (cntS rst 0))), (2, .int (nI 0)), (3, .ref (rr 0))] [1, 2, 3, 0] dX5_rowsThatStand_15 (by decide) rfl ?_
          refine v_aload_n C 3 dX5_rowsThatStand_16 rfl ?_
          refine v_ifnull C dX5_rowsThatStand_17 ?_
          refine v_aload_n C 3 dX5_rowsThatStand_20 rfl ?_
          refine v_getN C (v := .int (b2 (rst 0))) fn_X5_rowsThatStand_76 2 rfl rfl dX5_rowsThatStand_21 ?_
          refine v_if_eqB C 30 dX5_rowsThatStand_24 (by decide) (fun c2 => ?_) (fun c2 => ?_)
          · skip
            refine v_iinc C (k := 2) (nI (0 + 1)) [(0, .ref xo), (1, .int (nI (cntS rst 0))), (2, .int (nI (0 + 1))), (3, .ref (rr 0))] [1, 2, 0, 3] dX5_rowsThatStand_30 rfl (nI_inc _) (by decide) rfl ?_
            refine v_goto C 4 dX5_rowsThatStand_33 (by decide) ?_
            refine V.lvs (lv' := [(0, .ref xo), (1, .int (nI (cntS rst 0))), (2, .int (nI (0 + 1)))]) [0, 1, 2] rfl ?_
            exact ih4 (0 + 1) _ _ (by rw [cntS_s rst 0, if_neg (by rw [c2]; decide)]) (rfl) (by omega) (by omega)
          · skip
            refine v_iinc C (k := 1) (nI ((cntS rst 0) + 1)) [(0, .ref xo), (1, .int (nI ((cntS rst 0) + 1))), (2, .int (nI 0)), (3, .ref (rr 0))] [1, 0, 2, 3] dX5_rowsThatStand_27 rfl (nI_inc _) (by decide) rfl ?_
            refine v_iinc C (k := 2) (nI (0 + 1)) [(0, .ref xo), (1, .int (nI ((cntS rst 0) + 1))), (2, .int (nI (0 + 1))), (3, .ref (rr 0))] [1, 2, 0, 3] dX5_rowsThatStand_30 rfl (nI_inc _) (by decide) rfl ?_
            refine v_goto C 4 dX5_rowsThatStand_33 (by decide) ?_
            refine V.lvs (lv' := [(0, .ref xo), (1, .int (nI ((cntS rst 0) + 1))), (2, .int (nI (0 + 1)))]) [0, 1, 2] rfl ?_
            exact ih4 (0 + 1) _ _ (by rw [cntS_s rst 0, if_pos c2]) (rfl) (by omega) (by omega)
        · skip
          refine v_aload_n C 0 dX5_rowsThatStand_10 rfl ?_
          refine v_iload_n C 2 dX5_rowsThatStand_11 rfl ?_
          refine v_callV (qi := 0) C [.int (nI 1)] [] kX5_rowAt gX5_rowsThatStand_X5_rowAt (c_rowAtIn l D cs (xo := xo) (xr := xr) (xd := xd) (ta := ta) (tb := tb) (xi := xi) (aa := aa) (sa := sa) (lf := lf) (fg := fg) (g := g) (j := 1) (r := (rr 1)) (by decide) (hg _ (by decide))) ⟨Nat.le_of_ble_eq_true rfl, Nat.le_of_ble_eq_true rfl⟩ ⟨rfl, rfl⟩ ⟨Nat.zero_le _, Nat.zero_le _⟩ rfl 0 rfl rfl rfl rfl (Nat.le_of_ble_eq_true rfl) [0, 1] [(xo, .inr (5, [.ref xr, .ref xd, .ref ta, .ref tb, .ref xi, .ref aa, .ref sa, .int lf, .int fg])), (xr, .inl (cs 2, 8, .inr (.inr (.inr (.inr g))))), (rr 0, .inr (3, [.ref (rp 0), .int (b2 (rst 0)), .int (rla 0), .int (rln 0)])), (rp 0, .inl (cs 0, 40, .inl (rf 0))), (rr 1, .inr (3, [.ref (rp 1), .int (b2 (rst 1)), .int (rla 1), .int (rln 1)])), (rp 1, .inl (cs 0, 40, .inl (rf 1))), (rr 2, .inr (3, [.ref (rp 2), .int (b2 (rst 2)), .int (rla 2), .int (rln 2)])), (rp 2, .inl (cs 0, 40, .inl (rf 2))), (rr 3, .inr (3, [.ref (rp 3), .int (b2 (rst 3)), .int (rla 3), .int (rln 3)])), (rp 3, .inl (cs 0, 40, .inl (rf 3))), (rr 4, .inr (3, [.ref (rp 4), .int (b2 (rst 4)), .int (rla 4), .int (rln 4)])), (rp 4, .inl (cs 0, 40, .inl (rf 4))), (rr 5, .inr (3, [.ref (rp 5), .int (b2 (rst 5)), .int (rla 5), .int (rln 5)])), (rp 5, .inl (cs 0, 40, .inl (rf 5))), (rr 6, .inr (3, [.ref (rp 6), .int (b2 (rst 6)), .int (rla 6), .int (rln 6)])), (rp 6, .inl (cs 0, 40, .inl (rf 6))), (rr 7, .inr (3, [.ref (rp 7), .int (b2 (rst 7)), .int (rla 7), .int (rln 7)])), (rp 7, .inl (cs 0, 40, .inl (rf 7)))] rfl (by decide) (show [xo, xr] = [xo, xr] from rfl) (rfl) dX5_rowsThatStand_12 ?_
          refine V.sts (st' := [.ref (rr 1)]) rfl ?_
          refine v_astore_n C [(0, .ref xo), (1, .int (nI (cntS rst 1))), (2, .int (nI 1)), (3, .ref (rr 1))] [1, 2, 3, 0] dX5_rowsThatStand_15 (by decide) rfl ?_
          refine v_aload_n C 3 dX5_rowsThatStand_16 rfl ?_
          refine v_ifnull C dX5_rowsThatStand_17 ?_
          refine v_aload_n C 3 dX5_rowsThatStand_20 rfl ?_
          refine v_getN C (v := .int (b2 (rst 1))) fn_X5_rowsThatStand_76 4 rfl rfl dX5_rowsThatStand_21 ?_
          refine v_if_eqB C 30 dX5_rowsThatStand_24 (by decide) (fun c3 => ?_) (fun c3 => ?_)
          · skip
            refine v_iinc C (k := 2) (nI (1 + 1)) [(0, .ref xo), (1, .int (nI (cntS rst 1))), (2, .int (nI (1 + 1))), (3, .ref (rr 1))] [1, 2, 0, 3] dX5_rowsThatStand_30 rfl (nI_inc _) (by decide) rfl ?_
            refine v_goto C 4 dX5_rowsThatStand_33 (by decide) ?_
            refine V.lvs (lv' := [(0, .ref xo), (1, .int (nI (cntS rst 1))), (2, .int (nI (1 + 1)))]) [0, 1, 2] rfl ?_
            exact ih4 (1 + 1) _ _ (by rw [cntS_s rst 1, if_neg (by rw [c3]; decide)]) (rfl) (by omega) (by omega)
          · skip
            refine v_iinc C (k := 1) (nI ((cntS rst 1) + 1)) [(0, .ref xo), (1, .int (nI ((cntS rst 1) + 1))), (2, .int (nI 1)), (3, .ref (rr 1))] [1, 0, 2, 3] dX5_rowsThatStand_27 rfl (nI_inc _) (by decide) rfl ?_
            refine v_iinc C (k := 2) (nI (1 + 1)) [(0, .ref xo), (1, .int (nI ((cntS rst 1) + 1))), (2, .int (nI (1 + 1))), (3, .ref (rr 1))] [1, 2, 0, 3] dX5_rowsThatStand_30 rfl (nI_inc _) (by decide) rfl ?_
            refine v_goto C 4 dX5_rowsThatStand_33 (by decide) ?_
            refine V.lvs (lv' := [(0, .ref xo), (1, .int (nI ((cntS rst 1) + 1))), (2, .int (nI (1 + 1)))]) [0, 1, 2] rfl ?_
            exact ih4 (1 + 1) _ _ (by rw [cntS_s rst 1, if_pos c3]) (rfl) (by omega) (by omega)
        · skip
          refine v_aload_n C 0 dX5_rowsThatStand_10 rfl ?_
          refine v_iload_n C 2 dX5_rowsThatStand_11 rfl ?_
          refine v_callV (qi := 0) C [.int (nI 2)] [] kX5_rowAt gX5_rowsThatStand_X5_rowAt (c_rowAtIn l D cs (xo := xo) (xr := xr) (xd := xd) (ta := ta) (tb := tb) (xi := xi) (aa := aa) (sa := sa) (lf := lf) (fg := fg) (g := g) (j := 2) (r := (rr 2)) (by decide) (hg _ (by decide))) ⟨Nat.le_of_ble_eq_true rfl, Nat.le_of_ble_eq_true rfl⟩ ⟨rfl, rfl⟩ ⟨Nat.zero_le _, Nat.zero_le _⟩ rfl 0 rfl rfl rfl rfl (Nat.le_of_ble_eq_true rfl) [0, 1] [(xo, .inr (5, [.ref xr, .ref xd, .ref ta, .ref tb, .ref xi, .ref aa, .ref sa, .int lf, .int fg])), (xr, .inl (cs 2, 8, .inr (.inr (.inr (.inr g))))), (rr 0, .inr (3, [.ref (rp 0), .int (b2 (rst 0)), .int (rla 0), .int (rln 0)])), (rp 0, .inl (cs 0, 40, .inl (rf 0))), (rr 1, .inr (3, [.ref (rp 1), .int (b2 (rst 1)), .int (rla 1), .int (rln 1)])), (rp 1, .inl (cs 0, 40, .inl (rf 1))), (rr 2, .inr (3, [.ref (rp 2), .int (b2 (rst 2)), .int (rla 2), .int (rln 2)])), (rp 2, .inl (cs 0, 40, .inl (rf 2))), (rr 3, .inr (3, [.ref (rp 3), .int (b2 (rst 3)), .int (rla 3), .int (rln 3)])), (rp 3, .inl (cs 0, 40, .inl (rf 3))), (rr 4, .inr (3, [.ref (rp 4), .int (b2 (rst 4)), .int (rla 4), .int (rln 4)])), (rp 4, .inl (cs 0, 40, .inl (rf 4))), (rr 5, .inr (3, [.ref (rp 5), .int (b2 (rst 5)), .int (rla 5), .int (rln 5)])), (rp 5, .inl (cs 0, 40, .inl (rf 5))), (rr 6, .inr (3, [.ref (rp 6), .int (b2 (rst 6)), .int (rla 6), .int (rln 6)])), (rp 6, .inl (cs 0, 40, .inl (rf 6))), (rr 7, .inr (3, [.ref (rp 7), .int (b2 (rst 7)), .int (rla 7), .int (rln 7)])), (rp 7, .inl (cs 0, 40, .inl (rf 7)))] rfl (by decide) (show [xo, xr] = [xo, xr] from rfl) (rfl) dX5_rowsThatStand_12 ?_
          refine V.sts (st' := [.ref (rr 2)]) rfl ?_
          refine v_astore_n C [(0, .ref xo), (1, .int (nI (cntS rst 2))), (2, .int (nI 2)), (3, .ref (rr 2))] [1, 2, 3, 0] dX5_rowsThatStand_15 (by decide) rfl ?_
          refine v_aload_n C 3 dX5_rowsThatStand_16 rfl ?_
          refine v_ifnull C dX5_rowsThatStand_17 ?_
          refine v_aload_n C 3 dX5_rowsThatStand_20 rfl ?_
          refine v_getN C (v := .int (b2 (rst 2))) fn_X5_rowsThatStand_76 6 rfl rfl dX5_rowsThatStand_21 ?_
          refine v_if_eqB C 30 dX5_rowsThatStand_24 (by decide) (fun c4 => ?_) (fun c4 => ?_)
          · skip
            refine v_iinc C (k := 2) (nI (2 + 1)) [(0, .ref xo), (1, .int (nI (cntS rst 2))), (2, .int (nI (2 + 1))), (3, .ref (rr 2))] [1, 2, 0, 3] dX5_rowsThatStand_30 rfl (nI_inc _) (by decide) rfl ?_
            refine v_goto C 4 dX5_rowsThatStand_33 (by decide) ?_
            refine V.lvs (lv' := [(0, .ref xo), (1, .int (nI (cntS rst 2))), (2, .int (nI (2 + 1)))]) [0, 1, 2] rfl ?_
            exact ih4 (2 + 1) _ _ (by rw [cntS_s rst 2, if_neg (by rw [c4]; decide)]) (rfl) (by omega) (by omega)
          · skip
            refine v_iinc C (k := 1) (nI ((cntS rst 2) + 1)) [(0, .ref xo), (1, .int (nI ((cntS rst 2) + 1))), (2, .int (nI 2)), (3, .ref (rr 2))] [1, 0, 2, 3] dX5_rowsThatStand_27 rfl (nI_inc _) (by decide) rfl ?_
            refine v_iinc C (k := 2) (nI (2 + 1)) [(0, .ref xo), (1, .int (nI ((cntS rst 2) + 1))), (2, .int (nI (2 + 1))), (3, .ref (rr 2))] [1, 2, 0, 3] dX5_rowsThatStand_30 rfl (nI_inc _) (by decide) rfl ?_
            refine v_goto C 4 dX5_rowsThatStand_33 (by decide) ?_
            refine V.lvs (lv' := [(0, .ref xo), (1, .int (nI ((cntS rst 2) + 1))), (2, .int (nI (2 + 1)))]) [0, 1, 2] rfl ?_
            exact ih4 (2 + 1) _ _ (by rw [cntS_s rst 2, if_pos c4]) (rfl) (by omega) (by omega)
        · skip
          refine v_aload_n C 0 dX5_rowsThatStand_10 rfl ?_
          refine v_iload_n C 2 dX5_rowsThatStand_11 rfl ?_
          refine v_callV (qi := 0) C [.int (nI 3)] [] kX5_rowAt gX5_rowsThatStand_X5_rowAt (c_rowAtIn l D cs (xo := xo) (xr := xr) (xd := xd) (ta := ta) (tb := tb) (xi := xi) (aa := aa) (sa := sa) (lf := lf) (fg := fg) (g := g) (j := 3) (r := (rr 3)) (by decide) (hg _ (by decide))) ⟨Nat.le_of_ble_eq_true rfl, Nat.le_of_ble_eq_true rfl⟩ ⟨rfl, rfl⟩ ⟨Nat.zero_le _, Nat.zero_le _⟩ rfl 0 rfl rfl rfl rfl (Nat.le_of_ble_eq_true rfl) [0, 1] [(xo, .inr (5, [.ref xr, .ref xd, .ref ta, .ref tb, .ref xi, .ref aa, .ref sa, .int lf, .int fg])), (xr, .inl (cs 2, 8, .inr (.inr (.inr (.inr g))))), (rr 0, .inr (3, [.ref (rp 0), .int (b2 (rst 0)), .int (rla 0), .int (rln 0)])), (rp 0, .inl (cs 0, 40, .inl (rf 0))), (rr 1, .inr (3, [.ref (rp 1), .int (b2 (rst 1)), .int (rla 1), .int (rln 1)])), (rp 1, .inl (cs 0, 40, .inl (rf 1))), (rr 2, .inr (3, [.ref (rp 2), .int (b2 (rst 2)), .int (rla 2), .int (rln 2)])), (rp 2, .inl (cs 0, 40, .inl (rf 2))), (rr 3, .inr (3, [.ref (rp 3), .int (b2 (rst 3)), .int (rla 3), .int (rln 3)])), (rp 3, .inl (cs 0, 40, .inl (rf 3))), (rr 4, .inr (3, [.ref (rp 4), .int (b2 (rst 4)), .int (rla 4), .int (rln 4)])), (rp 4, .inl (cs 0, 40, .inl (rf 4))), (rr 5, .inr (3, [.ref (rp 5), .int (b2 (rst 5)), .int (rla 5), .int (rln 5)])), (rp 5, .inl (cs 0, 40, .inl (rf 5))), (rr 6, .inr (3, [.ref (rp 6), .int (b2 (rst 6)), .int (rla 6), .int (rln 6)])), (rp 6, .inl (cs 0, 40, .inl (rf 6))), (rr 7, .inr (3, [.ref (rp 7), .int (b2 (rst 7)), .int (rla 7), .int (rln 7)])), (rp 7, .inl (cs 0, 40, .inl (rf 7)))] rfl (by decide) (show [xo, xr] = [xo, xr] from rfl) (rfl) dX5_rowsThatStand_12 ?_
          refine V.sts (st' := [.ref (rr 3)]) rfl ?_
          refine v_astore_n C [(0, .ref xo), (1, .int (nI (cntS rst 3))), (2, .int (nI 3)), (3, .ref (rr 3))] [1, 2, 3, 0] dX5_rowsThatStand_15 (by decide) rfl ?_
          refine v_aload_n C 3 dX5_rowsThatStand_16 rfl ?_
          refine v_ifnull C dX5_rowsThatStand_17 ?_
          refine v_aload_n C 3 dX5_rowsThatStand_20 rfl ?_
          refine v_getN C (v := .int (b2 (rst 3))) fn_X5_rowsThatStand_76 8 rfl rfl dX5_rowsThatStand_21 ?_
          refine v_if_eqB C 30 dX5_rowsThatStand_24 (by decide) (fun c5 => ?_) (fun c5 => ?_)
          · skip
            refine v_iinc C (k := 2) (nI (3 + 1)) [(0, .ref xo), (1, .int (nI (cntS rst 3))), (2, .int (nI (3 + 1))), (3, .ref (rr 3))] [1, 2, 0, 3] dX5_rowsThatStand_30 rfl (nI_inc _) (by decide) rfl ?_
            refine v_goto C 4 dX5_rowsThatStand_33 (by decide) ?_
            refine V.lvs (lv' := [(0, .ref xo), (1, .int (nI (cntS rst 3))), (2, .int (nI (3 + 1)))]) [0, 1, 2] rfl ?_
            exact ih4 (3 + 1) _ _ (by rw [cntS_s rst 3, if_neg (by rw [c5]; decide)]) (rfl) (by omega) (by omega)
          · skip
            refine v_iinc C (k := 1) (nI ((cntS rst 3) + 1)) [(0, .ref xo), (1, .int (nI ((cntS rst 3) + 1))), (2, .int (nI 3)), (3, .ref (rr 3))] [1, 0, 2, 3] dX5_rowsThatStand_27 rfl (nI_inc _) (by decide) rfl ?_
            refine v_iinc C (k := 2) (nI (3 + 1)) [(0, .ref xo), (1, .int (nI ((cntS rst 3) + 1))), (2, .int (nI (3 + 1))), (3, .ref (rr 3))] [1, 2, 0, 3] dX5_rowsThatStand_30 rfl (nI_inc _) (by decide) rfl ?_
            refine v_goto C 4 dX5_rowsThatStand_33 (by decide) ?_
            refine V.lvs (lv' := [(0, .ref xo), (1, .int (nI ((cntS rst 3) + 1))), (2, .int (nI (3 + 1)))]) [0, 1, 2] rfl ?_
            exact ih4 (3 + 1) _ _ (by rw [cntS_s rst 3, if_pos c5]) (rfl) (by omega) (by omega)
        · skip
          refine v_aload_n C 0 dX5_rowsThatStand_10 rfl ?_
          refine v_iload_n C 2 dX5_rowsThatStand_11 rfl ?_
          refine v_callV (qi := 0) C [.int (nI 4)] [] kX5_rowAt gX5_rowsThatStand_X5_rowAt (c_rowAtIn l D cs (xo := xo) (xr := xr) (xd := xd) (ta := ta) (tb := tb) (xi := xi) (aa := aa) (sa := sa) (lf := lf) (fg := fg) (g := g) (j := 4) (r := (rr 4)) (by decide) (hg _ (by decide))) ⟨Nat.le_of_ble_eq_true rfl, Nat.le_of_ble_eq_true rfl⟩ ⟨rfl, rfl⟩ ⟨Nat.zero_le _, Nat.zero_le _⟩ rfl 0 rfl rfl rfl rfl (Nat.le_of_ble_eq_true rfl) [0, 1] [(xo, .inr (5, [.ref xr, .ref xd, .ref ta, .ref tb, .ref xi, .ref aa, .ref sa, .int lf, .int fg])), (xr, .inl (cs 2, 8, .inr (.inr (.inr (.inr g))))), (rr 0, .inr (3, [.ref (rp 0), .int (b2 (rst 0)), .int (rla 0), .int (rln 0)])), (rp 0, .inl (cs 0, 40, .inl (rf 0))), (rr 1, .inr (3, [.ref (rp 1), .int (b2 (rst 1)), .int (rla 1), .int (rln 1)])), (rp 1, .inl (cs 0, 40, .inl (rf 1))), (rr 2, .inr (3, [.ref (rp 2), .int (b2 (rst 2)), .int (rla 2), .int (rln 2)])), (rp 2, .inl (cs 0, 40, .inl (rf 2))), (rr 3, .inr (3, [.ref (rp 3), .int (b2 (rst 3)), .int (rla 3), .int (rln 3)])), (rp 3, .inl (cs 0, 40, .inl (rf 3))), (rr 4, .inr (3, [.ref (rp 4), .int (b2 (rst 4)), .int (rla 4), .int (rln 4)])), (rp 4, .inl (cs 0, 40, .inl (rf 4))), (rr 5, .inr (3, [.ref (rp 5), .int (b2 (rst 5)), .int (rla 5), .int (rln 5)])), (rp 5, .inl (cs 0, 40, .inl (rf 5))), (rr 6, .inr (3, [.ref (rp 6), .int (b2 (rst 6)), .int (rla 6), .int (rln 6)])), (rp 6, .inl (cs 0, 40, .inl (rf 6))), (rr 7, .inr (3, [.ref (rp 7), .int (b2 (rst 7)), .int (rla 7), .int (rln 7)])), (rp 7, .inl (cs 0, 40, .inl (rf 7)))] rfl (by decide) (show [xo, xr] = [xo, xr] from rfl) (rfl) dX5_rowsThatStand_12 ?_
          refine V.sts (st' := [.ref (rr 4)]) rfl ?_
          refine v_astore_n C [(0, .ref xo), (1, .int (nI (cntS rst 4))), (2, .int (nI 4)), (3, .ref (rr 4))] [1, 2, 3, 0] dX5_rowsThatStand_15 (by decide) rfl ?_
          refine v_aload_n C 3 dX5_rowsThatStand_16 rfl ?_
          refine v_ifnull C dX5_rowsThatStand_17 ?_
          refine v_aload_n C 3 dX5_rowsThatStand_20 rfl ?_
          refine v_getN C (v := .int (b2 (rst 4))) fn_X5_rowsThatStand_76 10 rfl rfl dX5_rowsThatStand_21 ?_
          refine v_if_eqB C 30 dX5_rowsThatStand_24 (by decide) (fun c6 => ?_) (fun c6 => ?_)
          · skip
            refine v_iinc C (k := 2) (nI (4 + 1)) [(0, .ref xo), (1, .int (nI (cntS rst 4))), (2, .int (nI (4 + 1))), (3, .ref (rr 4))] [1, 2, 0, 3] dX5_rowsThatStand_30 rfl (nI_inc _) (by decide) rfl ?_
            refine v_goto C 4 dX5_rowsThatStand_33 (by decide) ?_
            refine V.lvs (lv' := [(0, .ref xo), (1, .int (nI (cntS rst 4))), (2, .int (nI (4 + 1)))]) [0, 1, 2] rfl ?_
            exact ih4 (4 + 1) _ _ (by rw [cntS_s rst 4, if_neg (by rw [c6]; decide)]) (rfl) (by omega) (by omega)
          · skip
            refine v_iinc C (k := 1) (nI ((cntS rst 4) + 1)) [(0, .ref xo), (1, .int (nI ((cntS rst 4) + 1))), (2, .int (nI 4)), (3, .ref (rr 4))] [1, 0, 2, 3] dX5_rowsThatStand_27 rfl (nI_inc _) (by decide) rfl ?_
            refine v_iinc C (k := 2) (nI (4 + 1)) [(0, .ref xo), (1, .int (nI ((cntS rst 4) + 1))), (2, .int (nI (4 + 1))), (3, .ref (rr 4))] [1, 2, 0, 3] dX5_rowsThatStand_30 rfl (nI_inc _) (by decide) rfl ?_
            refine v_goto C 4 dX5_rowsThatStand_33 (by decide) ?_
            refine V.lvs (lv' := [(0, .ref xo), (1, .int (nI ((cntS rst 4) + 1))), (2, .int (nI (4 + 1)))]) [0, 1, 2] rfl ?_
            exact ih4 (4 + 1) _ _ (by rw [cntS_s rst 4, if_pos c6]) (rfl) (by omega) (by omega)
        · skip
          refine v_aload_n C 0 dX5_rowsThatStand_10 rfl ?_
          refine v_iload_n C 2 dX5_rowsThatStand_11 rfl ?_
          refine v_callV (qi := 0) C [.int (nI 5)] [] kX5_rowAt gX5_rowsThatStand_X5_rowAt (c_rowAtIn l D cs (xo := xo) (xr := xr) (xd := xd) (ta := ta) (tb := tb) (xi := xi) (aa := aa) (sa := sa) (lf := lf) (fg := fg) (g := g) (j := 5) (r := (rr 5)) (by decide) (hg _ (by decide))) ⟨Nat.le_of_ble_eq_true rfl, Nat.le_of_ble_eq_true rfl⟩ ⟨rfl, rfl⟩ ⟨Nat.zero_le _, Nat.zero_le _⟩ rfl 0 rfl rfl rfl rfl (Nat.le_of_ble_eq_true rfl) [0, 1] [(xo, .inr (5, [.ref xr, .ref xd, .ref ta, .ref tb, .ref xi, .ref aa, .ref sa, .int lf, .int fg])), (xr, .inl (cs 2, 8, .inr (.inr (.inr (.inr g))))), (rr 0, .inr (3, [.ref (rp 0), .int (b2 (rst 0)), .int (rla 0), .int (rln 0)])), (rp 0, .inl (cs 0, 40, .inl (rf 0))), (rr 1, .inr (3, [.ref (rp 1), .int (b2 (rst 1)), .int (rla 1), .int (rln 1)])), (rp 1, .inl (cs 0, 40, .inl (rf 1))), (rr 2, .inr (3, [.ref (rp 2), .int (b2 (rst 2)), .int (rla 2), .int (rln 2)])), (rp 2, .inl (cs 0, 40, .inl (rf 2))), (rr 3, .inr (3, [.ref (rp 3), .int (b2 (rst 3)), .int (rla 3), .int (rln 3)])), (rp 3, .inl (cs 0, 40, .inl (rf 3))), (rr 4, .inr (3, [.ref (rp 4), .int (b2 (rst 4)), .int (rla 4), .int (rln 4)])), (rp 4, .inl (cs 0, 40, .inl (rf 4))), (rr 5, .inr (3, [.ref (rp 5), .int (b2 (rst 5)), .int (rla 5), .int (rln 5)])), (rp 5, .inl (cs 0, 40, .inl (rf 5))), (rr 6, .inr (3, [.ref (rp 6), .int (b2 (rst 6)), .int (rla 6), .int (rln 6)])), (rp 6, .inl (cs 0, 40, .inl (rf 6))), (rr 7, .inr (3, [.ref (rp 7), .int (b2 (rst 7)), .int (rla 7), .int (rln 7)])), (rp 7, .inl (cs 0, 40, .inl (rf 7)))] rfl (by decide) (show [xo, xr] = [xo, xr] from rfl) (rfl) dX5_rowsThatStand_12 ?_
          refine V.sts (st' := [.ref (rr 5)]) rfl ?_
          refine v_astore_n C [(0, .ref xo), (1, .int (nI (cntS rst 5))), (2, .int (nI 5)), (3, .ref (rr 5))] [1, 2, 3, 0] dX5_rowsThatStand_15 (by decide) rfl ?_
          refine v_aload_n C 3 dX5_rowsThatStand_16 rfl ?_
          refine v_ifnull C dX5_rowsThatStand_17 ?_
          refine v_aload_n C 3 dX5_rowsThatStand_20 rfl ?_
          refine v_getN C (v := .int (b2 (rst 5))) fn_X5_rowsThatStand_76 12 rfl rfl dX5_rowsThatStand_21 ?_
          refine v_if_eqB C 30 dX5_rowsThatStand_24 (by decide) (fun c7 => ?_) (fun c7 => ?_)
          · skip
            refine v_iinc C (k := 2) (nI (5 + 1)) [(0, .ref xo), (1, .int (nI (cntS rst 5))), (2, .int (nI (5 + 1))), (3, .ref (rr 5))] [1, 2, 0, 3] dX5_rowsThatStand_30 rfl (nI_inc _) (by decide) rfl ?_
            refine v_goto C 4 dX5_rowsThatStand_33 (by decide) ?_
            refine V.lvs (lv' := [(0, .ref xo), (1, .int (nI (cntS rst 5))), (2, .int (nI (5 + 1)))]) [0, 1, 2] rfl ?_
            exact ih4 (5 + 1) _ _ (by rw [cntS_s rst 5, if_neg (by rw [c7]; decide)]) (rfl) (by omega) (by omega)
          · skip
            refine v_iinc C (k := 1) (nI ((cntS rst 5) + 1)) [(0, .ref xo), (1, .int (nI ((cntS rst 5) + 1))), (2, .int (nI 5)), (3, .ref (rr 5))] [1, 0, 2, 3] dX5_rowsThatStand_27 rfl (nI_inc _) (by decide) rfl ?_
            refine v_iinc C (k := 2) (nI (5 + 1)) [(0, .ref xo), (1, .int (nI ((cntS rst 5) + 1))), (2, .int (nI (5 + 1))), (3, .ref (rr 5))] [1, 2, 0, 3] dX5_rowsThatStand_30 rfl (nI_inc _) (by decide) rfl ?_
            refine v_goto C 4 dX5_rowsThatStand_33 (by decide) ?_
            refine V.lvs (lv' := [(0, .ref xo), (1, .int (nI ((cntS rst 5) + 1))), (2, .int (nI (5 + 1)))]) [0, 1, 2] rfl ?_
            exact ih4 (5 + 1) _ _ (by rw [cntS_s rst 5, if_pos c7]) (rfl) (by omega) (by omega)
        · skip
          refine v_aload_n C 0 dX5_rowsThatStand_10 rfl ?_
          refine v_iload_n C 2 dX5_rowsThatStand_11 rfl ?_
          refine v_callV (qi := 0) C [.int (nI 6)] [] kX5_rowAt gX5_rowsThatStand_X5_rowAt (c_rowAtIn l D cs (xo := xo) (xr := xr) (xd := xd) (ta := ta) (tb := tb) (xi := xi) (aa := aa) (sa := sa) (lf := lf) (fg := fg) (g := g) (j := 6) (r := (rr 6)) (by decide) (hg _ (by decide))) ⟨Nat.le_of_ble_eq_true rfl, Nat.le_of_ble_eq_true rfl⟩ ⟨rfl, rfl⟩ ⟨Nat.zero_le _, Nat.zero_le _⟩ rfl 0 rfl rfl rfl rfl (Nat.le_of_ble_eq_true rfl) [0, 1] [(xo, .inr (5, [.ref xr, .ref xd, .ref ta, .ref tb, .ref xi, .ref aa, .ref sa, .int lf, .int fg])), (xr, .inl (cs 2, 8, .inr (.inr (.inr (.inr g))))), (rr 0, .inr (3, [.ref (rp 0), .int (b2 (rst 0)), .int (rla 0), .int (rln 0)])), (rp 0, .inl (cs 0, 40, .inl (rf 0))), (rr 1, .inr (3, [.ref (rp 1), .int (b2 (rst 1)), .int (rla 1), .int (rln 1)])), (rp 1, .inl (cs 0, 40, .inl (rf 1))), (rr 2, .inr (3, [.ref (rp 2), .int (b2 (rst 2)), .int (rla 2), .int (rln 2)])), (rp 2, .inl (cs 0, 40, .inl (rf 2))), (rr 3, .inr (3, [.ref (rp 3), .int (b2 (rst 3)), .int (rla 3), .int (rln 3)])), (rp 3, .inl (cs 0, 40, .inl (rf 3))), (rr 4, .inr (3, [.ref (rp 4), .int (b2 (rst 4)), .int (rla 4), .int (rln 4)])), (rp 4, .inl (cs 0, 40, .inl (rf 4))), (rr 5, .inr (3, [.ref (rp 5), .int (b2 (rst 5)), .int (rla 5), .int (rln 5)])), (rp 5, .inl (cs 0, 40, .inl (rf 5))), (rr 6, .inr (3, [.ref (rp 6), .int (b2 (rst 6)), .int (rla 6), .int (rln 6)])), (rp 6, .inl (cs 0, 40, .inl (rf 6))), (rr 7, .inr (3, [.ref (rp 7), .int (b2 (rst 7)), .int (rla 7), .int (rln 7)])), (rp 7, .inl (cs 0, 40, .inl (rf 7)))] rfl (by decide) (show [xo, xr] = [xo, xr] from rfl) (rfl) dX5_rowsThatStand_12 ?_
          refine V.sts (st' := [.ref (rr 6)]) rfl ?_
          refine v_astore_n C [(0, .ref xo), (1, .int (nI (cntS rst 6))), (2, .int (nI 6)), (3, .ref (rr 6))] [1, 2, 3, 0] dX5_rowsThatStand_15 (by decide) rfl ?_
          refine v_aload_n C 3 dX5_rowsThatStand_16 rfl ?_
          refine v_ifnull C dX5_rowsThatStand_17 ?_
          refine v_aload_n C 3 dX5_rowsThatStand_20 rfl ?_
          refine v_getN C (v := .int (b2 (rst 6))) fn_X5_rowsThatStand_76 14 rfl rfl dX5_rowsThatStand_21 ?_
          refine v_if_eqB C 30 dX5_rowsThatStand_24 (by decide) (fun c8 => ?_) (fun c8 => ?_)
          · skip
            refine v_iinc C (k := 2) (nI (6 + 1)) [(0, .ref xo), (1, .int (nI (cntS rst 6))), (2, .int (nI (6 + 1))), (3, .ref (rr 6))] [1, 2, 0, 3] dX5_rowsThatStand_30 rfl (nI_inc _) (by decide) rfl ?_
            refine v_goto C 4 dX5_rowsThatStand_33 (by decide) ?_
            refine V.lvs (lv' := [(0, .ref xo), (1, .int (nI (cntS rst 6))), (2, .int (nI (6 + 1)))]) [0, 1, 2] rfl ?_
            exact ih4 (6 + 1) _ _ (by rw [cntS_s rst 6, if_neg (by rw [c8]; decide)]) (rfl) (by omega) (by omega)
          · skip
            refine v_iinc C (k := 1) (nI ((cntS rst 6) + 1)) [(0, .ref xo), (1, .int (nI ((cntS rst 6) + 1))), (2, .int (nI 6)), (3, .ref (rr 6))] [1, 0, 2, 3] dX5_rowsThatStand_27 rfl (nI_inc _) (by decide) rfl ?_
            refine v_iinc C (k := 2) (nI (6 + 1)) [(0, .ref xo), (1, .int (nI ((cntS rst 6) + 1))), (2, .int (nI (6 + 1))), (3, .ref (rr 6))] [1, 2, 0, 3] dX5_rowsThatStand_30 rfl (nI_inc _) (by decide) rfl ?_
            refine v_goto C 4 dX5_rowsThatStand_33 (by decide) ?_
            refine V.lvs (lv' := [(0, .ref xo), (1, .int (nI ((cntS rst 6) + 1))), (2, .int (nI (6 + 1)))]) [0, 1, 2] rfl ?_
            exact ih4 (6 + 1) _ _ (by rw [cntS_s rst 6, if_pos c8]) (rfl) (by omega) (by omega)
        · skip
          refine v_aload_n C 0 dX5_rowsThatStand_10 rfl ?_
          refine v_iload_n C 2 dX5_rowsThatStand_11 rfl ?_
          refine v_callV (qi := 0) C [.int (nI 7)] [] kX5_rowAt gX5_rowsThatStand_X5_rowAt (c_rowAtIn l D cs (xo := xo) (xr := xr) (xd := xd) (ta := ta) (tb := tb) (xi := xi) (aa := aa) (sa := sa) (lf := lf) (fg := fg) (g := g) (j := 7) (r := (rr 7)) (by decide) (hg _ (by decide))) ⟨Nat.le_of_ble_eq_true rfl, Nat.le_of_ble_eq_true rfl⟩ ⟨rfl, rfl⟩ ⟨Nat.zero_le _, Nat.zero_le _⟩ rfl 0 rfl rfl rfl rfl (Nat.le_of_ble_eq_true rfl) [0, 1] [(xo, .inr (5, [.ref xr, .ref xd, .ref ta, .ref tb, .ref xi, .ref aa, .ref sa, .int lf, .int fg])), (xr, .inl (cs 2, 8, .inr (.inr (.inr (.inr g))))), (rr 0, .inr (3, [.ref (rp 0), .int (b2 (rst 0)), .int (rla 0), .int (rln 0)])), (rp 0, .inl (cs 0, 40, .inl (rf 0))), (rr 1, .inr (3, [.ref (rp 1), .int (b2 (rst 1)), .int (rla 1), .int (rln 1)])), (rp 1, .inl (cs 0, 40, .inl (rf 1))), (rr 2, .inr (3, [.ref (rp 2), .int (b2 (rst 2)), .int (rla 2), .int (rln 2)])), (rp 2, .inl (cs 0, 40, .inl (rf 2))), (rr 3, .inr (3, [.ref (rp 3), .int (b2 (rst 3)), .int (rla 3), .int (rln 3)])), (rp 3, .inl (cs 0, 40, .inl (rf 3))), (rr 4, .inr (3, [.ref (rp 4), .int (b2 (rst 4)), .int (rla 4), .int (rln 4)])), (rp 4, .inl (cs 0, 40, .inl (rf 4))), (rr 5, .inr (3, [.ref (rp 5), .int (b2 (rst 5)), .int (rla 5), .int (rln 5)])), (rp 5, .inl (cs 0, 40, .inl (rf 5))), (rr 6, .inr (3, [.ref (rp 6), .int (b2 (rst 6)), .int (rla 6), .int (rln 6)])), (rp 6, .inl (cs 0, 40, .inl (rf 6))), (rr 7, .inr (3, [.ref (rp 7), .int (b2 (rst 7)), .int (rla 7), .int (rln 7)])), (rp 7, .inl (cs 0, 40, .inl (rf 7)))] rfl (by decide) (show [xo, xr] = [xo, xr] from rfl) (rfl) dX5_rowsThatStand_12 ?_
          refine V.sts (st' := [.ref (rr 7)]) rfl ?_
          refine v_astore_n C [(0, .ref xo), (1, .int (nI (cntS rst 7))), (2, .int (nI 7)), (3, .ref (rr 7))] [1, 2, 3, 0] dX5_rowsThatStand_15 (by decide) rfl ?_
          refine v_aload_n C 3 dX5_rowsThatStand_16 rfl ?_
          refine v_ifnull C dX5_rowsThatStand_17 ?_
          refine v_aload_n C 3 dX5_rowsThatStand_20 rfl ?_
          refine v_getN C (v := .int (b2 (rst 7))) fn_X5_rowsThatStand_76 16 rfl rfl dX5_rowsThatStand_21 ?_
          refine v_if_eqB C 30 dX5_rowsThatStand_24 (by decide) (fun c9 => ?_) (fun c9 => ?_)
          · skip
            refine v_iinc C (k := 2) (nI (7 + 1)) [(0, .ref xo), (1, .int (nI (cntS rst 7))), (2, .int (nI (7 + 1))), (3, .ref (rr 7))] [1, 2, 0, 3] dX5_rowsThatStand_30 rfl (nI_inc _) (by decide) rfl ?_
            refine v_goto C 4 dX5_rowsThatStand_33 (by decide) ?_
            refine V.lvs (lv' := [(0, .ref xo), (1, .int (nI (cntS rst 7))), (2, .int (nI (7 + 1)))]) [0, 1, 2] rfl ?_
            exact ih4 (7 + 1) _ _ (by rw [cntS_s rst 7, if_neg (by rw [c9]; decide)]) (rfl) (by omega) (by omega)
          · skip
            refine v_iinc C (k := 1) (nI ((cntS rst 7) + 1)) [(0, .ref xo), (1, .int (nI ((cntS rst 7) + 1))), (2, .int (nI 7)), (3, .ref (rr 7))] [1, 0, 2, 3] dX5_rowsThatStand_27 rfl (nI_inc _) (by decide) rfl ?_
            refine v_iinc C (k := 2) (nI (7 + 1)) [(0, .ref xo), (1, .int (nI ((cntS rst 7) + 1))), (2, .int (nI (7 + 1))), (3, .ref (rr 7))] [1, 2, 0, 3] dX5_rowsThatStand_30 rfl (nI_inc _) (by decide) rfl ?_
            refine v_goto C 4 dX5_rowsThatStand_33 (by decide) ?_
            refine V.lvs (lv' := [(0, .ref xo), (1, .int (nI ((cntS rst 7) + 1))), (2, .int (nI (7 + 1)))]) [0, 1, 2] rfl ?_
            exact ih4 (7 + 1) _ _ (by rw [cntS_s rst 7, if_pos c9]) (rfl) (by omega) (by omega)
  exact L4 _ 0 _ _ (rfl) (rfl) (by first | assumption | omega) (Nat.lt_succ_self _)
theorem kX5_fits : KD yX5_fits wsX5_fits cX5_fits 8 (some .boolean) 5 := ⟨⟨_, rfl⟩, by decide, by decide +kernel, by decide +kernel, by decide +kernel⟩
theorem nq_X5_fits_X3_item : Cond.initialized yX3_item.cls ∈ wsX5_fits ∧ Cond.instanceMethod yX3_item ∈ wsX5_fits ∧ Cond.selects yX3_item.cls yX3_item yX3_item ∈ wsX5_fits := ⟨by decide +kernel, by decide +kernel, by decide +kernel⟩
theorem in_X5_fits_X5 : ∀ w ∈ wsX50, w ∈ wsX5_fits := by decide +kernel
theorem fl_X5_fits_26 : FL RX5 wsX5_fits RX5 RX5 TX5 9 5 2 26 := ⟨⟨in_X5_fits_X5, rfl, by decide, rfl⟩, by decide +kernel⟩
theorem nq_X5_fits_X4_worthIfKind : Cond.initialized yX4_worthIfKind.cls ∈ wsX5_fits ∧ Cond.instanceMethod yX4_worthIfKind ∈ wsX5_fits ∧ Cond.selects yX4_worthIfKind.cls yX4_worthIfKind yX4_worthIfKind ∈ wsX5_fits := ⟨by decide +kernel, by decide +kernel, by decide +kernel⟩
set_option maxHeartbeats 4000000 in
set_option maxRecDepth 100000 in
theorem c_fits (l : Launch) (D : va_G) (cs : Nat → ClassId) {xo : Nat} {xr : Nat} {xd : Nat} {ta : Nat} {tb : Nat} {xi : Nat} {aa : Nat} {sa : Nat} {lf : Int32} {fg : Int32} {tk : Nat} {tq : Nat} {tw : Nat} {kf : Nat → Int32} {sf : Nat → Int32} {wf : Nat → Int32} {pe : Int32} {aw : Int32} {me : Int32} {sp : Int32} {tn : Nat} {ra : Nat} {rp : Nat} {rf : Nat → Int32} {sd : Bool} {la : Int32} {ln : Int32} {x : Int32} {kd : Int32} {i : Int32} {mn : Nat} (hS : ∀ t, s64 (sf t)) (hti : tn ≤ 8) (hm : mn ≤ 10) : CT l D (tz cs) yX5_fits wsX5_fits ({ frames := 5, cells := 0, slots := 0, locals := 114 }) [.ref xo, .int x, .int kd, .ref ra, .int i, .int (nI mn)] [(xo, .inr (5, [.ref xr, .ref xd, .ref ta, .ref tb, .ref xi, .ref aa, .ref sa, .int lf, .int fg])), (ta, .inr (4, [.ref tk, .ref tq, .ref tw, .int pe, .int (nI tn), .int aw, .int me, .int sp])), (tk, .inl (cs 0, 8, .inl kf)), (tq, .inl (cs 0, 8, .inl sf)), (tw, .inl (cs 0, 8, .inl wf)), (ra, .inr (3, [.ref rp, .int (b2 sd), .int la, .int ln])), (rp, .inl (cs 0, 40, .inl rf))] (some (.int (b2 (fitB kf sf wf tn rf x kd i mn)))) [(xo, .inr (5, [.ref xr, .ref xd, .ref ta, .ref tb, .ref xi, .ref aa, .ref sa, .int lf, .int fg])), (ta, .inr (4, [.ref tk, .ref tq, .ref tw, .int pe, .int (nI tn), .int aw, .int me, .int sp])), (tk, .inl (cs 0, 8, .inl kf)), (tq, .inl (cs 0, 8, .inl sf)), (tw, .inl (cs 0, 8, .inl wf)), (ra, .inr (3, [.ref rp, .int (b2 sd), .int la, .int ln])), (rp, .inl (cs 0, 40, .inl rf))] := by
  refine CT.of kX5_fits (Nat.le_of_ble_eq_true rfl) ?_
  intro p e s m below meth c A C E
  have C : VOk p s m _ c cX5_fits 8 wsX5_fits RX5 D (tz cs) A s.heap := C
  refine V.lvs (lv' := [(0, .ref xo), (1, .int x), (2, .int kd), (3, .ref ra), (4, .int i), (5, .int (nI mn))]) [0, 1, 2, 3, 4, 5] rfl ?_
  refine v_iconst C (v := 0) dX5_fits_0 (by decide) ?_
  refine v_istore C [(0, .ref xo), (1, .int x), (2, .int kd), (3, .ref ra), (4, .int i), (5, .int (nI mn)), (6, .int 0)] [1, 2, 3, 4, 5, 6, 0] dX5_fits_1 (by decide) rfl ?_
  have L3 : ∀ (n : Nat) (j : Nat) (y0 : Int32), y0 = (nI j) → (j ≤ mn) → (fitB kf sf wf tn rf x kd i j = true) → (mn - j) < n → V p l e ({ frames := 5, cells := 0, slots := 0, locals := 114 }) s m (List.toArray [.ref xo, .int x, .int kd, .ref ra, .int i, .int (nI mn)]) below meth c 0 0 (MQ below (vq_Q (some (.int (b2 (fitB kf sf wf tn rf x kd i mn)))) D [(xo, .inr (5, [.ref xr, .ref xd, .ref ta, .ref tb, .ref xi, .ref aa, .ref sa, .int lf, .int fg])), (ta, .inr (4, [.ref tk, .ref tq, .ref tw, .int pe, .int (nI tn), .int aw, .int me, .int sp])), (tk, .inl (cs 0, 8, .inl kf)), (tq, .inl (cs 0, 8, .inl sf)), (tw, .inl (cs 0, 8, .inl wf)), (ra, .inr (3, [.ref rp, .int (b2 sd), .int la, .int ln])), (rp, .inl (cs 0, 40, .inl rf))] [(xo, .inr (5, [.ref xr, .ref xd, .ref ta, .ref tb, .ref xi, .ref aa, .ref sa, .int lf, .int fg])), (ta, .inr (4, [.ref tk, .ref tq, .ref tw, .int pe, .int (nI tn), .int aw, .int me, .int sp])), (tk, .inl (cs 0, 8, .inl kf)), (tq, .inl (cs 0, 8, .inl sf)), (tw, .inl (cs 0, 8, .inl wf)), (ra, .inr (3, [.ref rp, .int (b2 sd), .int la, .int ln])), (rp, .inl (cs 0, 40, .inl rf))] s.heap.size) (List.toArray [.ref xo, .int x, .int kd, .ref ra, .int i, .int (nI mn)]) s 0 0 (va_A [(xo, .inr (5, [.ref xr, .ref xd, .ref ta, .ref tb, .ref xi, .ref aa, .ref sa, .int lf, .int fg])), (ta, .inr (4, [.ref tk, .ref tq, .ref tw, .int pe, .int (nI tn), .int aw, .int me, .int sp])), (tk, .inl (cs 0, 8, .inl kf)), (tq, .inl (cs 0, 8, .inl sf)), (tw, .inl (cs 0, 8, .inl wf)), (ra, .inr (3, [.ref rp, .int (b2 sd), .int la, .int ln])), (rp, .inl (cs 0, 40, .inl rf))] s.heap.size)) 8 D A s.heap 3 [(0, .ref xo), (1, .int x), (2, .int kd), (3, .ref ra), (4, .int i), (5, .int (nI mn)), (6, .int y0)] [] [(xo, .inr (5, [.ref xr, .ref xd, .ref ta, .ref tb, .ref xi, .ref aa, .ref sa, .int lf, .int fg])), (ta, .inr (4, [.ref tk, .ref tq, .ref tw, .int pe, .int (nI tn), .int aw, .int me, .int sp])), (tk, .inl (cs 0, 8, .inl kf)), (tq, .inl (cs 0, 8, .inl sf)), (tw, .inl (cs 0, 8, .inl wf)), (ra, .inr (3, [.ref rp, .int (b2 sd), .int la, .int ln])), (rp, .inl (cs 0, 40, .inl rf))] := by
    intro n
    induction n with
    | zero =>
      intros; omega
    | succ n ih3 =>
      intro j y0 ey0 hj hf hn
      subst ey0
      refine v_iload C 6 dX5_fits_3 rfl ?_
      refine v_iload C 5 dX5_fits_5 rfl ?_
      refine v_icmp_ge C 58 dX5_fits_7 (by decide) (fun c1 => ?_) (fun c1 => ?_)
      · skip
        have hge : mn ≤ j := le_nI c1 (by omega) (by omega)
        refine v_iconst C (v := 1) dX5_fits_58 (by decide) ?_
        exact v_zret C E (rfl) (by rw [show mn = j by omega, hf]; rfl) dX5_fits_59
      · skip
        have hlt : j < mn := nle_nI c1 (by omega) (by omega)
        refine v_aload_n C 3 dX5_fits_10 rfl ?_
        refine v_iload C 4 dX5_fits_11 rfl ?_
        refine v_iconst C (v := 2) dX5_fits_13 (by decide) ?_
        refine v_iload C 6 dX5_fits_14 rfl ?_
        refine v_imul C dX5_fits_16 ?_
        refine v_iadd C dX5_fits_17 ?_
        refine v_callVN (qi := 0) C [.int (i + (2 * (nI j)))] [] kX3_item gX5_fits_X3_item_n87 (host := "TableShares") (by decide +kernel) nq_X5_fits_X3_item (c_item l D cs (ra := ra) (rp := rp) (rf := rf) (sd := sd) (la := la) (ln := ln) (i := (i + (2 * (nI j)))) ) ⟨Nat.le_of_ble_eq_true rfl, Nat.le_of_ble_eq_true rfl⟩ ⟨rfl, rfl⟩ ⟨Nat.zero_le _, Nat.zero_le _⟩ rfl 5 rfl rfl rfl rfl (Nat.le_of_ble_eq_true rfl) [5, 6] [(xo, .inr (5, [.ref xr, .ref xd, .ref ta, .ref tb, .ref xi, .ref aa, .ref sa, .int lf, .int fg])), (ta, .inr (4, [.ref tk, .ref tq, .ref tw, .int pe, .int (nI tn), .int aw, .int me, .int sp])), (tk, .inl (cs 0, 8, .inl kf)), (tq, .inl (cs 0, 8, .inl sf)), (tw, .inl (cs 0, 8, .inl wf)), (ra, .inr (3, [.ref rp, .int (b2 sd), .int la, .int ln])), (rp, .inl (cs 0, 40, .inl rf))] rfl (by decide) (show [ra, rp] = [ra, rp] from rfl) (rfl) dX5_fits_18 ?_
        refine V.sts (st' := [.int (gA rf 40 (i + (2 * (nI j))))]) rfl ?_
        refine v_istore C [(0, .ref xo), (1, .int x), (2, .int kd), (3, .ref ra), (4, .int i), (5, .int (nI mn)), (6, .int (nI j)), (7, .int (gA rf 40 (i + (2 * (nI j)))))] [1, 2, 3, 4, 5, 6, 7, 0] dX5_fits_21 (by decide) rfl ?_
        refine v_aload_n C 0 dX5_fits_23 rfl ?_
        refine v_get C (v := .ref ta) fl_X5_fits_26 0 rfl rfl dX5_fits_24 ?_
        refine v_iload C 7 dX5_fits_27 rfl ?_
        refine v_iload_n C 1 dX5_fits_29 rfl ?_
        refine v_iload_n C 2 dX5_fits_30 rfl ?_
        refine v_callVN (qi := 0) C [.int (gA rf 40 (i + (2 * (nI j)))), .int x, .int kd] [] kX4_worthIfKind gX5_fits_X4_worthIfKind_n264 (host := "TableShares") (by decide +kernel) nq_X5_fits_X4_worthIfKind (c_worthIfKind l D cs (ta := ta) (tk := tk) (tq := tq) (tw := tw) (kf := kf) (sf := sf) (wf := wf) (pe := pe) (aw := aw) (me := me) (sp := sp) (tn := tn) (th := (gA rf 40 (i + (2 * (nI j))))) (x := x) (kd := kd) (by first | assumption | omega) (by first | assumption | omega)) ⟨Nat.le_of_ble_eq_true rfl, Nat.le_of_ble_eq_true rfl⟩ ⟨rfl, rfl⟩ ⟨Nat.zero_le _, Nat.zero_le _⟩ rfl 1 rfl rfl rfl rfl (Nat.le_of_ble_eq_true rfl) [1, 2, 3, 4] [(xo, .inr (5, [.ref xr, .ref xd, .ref ta, .ref tb, .ref xi, .ref aa, .ref sa, .int lf, .int fg])), (ta, .inr (4, [.ref tk, .ref tq, .ref tw, .int pe, .int (nI tn), .int aw, .int me, .int sp])), (tk, .inl (cs 0, 8, .inl kf)), (tq, .inl (cs 0, 8, .inl sf)), (tw, .inl (cs 0, 8, .inl wf)), (ra, .inr (3, [.ref rp, .int (b2 sd), .int la, .int ln])), (rp, .inl (cs 0, 40, .inl rf))] rfl (by decide) (show [ta, tk, tq, tw] = [ta, tk, tq, tw] from rfl) (rfl) dX5_fits_31 ?_
        refine V.sts (st' := [.int (wsum kf sf wf (gA rf 40 (i + (2 * (nI j)))) tn - cnt (gA kf 8 x) (gA sf 8 x) (gA wf 8 x) (gA rf 40 (i + (2 * (nI j)))) + cnt kd (gA sf 8 x) (gA wf 8 x) (gA rf 40 (i + (2 * (nI j)))))]) rfl ?_
        refine v_aload_n C 3 dX5_fits_34 rfl ?_
        refine v_iload C 4 dX5_fits_35 rfl ?_
        refine v_iconst C (v := 2) dX5_fits_37 (by decide) ?_
        refine v_iload C 6 dX5_fits_38 rfl ?_
        refine v_imul C dX5_fits_40 ?_
        refine v_iadd C dX5_fits_41 ?_
        refine v_iconst C (v := 1) dX5_fits_42 (by decide) ?_
        refine v_iadd C dX5_fits_43 ?_
        refine v_callVN (qi := 0) C [.int ((i + (2 * (nI j))) + 1)] [.int (wsum kf sf wf (gA rf 40 (i + (2 * (nI j)))) tn - cnt (gA kf 8 x) (gA sf 8 x) (gA wf 8 x) (gA rf 40 (i + (2 * (nI j)))) + cnt kd (gA sf 8 x) (gA wf 8 x) (gA rf 40 (i + (2 * (nI j)))))] kX3_item gX5_fits_X3_item_n87 (host := "TableShares") (by decide +kernel) nq_X5_fits_X3_item (c_item l D cs (ra := ra) (rp := rp) (rf := rf) (sd := sd) (la := la) (ln := ln) (i := ((i + (2 * (nI j))) + 1)) ) ⟨Nat.le_of_ble_eq_true rfl, Nat.le_of_ble_eq_true rfl⟩ ⟨rfl, rfl⟩ ⟨Nat.zero_le _, Nat.zero_le _⟩ rfl 5 rfl rfl rfl rfl (Nat.le_of_ble_eq_true rfl) [5, 6] [(xo, .inr (5, [.ref xr, .ref xd, .ref ta, .ref tb, .ref xi, .ref aa, .ref sa, .int lf, .int fg])), (ta, .inr (4, [.ref tk, .ref tq, .ref tw, .int pe, .int (nI tn), .int aw, .int me, .int sp])), (tk, .inl (cs 0, 8, .inl kf)), (tq, .inl (cs 0, 8, .inl sf)), (tw, .inl (cs 0, 8, .inl wf)), (ra, .inr (3, [.ref rp, .int (b2 sd), .int la, .int ln])), (rp, .inl (cs 0, 40, .inl rf))] rfl (by decide) (show [ra, rp] = [ra, rp] from rfl) (rfl) dX5_fits_44 ?_
        refine V.sts (st' := [.int (gA rf 40 ((i + (2 * (nI j))) + 1)), .int (wsum kf sf wf (gA rf 40 (i + (2 * (nI j)))) tn - cnt (gA kf 8 x) (gA sf 8 x) (gA wf 8 x) (gA rf 40 (i + (2 * (nI j)))) + cnt kd (gA sf 8 x) (gA wf 8 x) (gA rf 40 (i + (2 * (nI j)))))]) rfl ?_
        refine v_icmp_eq C 52 dX5_fits_47 (by decide) (fun c2 => ?_) (fun c2 => ?_)
        · skip
          refine v_iinc C (k := 6) (nI (j + 1)) [(0, .ref xo), (1, .int x), (2, .int kd), (3, .ref ra), (4, .int i), (5, .int (nI mn)), (6, .int (nI (j + 1))), (7, .int (gA rf 40 (i + (2 * (nI j)))))] [1, 2, 3, 4, 5, 6, 0, 7] dX5_fits_52 rfl (nI_inc _) (by decide) rfl ?_
          refine v_goto C 3 dX5_fits_55 (by decide) ?_
          refine V.lvs (lv' := [(0, .ref xo), (1, .int x), (2, .int kd), (3, .ref ra), (4, .int i), (5, .int (nI mn)), (6, .int (nI (j + 1)))]) [0, 1, 2, 3, 4, 5, 6] rfl ?_
          exact ih3 (j + 1) _ (rfl) (by first | assumption | omega) (by rw [fitB, hf, Bool.true_and]; exact decide_eq_true c2) (by omega)
        · skip
          refine v_iconst C (v := 0) dX5_fits_50 (by decide) ?_
          exact v_zret C E (rfl) (by rw [show fitB kf sf wf tn rf x kd i mn = false from Bool.eq_false_iff.mpr (fun hz => by have h9 := fitB_le hlt hz; rw [fitB, hf, Bool.true_and] at h9; exact c2 (of_decide_eq_true h9))]; rfl) dX5_fits_51
  exact L3 _ 0 _ (rfl) (by first | assumption | omega) (rfl) (Nat.lt_succ_self _)
