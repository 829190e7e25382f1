theorem kX0_forgetAll : KD yX0_forgetAll wsX0_forgetAll cX0_forgetAll 1 none 0 := ⟨⟨_, rfl⟩, by decide, by decide +kernel, by decide +kernel, by decide +kernel⟩
theorem in_X0_forgetAll_X0 : ∀ w ∈ wsX00, w ∈ wsX0_forgetAll := by decide +kernel
theorem fl_X0_forgetAll_13 : FL RX0 wsX0_forgetAll RX0 RX0 TX0 2 0 1 13 := ⟨⟨in_X0_forgetAll_X0, rfl, by decide, rfl⟩, by decide +kernel⟩
theorem fp_X0_1 : FP TX0 2 1 tyX0 .int := ⟨tyX0_ok, nmX0, rfl, by decide +kernel⟩
set_option maxHeartbeats 4000000 in
set_option maxRecDepth 100000 in
theorem c_forgetAll (l : Launch) (D : va_G) (cs : Nat → ClassId) {aa : Nat} {ap : Nat} {kn : Int32} : CT l D (tz cs) yX0_forgetAll wsX0_forgetAll ({ frames := 0, cells := 0, slots := 0, locals := 0 }) [.ref aa] [(aa, .inr (0, [.ref ap, .int kn]))] none [(aa, .inr (0, [.ref ap, .int 0]))] := by
  refine CT.of kX0_forgetAll (Nat.le_of_ble_eq_true rfl) ?_
  intro p e s m below meth c A C E
  have C : VOk p s m _ c cX0_forgetAll 1 wsX0_forgetAll RX0 D (tz cs) A s.heap := C
  refine V.lvs (lv' := [(0, .ref aa)]) [0] rfl ?_
  refine v_aload_n C 0 dX0_forgetAll_0 rfl ?_
  refine v_iconst C (v := 0) dX0_forgetAll_1 (by decide) ?_
  refine v_put C fl_X0_forgetAll_13 fp_X0_1 0 rfl rfl rfl (Nat.le_of_ble_eq_true rfl) [(aa, .inr (0, [.ref ap, .int 0]))] rfl dX0_forgetAll_2 ?_
  exact v_vret C E (rfl) dX0_forgetAll_5
theorem kX0_forgetLatest : KD yX0_forgetLatest wsX0_forgetLatest cX0_forgetLatest 1 none 0 := ⟨⟨_, rfl⟩, by decide, by decide +kernel, by decide +kernel, by decide +kernel⟩
theorem in_X0_forgetLatest_X0 : ∀ w ∈ wsX00, w ∈ wsX0_forgetLatest := by decide +kernel
theorem fl_X0_forgetLatest_13 : FL RX0 wsX0_forgetLatest RX0 RX0 TX0 2 0 1 13 := ⟨⟨in_X0_forgetLatest_X0, rfl, by decide, rfl⟩, by decide +kernel⟩
set_option maxHeartbeats 4000000 in
set_option maxRecDepth 100000 in
theorem c_forgetLatest (l : Launch) (D : va_G) (cs : Nat → ClassId) {aa : Nat} {ap : Nat} {kn : Int32} : CT l D (tz cs) yX0_forgetLatest wsX0_forgetLatest ({ frames := 0, cells := 0, slots := 0, locals := 0 }) [.ref aa] [(aa, .inr (0, [.ref ap, .int kn]))] none [(aa, .inr (0, [.ref ap, .int (kn - 1)]))] := by
  refine CT.of kX0_forgetLatest (Nat.le_of_ble_eq_true rfl) ?_
  intro p e s m below meth c A C E
  have C : VOk p s m _ c cX0_forgetLatest 1 wsX0_forgetLatest RX0 D (tz cs) A s.heap := C
  refine V.lvs (lv' := [(0, .ref aa)]) [0] rfl ?_
  refine v_aload_n C 0 dX0_forgetLatest_0 rfl ?_
  refine v_dup C dX0_forgetLatest_1 rfl ?_
  refine v_get C (v := .int kn) fl_X0_forgetLatest_13 0 rfl rfl dX0_forgetLatest_2 ?_
  refine v_iconst C (v := 1) dX0_forgetLatest_5 (by decide) ?_
  refine v_isub C dX0_forgetLatest_6 ?_
  refine v_put C fl_X0_forgetLatest_13 fp_X0_1 0 rfl rfl rfl (Nat.le_of_ble_eq_true rfl) [(aa, .inr (0, [.ref ap, .int (kn - 1)]))] rfl dX0_forgetLatest_7 ?_
  exact v_vret C E (rfl) dX0_forgetLatest_10
theorem kX0_latest : KD yX0_latest wsX0_latest cX0_latest 2 (some .int) 1 := ⟨⟨_, rfl⟩, by decide, by decide +kernel, by decide +kernel, by decide +kernel⟩
theorem in_X0_latest_X0 : ∀ w ∈ wsX00, w ∈ wsX0_latest := by decide +kernel
theorem fl_X0_latest_9 : FL RX0 wsX0_latest RX0 RX0 TX0 2 0 0 9 := ⟨⟨in_X0_latest_X0, rfl, by decide, rfl⟩, by decide +kernel⟩
theorem fl_X0_latest_13 : FL RX0 wsX0_latest RX0 RX0 TX0 2 0 1 13 := ⟨⟨in_X0_latest_X0, rfl, by decide, rfl⟩, by decide +kernel⟩
theorem nq_X0_latest_X5_at : Cond.initialized yX5_at.cls ∈ wsX0_latest ∧ Cond.static yX5_at ∈ wsX0_latest := ⟨by decide +kernel, by decide +kernel⟩
set_option maxHeartbeats 4000000 in
set_option maxRecDepth 100000 in
theorem c_latest (l : Launch) (D : va_G) (cs : Nat → ClassId) {aa : Nat} {ap : Nat} {af : Nat → Int32} {kn : Int32} {x : Int32} : CT l D (tz cs) yX0_latest wsX0_latest ({ frames := 1, cells := 0, slots := 0, locals := 21 }) [.ref aa, .int x] [(aa, .inr (0, [.ref ap, .int kn])), (ap, .inl (cs 0, 96, .inl af))] (some (.int (gA af 96 ((kn - 1) * 4 + x)))) [(aa, .inr (0, [.ref ap, .int kn])), (ap, .inl (cs 0, 96, .inl af))] := by
  refine CT.of kX0_latest (Nat.le_of_ble_eq_true rfl) ?_
  intro p e s m below meth c A C E
  have C : VOk p s m _ c cX0_latest 2 wsX0_latest RX0 D (tz cs) A s.heap := C
  refine V.lvs (lv' := [(0, .ref aa), (1, .int x)]) [0, 1] rfl ?_
  refine v_aload_n C 0 dX0_latest_0 rfl ?_
  refine v_get C (v := .ref ap) fl_X0_latest_9 0 rfl rfl dX0_latest_1 ?_
  refine v_aload_n C 0 dX0_latest_4 rfl ?_
  refine v_get C (v := .int kn) fl_X0_latest_13 0 rfl rfl dX0_latest_5 ?_
  refine v_iconst C (v := 1) dX0_latest_8 (by decide) ?_
  refine v_isub C dX0_latest_9 ?_
  refine v_iconst C (v := 4) dX0_latest_10 (by decide) ?_
  refine v_imul C dX0_latest_11 ?_
  refine v_iload_n C 1 dX0_latest_12 rfl ?_
  refine v_iadd C dX0_latest_13 ?_
  refine v_callSN C [.ref ap, .int (((kn - 1) * 4) + x)] [] kX5_at gX0_latest_X5_at_n26 (host := "TableShares") (by decide +kernel) nq_X0_latest_X5_at (c_at l D cs (ga := ap) (n := 96) (f := af) (i := (((kn - 1) * 4) + x)) (by decide)) ⟨Nat.le_of_ble_eq_true rfl, Nat.le_of_ble_eq_true rfl⟩ ⟨rfl, rfl⟩ ⟨Nat.zero_le _, Nat.zero_le _⟩ rfl rfl (Nat.le_of_ble_eq_true rfl) [1] [(aa, .inr (0, [.ref ap, .int kn])), (ap, .inl (cs 0, 96, .inl af))] rfl (by decide) (show [ap] = [ap] from rfl) (rfl) dX0_latest_14 ?_
  refine V.sts (st' := [.int (gA af 96 (((kn - 1) * 4) + x))]) rfl ?_
  exact v_iret C E (rfl) (by first | rfl | (simp [↓reduceIte]; done) | (simp_all [b2]; done)) dX0_latest_17
theorem kX0_forgetOldest : KD yX0_forgetOldest wsX0_forgetOldest cX0_forgetOldest 2 none 0 := ⟨⟨_, rfl⟩, by decide, by decide +kernel, by decide +kernel, by decide +kernel⟩
theorem in_X0_forgetOldest_X0 : ∀ w ∈ wsX00, w ∈ wsX0_forgetOldest := by decide +kernel
theorem fl_X0_forgetOldest_9 : FL RX0 wsX0_forgetOldest RX0 RX0 TX0 2 0 0 9 := ⟨⟨in_X0_forgetOldest_X0, rfl, by decide, rfl⟩, by decide +kernel⟩
theorem fl_X0_forgetOldest_13 : FL RX0 wsX0_forgetOldest RX0 RX0 TX0 2 0 1 13 := ⟨⟨in_X0_forgetOldest_X0, rfl, by decide, rfl⟩, by decide +kernel⟩
theorem nq_X0_forgetOldest_X5_at : Cond.initialized yX5_at.cls ∈ wsX0_forgetOldest ∧ Cond.static yX5_at ∈ wsX0_forgetOldest := ⟨by decide +kernel, by decide +kernel⟩
theorem nq_X0_forgetOldest_X5_put : Cond.initialized yX5_put.cls ∈ wsX0_forgetOldest ∧ Cond.static yX5_put ∈ wsX0_forgetOldest := ⟨by decide +kernel, by decide +kernel⟩
set_option maxHeartbeats 4000000 in
set_option maxRecDepth 100000 in
theorem c_forgetOldest (l : Launch) (D : va_G) (cs : Nat → ClassId) {aa : Nat} {ap : Nat} {af : Nat → Int32} {kn : Int32} : CT l D (tz cs) yX0_forgetOldest wsX0_forgetOldest ({ frames := 1, cells := 0, slots := 0, locals := 22 }) [.ref aa] [(aa, .inr (0, [.ref ap, .int kn])), (ap, .inl (cs 0, 96, .inl af))] none [(aa, .inr (0, [.ref ap, .int (kn - 1)])), (ap, .inl (cs 0, 96, .inl (shF af 96)))] := by
  refine CT.of kX0_forgetOldest (Nat.le_of_ble_eq_true rfl) ?_
  intro p e s m below meth c A C E
  have C : VOk p s m _ c cX0_forgetOldest 2 wsX0_forgetOldest RX0 D (tz cs) A s.heap := C
  refine V.lvs (lv' := [(0, .ref aa)]) [0] rfl ?_
  refine v_iconst C (v := 4) dX0_forgetOldest_0 (by decide) ?_
  refine v_istore_n C [(0, .ref aa), (1, .int 4)] [1, 0] dX0_forgetOldest_1 (by decide) rfl ?_
  have L2 : ∀ (n : Nat) (i : Nat) (y0 : Int32) (y1 : Nat → Int32), y0 = (nI i) → y1 = shF af i → (4 ≤ i ∧ i ≤ 96) → (96 - i) < n → V p l e ({ frames := 1, cells := 0, slots := 0, locals := 22 }) s m (List.toArray [.ref aa]) below meth c 0 0 (MQ below (vq_Q none D [(aa, .inr (0, [.ref ap, .int (kn - 1)])), (ap, .inl (cs 0, 96, .inl (shF af 96)))] [(aa, .inr (0, [.ref ap, .int kn])), (ap, .inl (cs 0, 96, .inl af))] s.heap.size) (List.toArray [.ref aa]) s 0 0 (va_A [(aa, .inr (0, [.ref ap, .int kn])), (ap, .inl (cs 0, 96, .inl af))] s.heap.size)) 2 D A s.heap 2 [(0, .ref aa), (1, .int y0)] [] [(aa, .inr (0, [.ref ap, .int kn])), (ap, .inl (cs 0, 96, .inl y1))] := by
    intro n
    induction n with
    | zero =>
      intros; omega
    | succ n ih2 =>
      intro i y0 y1 ey0 ey1 hi hn
      subst ey0
      subst ey1
      refine v_iload_n C 1 dX0_forgetOldest_2 rfl ?_
      refine v_aload_n C 0 dX0_forgetOldest_3 rfl ?_
      refine v_get C (v := .ref ap) fl_X0_forgetOldest_9 0 rfl rfl dX0_forgetOldest_4 ?_
      refine v_alen C (v := 96) 1 0 rfl rfl rfl dX0_forgetOldest_7 ?_
      refine v_icmp_ge C 35 dX0_forgetOldest_8 (by decide) (fun c1 => ?_) (fun c1 => ?_)
      · skip
        have hge : 96 ≤ i := le_nI (a := 96) (b := i) c1 (by omega) (by omega)
        refine v_aload_n C 0 dX0_forgetOldest_35 rfl ?_
        refine v_dup C dX0_forgetOldest_36 rfl ?_
        refine v_get C (v := .int kn) fl_X0_forgetOldest_13 0 rfl rfl dX0_forgetOldest_37 ?_
        refine v_iconst C (v := 1) dX0_forgetOldest_40 (by decide) ?_
        refine v_isub C dX0_forgetOldest_41 ?_
        refine v_put C fl_X0_forgetOldest_13 fp_X0_1 0 rfl rfl rfl (Nat.le_of_ble_eq_true rfl) [(aa, .inr (0, [.ref ap, .int (kn - 1)])), (ap, .inl (cs 0, 96, .inl (shF af i)))] rfl dX0_forgetOldest_42 ?_
        exact v_vret C E (by rw [show i = 96 by omega]) dX0_forgetOldest_45
      · skip
        have hlt : i < 96 := nle_nI (b := i) (a := 96) c1 (by omega) (by omega)
        refine v_aload_n C 0 dX0_forgetOldest_11 rfl ?_
        refine v_get C (v := .ref ap) fl_X0_forgetOldest_9 0 rfl rfl dX0_forgetOldest_12 ?_
        refine v_iload_n C 1 dX0_forgetOldest_15 rfl ?_
        refine v_iconst C (v := 4) dX0_forgetOldest_16 (by decide) ?_
        refine v_isub C dX0_forgetOldest_17 ?_
        refine v_aload_n C 0 dX0_forgetOldest_18 rfl ?_
        refine v_get C (v := .ref ap) fl_X0_forgetOldest_9 0 rfl rfl dX0_forgetOldest_19 ?_
        refine v_iload_n C 1 dX0_forgetOldest_22 rfl ?_
        refine v_callSN C [.ref ap, .int (nI i)] [.int ((nI i) - 4), .ref ap] kX5_at gX0_forgetOldest_X5_at_n26 (host := "TableShares") (by decide +kernel) nq_X0_forgetOldest_X5_at (c_at l D cs (ga := ap) (n := 96) (f := shF af i) (i := (nI i)) (by decide)) ⟨Nat.le_of_ble_eq_true rfl, Nat.le_of_ble_eq_true rfl⟩ ⟨rfl, rfl⟩ ⟨Nat.zero_le _, Nat.zero_le _⟩ rfl rfl (Nat.le_of_ble_eq_true rfl) [1] [(aa, .inr (0, [.ref ap, .int kn])), (ap, .inl (cs 0, 96, .inl (shF af i)))] rfl (by decide) (show [ap] = [ap] from rfl) (rfl) dX0_forgetOldest_23 ?_
        refine V.sts (st' := [.int (gA (shF af i) 96 (nI i)), .int ((nI i) - 4), .ref ap]) rfl ?_
        refine v_callSN C [.ref ap, .int ((nI i) - 4), .int (gA (shF af i) 96 (nI i))] [] kX5_put gX0_forgetOldest_X5_put_n20 (host := "TableShares") (by decide +kernel) nq_X0_forgetOldest_X5_put (c_put l D cs (ga := ap) (n := 96) (f := (shF af i)) (i := ((nI i) - 4)) (x := (gA (shF af i) 96 (nI i))) (by decide)) ⟨Nat.le_of_ble_eq_true rfl, Nat.le_of_ble_eq_true rfl⟩ ⟨rfl, rfl⟩ ⟨Nat.zero_le _, Nat.zero_le _⟩ rfl rfl (Nat.le_of_ble_eq_true rfl) [1] [(aa, .inr (0, [.ref ap, .int kn])), (ap, .inl (cs 0, 96, .inl (pA (shF af i) 96 ((nI i) - 4) (gA (shF af i) 96 (nI i)))))] rfl (by decide) (show [ap] = [ap] from rfl) (rfl) dX0_forgetOldest_26 ?_
        refine V.sts (st' := []) rfl ?_
        refine v_iinc C (k := 1) (nI (i + 1)) [(0, .ref aa), (1, .int (nI (i + 1)))] [1, 0] dX0_forgetOldest_29 rfl (nI_inc _) (by decide) rfl ?_
        refine v_goto C 2 dX0_forgetOldest_32 (by decide) ?_
        exact ih2 (i + 1) _ _ (rfl) (by rw [gA_in (by omega) (by decide), s4_i hi.1, pA_in (by omega) (by decide), shF_at]; exact shF_s _ _ (by omega)) (by omega) (by omega)
  exact L2 _ 4 _ _ (rfl) (shF_0 _) (by omega) (Nat.lt_succ_self _)
theorem kX0_keep : KD yX0_keep wsX0_keep cX0_keep 6 none 4 := ⟨⟨_, rfl⟩, by decide, by decide +kernel, by decide +kernel, by decide +kernel⟩
theorem in_X0_keep_X0 : ∀ w ∈ wsX00, w ∈ wsX0_keep := by decide +kernel
theorem fl_X0_keep_13 : FL RX0 wsX0_keep RX0 RX0 TX0 2 0 1 13 := ⟨⟨in_X0_keep_X0, rfl, by decide, rfl⟩, by decide +kernel⟩
theorem fl_X0_keep_9 : FL RX0 wsX0_keep RX0 RX0 TX0 2 0 0 9 := ⟨⟨in_X0_keep_X0, rfl, by decide, rfl⟩, by decide +kernel⟩
theorem nq_X0_keep_X5_put : Cond.initialized yX5_put.cls ∈ wsX0_keep ∧ Cond.static yX5_put ∈ wsX0_keep := ⟨by decide +kernel, by decide +kernel⟩
set_option maxHeartbeats 4000000 in
set_option maxRecDepth 100000 in
theorem c_keepO (l : Launch) (D : va_G) (cs : Nat → ClassId) {aa : Nat} {ap : Nat} {af : Nat → Int32} {x0 : Int32} {x1 : Int32} {x2 : Int32} {x3 : Int32} : CT l D (tz cs) yX0_keep wsX0_keep ({ frames := 2, cells := 0, slots := 0, locals := 43 }) [.ref aa, .int x0, .int x1, .int x2, .int x3] [(aa, .inr (0, [.ref ap, .int 24])), (ap, .inl (cs 0, 96, .inl af))] none [(aa, .inr (0, [.ref ap, .int 24])), (ap, .inl (cs 0, 96, .inl (upd (upd (upd (upd (shF af 96) 92 x0) 93 x1) 94 x2) 95 x3)))] := by
  refine CT.of kX0_keep (Nat.le_of_ble_eq_true rfl) ?_
  intro p e s m below meth c A C E
  have C : VOk p s m _ c cX0_keep 6 wsX0_keep RX0 D (tz cs) A s.heap := C
  refine V.lvs (lv' := [(0, .ref aa), (1, .int x0), (2, .int x1), (3, .int x2), (4, .int x3)]) [0, 1, 2, 3, 4] rfl ?_
  refine v_aload_n C 0 dX0_keep_0 rfl ?_
  refine v_get C (v := .int 24) fl_X0_keep_13 0 rfl rfl dX0_keep_1 ?_
  refine v_bipush C (v := 24) dX0_keep_4 (by decide) ?_
  refine v_icmp_lt C 13 dX0_keep_6 (by decide) (fun c1 => ?_) (fun c1 => ?_)
  · exact absurd c1 (by decide)
  · skip
    refine v_aload_n C 0 dX0_keep_9 rfl ?_
    refine v_callV (qi := 0) C [] [] kX0_forgetOldest gX0_keep_X0_forgetOldest (c_forgetOldest l D cs (aa := aa) (ap := ap) (af := af) (kn := 24) ) ⟨Nat.le_of_ble_eq_true rfl, Nat.le_of_ble_eq_true rfl⟩ ⟨rfl, rfl⟩ ⟨Nat.zero_le _, Nat.zero_le _⟩ rfl 0 rfl rfl rfl rfl (Nat.le_of_ble_eq_true rfl) [0, 1] [(aa, .inr (0, [.ref ap, .int (24 - 1)])), (ap, .inl (cs 0, 96, .inl (shF af 96)))] rfl (by decide) (show [aa, ap] = [aa, ap] from rfl) (rfl) dX0_keep_10 ?_
    refine V.sts (st' := []) rfl ?_
    refine v_aload_n C 0 dX0_keep_13 rfl ?_
    refine v_get C (v := .int (24 - 1)) fl_X0_keep_13 0 rfl rfl dX0_keep_14 ?_
    refine v_iconst C (v := 4) dX0_keep_17 (by decide) ?_
    refine v_imul C dX0_keep_18 ?_
    refine V.topr (y := nI 92) (by decide) ?_
    refine v_istore C [(0, .ref aa), (1, .int x0), (2, .int x1), (3, .int x2), (4, .int x3), (5, .int (nI 92))] [1, 2, 3, 4, 5, 0] dX0_keep_19 (by decide) rfl ?_
    refine v_aload_n C 0 dX0_keep_21 rfl ?_
    refine v_get C (v := .ref ap) fl_X0_keep_9 0 rfl rfl dX0_keep_22 ?_
    refine v_iload C 5 dX0_keep_25 rfl ?_
    refine v_iload_n C 1 dX0_keep_27 rfl ?_
    refine v_callSN C [.ref ap, .int (nI 92), .int x0] [] kX5_put gX0_keep_X5_put_n20 (host := "TableShares") (by decide +kernel) nq_X0_keep_X5_put (c_put l D cs (ga := ap) (n := 96) (f := shF af 96) (i := nI 92) (x := x0) (by decide)) ⟨Nat.le_of_ble_eq_true rfl, Nat.le_of_ble_eq_true rfl⟩ ⟨rfl, rfl⟩ ⟨Nat.zero_le _, Nat.zero_le _⟩ rfl rfl (Nat.le_of_ble_eq_true rfl) [1] [(aa, .inr (0, [.ref ap, .int (24 - 1)])), (ap, .inl (cs 0, 96, .inl (pA (shF af 96) 96 (nI 92) x0)))] rfl (by decide) (show [ap] = [ap] from rfl) (rfl) dX0_keep_28 ?_
    refine V.sts (st' := []) rfl ?_
    refine v_aload_n C 0 dX0_keep_31 rfl ?_
    refine v_get C (v := .ref ap) fl_X0_keep_9 0 rfl rfl dX0_keep_32 ?_
    refine v_iload C 5 dX0_keep_35 rfl ?_
    refine v_iconst C (v := 1) dX0_keep_37 (by decide) ?_
    refine v_iadd C dX0_keep_38 ?_
    refine V.topr (y := nI 93) (by decide) ?_
    refine v_iload_n C 2 dX0_keep_39 rfl ?_
    refine v_callSN C [.ref ap, .int (nI 93), .int x1] [] kX5_put gX0_keep_X5_put_n20 (host := "TableShares") (by decide +kernel) nq_X0_keep_X5_put (c_put l D cs (ga := ap) (n := 96) (f := pA (shF af 96) 96 (nI 92) x0) (i := nI 93) (x := x1) (by decide)) ⟨Nat.le_of_ble_eq_true rfl, Nat.le_of_ble_eq_true rfl⟩ ⟨rfl, rfl⟩ ⟨Nat.zero_le _, Nat.zero_le _⟩ rfl rfl (Nat.le_of_ble_eq_true rfl) [1] [(aa, .inr (0, [.ref ap, .int (24 - 1)])), (ap, .inl (cs 0, 96, .inl (pA (pA (shF af 96) 96 (nI 92) x0) 96 (nI 93) x1)))] rfl (by decide) (show [ap] = [ap] from rfl) (rfl) dX0_keep_40 ?_
    refine V.sts (st' := []) rfl ?_
    refine v_aload_n C 0 dX0_keep_43 rfl ?_
    refine v_get C (v := .ref ap) fl_X0_keep_9 0 rfl rfl dX0_keep_44 ?_
    refine v_iload C 5 dX0_keep_47 rfl ?_
    refine v_iconst C (v := 2) dX0_keep_49 (by decide) ?_
    refine v_iadd C dX0_keep_50 ?_
    refine V.topr (y := nI 94) (by decide) ?_
    refine v_iload_n C 3 dX0_keep_51 rfl ?_
    refine v_callSN C [.ref ap, .int (nI 94), .int x2] [] kX5_put gX0_keep_X5_put_n20 (host := "TableShares") (by decide +kernel) nq_X0_keep_X5_put (c_put l D cs (ga := ap) (n := 96) (f := pA (pA (shF af 96) 96 (nI 92) x0) 96 (nI 93) x1) (i := nI 94) (x := x2) (by decide)) ⟨Nat.le_of_ble_eq_true rfl, Nat.le_of_ble_eq_true rfl⟩ ⟨rfl, rfl⟩ ⟨Nat.zero_le _, Nat.zero_le _⟩ rfl rfl (Nat.le_of_ble_eq_true rfl) [1] [(aa, .inr (0, [.ref ap, .int (24 - 1)])), (ap, .inl (cs 0, 96, .inl (pA (pA (pA (shF af 96) 96 (nI 92) x0) 96 (nI 93) x1) 96 (nI 94) x2)))] rfl (by decide) (show [ap] = [ap] from rfl) (rfl) dX0_keep_52 ?_
    refine V.sts (st' := []) rfl ?_
    refine v_aload_n C 0 dX0_keep_55 rfl ?_
    refine v_get C (v := .ref ap) fl_X0_keep_9 0 rfl rfl dX0_keep_56 ?_
    refine v_iload C 5 dX0_keep_59 rfl ?_
    refine v_iconst C (v := 3) dX0_keep_61 (by decide) ?_
    refine v_iadd C dX0_keep_62 ?_
    refine V.topr (y := nI 95) (by decide) ?_
    refine v_iload C 4 dX0_keep_63 rfl ?_
    refine v_callSN C [.ref ap, .int (nI 95), .int x3] [] kX5_put gX0_keep_X5_put_n20 (host := "TableShares") (by decide +kernel) nq_X0_keep_X5_put (c_put l D cs (ga := ap) (n := 96) (f := pA (pA (pA (shF af 96) 96 (nI 92) x0) 96 (nI 93) x1) 96 (nI 94) x2) (i := nI 95) (x := x3) (by decide)) ⟨Nat.le_of_ble_eq_true rfl, Nat.le_of_ble_eq_true rfl⟩ ⟨rfl, rfl⟩ ⟨Nat.zero_le _, Nat.zero_le _⟩ rfl rfl (Nat.le_of_ble_eq_true rfl) [1] [(aa, .inr (0, [.ref ap, .int (24 - 1)])), (ap, .inl (cs 0, 96, .inl (pA (pA (pA (pA (shF af 96) 96 (nI 92) x0) 96 (nI 93) x1) 96 (nI 94) x2) 96 (nI 95) x3)))] rfl (by decide) (show [ap] = [ap] from rfl) (rfl) dX0_keep_65 ?_
    refine V.sts (st' := []) rfl ?_
    refine v_aload_n C 0 dX0_keep_68 rfl ?_
    refine v_dup C dX0_keep_69 rfl ?_
    refine v_get C (v := .int (24 - 1)) fl_X0_keep_13 0 rfl rfl dX0_keep_70 ?_
    refine v_iconst C (v := 1) dX0_keep_73 (by decide) ?_
    refine v_iadd C dX0_keep_74 ?_
    refine v_put C fl_X0_keep_13 fp_X0_1 0 rfl rfl rfl (Nat.le_of_ble_eq_true rfl) [(aa, .inr (0, [.ref ap, .int ((24 - 1) + 1)])), (ap, .inl (cs 0, 96, .inl (pA (pA (pA (pA (shF af 96) 96 (nI 92) x0) 96 (nI 93) x1) 96 (nI 94) x2) 96 (nI 95) x3)))] rfl dX0_keep_75 ?_
    exact v_vret C E (by rw [pA_in (by omega) (by decide), pA_in (by omega) (by decide), pA_in (by omega) (by decide), pA_in (by omega) (by decide)]; rfl) dX0_keep_78
