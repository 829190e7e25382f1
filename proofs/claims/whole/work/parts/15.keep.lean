set_option maxHeartbeats 4000000 in
set_option maxRecDepth 100000 in
theorem c_keepL (l : Launch) (D : va_G) (cs : Nat → ClassId) {aa : Nat} {ap : Nat} {af : Nat → Int32} {kn : Nat} {b0 : Nat} {b1 : Nat} {b2 : Nat} {b3 : Nat} {x0 : Int32} {x1 : Int32} {x2 : Int32} {x3 : Int32} (hk : kn < 24) (e0 : nI kn * 4 = nI b0) (e1 : nI b0 + 1 = nI b1) (e2 : nI b0 + 2 = nI b2) (e3 : nI b0 + 3 = nI b3) (hb : b0 < 96 ∧ b1 < 96 ∧ b2 < 96 ∧ b3 < 96) : CT l D (tz cs) yX0_keep wsX0_keep ({ frames := 2, cells := 0, slots := 0, locals := 43 }) [.ref aa, .int x0, .int x1, .int x2, .int x3] [(aa, .inr (0, [.ref ap, .int (nI kn)])), (ap, .inl (cs 0, 96, .inl af))] none [(aa, .inr (0, [.ref ap, .int (nI (kn + 1))])), (ap, .inl (cs 0, 96, .inl (upd (upd (upd (upd af b0 x0) b1 x1) b2 x2) b3 x3)))] := by
  refine CT.of kX0_keep (Nat.le_of_ble_eq_true rfl) ?_
  intro p e s m below meth c A C E
  have C : VOk p s m _ c cX0_keep 6 wsX0_keep RX0 D (tz cs) A s.heap := C
  refine V.lvs (lv' := [(0, .ref aa), (1, .int x0), (2, .int x1), (3, .int x2), (4, .int x3)]) [0, 1, 2, 3, 4] rfl ?_
  refine v_aload_n C 0 dX0_keep_0 rfl ?_
  refine v_get C (v := .int (nI kn)) fl_X0_keep_13 0 rfl rfl dX0_keep_1 ?_
  refine v_bipush C (v := 24) dX0_keep_4 (by decide) ?_
  refine v_icmp_lt C 13 dX0_keep_6 (by decide) (fun c1 => ?_) (fun c1 => ?_)
  · skip
    refine v_aload_n C 0 dX0_keep_13 rfl ?_
    refine v_get C (v := .int (nI kn)) fl_X0_keep_13 0 rfl rfl dX0_keep_14 ?_
    refine v_iconst C (v := 4) dX0_keep_17 (by decide) ?_
    refine v_imul C dX0_keep_18 ?_
    refine V.topr (y := nI b0) (e0) ?_
    refine v_istore C [(0, .ref aa), (1, .int x0), (2, .int x1), (3, .int x2), (4, .int x3), (5, .int (nI b0))] [1, 2, 3, 4, 5, 0] dX0_keep_19 (by decide) rfl ?_
    refine v_aload_n C 0 dX0_keep_21 rfl ?_
    refine v_get C (v := .ref ap) fl_X0_keep_9 0 rfl rfl dX0_keep_22 ?_
    refine v_iload C 5 dX0_keep_25 rfl ?_
    refine v_iload_n C 1 dX0_keep_27 rfl ?_
    refine v_callSN C [.ref ap, .int (nI b0), .int x0] [] kX5_put gX0_keep_X5_put_n20 (host := "TableShares") (by decide +kernel) nq_X0_keep_X5_put (c_put l D cs (ga := ap) (n := 96) (f := af) (i := nI b0) (x := x0) (by decide)) ⟨Nat.le_of_ble_eq_true rfl, Nat.le_of_ble_eq_true rfl⟩ ⟨rfl, rfl⟩ ⟨Nat.zero_le _, Nat.zero_le _⟩ rfl rfl (Nat.le_of_ble_eq_true rfl) [1] [(aa, .inr (0, [.ref ap, .int (nI kn)])), (ap, .inl (cs 0, 96, .inl (pA af 96 (nI b0) x0)))] rfl (by decide) (show [ap] = [ap] from rfl) (rfl) dX0_keep_28 ?_
    refine V.sts (st' := []) rfl ?_
    refine v_aload_n C 0 dX0_keep_31 rfl ?_
    refine v_get C (v := .ref ap) fl_X0_keep_9 0 rfl rfl dX0_keep_32 ?_
    refine v_iload C 5 dX0_keep_35 rfl ?_
    refine v_iconst C (v := 1) dX0_keep_37 (by decide) ?_
    refine v_iadd C dX0_keep_38 ?_
    refine V.topr (y := nI b1) (e1) ?_
    refine v_iload_n C 2 dX0_keep_39 rfl ?_
    refine v_callSN C [.ref ap, .int (nI b1), .int x1] [] kX5_put gX0_keep_X5_put_n20 (host := "TableShares") (by decide +kernel) nq_X0_keep_X5_put (c_put l D cs (ga := ap) (n := 96) (f := pA af 96 (nI b0) x0) (i := nI b1) (x := x1) (by decide)) ⟨Nat.le_of_ble_eq_true rfl, Nat.le_of_ble_eq_true rfl⟩ ⟨rfl, rfl⟩ ⟨Nat.zero_le _, Nat.zero_le _⟩ rfl rfl (Nat.le_of_ble_eq_true rfl) [1] [(aa, .inr (0, [.ref ap, .int (nI kn)])), (ap, .inl (cs 0, 96, .inl (pA (pA af 96 (nI b0) x0) 96 (nI b1) x1)))] rfl (by decide) (show [ap] = [ap] from rfl) (rfl) dX0_keep_40 ?_
    refine V.sts (st' := []) rfl ?_
    refine v_aload_n C 0 dX0_keep_43 rfl ?_
    refine v_get C (v := .ref ap) fl_X0_keep_9 0 rfl rfl dX0_keep_44 ?_
    refine v_iload C 5 dX0_keep_47 rfl ?_
    refine v_iconst C (v := 2) dX0_keep_49 (by decide) ?_
    refine v_iadd C dX0_keep_50 ?_
    refine V.topr (y := nI b2) (e2) ?_
    refine v_iload_n C 3 dX0_keep_51 rfl ?_
    refine v_callSN C [.ref ap, .int (nI b2), .int x2] [] kX5_put gX0_keep_X5_put_n20 (host := "TableShares") (by decide +kernel) nq_X0_keep_X5_put (c_put l D cs (ga := ap) (n := 96) (f := pA (pA af 96 (nI b0) x0) 96 (nI b1) x1) (i := nI b2) (x := x2) (by decide)) ⟨Nat.le_of_ble_eq_true rfl, Nat.le_of_ble_eq_true rfl⟩ ⟨rfl, rfl⟩ ⟨Nat.zero_le _, Nat.zero_le _⟩ rfl rfl (Nat.le_of_ble_eq_true rfl) [1] [(aa, .inr (0, [.ref ap, .int (nI kn)])), (ap, .inl (cs 0, 96, .inl (pA (pA (pA af 96 (nI b0) x0) 96 (nI b1) x1) 96 (nI b2) x2)))] rfl (by decide) (show [ap] = [ap] from rfl) (rfl) dX0_keep_52 ?_
    refine V.sts (st' := []) rfl ?_
    refine v_aload_n C 0 dX0_keep_55 rfl ?_
    refine v_get C (v := .ref ap) fl_X0_keep_9 0 rfl rfl dX0_keep_56 ?_
    refine v_iload C 5 dX0_keep_59 rfl ?_
    refine v_iconst C (v := 3) dX0_keep_61 (by decide) ?_
    refine v_iadd C dX0_keep_62 ?_
    refine V.topr (y := nI b3) (e3) ?_
    refine v_iload C 4 dX0_keep_63 rfl ?_
    refine v_callSN C [.ref ap, .int (nI b3), .int x3] [] kX5_put gX0_keep_X5_put_n20 (host := "TableShares") (by decide +kernel) nq_X0_keep_X5_put (c_put l D cs (ga := ap) (n := 96) (f := pA (pA (pA af 96 (nI b0) x0) 96 (nI b1) x1) 96 (nI b2) x2) (i := nI b3) (x := x3) (by decide)) ⟨Nat.le_of_ble_eq_true rfl, Nat.le_of_ble_eq_true rfl⟩ ⟨rfl, rfl⟩ ⟨Nat.zero_le _, Nat.zero_le _⟩ rfl rfl (Nat.le_of_ble_eq_true rfl) [1] [(aa, .inr (0, [.ref ap, .int (nI kn)])), (ap, .inl (cs 0, 96, .inl (pA (pA (pA (pA af 96 (nI b0) x0) 96 (nI b1) x1) 96 (nI b2) x2) 96 (nI b3) x3)))] rfl (by decide) (show [ap] = [ap] from rfl) (rfl) dX0_keep_65 ?_
    refine V.sts (st' := []) rfl ?_
    refine v_aload_n C 0 dX0_keep_68 rfl ?_
    refine v_dup C dX0_keep_69 rfl ?_
    refine v_get C (v := .int (nI kn)) fl_X0_keep_13 0 rfl rfl dX0_keep_70 ?_
    refine v_iconst C (v := 1) dX0_keep_73 (by decide) ?_
    refine v_iadd C dX0_keep_74 ?_
    refine v_put C fl_X0_keep_13 fp_X0_1 0 rfl rfl rfl (Nat.le_of_ble_eq_true rfl) [(aa, .inr (0, [.ref ap, .int ((nI kn) + 1)])), (ap, .inl (cs 0, 96, .inl (pA (pA (pA (pA af 96 (nI b0) x0) 96 (nI b1) x1) 96 (nI b2) x2) 96 (nI b3) x3)))] rfl dX0_keep_75 ?_
    exact v_vret C E (by rw [pA_in hb.1 (by decide), pA_in hb.2.1 (by decide), pA_in hb.2.2.1 (by decide), pA_in hb.2.2.2 (by decide), nI_1]) dX0_keep_78
  · exact absurd c1 (fun z => z (lt24 hk))
theorem c_keep (l : Launch) (D : va_G) (cs : Nat → ClassId) {aa ap : Nat} {af : Nat → Int32} {kn : Nat} {x0 x1 x2 x3 : Int32} (hk : kn ≤ 24) : CT l D (tz cs) yX0_keep wsX0_keep ({ frames := 2, cells := 0, slots := 0, locals := 43 }) [.ref aa, .int x0, .int x1, .int x2, .int x3] [(aa, .inr (0, [.ref ap, .int (nI kn)])), (ap, .inl (cs 0, 96, .inl af))] none [(aa, .inr (0, [.ref ap, .int (nI (kpN kn))])), (ap, .inl (cs 0, 96, .inl (kpF af kn x0 x1 x2 x3)))] := by
  rcases Nat.lt_or_ge kn 24 with h | h
  · have := c_keepL l D cs (aa := aa) (ap := ap) (af := af) (kn := kn) (b0 := 4 * kn) (b1 := 4 * kn + 1) (b2 := 4 * kn + 2) (b3 := 4 * kn + 3) (x0 := x0) (x1 := x1) (x2 := x2) (x3 := x3) h (k4_0 _) (k4_1 _) (k4_2 _) (k4_3 _) (by omega)
    simp only [kpF, kpN, if_pos h]
    exact this
  · obtain rfl : kn = 24 := by omega
    have := c_keepO l D cs (aa := aa) (ap := ap) (af := af) (x0 := x0) (x1 := x1) (x2 := x2) (x3 := x3)
    exact this

