set_option maxHeartbeats 4000000 in
set_option maxRecDepth 100000 in
theorem law_17 {p : Program} {l : Launch} {e : Env} {s : State} {m : MethodId} {below : List Frame} {meth : Method} {c : Code} {D : va_G} {cs : Nat → ClassId} {b L : Nat} {xs : Nat → Int32} {ad : Nat → Nat} {i : Nat} {ws : va_W} (C : VOk p s m #[Value.ref b] c cL_law 4 wsL_law RL D (tz cs) (fun q : Nat => s.heap.size ≤ q) s.heap) (hX : va_X b L xs s s.heap) (hbl : b < s.heap.size) (hbA : ¬ (fun q : Nat => s.heap.size ≤ q) b) (hI : Inv cs ad ws) (hi : i + 6 ≤ L) (hL : L ≤ 384) (kk : ∀ ws2 : va_W, Inv cs ad ws2 → V p l e room_1 s m #[Value.ref b] below meth c 600000 7302250 (lw_Z below #[Value.ref b] s) 4 D (fun q : Nat => s.heap.size ≤ q) s.heap 1156 (lwL b (ad 0) (ad 41) i) [] ws2) : V p l e room_1 s m #[Value.ref b] below meth c 600000 7302250 (lw_Z below #[Value.ref b] s) 4 D (fun q : Nat => s.heap.size ≤ q) s.heap 675 (lwL b (ad 0) (ad 41) i) [] ws := by
  obtain ⟨r, w1, w2, ⟨wcC, u1, isC, hC, c1, c2, c3, c4⟩, ⟨wcM, u2, isM, hM, d1, d2, d3, d4⟩, hI2, gs, h41⟩ := tk_missed (l := l) (D := D) hI (xs (i + 1))
  obtain ⟨fs, h0⟩ := hI.at0
  refine v_aload_n C 1 dL_law_675 rfl ?_
  refine v_aload_n C 0 dL_law_676 rfl ?_
  refine v_iload_n C 3 dL_law_677 rfl ?_
  refine v_iconst C (v := 1) dL_law_678 (by decide) ?_
  refine v_iadd C dL_law_679 ?_
  refine V.topr (y := nI (i + 1)) (nI_add i 1) ?_
  refine v_sld C hX hbl hbA (xs (i + 1)) (by rw [nI_clamp (by omega)]) (vp_in_nI (by omega) (by omega)) dL_law_680 ?_
  refine v_callV (qi := 0) C [.int (xs (i + 1))] [] kX5_missed gL_law_X5_missed hC ⟨Nat.le_of_ble_eq_true rfl, Nat.le_of_ble_eq_true rfl⟩ ⟨rfl, rfl⟩ ⟨Nat.le_refl _, Nat.le_refl _⟩ rfl 0 h0 rfl rfl rfl (Nat.le_of_ble_eq_true rfl) isC w1 c1 c2 c3 c4 dL_law_681 ?_
  refine V.sts (st' := [.int r]) rfl ?_
  refine v_aload_n C 2 dL_law_684 rfl ?_
  refine v_aload_n C 0 dL_law_685 rfl ?_
  refine v_iload_n C 3 dL_law_686 rfl ?_
  refine v_iconst C (v := 1) dL_law_687 (by decide) ?_
  refine v_iadd C dL_law_688 ?_
  refine V.topr (y := nI (i + 1)) (nI_add i 1) ?_
  refine v_sld C hX hbl hbA (xs (i + 1)) (by rw [nI_clamp (by omega)]) (vp_in_nI (by omega) (by omega)) dL_law_689 ?_
  refine v_callV (qi := 0) C [.int (xs (i + 1))] [.int r] kX6_missed gL_law_X6_missed hM ⟨Nat.le_of_ble_eq_true rfl, Nat.le_of_ble_eq_true rfl⟩ ⟨rfl, rfl⟩ ⟨Nat.le_refl _, Nat.le_refl _⟩ rfl 41 h41 rfl rfl rfl (Nat.le_of_ble_eq_true rfl) isM w2 d1 d2 d3 d4 dL_law_690 ?_
  refine V.sts (st' := [.int r, .int r]) rfl ?_
  exact v_icmp_eq C 1156 dL_law_693 (by decide) (fun _ => kk w2 hI2) (fun z => absurd rfl z)
set_option maxHeartbeats 4000000 in
set_option maxRecDepth 100000 in
theorem law_18 {p : Program} {l : Launch} {e : Env} {s : State} {m : MethodId} {below : List Frame} {meth : Method} {c : Code} {D : va_G} {cs : Nat → ClassId} {b L : Nat} {xs : Nat → Int32} {ad : Nat → Nat} {i : Nat} {ws : va_W} (C : VOk p s m #[Value.ref b] c cL_law 4 wsL_law RL D (tz cs) (fun q : Nat => s.heap.size ≤ q) s.heap) (hX : va_X b L xs s s.heap) (hbl : b < s.heap.size) (hbA : ¬ (fun q : Nat => s.heap.size ≤ q) b) (hI : Inv cs ad ws) (hi : i + 6 ≤ L) (hL : L ≤ 384) (kk : ∀ ws2 : va_W, Inv cs ad ws2 → V p l e room_1 s m #[Value.ref b] below meth c 600000 7302250 (lw_Z below #[Value.ref b] s) 4 D (fun q : Nat => s.heap.size ≤ q) s.heap 1156 (lwL b (ad 0) (ad 41) i) [] ws2) : V p l e room_1 s m #[Value.ref b] below meth c 600000 7302250 (lw_Z below #[Value.ref b] s) 4 D (fun q : Nat => s.heap.size ≤ q) s.heap 698 (lwL b (ad 0) (ad 41) i) [] ws := by
  obtain ⟨r, w1, w2, ⟨wcC, u1, isC, hC, c1, c2, c3, c4⟩, ⟨wcM, u2, isM, hM, d1, d2, d3, d4⟩, hI2, gs, h41⟩ := tk_leaves (l := l) (D := D) hI (xs (i + 1)) (xs (i + 2))
  obtain ⟨fs, h0⟩ := hI.at0
  refine v_aload_n C 1 dL_law_698 rfl ?_
  refine v_aload_n C 0 dL_law_699 rfl ?_
  refine v_iload_n C 3 dL_law_700 rfl ?_
  refine v_iconst C (v := 1) dL_law_701 (by decide) ?_
  refine v_iadd C dL_law_702 ?_
  refine V.topr (y := nI (i + 1)) (nI_add i 1) ?_
  refine v_sld C hX hbl hbA (xs (i + 1)) (by rw [nI_clamp (by omega)]) (vp_in_nI (by omega) (by omega)) dL_law_703 ?_
  refine v_aload_n C 0 dL_law_704 rfl ?_
  refine v_iload_n C 3 dL_law_705 rfl ?_
  refine v_iconst C (v := 2) dL_law_706 (by decide) ?_
  refine v_iadd C dL_law_707 ?_
  refine V.topr (y := nI (i + 2)) (nI_add i 2) ?_
  refine v_sld C hX hbl hbA (xs (i + 2)) (by rw [nI_clamp (by omega)]) (vp_in_nI (by omega) (by omega)) dL_law_708 ?_
  refine v_callV (qi := 0) C [.int (xs (i + 1)), .int (xs (i + 2))] [] kX5_leaves gL_law_X5_leaves hC ⟨Nat.le_of_ble_eq_true rfl, Nat.le_of_ble_eq_true rfl⟩ ⟨rfl, rfl⟩ ⟨Nat.le_refl _, Nat.le_refl _⟩ rfl 0 h0 rfl rfl rfl (Nat.le_of_ble_eq_true rfl) isC w1 c1 c2 c3 c4 dL_law_709 ?_
  refine V.sts (st' := [.int r]) rfl ?_
  refine v_aload_n C 2 dL_law_712 rfl ?_
  refine v_aload_n C 0 dL_law_713 rfl ?_
  refine v_iload_n C 3 dL_law_714 rfl ?_
  refine v_iconst C (v := 1) dL_law_715 (by decide) ?_
  refine v_iadd C dL_law_716 ?_
  refine V.topr (y := nI (i + 1)) (nI_add i 1) ?_
  refine v_sld C hX hbl hbA (xs (i + 1)) (by rw [nI_clamp (by omega)]) (vp_in_nI (by omega) (by omega)) dL_law_717 ?_
  refine v_aload_n C 0 dL_law_718 rfl ?_
  refine v_iload_n C 3 dL_law_719 rfl ?_
  refine v_iconst C (v := 2) dL_law_720 (by decide) ?_
  refine v_iadd C dL_law_721 ?_
  refine V.topr (y := nI (i + 2)) (nI_add i 2) ?_
  refine v_sld C hX hbl hbA (xs (i + 2)) (by rw [nI_clamp (by omega)]) (vp_in_nI (by omega) (by omega)) dL_law_722 ?_
  refine v_callV (qi := 0) C [.int (xs (i + 1)), .int (xs (i + 2))] [.int r] kX6_leaves gL_law_X6_leaves hM ⟨Nat.le_of_ble_eq_true rfl, Nat.le_of_ble_eq_true rfl⟩ ⟨rfl, rfl⟩ ⟨Nat.le_refl _, Nat.le_refl _⟩ rfl 41 h41 rfl rfl rfl (Nat.le_of_ble_eq_true rfl) isM w2 d1 d2 d3 d4 dL_law_723 ?_
  refine V.sts (st' := [.int r, .int r]) rfl ?_
  exact v_icmp_eq C 1156 dL_law_726 (by decide) (fun _ => kk w2 hI2) (fun z => absurd rfl z)
set_option maxHeartbeats 4000000 in
set_option maxRecDepth 100000 in
theorem law_19 {p : Program} {l : Launch} {e : Env} {s : State} {m : MethodId} {below : List Frame} {meth : Method} {c : Code} {D : va_G} {cs : Nat → ClassId} {b L : Nat} {xs : Nat → Int32} {ad : Nat → Nat} {i : Nat} {ws : va_W} (C : VOk p s m #[Value.ref b] c cL_law 4 wsL_law RL D (tz cs) (fun q : Nat => s.heap.size ≤ q) s.heap) (hX : va_X b L xs s s.heap) (hbl : b < s.heap.size) (hbA : ¬ (fun q : Nat => s.heap.size ≤ q) b) (hI : Inv cs ad ws) (hi : i + 6 ≤ L) (hL : L ≤ 384) (kk : ∀ ws2 : va_W, Inv cs ad ws2 → V p l e room_1 s m #[Value.ref b] below meth c 600000 7302250 (lw_Z below #[Value.ref b] s) 4 D (fun q : Nat => s.heap.size ≤ q) s.heap 1156 (lwL b (ad 0) (ad 41) i) [] ws2) : V p l e room_1 s m #[Value.ref b] below meth c 600000 7302250 (lw_Z below #[Value.ref b] s) 4 D (fun q : Nat => s.heap.size ≤ q) s.heap 731 (lwL b (ad 0) (ad 41) i) [] ws := by
  obtain ⟨r, w1, w2, ⟨wcC, u1, isC, hC, c1, c2, c3, c4⟩, ⟨wcM, u2, isM, hM, d1, d2, d3, d4⟩, hI2, gs, h41⟩ := tk_together (l := l) (D := D) hI (xs (i + 1))
  obtain ⟨fs, h0⟩ := hI.at0
  refine v_aload_n C 1 dL_law_731 rfl ?_
  refine v_aload_n C 0 dL_law_732 rfl ?_
  refine v_iload_n C 3 dL_law_733 rfl ?_
  refine v_iconst C (v := 1) dL_law_734 (by decide) ?_
  refine v_iadd C dL_law_735 ?_
  refine V.topr (y := nI (i + 1)) (nI_add i 1) ?_
  refine v_sld C hX hbl hbA (xs (i + 1)) (by rw [nI_clamp (by omega)]) (vp_in_nI (by omega) (by omega)) dL_law_736 ?_
  refine v_callV (qi := 0) C [.int (xs (i + 1))] [] kX5_together gL_law_X5_together hC ⟨Nat.le_of_ble_eq_true rfl, Nat.le_of_ble_eq_true rfl⟩ ⟨rfl, rfl⟩ ⟨Nat.le_refl _, Nat.le_refl _⟩ rfl 0 h0 rfl rfl rfl (Nat.le_of_ble_eq_true rfl) isC w1 c1 c2 c3 c4 dL_law_737 ?_
  refine V.sts (st' := [.int r]) rfl ?_
  refine v_aload_n C 2 dL_law_740 rfl ?_
  refine v_aload_n C 0 dL_law_741 rfl ?_
  refine v_iload_n C 3 dL_law_742 rfl ?_
  refine v_iconst C (v := 1) dL_law_743 (by decide) ?_
  refine v_iadd C dL_law_744 ?_
  refine V.topr (y := nI (i + 1)) (nI_add i 1) ?_
  refine v_sld C hX hbl hbA (xs (i + 1)) (by rw [nI_clamp (by omega)]) (vp_in_nI (by omega) (by omega)) dL_law_745 ?_
  refine v_callV (qi := 0) C [.int (xs (i + 1))] [.int r] kX6_together gL_law_X6_together hM ⟨Nat.le_of_ble_eq_true rfl, Nat.le_of_ble_eq_true rfl⟩ ⟨rfl, rfl⟩ ⟨Nat.le_refl _, Nat.le_refl _⟩ rfl 41 h41 rfl rfl rfl (Nat.le_of_ble_eq_true rfl) isM w2 d1 d2 d3 d4 dL_law_746 ?_
  refine V.sts (st' := [.int r, .int r]) rfl ?_
  exact v_icmp_eq C 1156 dL_law_749 (by decide) (fun _ => kk w2 hI2) (fun z => absurd rfl z)
set_option maxHeartbeats 4000000 in
set_option maxRecDepth 100000 in
theorem law_20 {p : Program} {l : Launch} {e : Env} {s : State} {m : MethodId} {below : List Frame} {meth : Method} {c : Code} {D : va_G} {cs : Nat → ClassId} {b L : Nat} {xs : Nat → Int32} {ad : Nat → Nat} {i : Nat} {ws : va_W} (C : VOk p s m #[Value.ref b] c cL_law 4 wsL_law RL D (tz cs) (fun q : Nat => s.heap.size ≤ q) s.heap) (hX : va_X b L xs s s.heap) (hbl : b < s.heap.size) (hbA : ¬ (fun q : Nat => s.heap.size ≤ q) b) (hI : Inv cs ad ws) (hi : i + 6 ≤ L) (hL : L ≤ 384) (kk : ∀ ws2 : va_W, Inv cs ad ws2 → V p l e room_1 s m #[Value.ref b] below meth c 600000 7302250 (lw_Z below #[Value.ref b] s) 4 D (fun q : Nat => s.heap.size ≤ q) s.heap 1156 (lwL b (ad 0) (ad 41) i) [] ws2) : V p l e room_1 s m #[Value.ref b] below meth c 600000 7302250 (lw_Z below #[Value.ref b] s) 4 D (fun q : Nat => s.heap.size ≤ q) s.heap 754 (lwL b (ad 0) (ad 41) i) [] ws := by
  obtain ⟨r, w1, w2, ⟨wcC, u1, isC, hC, c1, c2, c3, c4⟩, ⟨wcM, u2, isM, hM, d1, d2, d3, d4⟩, hI2, gs, h41⟩ := tk_whoAway (l := l) (D := D) hI (xs (i + 1)) (xs (i + 2))
  obtain ⟨fs, h0⟩ := hI.at0
  refine v_aload_n C 1 dL_law_754 rfl ?_
  refine v_aload_n C 0 dL_law_755 rfl ?_
  refine v_iload_n C 3 dL_law_756 rfl ?_
  refine v_iconst C (v := 1) dL_law_757 (by decide) ?_
  refine v_iadd C dL_law_758 ?_
  refine V.topr (y := nI (i + 1)) (nI_add i 1) ?_
  refine v_sld C hX hbl hbA (xs (i + 1)) (by rw [nI_clamp (by omega)]) (vp_in_nI (by omega) (by omega)) dL_law_759 ?_
  refine v_aload_n C 0 dL_law_760 rfl ?_
  refine v_iload_n C 3 dL_law_761 rfl ?_
  refine v_iconst C (v := 2) dL_law_762 (by decide) ?_
  refine v_iadd C dL_law_763 ?_
  refine V.topr (y := nI (i + 2)) (nI_add i 2) ?_
  refine v_sld C hX hbl hbA (xs (i + 2)) (by rw [nI_clamp (by omega)]) (vp_in_nI (by omega) (by omega)) dL_law_764 ?_
  refine v_callV (qi := 0) C [.int (xs (i + 1)), .int (xs (i + 2))] [] kX5_whoAway gL_law_X5_whoAway hC ⟨Nat.le_of_ble_eq_true rfl, Nat.le_of_ble_eq_true rfl⟩ ⟨rfl, rfl⟩ ⟨Nat.le_refl _, Nat.le_refl _⟩ rfl 0 h0 rfl rfl rfl (Nat.le_of_ble_eq_true rfl) isC w1 c1 c2 c3 c4 dL_law_765 ?_
  refine V.sts (st' := [.int r]) rfl ?_
  refine v_aload_n C 2 dL_law_768 rfl ?_
  refine v_aload_n C 0 dL_law_769 rfl ?_
  refine v_iload_n C 3 dL_law_770 rfl ?_
  refine v_iconst C (v := 1) dL_law_771 (by decide) ?_
  refine v_iadd C dL_law_772 ?_
  refine V.topr (y := nI (i + 1)) (nI_add i 1) ?_
  refine v_sld C hX hbl hbA (xs (i + 1)) (by rw [nI_clamp (by omega)]) (vp_in_nI (by omega) (by omega)) dL_law_773 ?_
  refine v_aload_n C 0 dL_law_774 rfl ?_
  refine v_iload_n C 3 dL_law_775 rfl ?_
  refine v_iconst C (v := 2) dL_law_776 (by decide) ?_
  refine v_iadd C dL_law_777 ?_
  refine V.topr (y := nI (i + 2)) (nI_add i 2) ?_
  refine v_sld C hX hbl hbA (xs (i + 2)) (by rw [nI_clamp (by omega)]) (vp_in_nI (by omega) (by omega)) dL_law_778 ?_
  refine v_callV (qi := 0) C [.int (xs (i + 1)), .int (xs (i + 2))] [.int r] kX6_whoAway gL_law_X6_whoAway hM ⟨Nat.le_of_ble_eq_true rfl, Nat.le_of_ble_eq_true rfl⟩ ⟨rfl, rfl⟩ ⟨Nat.le_refl _, Nat.le_refl _⟩ rfl 41 h41 rfl rfl rfl (Nat.le_of_ble_eq_true rfl) isM w2 d1 d2 d3 d4 dL_law_779 ?_
  refine V.sts (st' := [.int r, .int r]) rfl ?_
  exact v_icmp_eq C 1156 dL_law_782 (by decide) (fun _ => kk w2 hI2) (fun z => absurd rfl z)
set_option maxHeartbeats 4000000 in
set_option maxRecDepth 100000 in
theorem law_21 {p : Program} {l : Launch} {e : Env} {s : State} {m : MethodId} {below : List Frame} {meth : Method} {c : Code} {D : va_G} {cs : Nat → ClassId} {b L : Nat} {xs : Nat → Int32} {ad : Nat → Nat} {i : Nat} {ws : va_W} (C : VOk p s m #[Value.ref b] c cL_law 4 wsL_law RL D (tz cs) (fun q : Nat => s.heap.size ≤ q) s.heap) (hX : va_X b L xs s s.heap) (hbl : b < s.heap.size) (hbA : ¬ (fun q : Nat => s.heap.size ≤ q) b) (hI : Inv cs ad ws) (hi : i + 6 ≤ L) (hL : L ≤ 384) (kk : ∀ ws2 : va_W, Inv cs ad ws2 → V p l e room_1 s m #[Value.ref b] below meth c 600000 7302250 (lw_Z below #[Value.ref b] s) 4 D (fun q : Nat => s.heap.size ≤ q) s.heap 1156 (lwL b (ad 0) (ad 41) i) [] ws2) : V p l e room_1 s m #[Value.ref b] below meth c 600000 7302250 (lw_Z below #[Value.ref b] s) 4 D (fun q : Nat => s.heap.size ≤ q) s.heap 787 (lwL b (ad 0) (ad 41) i) [] ws := by
  obtain ⟨r, w1, w2, ⟨wcC, u1, isC, hC, c1, c2, c3, c4⟩, ⟨wcM, u2, isM, hM, d1, d2, d3, d4⟩, hI2, gs, h41⟩ := tk_enough (l := l) (D := D) hI (xs (i + 1)) (xs (i + 2))
  obtain ⟨fs, h0⟩ := hI.at0
  refine v_aload_n C 1 dL_law_787 rfl ?_
  refine v_aload_n C 0 dL_law_788 rfl ?_
  refine v_iload_n C 3 dL_law_789 rfl ?_
  refine v_iconst C (v := 1) dL_law_790 (by decide) ?_
  refine v_iadd C dL_law_791 ?_
  refine V.topr (y := nI (i + 1)) (nI_add i 1) ?_
  refine v_sld C hX hbl hbA (xs (i + 1)) (by rw [nI_clamp (by omega)]) (vp_in_nI (by omega) (by omega)) dL_law_792 ?_
  refine v_aload_n C 0 dL_law_793 rfl ?_
  refine v_iload_n C 3 dL_law_794 rfl ?_
  refine v_iconst C (v := 2) dL_law_795 (by decide) ?_
  refine v_iadd C dL_law_796 ?_
  refine V.topr (y := nI (i + 2)) (nI_add i 2) ?_
  refine v_sld C hX hbl hbA (xs (i + 2)) (by rw [nI_clamp (by omega)]) (vp_in_nI (by omega) (by omega)) dL_law_797 ?_
  refine v_callV (qi := 0) C [.int (xs (i + 1)), .int (xs (i + 2))] [] kX5_enough gL_law_X5_enough hC ⟨Nat.le_of_ble_eq_true rfl, Nat.le_of_ble_eq_true rfl⟩ ⟨rfl, rfl⟩ ⟨Nat.le_refl _, Nat.le_refl _⟩ rfl 0 h0 rfl rfl rfl (Nat.le_of_ble_eq_true rfl) isC w1 c1 c2 c3 c4 dL_law_798 ?_
  refine V.sts (st' := [.int r]) rfl ?_
  refine v_aload_n C 2 dL_law_801 rfl ?_
  refine v_aload_n C 0 dL_law_802 rfl ?_
  refine v_iload_n C 3 dL_law_803 rfl ?_
  refine v_iconst C (v := 1) dL_law_804 (by decide) ?_
  refine v_iadd C dL_law_805 ?_
  refine V.topr (y := nI (i + 1)) (nI_add i 1) ?_
  refine v_sld C hX hbl hbA (xs (i + 1)) (by rw [nI_clamp (by omega)]) (vp_in_nI (by omega) (by omega)) dL_law_806 ?_
  refine v_aload_n C 0 dL_law_807 rfl ?_
  refine v_iload_n C 3 dL_law_808 rfl ?_
  refine v_iconst C (v := 2) dL_law_809 (by decide) ?_
  refine v_iadd C dL_law_810 ?_
  refine V.topr (y := nI (i + 2)) (nI_add i 2) ?_
  refine v_sld C hX hbl hbA (xs (i + 2)) (by rw [nI_clamp (by omega)]) (vp_in_nI (by omega) (by omega)) dL_law_811 ?_
  refine v_callV (qi := 0) C [.int (xs (i + 1)), .int (xs (i + 2))] [.int r] kX6_enough gL_law_X6_enough hM ⟨Nat.le_of_ble_eq_true rfl, Nat.le_of_ble_eq_true rfl⟩ ⟨rfl, rfl⟩ ⟨Nat.le_refl _, Nat.le_refl _⟩ rfl 41 h41 rfl rfl rfl (Nat.le_of_ble_eq_true rfl) isM w2 d1 d2 d3 d4 dL_law_812 ?_
  refine V.sts (st' := [.int r, .int r]) rfl ?_
  exact v_icmp_eq C 1156 dL_law_815 (by decide) (fun _ => kk w2 hI2) (fun z => absurd rfl z)
set_option maxHeartbeats 4000000 in
set_option maxRecDepth 100000 in
theorem law_22 {p : Program} {l : Launch} {e : Env} {s : State} {m : MethodId} {below : List Frame} {meth : Method} {c : Code} {D : va_G} {cs : Nat → ClassId} {b L : Nat} {xs : Nat → Int32} {ad : Nat → Nat} {i : Nat} {ws : va_W} (C : VOk p s m #[Value.ref b] c cL_law 4 wsL_law RL D (tz cs) (fun q : Nat => s.heap.size ≤ q) s.heap) (hX : va_X b L xs s s.heap) (hbl : b < s.heap.size) (hbA : ¬ (fun q : Nat => s.heap.size ≤ q) b) (hI : Inv cs ad ws) (hi : i + 6 ≤ L) (hL : L ≤ 384) (kk : ∀ ws2 : va_W, Inv cs ad ws2 → V p l e room_1 s m #[Value.ref b] below meth c 600000 7302250 (lw_Z below #[Value.ref b] s) 4 D (fun q : Nat => s.heap.size ≤ q) s.heap 1156 (lwL b (ad 0) (ad 41) i) [] ws2) : V p l e room_1 s m #[Value.ref b] below meth c 600000 7302250 (lw_Z below #[Value.ref b] s) 4 D (fun q : Nat => s.heap.size ≤ q) s.heap 820 (lwL b (ad 0) (ad 41) i) [] ws := by
  obtain ⟨r, w1, w2, ⟨wcC, u1, isC, hC, c1, c2, c3, c4⟩, ⟨wcM, u2, isM, hM, d1, d2, d3, d4⟩, hI2, gs, h41⟩ := tk_best (l := l) (D := D) hI (xs (i + 1))
  obtain ⟨fs, h0⟩ := hI.at0
  refine v_aload_n C 1 dL_law_820 rfl ?_
  refine v_aload_n C 0 dL_law_821 rfl ?_
  refine v_iload_n C 3 dL_law_822 rfl ?_
  refine v_iconst C (v := 1) dL_law_823 (by decide) ?_
  refine v_iadd C dL_law_824 ?_
  refine V.topr (y := nI (i + 1)) (nI_add i 1) ?_
  refine v_sld C hX hbl hbA (xs (i + 1)) (by rw [nI_clamp (by omega)]) (vp_in_nI (by omega) (by omega)) dL_law_825 ?_
  refine v_callV (qi := 0) C [.int (xs (i + 1))] [] kX5_best gL_law_X5_best hC ⟨Nat.le_of_ble_eq_true rfl, Nat.le_of_ble_eq_true rfl⟩ ⟨rfl, rfl⟩ ⟨Nat.le_refl _, Nat.le_refl _⟩ rfl 0 h0 rfl rfl rfl (Nat.le_of_ble_eq_true rfl) isC w1 c1 c2 c3 c4 dL_law_826 ?_
  refine V.sts (st' := [.int r]) rfl ?_
  refine v_aload_n C 2 dL_law_829 rfl ?_
  refine v_aload_n C 0 dL_law_830 rfl ?_
  refine v_iload_n C 3 dL_law_831 rfl ?_
  refine v_iconst C (v := 1) dL_law_832 (by decide) ?_
  refine v_iadd C dL_law_833 ?_
  refine V.topr (y := nI (i + 1)) (nI_add i 1) ?_
  refine v_sld C hX hbl hbA (xs (i + 1)) (by rw [nI_clamp (by omega)]) (vp_in_nI (by omega) (by omega)) dL_law_834 ?_
  refine v_callV (qi := 0) C [.int (xs (i + 1))] [.int r] kX6_best gL_law_X6_best hM ⟨Nat.le_of_ble_eq_true rfl, Nat.le_of_ble_eq_true rfl⟩ ⟨rfl, rfl⟩ ⟨Nat.le_refl _, Nat.le_refl _⟩ rfl 41 h41 rfl rfl rfl (Nat.le_of_ble_eq_true rfl) isM w2 d1 d2 d3 d4 dL_law_835 ?_
  refine V.sts (st' := [.int r, .int r]) rfl ?_
  exact v_icmp_eq C 1156 dL_law_838 (by decide) (fun _ => kk w2 hI2) (fun z => absurd rfl z)
set_option maxHeartbeats 4000000 in
set_option maxRecDepth 100000 in
theorem law_23 {p : Program} {l : Launch} {e : Env} {s : State} {m : MethodId} {below : List Frame} {meth : Method} {c : Code} {D : va_G} {cs : Nat → ClassId} {b L : Nat} {xs : Nat → Int32} {ad : Nat → Nat} {i : Nat} {ws : va_W} (C : VOk p s m #[Value.ref b] c cL_law 4 wsL_law RL D (tz cs) (fun q : Nat => s.heap.size ≤ q) s.heap) (hX : va_X b L xs s s.heap) (hbl : b < s.heap.size) (hbA : ¬ (fun q : Nat => s.heap.size ≤ q) b) (hI : Inv cs ad ws) (hi : i + 6 ≤ L) (hL : L ≤ 384) (kk : ∀ ws2 : va_W, Inv cs ad ws2 → V p l e room_1 s m #[Value.ref b] below meth c 600000 7302250 (lw_Z below #[Value.ref b] s) 4 D (fun q : Nat => s.heap.size ≤ q) s.heap 1156 (lwL b (ad 0) (ad 41) i) [] ws2) : V p l e room_1 s m #[Value.ref b] below meth c 600000 7302250 (lw_Z below #[Value.ref b] s) 4 D (fun q : Nat => s.heap.size ≤ q) s.heap 843 (lwL b (ad 0) (ad 41) i) [] ws := by
  obtain ⟨r, w1, w2, ⟨wcC, u1, isC, hC, c1, c2, c3, c4⟩, ⟨wcM, u2, isM, hM, d1, d2, d3, d4⟩, hI2, gs, h41⟩ := tk_bring (l := l) (D := D) hI (xs (i + 1))
  obtain ⟨fs, h0⟩ := hI.at0
  refine v_aload_n C 1 dL_law_843 rfl ?_
  refine v_aload_n C 0 dL_law_844 rfl ?_
  refine v_iload_n C 3 dL_law_845 rfl ?_
  refine v_iconst C (v := 1) dL_law_846 (by decide) ?_
  refine v_iadd C dL_law_847 ?_
  refine V.topr (y := nI (i + 1)) (nI_add i 1) ?_
  refine v_sld C hX hbl hbA (xs (i + 1)) (by rw [nI_clamp (by omega)]) (vp_in_nI (by omega) (by omega)) dL_law_848 ?_
  refine v_callV (qi := 0) C [.int (xs (i + 1))] [] kX5_bring gL_law_X5_bring hC ⟨Nat.le_of_ble_eq_true rfl, Nat.le_of_ble_eq_true rfl⟩ ⟨rfl, rfl⟩ ⟨Nat.le_refl _, Nat.le_refl _⟩ rfl 0 h0 rfl rfl rfl (Nat.le_of_ble_eq_true rfl) isC w1 c1 c2 c3 c4 dL_law_849 ?_
  refine V.sts (st' := [.int r]) rfl ?_
  refine v_aload_n C 2 dL_law_852 rfl ?_
  refine v_aload_n C 0 dL_law_853 rfl ?_
  refine v_iload_n C 3 dL_law_854 rfl ?_
  refine v_iconst C (v := 1) dL_law_855 (by decide) ?_
  refine v_iadd C dL_law_856 ?_
  refine V.topr (y := nI (i + 1)) (nI_add i 1) ?_
  refine v_sld C hX hbl hbA (xs (i + 1)) (by rw [nI_clamp (by omega)]) (vp_in_nI (by omega) (by omega)) dL_law_857 ?_
  refine v_callV (qi := 0) C [.int (xs (i + 1))] [.int r] kX6_bring gL_law_X6_bring hM ⟨Nat.le_of_ble_eq_true rfl, Nat.le_of_ble_eq_true rfl⟩ ⟨rfl, rfl⟩ ⟨Nat.le_refl _, Nat.le_refl _⟩ rfl 41 h41 rfl rfl rfl (Nat.le_of_ble_eq_true rfl) isM w2 d1 d2 d3 d4 dL_law_858 ?_
  refine V.sts (st' := [.int r, .int r]) rfl ?_
  exact v_icmp_eq C 1156 dL_law_861 (by decide) (fun _ => kk w2 hI2) (fun z => absurd rfl z)
set_option maxHeartbeats 4000000 in
set_option maxRecDepth 100000 in
theorem law_24 {p : Program} {l : Launch} {e : Env} {s : State} {m : MethodId} {below : List Frame} {meth : Method} {c : Code} {D : va_G} {cs : Nat → ClassId} {b L : Nat} {xs : Nat → Int32} {ad : Nat → Nat} {i : Nat} {ws : va_W} (C : VOk p s m #[Value.ref b] c cL_law 4 wsL_law RL D (tz cs) (fun q : Nat => s.heap.size ≤ q) s.heap) (hX : va_X b L xs s s.heap) (hbl : b < s.heap.size) (hbA : ¬ (fun q : Nat => s.heap.size ≤ q) b) (hI : Inv cs ad ws) (hi : i + 6 ≤ L) (hL : L ≤ 384) (kk : ∀ ws2 : va_W, Inv cs ad ws2 → V p l e room_1 s m #[Value.ref b] below meth c 600000 7302250 (lw_Z below #[Value.ref b] s) 4 D (fun q : Nat => s.heap.size ≤ q) s.heap 1156 (lwL b (ad 0) (ad 41) i) [] ws2) : V p l e room_1 s m #[Value.ref b] below meth c 600000 7302250 (lw_Z below #[Value.ref b] s) 4 D (fun q : Nat => s.heap.size ≤ q) s.heap 866 (lwL b (ad 0) (ad 41) i) [] ws := by
  obtain ⟨r, w1, w2, ⟨wcC, u1, isC, hC, c1, c2, c3, c4⟩, ⟨wcM, u2, isM, hM, d1, d2, d3, d4⟩, hI2, gs, h41⟩ := tk_which (l := l) (D := D) hI (xs (i + 1)) (xs (i + 2)) (xs (i + 3)) (xs (i + 4))
  obtain ⟨fs, h0⟩ := hI.at0
  refine v_aload_n C 1 dL_law_866 rfl ?_
  refine v_aload_n C 0 dL_law_867 rfl ?_
  refine v_iload_n C 3 dL_law_868 rfl ?_
  refine v_iconst C (v := 1) dL_law_869 (by decide) ?_
  refine v_iadd C dL_law_870 ?_
  refine V.topr (y := nI (i + 1)) (nI_add i 1) ?_
  refine v_sld C hX hbl hbA (xs (i + 1)) (by rw [nI_clamp (by omega)]) (vp_in_nI (by omega) (by omega)) dL_law_871 ?_
  refine v_aload_n C 0 dL_law_872 rfl ?_
  refine v_iload_n C 3 dL_law_873 rfl ?_
  refine v_iconst C (v := 2) dL_law_874 (by decide) ?_
  refine v_iadd C dL_law_875 ?_
  refine V.topr (y := nI (i + 2)) (nI_add i 2) ?_
  refine v_sld C hX hbl hbA (xs (i + 2)) (by rw [nI_clamp (by omega)]) (vp_in_nI (by omega) (by omega)) dL_law_876 ?_
  refine v_aload_n C 0 dL_law_877 rfl ?_
  refine v_iload_n C 3 dL_law_878 rfl ?_
  refine v_iconst C (v := 3) dL_law_879 (by decide) ?_
  refine v_iadd C dL_law_880 ?_
  refine V.topr (y := nI (i + 3)) (nI_add i 3) ?_
  refine v_sld C hX hbl hbA (xs (i + 3)) (by rw [nI_clamp (by omega)]) (vp_in_nI (by omega) (by omega)) dL_law_881 ?_
  refine v_aload_n C 0 dL_law_882 rfl ?_
  refine v_iload_n C 3 dL_law_883 rfl ?_
  refine v_iconst C (v := 4) dL_law_884 (by decide) ?_
  refine v_iadd C dL_law_885 ?_
  refine V.topr (y := nI (i + 4)) (nI_add i 4) ?_
  refine v_sld C hX hbl hbA (xs (i + 4)) (by rw [nI_clamp (by omega)]) (vp_in_nI (by omega) (by omega)) dL_law_886 ?_
  refine v_callV (qi := 0) C [.int (xs (i + 1)), .int (xs (i + 2)), .int (xs (i + 3)), .int (xs (i + 4))] [] kX5_which gL_law_X5_which hC ⟨Nat.le_of_ble_eq_true rfl, Nat.le_of_ble_eq_true rfl⟩ ⟨rfl, rfl⟩ ⟨Nat.le_refl _, Nat.le_refl _⟩ rfl 0 h0 rfl rfl rfl (Nat.le_of_ble_eq_true rfl) isC w1 c1 c2 c3 c4 dL_law_887 ?_
  refine V.sts (st' := [.int r]) rfl ?_
  refine v_aload_n C 2 dL_law_890 rfl ?_
  refine v_aload_n C 0 dL_law_891 rfl ?_
  refine v_iload_n C 3 dL_law_892 rfl ?_
  refine v_iconst C (v := 1) dL_law_893 (by decide) ?_
  refine v_iadd C dL_law_894 ?_
  refine V.topr (y := nI (i + 1)) (nI_add i 1) ?_
  refine v_sld C hX hbl hbA (xs (i + 1)) (by rw [nI_clamp (by omega)]) (vp_in_nI (by omega) (by omega)) dL_law_895 ?_
  refine v_aload_n C 0 dL_law_896 rfl ?_
  refine v_iload_n C 3 dL_law_897 rfl ?_
  refine v_iconst C (v := 2) dL_law_898 (by decide) ?_
  refine v_iadd C dL_law_899 ?_
  refine V.topr (y := nI (i + 2)) (nI_add i 2) ?_
  refine v_sld C hX hbl hbA (xs (i + 2)) (by rw [nI_clamp (by omega)]) (vp_in_nI (by omega) (by omega)) dL_law_900 ?_
  refine v_aload_n C 0 dL_law_901 rfl ?_
  refine v_iload_n C 3 dL_law_902 rfl ?_
  refine v_iconst C (v := 3) dL_law_903 (by decide) ?_
  refine v_iadd C dL_law_904 ?_
  refine V.topr (y := nI (i + 3)) (nI_add i 3) ?_
  refine v_sld C hX hbl hbA (xs (i + 3)) (by rw [nI_clamp (by omega)]) (vp_in_nI (by omega) (by omega)) dL_law_905 ?_
  refine v_aload_n C 0 dL_law_906 rfl ?_
  refine v_iload_n C 3 dL_law_907 rfl ?_
  refine v_iconst C (v := 4) dL_law_908 (by decide) ?_
  refine v_iadd C dL_law_909 ?_
  refine V.topr (y := nI (i + 4)) (nI_add i 4) ?_
  refine v_sld C hX hbl hbA (xs (i + 4)) (by rw [nI_clamp (by omega)]) (vp_in_nI (by omega) (by omega)) dL_law_910 ?_
  refine v_callV (qi := 0) C [.int (xs (i + 1)), .int (xs (i + 2)), .int (xs (i + 3)), .int (xs (i + 4))] [.int r] kX6_which gL_law_X6_which hM ⟨Nat.le_of_ble_eq_true rfl, Nat.le_of_ble_eq_true rfl⟩ ⟨rfl, rfl⟩ ⟨Nat.le_refl _, Nat.le_refl _⟩ rfl 41 h41 rfl rfl rfl (Nat.le_of_ble_eq_true rfl) isM w2 d1 d2 d3 d4 dL_law_911 ?_
  refine V.sts (st' := [.int r, .int r]) rfl ?_
  exact v_icmp_eq C 1156 dL_law_914 (by decide) (fun _ => kk w2 hI2) (fun z => absurd rfl z)
set_option maxHeartbeats 4000000 in
set_option maxRecDepth 100000 in
theorem law_25 {p : Program} {l : Launch} {e : Env} {s : State} {m : MethodId} {below : List Frame} {meth : Method} {c : Code} {D : va_G} {cs : Nat → ClassId} {b L : Nat} {xs : Nat → Int32} {ad : Nat → Nat} {i : Nat} {ws : va_W} (C : VOk p s m #[Value.ref b] c cL_law 4 wsL_law RL D (tz cs) (fun q : Nat => s.heap.size ≤ q) s.heap) (hX : va_X b L xs s s.heap) (hbl : b < s.heap.size) (hbA : ¬ (fun q : Nat => s.heap.size ≤ q) b) (hI : Inv cs ad ws) (hi : i + 6 ≤ L) (hL : L ≤ 384) (kk : ∀ ws2 : va_W, Inv cs ad ws2 → V p l e room_1 s m #[Value.ref b] below meth c 600000 7302250 (lw_Z below #[Value.ref b] s) 4 D (fun q : Nat => s.heap.size ≤ q) s.heap 1156 (lwL b (ad 0) (ad 41) i) [] ws2) : V p l e room_1 s m #[Value.ref b] below meth c 600000 7302250 (lw_Z below #[Value.ref b] s) 4 D (fun q : Nat => s.heap.size ≤ q) s.heap 919 (lwL b (ad 0) (ad 41) i) [] ws := by
  obtain ⟨r, w1, w2, ⟨wcC, u1, isC, hC, c1, c2, c3, c4⟩, ⟨wcM, u2, isM, hM, d1, d2, d3, d4⟩, hI2, gs, h41⟩ := tk_colds (l := l) (D := D) hI (xs (i + 1)) (xs (i + 2)) (xs (i + 3))
  obtain ⟨fs, h0⟩ := hI.at0
  refine v_aload_n C 1 dL_law_919 rfl ?_
  refine v_aload_n C 0 dL_law_920 rfl ?_
  refine v_iload_n C 3 dL_law_921 rfl ?_
  refine v_iconst C (v := 1) dL_law_922 (by decide) ?_
  refine v_iadd C dL_law_923 ?_
  refine V.topr (y := nI (i + 1)) (nI_add i 1) ?_
  refine v_sld C hX hbl hbA (xs (i + 1)) (by rw [nI_clamp (by omega)]) (vp_in_nI (by omega) (by omega)) dL_law_924 ?_
  refine v_aload_n C 0 dL_law_925 rfl ?_
  refine v_iload_n C 3 dL_law_926 rfl ?_
  refine v_iconst C (v := 2) dL_law_927 (by decide) ?_
  refine v_iadd C dL_law_928 ?_
  refine V.topr (y := nI (i + 2)) (nI_add i 2) ?_
  refine v_sld C hX hbl hbA (xs (i + 2)) (by rw [nI_clamp (by omega)]) (vp_in_nI (by omega) (by omega)) dL_law_929 ?_
  refine v_aload_n C 0 dL_law_930 rfl ?_
  refine v_iload_n C 3 dL_law_931 rfl ?_
  refine v_iconst C (v := 3) dL_law_932 (by decide) ?_
  refine v_iadd C dL_law_933 ?_
  refine V.topr (y := nI (i + 3)) (nI_add i 3) ?_
  refine v_sld C hX hbl hbA (xs (i + 3)) (by rw [nI_clamp (by omega)]) (vp_in_nI (by omega) (by omega)) dL_law_934 ?_
  refine v_callV (qi := 0) C [.int (xs (i + 1)), .int (xs (i + 2)), .int (xs (i + 3))] [] kX5_colds gL_law_X5_colds hC ⟨Nat.le_of_ble_eq_true rfl, Nat.le_of_ble_eq_true rfl⟩ ⟨rfl, rfl⟩ ⟨Nat.le_refl _, Nat.le_refl _⟩ rfl 0 h0 rfl rfl rfl (Nat.le_of_ble_eq_true rfl) isC w1 c1 c2 c3 c4 dL_law_935 ?_
  refine V.sts (st' := [.int r]) rfl ?_
  refine v_aload_n C 2 dL_law_938 rfl ?_
  refine v_aload_n C 0 dL_law_939 rfl ?_
  refine v_iload_n C 3 dL_law_940 rfl ?_
  refine v_iconst C (v := 1) dL_law_941 (by decide) ?_
  refine v_iadd C dL_law_942 ?_
  refine V.topr (y := nI (i + 1)) (nI_add i 1) ?_
  refine v_sld C hX hbl hbA (xs (i + 1)) (by rw [nI_clamp (by omega)]) (vp_in_nI (by omega) (by omega)) dL_law_943 ?_
  refine v_aload_n C 0 dL_law_944 rfl ?_
  refine v_iload_n C 3 dL_law_945 rfl ?_
  refine v_iconst C (v := 2) dL_law_946 (by decide) ?_
  refine v_iadd C dL_law_947 ?_
  refine V.topr (y := nI (i + 2)) (nI_add i 2) ?_
  refine v_sld C hX hbl hbA (xs (i + 2)) (by rw [nI_clamp (by omega)]) (vp_in_nI (by omega) (by omega)) dL_law_948 ?_
  refine v_aload_n C 0 dL_law_949 rfl ?_
  refine v_iload_n C 3 dL_law_950 rfl ?_
  refine v_iconst C (v := 3) dL_law_951 (by decide) ?_
  refine v_iadd C dL_law_952 ?_
  refine V.topr (y := nI (i + 3)) (nI_add i 3) ?_
  refine v_sld C hX hbl hbA (xs (i + 3)) (by rw [nI_clamp (by omega)]) (vp_in_nI (by omega) (by omega)) dL_law_953 ?_
  refine v_callV (qi := 0) C [.int (xs (i + 1)), .int (xs (i + 2)), .int (xs (i + 3))] [.int r] kX6_colds gL_law_X6_colds hM ⟨Nat.le_of_ble_eq_true rfl, Nat.le_of_ble_eq_true rfl⟩ ⟨rfl, rfl⟩ ⟨Nat.le_refl _, Nat.le_refl _⟩ rfl 41 h41 rfl rfl rfl (Nat.le_of_ble_eq_true rfl) isM w2 d1 d2 d3 d4 dL_law_954 ?_
  refine V.sts (st' := [.int r, .int r]) rfl ?_
  exact v_icmp_eq C 1156 dL_law_957 (by decide) (fun _ => kk w2 hI2) (fun z => absurd rfl z)
set_option maxHeartbeats 4000000 in
set_option maxRecDepth 100000 in
theorem law_26 {p : Program} {l : Launch} {e : Env} {s : State} {m : MethodId} {below : List Frame} {meth : Method} {c : Code} {D : va_G} {cs : Nat → ClassId} {b L : Nat} {xs : Nat → Int32} {ad : Nat → Nat} {i : Nat} {ws : va_W} (C : VOk p s m #[Value.ref b] c cL_law 4 wsL_law RL D (tz cs) (fun q : Nat => s.heap.size ≤ q) s.heap) (hX : va_X b L xs s s.heap) (hbl : b < s.heap.size) (hbA : ¬ (fun q : Nat => s.heap.size ≤ q) b) (hI : Inv cs ad ws) (hi : i + 6 ≤ L) (hL : L ≤ 384) (kk : ∀ ws2 : va_W, Inv cs ad ws2 → V p l e room_1 s m #[Value.ref b] below meth c 600000 7302250 (lw_Z below #[Value.ref b] s) 4 D (fun q : Nat => s.heap.size ≤ q) s.heap 1156 (lwL b (ad 0) (ad 41) i) [] ws2) : V p l e room_1 s m #[Value.ref b] below meth c 600000 7302250 (lw_Z below #[Value.ref b] s) 4 D (fun q : Nat => s.heap.size ≤ q) s.heap 962 (lwL b (ad 0) (ad 41) i) [] ws := by
  obtain ⟨r, w1, w2, ⟨wcC, u1, isC, hC, c1, c2, c3, c4⟩, ⟨wcM, u2, isM, hM, d1, d2, d3, d4⟩, hI2, gs, h41⟩ := tk_image (l := l) (D := D) hI (xs (i + 1))
  obtain ⟨fs, h0⟩ := hI.at0
  refine v_aload_n C 1 dL_law_962 rfl ?_
  refine v_aload_n C 0 dL_law_963 rfl ?_
  refine v_iload_n C 3 dL_law_964 rfl ?_
  refine v_iconst C (v := 1) dL_law_965 (by decide) ?_
  refine v_iadd C dL_law_966 ?_
  refine V.topr (y := nI (i + 1)) (nI_add i 1) ?_
  refine v_sld C hX hbl hbA (xs (i + 1)) (by rw [nI_clamp (by omega)]) (vp_in_nI (by omega) (by omega)) dL_law_967 ?_
  refine v_callV (qi := 0) C [.int (xs (i + 1))] [] kX5_image gL_law_X5_image hC ⟨Nat.le_of_ble_eq_true rfl, Nat.le_of_ble_eq_true rfl⟩ ⟨rfl, rfl⟩ ⟨Nat.le_refl _, Nat.le_refl _⟩ rfl 0 h0 rfl rfl rfl (Nat.le_of_ble_eq_true rfl) isC w1 c1 c2 c3 c4 dL_law_968 ?_
  refine V.sts (st' := [.int r]) rfl ?_
  refine v_aload_n C 2 dL_law_971 rfl ?_
  refine v_aload_n C 0 dL_law_972 rfl ?_
  refine v_iload_n C 3 dL_law_973 rfl ?_
  refine v_iconst C (v := 1) dL_law_974 (by decide) ?_
  refine v_iadd C dL_law_975 ?_
  refine V.topr (y := nI (i + 1)) (nI_add i 1) ?_
  refine v_sld C hX hbl hbA (xs (i + 1)) (by rw [nI_clamp (by omega)]) (vp_in_nI (by omega) (by omega)) dL_law_976 ?_
  refine v_callV (qi := 0) C [.int (xs (i + 1))] [.int r] kX6_image gL_law_X6_image hM ⟨Nat.le_of_ble_eq_true rfl, Nat.le_of_ble_eq_true rfl⟩ ⟨rfl, rfl⟩ ⟨Nat.le_refl _, Nat.le_refl _⟩ rfl 41 h41 rfl rfl rfl (Nat.le_of_ble_eq_true rfl) isM w2 d1 d2 d3 d4 dL_law_977 ?_
  refine V.sts (st' := [.int r, .int r]) rfl ?_
  exact v_icmp_eq C 1156 dL_law_980 (by decide) (fun _ => kk w2 hI2) (fun z => absurd rfl z)
set_option maxHeartbeats 4000000 in
set_option maxRecDepth 100000 in
theorem law_27 {p : Program} {l : Launch} {e : Env} {s : State} {m : MethodId} {below : List Frame} {meth : Method} {c : Code} {D : va_G} {cs : Nat → ClassId} {b L : Nat} {xs : Nat → Int32} {ad : Nat → Nat} {i : Nat} {ws : va_W} (C : VOk p s m #[Value.ref b] c cL_law 4 wsL_law RL D (tz cs) (fun q : Nat => s.heap.size ≤ q) s.heap) (hX : va_X b L xs s s.heap) (hbl : b < s.heap.size) (hbA : ¬ (fun q : Nat => s.heap.size ≤ q) b) (hI : Inv cs ad ws) (hi : i + 6 ≤ L) (hL : L ≤ 384) (kk : ∀ ws2 : va_W, Inv cs ad ws2 → V p l e room_1 s m #[Value.ref b] below meth c 600000 7302250 (lw_Z below #[Value.ref b] s) 4 D (fun q : Nat => s.heap.size ≤ q) s.heap 1156 (lwL b (ad 0) (ad 41) i) [] ws2) : V p l e room_1 s m #[Value.ref b] below meth c 600000 7302250 (lw_Z below #[Value.ref b] s) 4 D (fun q : Nat => s.heap.size ≤ q) s.heap 985 (lwL b (ad 0) (ad 41) i) [] ws := by
  obtain ⟨r, w1, w2, ⟨wcC, u1, isC, hC, c1, c2, c3, c4⟩, ⟨wcM, u2, isM, hM, d1, d2, d3, d4⟩, hI2, gs, h41⟩ := tk_restore (l := l) (D := D) hI (xs (i + 1))
  obtain ⟨fs, h0⟩ := hI.at0
  refine v_aload_n C 1 dL_law_985 rfl ?_
  refine v_aload_n C 0 dL_law_986 rfl ?_
  refine v_iload_n C 3 dL_law_987 rfl ?_
  refine v_iconst C (v := 1) dL_law_988 (by decide) ?_
  refine v_iadd C dL_law_989 ?_
  refine V.topr (y := nI (i + 1)) (nI_add i 1) ?_
  refine v_sld C hX hbl hbA (xs (i + 1)) (by rw [nI_clamp (by omega)]) (vp_in_nI (by omega) (by omega)) dL_law_990 ?_
  refine v_callV (qi := 0) C [.int (xs (i + 1))] [] kX5_restore gL_law_X5_restore hC ⟨Nat.le_of_ble_eq_true rfl, Nat.le_of_ble_eq_true rfl⟩ ⟨rfl, rfl⟩ ⟨Nat.le_refl _, Nat.le_refl _⟩ rfl 0 h0 rfl rfl rfl (Nat.le_of_ble_eq_true rfl) isC w1 c1 c2 c3 c4 dL_law_991 ?_
  refine V.sts (st' := [.int r]) rfl ?_
  refine v_aload_n C 2 dL_law_994 rfl ?_
  refine v_aload_n C 0 dL_law_995 rfl ?_
  refine v_iload_n C 3 dL_law_996 rfl ?_
  refine v_iconst C (v := 1) dL_law_997 (by decide) ?_
  refine v_iadd C dL_law_998 ?_
  refine V.topr (y := nI (i + 1)) (nI_add i 1) ?_
  refine v_sld C hX hbl hbA (xs (i + 1)) (by rw [nI_clamp (by omega)]) (vp_in_nI (by omega) (by omega)) dL_law_999 ?_
  refine v_callV (qi := 0) C [.int (xs (i + 1))] [.int r] kX6_restore gL_law_X6_restore hM ⟨Nat.le_of_ble_eq_true rfl, Nat.le_of_ble_eq_true rfl⟩ ⟨rfl, rfl⟩ ⟨Nat.le_refl _, Nat.le_refl _⟩ rfl 41 h41 rfl rfl rfl (Nat.le_of_ble_eq_true rfl) isM w2 d1 d2 d3 d4 dL_law_1000 ?_
  refine V.sts (st' := [.int r, .int r]) rfl ?_
  exact v_icmp_eq C 1156 dL_law_1003 (by decide) (fun _ => kk w2 hI2) (fun z => absurd rfl z)
set_option maxHeartbeats 4000000 in
set_option maxRecDepth 100000 in
theorem law_28 {p : Program} {l : Launch} {e : Env} {s : State} {m : MethodId} {below : List Frame} {meth : Method} {c : Code} {D : va_G} {cs : Nat → ClassId} {b L : Nat} {xs : Nat → Int32} {ad : Nat → Nat} {i : Nat} {ws : va_W} (C : VOk p s m #[Value.ref b] c cL_law 4 wsL_law RL D (tz cs) (fun q : Nat => s.heap.size ≤ q) s.heap) (hX : va_X b L xs s s.heap) (hbl : b < s.heap.size) (hbA : ¬ (fun q : Nat => s.heap.size ≤ q) b) (hI : Inv cs ad ws) (hi : i + 6 ≤ L) (hL : L ≤ 384) (kk : ∀ ws2 : va_W, Inv cs ad ws2 → V p l e room_1 s m #[Value.ref b] below meth c 600000 7302250 (lw_Z below #[Value.ref b] s) 4 D (fun q : Nat => s.heap.size ≤ q) s.heap 1156 (lwL b (ad 0) (ad 41) i) [] ws2) : V p l e room_1 s m #[Value.ref b] below meth c 600000 7302250 (lw_Z below #[Value.ref b] s) 4 D (fun q : Nat => s.heap.size ≤ q) s.heap 1008 (lwL b (ad 0) (ad 41) i) [] ws := by
  obtain ⟨r, w1, w2, ⟨wcC, u1, isC, hC, c1, c2, c3, c4⟩, ⟨wcM, u2, isM, hM, d1, d2, d3, d4⟩, hI2, gs, h41⟩ := tk_kind (l := l) (D := D) hI (xs (i + 1))
  obtain ⟨fs, h0⟩ := hI.at0
  refine v_aload_n C 1 dL_law_1008 rfl ?_
  refine v_aload_n C 0 dL_law_1009 rfl ?_
  refine v_iload_n C 3 dL_law_1010 rfl ?_
  refine v_iconst C (v := 1) dL_law_1011 (by decide) ?_
  refine v_iadd C dL_law_1012 ?_
  refine V.topr (y := nI (i + 1)) (nI_add i 1) ?_
  refine v_sld C hX hbl hbA (xs (i + 1)) (by rw [nI_clamp (by omega)]) (vp_in_nI (by omega) (by omega)) dL_law_1013 ?_
  refine v_callV (qi := 0) C [.int (xs (i + 1))] [] kX5_kind gL_law_X5_kind hC ⟨Nat.le_of_ble_eq_true rfl, Nat.le_of_ble_eq_true rfl⟩ ⟨rfl, rfl⟩ ⟨Nat.le_refl _, Nat.le_refl _⟩ rfl 0 h0 rfl rfl rfl (Nat.le_of_ble_eq_true rfl) isC w1 c1 c2 c3 c4 dL_law_1014 ?_
  refine V.sts (st' := [.int r]) rfl ?_
  refine v_aload_n C 2 dL_law_1017 rfl ?_
  refine v_aload_n C 0 dL_law_1018 rfl ?_
  refine v_iload_n C 3 dL_law_1019 rfl ?_
  refine v_iconst C (v := 1) dL_law_1020 (by decide) ?_
  refine v_iadd C dL_law_1021 ?_
  refine V.topr (y := nI (i + 1)) (nI_add i 1) ?_
  refine v_sld C hX hbl hbA (xs (i + 1)) (by rw [nI_clamp (by omega)]) (vp_in_nI (by omega) (by omega)) dL_law_1022 ?_
  refine v_callV (qi := 0) C [.int (xs (i + 1))] [.int r] kX6_kind gL_law_X6_kind hM ⟨Nat.le_of_ble_eq_true rfl, Nat.le_of_ble_eq_true rfl⟩ ⟨rfl, rfl⟩ ⟨Nat.le_refl _, Nat.le_refl _⟩ rfl 41 h41 rfl rfl rfl (Nat.le_of_ble_eq_true rfl) isM w2 d1 d2 d3 d4 dL_law_1023 ?_
  refine V.sts (st' := [.int r, .int r]) rfl ?_
  exact v_icmp_eq C 1156 dL_law_1026 (by decide) (fun _ => kk w2 hI2) (fun z => absurd rfl z)
set_option maxHeartbeats 4000000 in
set_option maxRecDepth 100000 in
theorem law_29 {p : Program} {l : Launch} {e : Env} {s : State} {m : MethodId} {below : List Frame} {meth : Method} {c : Code} {D : va_G} {cs : Nat → ClassId} {b L : Nat} {xs : Nat → Int32} {ad : Nat → Nat} {i : Nat} {ws : va_W} (C : VOk p s m #[Value.ref b] c cL_law 4 wsL_law RL D (tz cs) (fun q : Nat => s.heap.size ≤ q) s.heap) (hX : va_X b L xs s s.heap) (hbl : b < s.heap.size) (hbA : ¬ (fun q : Nat => s.heap.size ≤ q) b) (hI : Inv cs ad ws) (hi : i + 6 ≤ L) (hL : L ≤ 384) (kk : ∀ ws2 : va_W, Inv cs ad ws2 → V p l e room_1 s m #[Value.ref b] below meth c 600000 7302250 (lw_Z below #[Value.ref b] s) 4 D (fun q : Nat => s.heap.size ≤ q) s.heap 1156 (lwL b (ad 0) (ad 41) i) [] ws2) : V p l e room_1 s m #[Value.ref b] below meth c 600000 7302250 (lw_Z below #[Value.ref b] s) 4 D (fun q : Nat => s.heap.size ≤ q) s.heap 1031 (lwL b (ad 0) (ad 41) i) [] ws := by
  obtain ⟨r, w1, w2, ⟨wcC, u1, isC, hC, c1, c2, c3, c4⟩, ⟨wcM, u2, isM, hM, d1, d2, d3, d4⟩, hI2, gs, h41⟩ := tk_as (l := l) (D := D) hI (xs (i + 1)) (xs (i + 2))
  obtain ⟨fs, h0⟩ := hI.at0
  refine v_aload_n C 1 dL_law_1031 rfl ?_
  refine v_aload_n C 0 dL_law_1032 rfl ?_
  refine v_iload_n C 3 dL_law_1033 rfl ?_
  refine v_iconst C (v := 1) dL_law_1034 (by decide) ?_
  refine v_iadd C dL_law_1035 ?_
  refine V.topr (y := nI (i + 1)) (nI_add i 1) ?_
  refine v_sld C hX hbl hbA (xs (i + 1)) (by rw [nI_clamp (by omega)]) (vp_in_nI (by omega) (by omega)) dL_law_1036 ?_
  refine v_aload_n C 0 dL_law_1037 rfl ?_
  refine v_iload_n C 3 dL_law_1038 rfl ?_
  refine v_iconst C (v := 2) dL_law_1039 (by decide) ?_
  refine v_iadd C dL_law_1040 ?_
  refine V.topr (y := nI (i + 2)) (nI_add i 2) ?_
  refine v_sld C hX hbl hbA (xs (i + 2)) (by rw [nI_clamp (by omega)]) (vp_in_nI (by omega) (by omega)) dL_law_1041 ?_
  refine v_callV (qi := 0) C [.int (xs (i + 1)), .int (xs (i + 2))] [] kX5_as gL_law_X5_as hC ⟨Nat.le_of_ble_eq_true rfl, Nat.le_of_ble_eq_true rfl⟩ ⟨rfl, rfl⟩ ⟨Nat.le_refl _, Nat.le_refl _⟩ rfl 0 h0 rfl rfl rfl (Nat.le_of_ble_eq_true rfl) isC w1 c1 c2 c3 c4 dL_law_1042 ?_
  refine V.sts (st' := [.int r]) rfl ?_
  refine v_aload_n C 2 dL_law_1045 rfl ?_
  refine v_aload_n C 0 dL_law_1046 rfl ?_
  refine v_iload_n C 3 dL_law_1047 rfl ?_
  refine v_iconst C (v := 1) dL_law_1048 (by decide) ?_
  refine v_iadd C dL_law_1049 ?_
  refine V.topr (y := nI (i + 1)) (nI_add i 1) ?_
  refine v_sld C hX hbl hbA (xs (i + 1)) (by rw [nI_clamp (by omega)]) (vp_in_nI (by omega) (by omega)) dL_law_1050 ?_
  refine v_aload_n C 0 dL_law_1051 rfl ?_
  refine v_iload_n C 3 dL_law_1052 rfl ?_
  refine v_iconst C (v := 2) dL_law_1053 (by decide) ?_
  refine v_iadd C dL_law_1054 ?_
  refine V.topr (y := nI (i + 2)) (nI_add i 2) ?_
  refine v_sld C hX hbl hbA (xs (i + 2)) (by rw [nI_clamp (by omega)]) (vp_in_nI (by omega) (by omega)) dL_law_1055 ?_
  refine v_callV (qi := 0) C [.int (xs (i + 1)), .int (xs (i + 2))] [.int r] kX6_as gL_law_X6_as hM ⟨Nat.le_of_ble_eq_true rfl, Nat.le_of_ble_eq_true rfl⟩ ⟨rfl, rfl⟩ ⟨Nat.le_refl _, Nat.le_refl _⟩ rfl 41 h41 rfl rfl rfl (Nat.le_of_ble_eq_true rfl) isM w2 d1 d2 d3 d4 dL_law_1056 ?_
  refine V.sts (st' := [.int r, .int r]) rfl ?_
  exact v_icmp_eq C 1156 dL_law_1059 (by decide) (fun _ => kk w2 hI2) (fun z => absurd rfl z)
set_option maxHeartbeats 4000000 in
set_option maxRecDepth 100000 in
theorem law_30 {p : Program} {l : Launch} {e : Env} {s : State} {m : MethodId} {below : List Frame} {meth : Method} {c : Code} {D : va_G} {cs : Nat → ClassId} {b L : Nat} {xs : Nat → Int32} {ad : Nat → Nat} {i : Nat} {ws : va_W} (C : VOk p s m #[Value.ref b] c cL_law 4 wsL_law RL D (tz cs) (fun q : Nat => s.heap.size ≤ q) s.heap) (hX : va_X b L xs s s.heap) (hbl : b < s.heap.size) (hbA : ¬ (fun q : Nat => s.heap.size ≤ q) b) (hI : Inv cs ad ws) (hi : i + 6 ≤ L) (hL : L ≤ 384) (kk : ∀ ws2 : va_W, Inv cs ad ws2 → V p l e room_1 s m #[Value.ref b] below meth c 600000 7302250 (lw_Z below #[Value.ref b] s) 4 D (fun q : Nat => s.heap.size ≤ q) s.heap 1156 (lwL b (ad 0) (ad 41) i) [] ws2) : V p l e room_1 s m #[Value.ref b] below meth c 600000 7302250 (lw_Z below #[Value.ref b] s) 4 D (fun q : Nat => s.heap.size ≤ q) s.heap 1064 (lwL b (ad 0) (ad 41) i) [] ws := by
  obtain ⟨r, w1, w2, ⟨wcC, u1, isC, hC, c1, c2, c3, c4⟩, ⟨wcM, u2, isM, hM, d1, d2, d3, d4⟩, hI2, gs, h41⟩ := tk_ask (l := l) (D := D) hI (xs (i + 1)) (xs (i + 2))
  obtain ⟨fs, h0⟩ := hI.at0
  refine v_aload_n C 1 dL_law_1064 rfl ?_
  refine v_aload_n C 0 dL_law_1065 rfl ?_
  refine v_iload_n C 3 dL_law_1066 rfl ?_
  refine v_iconst C (v := 1) dL_law_1067 (by decide) ?_
  refine v_iadd C dL_law_1068 ?_
  refine V.topr (y := nI (i + 1)) (nI_add i 1) ?_
  refine v_sld C hX hbl hbA (xs (i + 1)) (by rw [nI_clamp (by omega)]) (vp_in_nI (by omega) (by omega)) dL_law_1069 ?_
  refine v_aload_n C 0 dL_law_1070 rfl ?_
  refine v_iload_n C 3 dL_law_1071 rfl ?_
  refine v_iconst C (v := 2) dL_law_1072 (by decide) ?_
  refine v_iadd C dL_law_1073 ?_
  refine V.topr (y := nI (i + 2)) (nI_add i 2) ?_
  refine v_sld C hX hbl hbA (xs (i + 2)) (by rw [nI_clamp (by omega)]) (vp_in_nI (by omega) (by omega)) dL_law_1074 ?_
  refine v_callV (qi := 0) C [.int (xs (i + 1)), .int (xs (i + 2))] [] kX5_ask gL_law_X5_ask hC ⟨Nat.le_of_ble_eq_true rfl, Nat.le_of_ble_eq_true rfl⟩ ⟨rfl, rfl⟩ ⟨Nat.le_refl _, Nat.le_refl _⟩ rfl 0 h0 rfl rfl rfl (Nat.le_of_ble_eq_true rfl) isC w1 c1 c2 c3 c4 dL_law_1075 ?_
  refine V.sts (st' := [.int r]) rfl ?_
  refine v_aload_n C 2 dL_law_1078 rfl ?_
  refine v_aload_n C 0 dL_law_1079 rfl ?_
  refine v_iload_n C 3 dL_law_1080 rfl ?_
  refine v_iconst C (v := 1) dL_law_1081 (by decide) ?_
  refine v_iadd C dL_law_1082 ?_
  refine V.topr (y := nI (i + 1)) (nI_add i 1) ?_
  refine v_sld C hX hbl hbA (xs (i + 1)) (by rw [nI_clamp (by omega)]) (vp_in_nI (by omega) (by omega)) dL_law_1083 ?_
  refine v_aload_n C 0 dL_law_1084 rfl ?_
  refine v_iload_n C 3 dL_law_1085 rfl ?_
  refine v_iconst C (v := 2) dL_law_1086 (by decide) ?_
  refine v_iadd C dL_law_1087 ?_
  refine V.topr (y := nI (i + 2)) (nI_add i 2) ?_
  refine v_sld C hX hbl hbA (xs (i + 2)) (by rw [nI_clamp (by omega)]) (vp_in_nI (by omega) (by omega)) dL_law_1088 ?_
  refine v_callV (qi := 0) C [.int (xs (i + 1)), .int (xs (i + 2))] [.int r] kX6_ask gL_law_X6_ask hM ⟨Nat.le_of_ble_eq_true rfl, Nat.le_of_ble_eq_true rfl⟩ ⟨rfl, rfl⟩ ⟨Nat.le_refl _, Nat.le_refl _⟩ rfl 41 h41 rfl rfl rfl (Nat.le_of_ble_eq_true rfl) isM w2 d1 d2 d3 d4 dL_law_1089 ?_
  refine V.sts (st' := [.int r, .int r]) rfl ?_
  exact v_icmp_eq C 1156 dL_law_1092 (by decide) (fun _ => kk w2 hI2) (fun z => absurd rfl z)
set_option maxHeartbeats 4000000 in
set_option maxRecDepth 100000 in
theorem law_31 {p : Program} {l : Launch} {e : Env} {s : State} {m : MethodId} {below : List Frame} {meth : Method} {c : Code} {D : va_G} {cs : Nat → ClassId} {b L : Nat} {xs : Nat → Int32} {ad : Nat → Nat} {i : Nat} {ws : va_W} (C : VOk p s m #[Value.ref b] c cL_law 4 wsL_law RL D (tz cs) (fun q : Nat => s.heap.size ≤ q) s.heap) (hX : va_X b L xs s s.heap) (hbl : b < s.heap.size) (hbA : ¬ (fun q : Nat => s.heap.size ≤ q) b) (hI : Inv cs ad ws) (hi : i + 6 ≤ L) (hL : L ≤ 384) (kk : ∀ ws2 : va_W, Inv cs ad ws2 → V p l e room_1 s m #[Value.ref b] below meth c 600000 7302250 (lw_Z below #[Value.ref b] s) 4 D (fun q : Nat => s.heap.size ≤ q) s.heap 1156 (lwL b (ad 0) (ad 41) i) [] ws2) : V p l e room_1 s m #[Value.ref b] below meth c 600000 7302250 (lw_Z below #[Value.ref b] s) 4 D (fun q : Nat => s.heap.size ≤ q) s.heap 1097 (lwL b (ad 0) (ad 41) i) [] ws := by
  obtain ⟨r, w1, w2, ⟨wcC, u1, isC, hC, c1, c2, c3, c4⟩, ⟨wcM, u2, isM, hM, d1, d2, d3, d4⟩, hI2, gs, h41⟩ := tk_trace (l := l) (D := D) hI (xs (i + 1))
  obtain ⟨fs, h0⟩ := hI.at0
  refine v_aload_n C 1 dL_law_1097 rfl ?_
  refine v_aload_n C 0 dL_law_1098 rfl ?_
  refine v_iload_n C 3 dL_law_1099 rfl ?_
  refine v_iconst C (v := 1) dL_law_1100 (by decide) ?_
  refine v_iadd C dL_law_1101 ?_
  refine V.topr (y := nI (i + 1)) (nI_add i 1) ?_
  refine v_sld C hX hbl hbA (xs (i + 1)) (by rw [nI_clamp (by omega)]) (vp_in_nI (by omega) (by omega)) dL_law_1102 ?_
  refine v_callV (qi := 0) C [.int (xs (i + 1))] [] kX5_trace gL_law_X5_trace hC ⟨Nat.le_of_ble_eq_true rfl, Nat.le_of_ble_eq_true rfl⟩ ⟨rfl, rfl⟩ ⟨Nat.le_refl _, Nat.le_refl _⟩ rfl 0 h0 rfl rfl rfl (Nat.le_of_ble_eq_true rfl) isC w1 c1 c2 c3 c4 dL_law_1103 ?_
  refine V.sts (st' := [.int r]) rfl ?_
  refine v_aload_n C 2 dL_law_1106 rfl ?_
  refine v_aload_n C 0 dL_law_1107 rfl ?_
  refine v_iload_n C 3 dL_law_1108 rfl ?_
  refine v_iconst C (v := 1) dL_law_1109 (by decide) ?_
  refine v_iadd C dL_law_1110 ?_
  refine V.topr (y := nI (i + 1)) (nI_add i 1) ?_
  refine v_sld C hX hbl hbA (xs (i + 1)) (by rw [nI_clamp (by omega)]) (vp_in_nI (by omega) (by omega)) dL_law_1111 ?_
  refine v_callV (qi := 0) C [.int (xs (i + 1))] [.int r] kX6_trace gL_law_X6_trace hM ⟨Nat.le_of_ble_eq_true rfl, Nat.le_of_ble_eq_true rfl⟩ ⟨rfl, rfl⟩ ⟨Nat.le_refl _, Nat.le_refl _⟩ rfl 41 h41 rfl rfl rfl (Nat.le_of_ble_eq_true rfl) isM w2 d1 d2 d3 d4 dL_law_1112 ?_
  refine V.sts (st' := [.int r, .int r]) rfl ?_
  exact v_icmp_eq C 1156 dL_law_1115 (by decide) (fun _ => kk w2 hI2) (fun z => absurd rfl z)
set_option maxHeartbeats 4000000 in
set_option maxRecDepth 100000 in
theorem law_32 {p : Program} {l : Launch} {e : Env} {s : State} {m : MethodId} {below : List Frame} {meth : Method} {c : Code} {D : va_G} {cs : Nat → ClassId} {b L : Nat} {xs : Nat → Int32} {ad : Nat → Nat} {i : Nat} {ws : va_W} (C : VOk p s m #[Value.ref b] c cL_law 4 wsL_law RL D (tz cs) (fun q : Nat => s.heap.size ≤ q) s.heap) (hX : va_X b L xs s s.heap) (hbl : b < s.heap.size) (hbA : ¬ (fun q : Nat => s.heap.size ≤ q) b) (hI : Inv cs ad ws) (hi : i + 6 ≤ L) (hL : L ≤ 384) (kk : ∀ ws2 : va_W, Inv cs ad ws2 → V p l e room_1 s m #[Value.ref b] below meth c 600000 7302250 (lw_Z below #[Value.ref b] s) 4 D (fun q : Nat => s.heap.size ≤ q) s.heap 1156 (lwL b (ad 0) (ad 41) i) [] ws2) : V p l e room_1 s m #[Value.ref b] below meth c 600000 7302250 (lw_Z below #[Value.ref b] s) 4 D (fun q : Nat => s.heap.size ≤ q) s.heap 1120 (lwL b (ad 0) (ad 41) i) [] ws := by
  obtain ⟨r, w1, w2, ⟨wcC, u1, isC, hC, c1, c2, c3, c4⟩, ⟨wcM, u2, isM, hM, d1, d2, d3, d4⟩, hI2, gs, h41⟩ := tk_count (l := l) (D := D) hI (xs (i + 1))
  obtain ⟨fs, h0⟩ := hI.at0
  refine v_aload_n C 1 dL_law_1120 rfl ?_
  refine v_aload_n C 0 dL_law_1121 rfl ?_
  refine v_iload_n C 3 dL_law_1122 rfl ?_
  refine v_iconst C (v := 1) dL_law_1123 (by decide) ?_
  refine v_iadd C dL_law_1124 ?_
  refine V.topr (y := nI (i + 1)) (nI_add i 1) ?_
  refine v_sld C hX hbl hbA (xs (i + 1)) (by rw [nI_clamp (by omega)]) (vp_in_nI (by omega) (by omega)) dL_law_1125 ?_
  refine v_callV (qi := 0) C [.int (xs (i + 1))] [] kX5_count gL_law_X5_count hC ⟨Nat.le_of_ble_eq_true rfl, Nat.le_of_ble_eq_true rfl⟩ ⟨rfl, rfl⟩ ⟨Nat.le_refl _, Nat.le_refl _⟩ rfl 0 h0 rfl rfl rfl (Nat.le_of_ble_eq_true rfl) isC w1 c1 c2 c3 c4 dL_law_1126 ?_
  refine V.sts (st' := [.int r]) rfl ?_
  refine v_aload_n C 2 dL_law_1129 rfl ?_
  refine v_aload_n C 0 dL_law_1130 rfl ?_
  refine v_iload_n C 3 dL_law_1131 rfl ?_
  refine v_iconst C (v := 1) dL_law_1132 (by decide) ?_
  refine v_iadd C dL_law_1133 ?_
  refine V.topr (y := nI (i + 1)) (nI_add i 1) ?_
  refine v_sld C hX hbl hbA (xs (i + 1)) (by rw [nI_clamp (by omega)]) (vp_in_nI (by omega) (by omega)) dL_law_1134 ?_
  refine v_callV (qi := 0) C [.int (xs (i + 1))] [.int r] kX6_count gL_law_X6_count hM ⟨Nat.le_of_ble_eq_true rfl, Nat.le_of_ble_eq_true rfl⟩ ⟨rfl, rfl⟩ ⟨Nat.le_refl _, Nat.le_refl _⟩ rfl 41 h41 rfl rfl rfl (Nat.le_of_ble_eq_true rfl) isM w2 d1 d2 d3 d4 dL_law_1135 ?_
  refine V.sts (st' := [.int r, .int r]) rfl ?_
  exact v_icmp_eq C 1156 dL_law_1138 (by decide) (fun _ => kk w2 hI2) (fun z => absurd rfl z)
set_option maxHeartbeats 4000000 in
set_option maxRecDepth 100000 in
theorem law_33 {p : Program} {l : Launch} {e : Env} {s : State} {m : MethodId} {below : List Frame} {meth : Method} {c : Code} {D : va_G} {cs : Nat → ClassId} {b L : Nat} {xs : Nat → Int32} {ad : Nat → Nat} {i : Nat} {ws : va_W} (C : VOk p s m #[Value.ref b] c cL_law 4 wsL_law RL D (tz cs) (fun q : Nat => s.heap.size ≤ q) s.heap) (hX : va_X b L xs s s.heap) (hbl : b < s.heap.size) (hbA : ¬ (fun q : Nat => s.heap.size ≤ q) b) (hI : Inv cs ad ws) (hi : i + 6 ≤ L) (hL : L ≤ 384) (kk : ∀ ws2 : va_W, Inv cs ad ws2 → V p l e room_1 s m #[Value.ref b] below meth c 600000 7302250 (lw_Z below #[Value.ref b] s) 4 D (fun q : Nat => s.heap.size ≤ q) s.heap 1156 (lwL b (ad 0) (ad 41) i) [] ws2) : V p l e room_1 s m #[Value.ref b] below meth c 600000 7302250 (lw_Z below #[Value.ref b] s) 4 D (fun q : Nat => s.heap.size ≤ q) s.heap 1143 (lwL b (ad 0) (ad 41) i) [] ws := by
  obtain ⟨r, w1, w2, ⟨wcC, u1, isC, hC, c1, c2, c3, c4⟩, ⟨wcM, u2, isM, hM, d1, d2, d3, d4⟩, hI2, gs, h41⟩ := tk_status (l := l) (D := D) hI 
  obtain ⟨fs, h0⟩ := hI.at0
  refine v_aload_n C 1 dL_law_1143 rfl ?_
  refine v_callV (qi := 0) C [] [] kX5_status gL_law_X5_status hC ⟨Nat.le_of_ble_eq_true rfl, Nat.le_of_ble_eq_true rfl⟩ ⟨rfl, rfl⟩ ⟨Nat.le_refl _, Nat.le_refl _⟩ rfl 0 h0 rfl rfl rfl (Nat.le_of_ble_eq_true rfl) isC w1 c1 c2 c3 c4 dL_law_1144 ?_
  refine V.sts (st' := [.int r]) rfl ?_
  refine v_aload_n C 2 dL_law_1147 rfl ?_
  refine v_callV (qi := 0) C [] [.int r] kX6_status gL_law_X6_status hM ⟨Nat.le_of_ble_eq_true rfl, Nat.le_of_ble_eq_true rfl⟩ ⟨rfl, rfl⟩ ⟨Nat.le_refl _, Nat.le_refl _⟩ rfl 41 h41 rfl rfl rfl (Nat.le_of_ble_eq_true rfl) isM w2 d1 d2 d3 d4 dL_law_1148 ?_
  refine V.sts (st' := [.int r, .int r]) rfl ?_
  exact v_icmp_eq C 1156 dL_law_1151 (by decide) (fun _ => kk w2 hI2) (fun z => absurd rfl z)
