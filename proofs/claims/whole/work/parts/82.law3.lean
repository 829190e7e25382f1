set_option maxHeartbeats 8000000 in
set_option maxRecDepth 100000 in
/-- the law's loop -/
theorem law_loop {p : Program} {l : Launch} {e : Env} {s : State} {m : MethodId} {below : List Frame} {meth : Method} {c : Code} {D : va_G} {cs : Nat → ClassId} {b L : Nat} {xs : Nat → Int32} {ad : Nat → Nat} (C : VOk p s m #[Value.ref b] c cL_law 4 wsL_law RL D (tz cs) (fun q : Nat => s.heap.size ≤ q) s.heap) (hX : va_X b L xs s s.heap) (hbl : b < s.heap.size) (hbA : ¬ (fun q : Nat => s.heap.size ≤ q) b) (hr : meth.sig.returnType = ret) (hlocks : meth.locks = false) (hL : L ≤ 384) : ∀ (n i : Nat), i ≤ L → L < i + n → ∀ ws : va_W, Inv cs ad ws → V p l e room_1 s m #[Value.ref b] below meth c 600000 7302250 (lw_Z below #[Value.ref b] s) 4 D (fun q : Nat => s.heap.size ≤ q) s.heap 18 (lwL b (ad 0) (ad 41) i) [] ws := by
  intro n
  induction n with
  | zero => intro i h1 h2; exact absurd h2 (by omega)
  | succ n ih =>
    intro i h1 h2 ws hI
    refine v_iload_n C 3 dL_law_18 rfl ?_
    refine v_aload_n C 0 dL_law_19 rfl ?_
    refine v_slen C hX hbl hbA dL_law_20 ?_
    refine v_bipush C (v := 6) dL_law_21 (by decide) ?_
    refine v_isub C dL_law_23 ?_
    refine v_icmp_gt C 1162 dL_law_24 (by decide) (fun _ => ?_) (fun hc => ?_)
    · refine v_iconst C (v := 1) dL_law_1162 (by decide) ?_
      exact v_lawret (xs := xs) (L := L) C hr hlocks dL_law_1163
    · have hlt : i + 6 ≤ L := by
        rcases Nat.lt_or_ge L 6 with q | q
        · refine absurd ?_ hc
          have e6 : (6 : Int32).toInt = 6 := by decide
          rw [Int32.lt_iff_toInt_lt, Int32.toInt_sub, nI_toInt (by omega), nI_toInt (by omega), e6, Int.bmod_eq_of_le (by omega) (by omega)]
          omega
        · have e : nI L - 6 = nI (L - 6) := pk_sub (a := L) (b := 6) q
          rw [e] at hc
          have := nlt_nI hc (by omega) (by omega)
          omega
      have back : ∀ ws2 : va_W, Inv cs ad ws2 → V p l e room_1 s m #[Value.ref b] below meth c 600000 7302250 (lw_Z below #[Value.ref b] s) 4 D (fun q : Nat => s.heap.size ≤ q) s.heap 1156 (lwL b (ad 0) (ad 41) i) [] ws2 := by
        intro ws2 hI2
        refine v_iinc C (k := 3) (nI (i + 6)) (lwL b (ad 0) (ad 41) (i + 6)) [1, 2, 3, 0] dL_law_1156 rfl (nI_add i 6) (by decide) rfl ?_
        refine v_goto C 18 dL_law_1159 (by decide) ?_
        exact ih (i + 6) hlt (by omega) ws2 hI2
      refine v_aload_n C 0 dL_law_27 rfl ?_
      refine v_iload_n C 3 dL_law_28 rfl ?_
      refine v_sld C hX hbl hbA (xs i) (by rw [nI_clamp (by omega)]) (vp_in_nI (by omega) (by omega)) dL_law_29 ?_
      refine v_bipush C (v := 63) dL_law_30 (by decide) ?_
      refine v_iand C dL_law_32 ?_
      obtain ⟨j, hj, ej⟩ := pk_andE (xs i) (m := 63) 6 (by decide)
      refine V.topr (y := nI j) ej ?_
      match j, hj, ej with
      | 0, _, hj2 => exact v_tableIn C 184 dL_law_33 (by decide) (by decide) (off := 151) (by decide) (by decide) (law_0 C hX hbl hbA hI hlt hL back)
      | 1, _, hj2 => exact v_tableIn C 227 dL_law_33 (by decide) (by decide) (off := 194) (by decide) (by decide) (law_1 C hX hbl hbA hI hlt hL back)
      | 2, _, hj2 => exact v_tableIn C 270 dL_law_33 (by decide) (by decide) (off := 237) (by decide) (by decide) (law_2 C hX hbl hbA hI hlt hL back)
      | 3, _, hj2 => exact v_tableIn C 333 dL_law_33 (by decide) (by decide) (off := 300) (by decide) (by decide) (law_3 C hX hbl hbA hI hlt hL back)
      | 4, _, hj2 => exact v_tableIn C 356 dL_law_33 (by decide) (by decide) (off := 323) (by decide) (by decide) (law_4 C hX hbl hbA hI hlt hL back)
      | 5, _, hj2 => exact v_tableIn C 379 dL_law_33 (by decide) (by decide) (off := 346) (by decide) (by decide) (law_5 C hX hbl hbA hI hlt hL back)
      | 6, _, hj2 => exact v_tableIn C 392 dL_law_33 (by decide) (by decide) (off := 359) (by decide) (by decide) (law_6 C hX hbl hbA hI hlt hL back)
      | 7, _, hj2 => exact v_tableIn C 405 dL_law_33 (by decide) (by decide) (off := 372) (by decide) (by decide) (law_7 C hX hbl hbA hI hlt hL back)
      | 8, _, hj2 => exact v_tableIn C 438 dL_law_33 (by decide) (by decide) (off := 405) (by decide) (by decide) (law_8 C hX hbl hbA hI hlt hL back)
      | 9, _, hj2 => exact v_tableIn C 481 dL_law_33 (by decide) (by decide) (off := 448) (by decide) (by decide) (law_9 C hX hbl hbA hI hlt hL back)
      | 10, _, hj2 => exact v_tableIn C 494 dL_law_33 (by decide) (by decide) (off := 461) (by decide) (by decide) (law_10 C hX hbl hbA hI hlt hL back)
      | 11, _, hj2 => exact v_tableIn C 517 dL_law_33 (by decide) (by decide) (off := 484) (by decide) (by decide) (law_11 C hX hbl hbA hI hlt hL back)
      | 12, _, hj2 => exact v_tableIn C 530 dL_law_33 (by decide) (by decide) (off := 497) (by decide) (by decide) (law_12 C hX hbl hbA hI hlt hL back)
      | 13, _, hj2 => exact v_tableIn C 563 dL_law_33 (by decide) (by decide) (off := 530) (by decide) (by decide) (law_13 C hX hbl hbA hI hlt hL back)
      | 14, _, hj2 => exact v_tableIn C 586 dL_law_33 (by decide) (by decide) (off := 553) (by decide) (by decide) (law_14 C hX hbl hbA hI hlt hL back)
      | 15, _, hj2 => exact v_tableIn C 609 dL_law_33 (by decide) (by decide) (off := 576) (by decide) (by decide) (law_15 C hX hbl hbA hI hlt hL back)
      | 16, _, hj2 => exact v_tableIn C 642 dL_law_33 (by decide) (by decide) (off := 609) (by decide) (by decide) (law_16 C hX hbl hbA hI hlt hL back)
      | 17, _, hj2 => exact v_tableIn C 675 dL_law_33 (by decide) (by decide) (off := 642) (by decide) (by decide) (law_17 C hX hbl hbA hI hlt hL back)
      | 18, _, hj2 => exact v_tableIn C 698 dL_law_33 (by decide) (by decide) (off := 665) (by decide) (by decide) (law_18 C hX hbl hbA hI hlt hL back)
      | 19, _, hj2 => exact v_tableIn C 731 dL_law_33 (by decide) (by decide) (off := 698) (by decide) (by decide) (law_19 C hX hbl hbA hI hlt hL back)
      | 20, _, hj2 => exact v_tableIn C 754 dL_law_33 (by decide) (by decide) (off := 721) (by decide) (by decide) (law_20 C hX hbl hbA hI hlt hL back)
      | 21, _, hj2 => exact v_tableIn C 787 dL_law_33 (by decide) (by decide) (off := 754) (by decide) (by decide) (law_21 C hX hbl hbA hI hlt hL back)
      | 22, _, hj2 => exact v_tableIn C 820 dL_law_33 (by decide) (by decide) (off := 787) (by decide) (by decide) (law_22 C hX hbl hbA hI hlt hL back)
      | 23, _, hj2 => exact v_tableIn C 843 dL_law_33 (by decide) (by decide) (off := 810) (by decide) (by decide) (law_23 C hX hbl hbA hI hlt hL back)
      | 24, _, hj2 => exact v_tableIn C 866 dL_law_33 (by decide) (by decide) (off := 833) (by decide) (by decide) (law_24 C hX hbl hbA hI hlt hL back)
      | 25, _, hj2 => exact v_tableIn C 919 dL_law_33 (by decide) (by decide) (off := 886) (by decide) (by decide) (law_25 C hX hbl hbA hI hlt hL back)
      | 26, _, hj2 => exact v_tableIn C 962 dL_law_33 (by decide) (by decide) (off := 929) (by decide) (by decide) (law_26 C hX hbl hbA hI hlt hL back)
      | 27, _, hj2 => exact v_tableIn C 985 dL_law_33 (by decide) (by decide) (off := 952) (by decide) (by decide) (law_27 C hX hbl hbA hI hlt hL back)
      | 28, _, hj2 => exact v_tableIn C 1008 dL_law_33 (by decide) (by decide) (off := 975) (by decide) (by decide) (law_28 C hX hbl hbA hI hlt hL back)
      | 29, _, hj2 => exact v_tableIn C 1031 dL_law_33 (by decide) (by decide) (off := 998) (by decide) (by decide) (law_29 C hX hbl hbA hI hlt hL back)
      | 30, _, hj2 => exact v_tableIn C 1064 dL_law_33 (by decide) (by decide) (off := 1031) (by decide) (by decide) (law_30 C hX hbl hbA hI hlt hL back)
      | 31, _, hj2 => exact v_tableIn C 1097 dL_law_33 (by decide) (by decide) (off := 1064) (by decide) (by decide) (law_31 C hX hbl hbA hI hlt hL back)
      | 32, _, hj2 => exact v_tableIn C 1120 dL_law_33 (by decide) (by decide) (off := 1087) (by decide) (by decide) (law_32 C hX hbl hbA hI hlt hL back)
      | 33, _, hj2 => exact v_tableIn C 1143 dL_law_33 (by decide) (by decide) (off := 1110) (by decide) (by decide) (law_33 C hX hbl hbA hI hlt hL back)
      | j + 34, hj2, _ => exact v_tableOut C 1156 dL_law_33 (Or.inr (by rw [nI_toInt (by omega)]; omega)) (by decide) (back ws hI)
