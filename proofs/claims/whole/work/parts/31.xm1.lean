theorem kX6_in : KD yX6_in wsX6_in cX6_in 6 (some .boolean) 3 := ⟨⟨_, rfl⟩, by decide, by decide +kernel, by decide +kernel, by decide +kernel⟩
set_option maxHeartbeats 4000000 in
set_option maxRecDepth 100000 in
theorem c_inL (l : Launch) (D : va_G) (cs : Nat → ClassId) {v : Int64} {lo : Int64} {hi : Int64} : CT l D (tz cs) yX6_in wsX6_in ({ frames := 0, cells := 0, slots := 0, locals := 0 }) [.long v, .long lo, .long hi] [] (some (.int (b2 (inL v lo hi)))) [] := by
  refine CT.of kX6_in (Nat.le_of_ble_eq_true rfl) ?_
  intro p e s m below meth c A C E
  have C : VOk p s m _ c cX6_in 6 wsX6_in RX6 D (tz cs) A s.heap := C
  refine V.lvs (lv' := [(0, .long v), (2, .long lo), (4, .long hi)]) [0, 1, 2] rfl ?_
  refine v_lload_n C 0 dX6_in_0 rfl ?_
  refine v_lload_n C 1 dX6_in_1 rfl ?_
  refine v_lcmp C dX6_in_2 ?_
  refine v_if_lt C 17 dX6_in_3 (by decide) (fun c1 => ?_) (fun c1 => ?_)
  · skip
    refine v_iconst C (v := 0) dX6_in_17 (by decide) ?_
    exact v_zret C E (rfl) (by simp only [lg_cmp_lt, lg_cmp_gt] at c1; simp [inL, c1, b2]) dX6_in_18
  · skip
    refine v_lload_n C 0 dX6_in_6 rfl ?_
    refine v_lload C 2 dX6_in_7 rfl ?_
    refine v_lcmp C dX6_in_9 ?_
    refine v_if_gt C 17 dX6_in_10 (by decide) (fun c2 => ?_) (fun c2 => ?_)
    · skip
      refine v_iconst C (v := 0) dX6_in_17 (by decide) ?_
      exact v_zret C E (rfl) (by simp only [lg_cmp_lt, lg_cmp_gt] at c1 c2; simp [inL, c1, c2, b2]) dX6_in_18
    · skip
      refine v_iconst C (v := 1) dX6_in_13 (by decide) ?_
      refine v_goto C 18 dX6_in_14 (by decide) ?_
      exact v_zret C E (rfl) (by simp only [lg_cmp_lt, lg_cmp_gt] at c1 c2; simp [inL, c1, c2, b2]) dX6_in_18
theorem c_inI (l : Launch) (D : va_G) (cs : Nat → ClassId) {x a b : Int32} {lo hi : Int64} (ha : lo = a.toInt64) (hb : hi = b.toInt64) : CT l D (tz cs) yX6_in wsX6_in ({ frames := 0, cells := 0, slots := 0, locals := 0 }) [.long x.toInt64, .long lo, .long hi] [] (some (.int (b2 (inI x a b)))) [] := by
  have h := c_inL l D cs (v := x.toInt64) (lo := lo) (hi := hi)
  subst ha; subst hb
  rw [inL_I] at h
  exact h
theorem kX6_has : KD yX6_has wsX6_has cX6_has 2 (some .boolean) 2 := ⟨⟨_, rfl⟩, by decide, by decide +kernel, by decide +kernel, by decide +kernel⟩
set_option maxHeartbeats 4000000 in
set_option maxRecDepth 100000 in
theorem c_mhas (l : Launch) (D : va_G) (cs : Nat → ClassId) {x : Int32} {q : Int32} : CT l D (tz cs) yX6_has wsX6_has ({ frames := 0, cells := 0, slots := 0, locals := 0 }) [.int x, .int q] [] (some (.int (b2 (hasB x q)))) [] := by
  refine CT.of kX6_has (Nat.le_of_ble_eq_true rfl) ?_
  intro p e s m below meth c A C E
  have C : VOk p s m _ c cX6_has 2 wsX6_has RX6 D (tz cs) A s.heap := C
  refine V.lvs (lv' := [(0, .int x), (1, .int q)]) [0, 1] rfl ?_
  refine v_iload_n C 0 dX6_has_0 rfl ?_
  refine v_iload_n C 1 dX6_has_1 rfl ?_
  refine v_ishr C dX6_has_2 ?_
  refine v_iconst C (v := 1) dX6_has_3 (by decide) ?_
  refine v_iand C dX6_has_4 ?_
  refine v_iconst C (v := 1) dX6_has_5 (by decide) ?_
  refine v_icmp_ne C 13 dX6_has_6 (by decide) (fun c1 => ?_) (fun c1 => ?_)
  · skip
    refine v_iconst C (v := 0) dX6_has_13 (by decide) ?_
    exact v_zret C E (rfl) (by first | rfl | (simp [hasB, b2, c1, ↓reduceIte]; done) | (simp_all [hasB, b2]; done)) dX6_has_14
  · skip
    refine v_iconst C (v := 1) dX6_has_9 (by decide) ?_
    refine v_goto C 14 dX6_has_10 (by decide) ?_
    exact v_zret C E (rfl) (by first | rfl | (simp [hasB, b2, c1, ↓reduceIte]; done) | (simp_all [hasB, b2]; done)) dX6_has_14
theorem kX6_ones : KD yX6_ones wsX6_ones cX6_ones 3 (some .int) 1 := ⟨⟨_, rfl⟩, by decide, by decide +kernel, by decide +kernel, by decide +kernel⟩
set_option maxHeartbeats 4000000 in
set_option maxRecDepth 100000 in
theorem c_ones (l : Launch) (D : va_G) (cs : Nat → ClassId) {x : Int32} (hx : s64 x) : CT l D (tz cs) yX6_ones wsX6_ones ({ frames := 0, cells := 0, slots := 0, locals := 0 }) [.int x] [] (some (.int (pcI x))) [] := by
  refine CT.of kX6_ones (Nat.le_of_ble_eq_true rfl) ?_
  intro p e s m below meth c A C E
  have C : VOk p s m _ c cX6_ones 3 wsX6_ones RX6 D (tz cs) A s.heap := C
  refine V.lvs (lv' := [(0, .int x)]) [0] rfl ?_
  obtain ⟨j0, hj0, hxe⟩ := hx
  refine v_iconst C (v := 0) dX6_ones_0 (by decide) ?_
  refine v_istore_n C [(0, .int x), (1, .int 0)] [1, 0] dX6_ones_1 (by decide) rfl ?_
  refine v_iload_n C 0 dX6_ones_2 rfl ?_
  refine v_istore_n C [(0, .int x), (1, .int 0), (2, .int x)] [1, 2, 0] dX6_ones_3 (by decide) rfl ?_
  have L4 : ∀ (n : Nat) (k : Nat) (cc : Nat) (y0 : Int32) (y1 : Int32), y0 = (nI cc) → y1 = (nI k) → (k < 64) → (cc + pop k = pop j0) → k < n → V p l e ({ frames := 0, cells := 0, slots := 0, locals := 0 }) s m (List.toArray [.int x]) below meth c 0 0 (MQ below (vq_Q (some (.int (pcI x))) D [] [] s.heap.size) (List.toArray [.int x]) s 0 0 (va_A [] s.heap.size)) 3 D A s.heap 4 [(0, .int x), (1, .int y0), (2, .int y1)] [] [] := by
    intro n
    induction n with
    | zero =>
      intros; omega
    | succ n ih4 =>
      intro k cc y0 y1 ey0 ey1 hk hc hn
      subst ey0
      subst ey1
      refine v_iload_n C 2 dX6_ones_4 rfl ?_
      refine v_if_eq C 20 dX6_ones_5 (by decide) (fun c1 => ?_) (fun c1 => ?_)
      · skip
        refine v_iload_n C 1 dX6_ones_20 rfl ?_
        exact v_iret C E (rfl) (by have h9 := eq_nI (a := k) (b := 0) c1 (by omega) (by decide); subst h9; rw [hxe, pc_nI (by omega), ← hc]; rfl) dX6_ones_21
      · skip
        have hkp : 0 < k := by rcases Nat.eq_zero_or_pos k with h9 | h9; exact absurd (by rw [h9]; rfl) c1; exact h9
        have ho := ones_s k hk hkp
        refine v_iinc C (k := 1) (nI (cc + 1)) [(0, .int x), (1, .int (nI (cc + 1))), (2, .int (nI k))] [1, 0, 2] dX6_ones_8 rfl (nI_inc _) (by decide) rfl ?_
        refine v_iload_n C 2 dX6_ones_11 rfl ?_
        refine v_iload_n C 2 dX6_ones_12 rfl ?_
        refine v_iconst C (v := 1) dX6_ones_13 (by decide) ?_
        refine v_isub C dX6_ones_14 ?_
        refine v_iand C dX6_ones_15 ?_
        refine v_istore_n C [(0, .int x), (1, .int (nI (cc + 1))), (2, .int ((nI k) &&& ((nI k) - 1)))] [1, 2, 0] dX6_ones_16 (by decide) rfl ?_
        refine v_goto C 4 dX6_ones_17 (by decide) ?_
        exact ih4 (k &&& (k - 1)) (cc + 1) _ _ (rfl) (ho.1) (by omega) (by omega) (by omega)
  exact L4 _ j0 0 _ _ (rfl) (hxe) (by first | assumption | omega) (by omega) (Nat.lt_succ_self _)
theorem kX6_find : KD yX6_find wsX6_find cX6_find 2 (some .int) 1 := ⟨⟨_, rfl⟩, by decide, by decide +kernel, by decide +kernel, by decide +kernel⟩
theorem in_X6_find_X6 : ∀ w ∈ wsX60, w ∈ wsX6_find := by decide +kernel
theorem fl_X6_find_44 : FL RX6 wsX6_find RX6 RX6 TX6 22 6 3 44 := ⟨⟨in_X6_find_X6, rfl, by decide, rfl⟩, by decide +kernel⟩
theorem fp_X6_3 : FP TX6 22 3 tyX6 .int := ⟨tyX6_ok, nmX6, rfl, by decide +kernel⟩
set_option maxHeartbeats 4000000 in
set_option maxRecDepth 100000 in
theorem c_find (l : Launch) (D : va_G) (cs : Nat → ClassId) {mo : Nat} {ml : Nat} {mz : Nat} {mi : Nat} {mt : Nat} {mv : Nat} {mp : Nat} {md : Nat} {mc : Nat} {mk : Nat} {mq : Nat} {mr : Nat} {su : Int32} {it : Bool} {nby : Int32} {lt : Int32} {pl : Int32} {tok : Int32} {va : Int32} {be : Int32} {wr : Int32} {am : Int32} {td : Int32} {x : Int32} : CT l D (tz cs) yX6_find wsX6_find ({ frames := 0, cells := 0, slots := 0, locals := 0 }) [.ref mo, .int x] [(mo, .inr (6, [.ref ml, .ref mz, .ref mi, .int su, .int (b2 it), .ref mt, .ref mv, .ref mp, .int nby, .int lt, .int pl, .int tok, .int va, .int be, .int wr, .ref md, .ref mc, .int am, .ref mk, .ref mq, .ref mr, .int td]))] (some (.int (-1000010 - x))) [(mo, .inr (6, [.ref ml, .ref mz, .ref mi, .int x, .int (b2 it), .ref mt, .ref mv, .ref mp, .int nby, .int lt, .int pl, .int tok, .int va, .int be, .int wr, .ref md, .ref mc, .int am, .ref mk, .ref mq, .ref mr, .int td]))] := by
  refine CT.of kX6_find (Nat.le_of_ble_eq_true rfl) ?_
  intro p e s m below meth c A C E
  have C : VOk p s m _ c cX6_find 2 wsX6_find RX6 D (tz cs) A s.heap := C
  refine V.lvs (lv' := [(0, .ref mo), (1, .int x)]) [0, 1] rfl ?_
  refine v_aload_n C 0 dX6_find_0 rfl ?_
  refine v_iload_n C 1 dX6_find_1 rfl ?_
  refine v_put C fl_X6_find_44 fp_X6_3 0 rfl rfl rfl (Nat.le_of_ble_eq_true rfl) [(mo, .inr (6, [.ref ml, .ref mz, .ref mi, .int x, .int (b2 it), .ref mt, .ref mv, .ref mp, .int nby, .int lt, .int pl, .int tok, .int va, .int be, .int wr, .ref md, .ref mc, .int am, .ref mk, .ref mq, .ref mr, .int td]))] rfl dX6_find_2 ?_
  refine v_ldc C (v := -1000010) (by decide +kernel) dX6_find_5 ?_
  refine v_iload_n C 1 dX6_find_7 rfl ?_
  refine v_isub C dX6_find_8 ?_
  exact v_iret C E (rfl) (by first | rfl | (simp [↓reduceIte]; done) | (simp_all [b2]; done)) dX6_find_9
theorem kX6_well : KD yX6_well wsX6_well cX6_well 2 (some .int) 1 := ⟨⟨_, rfl⟩, by decide, by decide +kernel, by decide +kernel, by decide +kernel⟩
theorem in_X6_well_X6 : ∀ w ∈ wsX60, w ∈ wsX6_well := by decide +kernel
theorem fl_X6_well_44 : FL RX6 wsX6_well RX6 RX6 TX6 22 6 3 44 := ⟨⟨in_X6_well_X6, rfl, by decide, rfl⟩, by decide +kernel⟩
set_option maxHeartbeats 4000000 in
set_option maxRecDepth 100000 in
theorem c_mwell (l : Launch) (D : va_G) (cs : Nat → ClassId) {mo : Nat} {ml : Nat} {mz : Nat} {mi : Nat} {mt : Nat} {mv : Nat} {mp : Nat} {md : Nat} {mc : Nat} {mk : Nat} {mq : Nat} {mr : Nat} {su : Int32} {it : Bool} {nby : Int32} {lt : Int32} {pl : Int32} {tok : Int32} {va : Int32} {be : Int32} {wr : Int32} {am : Int32} {td : Int32} {x : Int32} : CT l D (tz cs) yX6_well wsX6_well ({ frames := 0, cells := 0, slots := 0, locals := 0 }) [.ref mo, .int x] [(mo, .inr (6, [.ref ml, .ref mz, .ref mi, .int su, .int (b2 it), .ref mt, .ref mv, .ref mp, .int nby, .int lt, .int pl, .int tok, .int va, .int be, .int wr, .ref md, .ref mc, .int am, .ref mk, .ref mq, .ref mr, .int td]))] (some (.int x)) [(mo, .inr (6, [.ref ml, .ref mz, .ref mi, .int 0, .int (b2 it), .ref mt, .ref mv, .ref mp, .int nby, .int lt, .int pl, .int tok, .int va, .int be, .int wr, .ref md, .ref mc, .int am, .ref mk, .ref mq, .ref mr, .int td]))] := by
  refine CT.of kX6_well (Nat.le_of_ble_eq_true rfl) ?_
  intro p e s m below meth c A C E
  have C : VOk p s m _ c cX6_well 2 wsX6_well RX6 D (tz cs) A s.heap := C
  refine V.lvs (lv' := [(0, .ref mo), (1, .int x)]) [0, 1] rfl ?_
  refine v_aload_n C 0 dX6_well_0 rfl ?_
  refine v_iconst C (v := 0) dX6_well_1 (by decide) ?_
  refine v_put C fl_X6_well_44 fp_X6_3 0 rfl rfl rfl (Nat.le_of_ble_eq_true rfl) [(mo, .inr (6, [.ref ml, .ref mz, .ref mi, .int 0, .int (b2 it), .ref mt, .ref mv, .ref mp, .int nby, .int lt, .int pl, .int tok, .int va, .int be, .int wr, .ref md, .ref mc, .int am, .ref mk, .ref mq, .ref mr, .int td]))] rfl dX6_well_2 ?_
  refine v_iload_n C 1 dX6_well_5 rfl ?_
  exact v_iret C E (rfl) (by first | rfl | (simp [↓reduceIte]; done) | (simp_all [b2]; done)) dX6_well_6
theorem kX6_isRow : KD yX6_isRow wsX6_isRow cX6_isRow 1 (some .boolean) 1 := ⟨⟨_, rfl⟩, by decide, by decide +kernel, by decide +kernel, by decide +kernel⟩
set_option maxHeartbeats 4000000 in
set_option maxRecDepth 100000 in
theorem c_isRow (l : Launch) (D : va_G) (cs : Nat → ClassId) {x : Int32} : CT l D (tz cs) yX6_isRow wsX6_isRow ({ frames := 1, cells := 0, slots := 0, locals := 25 }) [.int x] [] (some (.int (b2 (inB 8 x)))) [] := by
  refine CT.of kX6_isRow (Nat.le_of_ble_eq_true rfl) ?_
  intro p e s m below meth c A C E
  have C : VOk p s m _ c cX6_isRow 1 wsX6_isRow RX6 D (tz cs) A s.heap := C
  refine V.lvs (lv' := [(0, .int x)]) [0] rfl ?_
  refine v_iload_n C 0 dX6_isRow_0 rfl ?_
  refine v_i2l C dX6_isRow_1 ?_
  refine v_lconst C (v := 0) dX6_isRow_2 (by decide) ?_
  refine v_ldc2 C (v := 7) (by decide +kernel) dX6_isRow_3 ?_
  refine v_callS C [.long (Int32.toInt64 x), .long 0, .long 7] [] kX6_in gX6_isRow_X6_in (c_inI l D cs (x := x) (a := 0) (b := 7) (lo := 0) (hi := 7) (by decide) (by decide)) ⟨Nat.le_of_ble_eq_true rfl, Nat.le_of_ble_eq_true rfl⟩ ⟨rfl, rfl⟩ ⟨Nat.zero_le _, Nat.zero_le _⟩ rfl rfl (Nat.le_of_ble_eq_true rfl) [] [] rfl (by decide) rfl (rfl) dX6_isRow_6 ?_
  refine V.sts (st' := [.int (b2 (inI x 0 7))]) rfl ?_
  exact v_zret C E (rfl) (by rw [inI_8]) dX6_isRow_9
theorem kX6_asLane : KD yX6_asLane wsX6_asLane cX6_asLane 2 (some .int) 2 := ⟨⟨_, rfl⟩, by decide, by decide +kernel, by decide +kernel, by decide +kernel⟩
set_option maxHeartbeats 4000000 in
set_option maxRecDepth 100000 in
theorem c_asLane (l : Launch) (D : va_G) (cs : Nat → ClassId) {la : Int32} {v : Int32} : CT l D (tz cs) yX6_asLane wsX6_asLane ({ frames := 0, cells := 0, slots := 0, locals := 0 }) [.int la, .int v] [] (some (.int (asL la v))) [] := by
  refine CT.of kX6_asLane (Nat.le_of_ble_eq_true rfl) ?_
  intro p e s m below meth c A C E
  have C : VOk p s m _ c cX6_asLane 2 wsX6_asLane RX6 D (tz cs) A s.heap := C
  refine V.lvs (lv' := [(0, .int la), (1, .int v)]) [0, 1] rfl ?_
  refine v_iload_n C 0 dX6_asLane_0 rfl ?_
  refine v_if_ne C 14 dX6_asLane_1 (by decide) (fun c1 => ?_) (fun c1 => ?_)
  · skip
    refine v_iload_n C 0 dX6_asLane_14 rfl ?_
    refine v_iconst C (v := 1) dX6_asLane_15 (by decide) ?_
    refine v_icmp_ne C 29 dX6_asLane_16 (by decide) (fun c2 => ?_) (fun c2 => ?_)
    · skip
      refine v_iload_n C 1 dX6_asLane_29 rfl ?_
      exact v_iret C E (rfl) (by simp only [asL, asL_0, asL_1, c1, c2, show ¬ (1 : Int32) = 0 by decide, ↓reduceIte]) dX6_asLane_30
    · skip
      refine v_iload_n C 1 dX6_asLane_19 rfl ?_
      refine v_bipush C (v := 16) dX6_asLane_20 (by decide) ?_
      refine v_ishl C dX6_asLane_22 ?_
      refine v_bipush C (v := 16) dX6_asLane_23 (by decide) ?_
      refine v_ishr C dX6_asLane_25 ?_
      refine v_goto C 30 dX6_asLane_26 (by decide) ?_
      exact v_iret C E (rfl) (by simp only [asL, asL_0, asL_1, c1, c2, show ¬ (1 : Int32) = 0 by decide, ↓reduceIte]) dX6_asLane_30
  · skip
    refine v_iload_n C 1 dX6_asLane_4 rfl ?_
    refine v_bipush C (v := 24) dX6_asLane_5 (by decide) ?_
    refine v_ishl C dX6_asLane_7 ?_
    refine v_bipush C (v := 24) dX6_asLane_8 (by decide) ?_
    refine v_ishr C dX6_asLane_10 ?_
    refine v_goto C 30 dX6_asLane_11 (by decide) ?_
    exact v_iret C E (rfl) (by simp only [asL, asL_0, asL_1, c1, show ¬ (1 : Int32) = 0 by decide, ↓reduceIte]) dX6_asLane_30
theorem kX6_all : KD yX6_all wsX6_all cX6_all 1 (some .int) 0 := ⟨⟨_, rfl⟩, by decide, by decide +kernel, by decide +kernel, by decide +kernel⟩
theorem in_X6_all_X6 : ∀ w ∈ wsX60, w ∈ wsX6_all := by decide +kernel
theorem fl_X6_all_19 : FL RX6 wsX6_all RX6 RX6 TX6 22 6 5 19 := ⟨⟨in_X6_all_X6, rfl, by decide, rfl⟩, by decide +kernel⟩
set_option maxHeartbeats 4000000 in
set_option maxRecDepth 100000 in
theorem c_mall (l : Launch) (D : va_G) (cs : Nat → ClassId) {mo : Nat} {ml : Nat} {mz : Nat} {mi : Nat} {mt : Nat} {mv : Nat} {mp : Nat} {md : Nat} {mc : Nat} {mk : Nat} {mq : Nat} {mr : Nat} {su : Int32} {it : Bool} {nby : Int32} {lt : Int32} {pl : Int32} {tok : Int32} {va : Int32} {be : Int32} {wr : Int32} {am : Int32} {td : Int32} {tf : Nat → Int32} : CT l D (tz cs) yX6_all wsX6_all ({ frames := 0, cells := 0, slots := 0, locals := 0 }) [.ref mo] [(mo, .inr (6, [.ref ml, .ref mz, .ref mi, .int su, .int (b2 it), .ref mt, .ref mv, .ref mp, .int nby, .int lt, .int pl, .int tok, .int va, .int be, .int wr, .ref md, .ref mc, .int am, .ref mk, .ref mq, .ref mr, .int td])), (mt, .inl (cs 0, 29, .inl tf))] (some (.int (allI (tf 0)))) [(mo, .inr (6, [.ref ml, .ref mz, .ref mi, .int su, .int (b2 it), .ref mt, .ref mv, .ref mp, .int nby, .int lt, .int pl, .int tok, .int va, .int be, .int wr, .ref md, .ref mc, .int am, .ref mk, .ref mq, .ref mr, .int td])), (mt, .inl (cs 0, 29, .inl tf))] := by
  refine CT.of kX6_all (Nat.le_of_ble_eq_true rfl) ?_
  intro p e s m below meth c A C E
  have C : VOk p s m _ c cX6_all 1 wsX6_all RX6 D (tz cs) A s.heap := C
  refine V.lvs (lv' := [(0, .ref mo)]) [0] rfl ?_
  refine v_iconst C (v := 1) dX6_all_0 (by decide) ?_
  refine v_aload_n C 0 dX6_all_1 rfl ?_
  refine v_get C (v := .ref mt) fl_X6_all_19 0 rfl rfl dX6_all_2 ?_
  refine v_iconst C (v := 0) dX6_all_5 (by decide) ?_
  refine v_iald C 1 0 rfl rfl (tf 0) (rfl) (vp_in_nI (n := 0) (N := 29) (by decide) (by decide)) dX6_all_6 ?_
  refine v_ishl C dX6_all_7 ?_
  refine v_iconst C (v := 1) dX6_all_8 (by decide) ?_
  refine v_isub C dX6_all_9 ?_
  exact v_iret C E (rfl) (by first | rfl | (simp [↓reduceIte]; done) | (simp_all [b2]; done)) dX6_all_10
theorem kX6_here : KD yX6_here wsX6_here cX6_here 1 (some .int) 0 := ⟨⟨_, rfl⟩, by decide, by decide +kernel, by decide +kernel, by decide +kernel⟩
theorem in_X6_here_X6 : ∀ w ∈ wsX60, w ∈ wsX6_here := by decide +kernel
theorem fl_X6_here_19 : FL RX6 wsX6_here RX6 RX6 TX6 22 6 5 19 := ⟨⟨in_X6_here_X6, rfl, by decide, rfl⟩, by decide +kernel⟩
set_option maxHeartbeats 4000000 in
set_option maxRecDepth 100000 in
theorem c_mhere (l : Launch) (D : va_G) (cs : Nat → ClassId) {mo : Nat} {ml : Nat} {mz : Nat} {mi : Nat} {mt : Nat} {mv : Nat} {mp : Nat} {md : Nat} {mc : Nat} {mk : Nat} {mq : Nat} {mr : Nat} {su : Int32} {it : Bool} {nby : Int32} {lt : Int32} {pl : Int32} {tok : Int32} {va : Int32} {be : Int32} {wr : Int32} {am : Int32} {td : Int32} {tf : Nat → Int32} : CT l D (tz cs) yX6_here wsX6_here ({ frames := 1, cells := 0, slots := 0, locals := 20 }) [.ref mo] [(mo, .inr (6, [.ref ml, .ref mz, .ref mi, .int su, .int (b2 it), .ref mt, .ref mv, .ref mp, .int nby, .int lt, .int pl, .int tok, .int va, .int be, .int wr, .ref md, .ref mc, .int am, .ref mk, .ref mq, .ref mr, .int td])), (mt, .inl (cs 0, 29, .inl tf))] (some (.int (thI (tf 0) (tf 4)))) [(mo, .inr (6, [.ref ml, .ref mz, .ref mi, .int su, .int (b2 it), .ref mt, .ref mv, .ref mp, .int nby, .int lt, .int pl, .int tok, .int va, .int be, .int wr, .ref md, .ref mc, .int am, .ref mk, .ref mq, .ref mr, .int td])), (mt, .inl (cs 0, 29, .inl tf))] := by
  refine CT.of kX6_here (Nat.le_of_ble_eq_true rfl) ?_
  intro p e s m below meth c A C E
  have C : VOk p s m _ c cX6_here 1 wsX6_here RX6 D (tz cs) A s.heap := C
  refine V.lvs (lv' := [(0, .ref mo)]) [0] rfl ?_
  refine v_aload_n C 0 dX6_here_0 rfl ?_
  refine v_callV (qi := 0) C [] [] kX6_all gX6_here_X6_all (c_mall l D cs (mo := mo) (ml := ml) (mz := mz) (mi := mi) (mt := mt) (mv := mv) (mp := mp) (md := md) (mc := mc) (mk := mk) (mq := mq) (mr := mr) (su := su) (it := it) (nby := nby) (lt := lt) (pl := pl) (tok := tok) (va := va) (be := be) (wr := wr) (am := am) (td := td) (tf := tf) ) ⟨Nat.le_of_ble_eq_true rfl, Nat.le_of_ble_eq_true rfl⟩ ⟨rfl, rfl⟩ ⟨Nat.zero_le _, Nat.zero_le _⟩ rfl 0 rfl rfl rfl rfl (Nat.le_of_ble_eq_true rfl) [0, 1] [(mo, .inr (6, [.ref ml, .ref mz, .ref mi, .int su, .int (b2 it), .ref mt, .ref mv, .ref mp, .int nby, .int lt, .int pl, .int tok, .int va, .int be, .int wr, .ref md, .ref mc, .int am, .ref mk, .ref mq, .ref mr, .int td])), (mt, .inl (cs 0, 29, .inl tf))] rfl (by decide) (show [mo, mt] = [mo, mt] from rfl) (rfl) dX6_here_1 ?_
  refine V.sts (st' := [.int (allI (tf 0))]) rfl ?_
  refine v_aload_n C 0 dX6_here_4 rfl ?_
  refine v_get C (v := .ref mt) fl_X6_here_19 0 rfl rfl dX6_here_5 ?_
  refine v_iconst C (v := 4) dX6_here_8 (by decide) ?_
  refine v_iald C 1 0 rfl rfl (tf 4) (rfl) (vp_in_nI (n := 4) (N := 29) (by decide) (by decide)) dX6_here_9 ?_
  refine v_iconst C (v := -1) dX6_here_10 (by decide) ?_
  refine v_ixor C dX6_here_11 ?_
  refine v_iand C dX6_here_12 ?_
  exact v_iret C E (rfl) (by first | rfl | (simp [↓reduceIte]; done) | (simp_all [b2]; done)) dX6_here_13
theorem kX6_isPerson : KD yX6_isPerson wsX6_isPerson cX6_isPerson 2 (some .boolean) 1 := ⟨⟨_, rfl⟩, by decide, by decide +kernel, by decide +kernel, by decide +kernel⟩
theorem in_X6_isPerson_X6 : ∀ w ∈ wsX60, w ∈ wsX6_isPerson := by decide +kernel
theorem fl_X6_isPerson_19 : FL RX6 wsX6_isPerson RX6 RX6 TX6 22 6 5 19 := ⟨⟨in_X6_isPerson_X6, rfl, by decide, rfl⟩, by decide +kernel⟩
set_option maxHeartbeats 4000000 in
set_option maxRecDepth 100000 in
theorem c_misPerson (l : Launch) (D : va_G) (cs : Nat → ClassId) {mo : Nat} {ml : Nat} {mz : Nat} {mi : Nat} {mt : Nat} {mv : Nat} {mp : Nat} {md : Nat} {mc : Nat} {mk : Nat} {mq : Nat} {mr : Nat} {su : Int32} {it : Bool} {nby : Int32} {lt : Int32} {pl : Int32} {tok : Int32} {va : Int32} {be : Int32} {wr : Int32} {am : Int32} {td : Int32} {tf : Nat → Int32} {pn : Nat} {x : Int32} (hpe : tf 0 = nI pn) (hpn : pn ≤ 6) : CT l D (tz cs) yX6_isPerson wsX6_isPerson ({ frames := 1, cells := 0, slots := 0, locals := 25 }) [.ref mo, .int x] [(mo, .inr (6, [.ref ml, .ref mz, .ref mi, .int su, .int (b2 it), .ref mt, .ref mv, .ref mp, .int nby, .int lt, .int pl, .int tok, .int va, .int be, .int wr, .ref md, .ref mc, .int am, .ref mk, .ref mq, .ref mr, .int td])), (mt, .inl (cs 0, 29, .inl tf))] (some (.int (b2 (inB (nI pn) x)))) [(mo, .inr (6, [.ref ml, .ref mz, .ref mi, .int su, .int (b2 it), .ref mt, .ref mv, .ref mp, .int nby, .int lt, .int pl, .int tok, .int va, .int be, .int wr, .ref md, .ref mc, .int am, .ref mk, .ref mq, .ref mr, .int td])), (mt, .inl (cs 0, 29, .inl tf))] := by
  refine CT.of kX6_isPerson (Nat.le_of_ble_eq_true rfl) ?_
  intro p e s m below meth c A C E
  have C : VOk p s m _ c cX6_isPerson 2 wsX6_isPerson RX6 D (tz cs) A s.heap := C
  refine V.lvs (lv' := [(0, .ref mo), (1, .int x)]) [0, 1] rfl ?_
  refine v_iload_n C 1 dX6_isPerson_0 rfl ?_
  refine v_i2l C dX6_isPerson_1 ?_
  refine v_lconst C (v := 0) dX6_isPerson_2 (by decide) ?_
  refine v_aload_n C 0 dX6_isPerson_3 rfl ?_
  refine v_get C (v := .ref mt) fl_X6_isPerson_19 0 rfl rfl dX6_isPerson_4 ?_
  refine v_iconst C (v := 0) dX6_isPerson_7 (by decide) ?_
  refine v_iald C 1 0 rfl rfl (tf 0) (rfl) (vp_in_nI (n := 0) (N := 29) (by decide) (by decide)) dX6_isPerson_8 ?_
  refine v_iconst C (v := 1) dX6_isPerson_9 (by decide) ?_
  refine v_isub C dX6_isPerson_10 ?_
  refine v_i2l C dX6_isPerson_11 ?_
  refine v_callS C [.long (Int32.toInt64 x), .long 0, .long (Int32.toInt64 ((tf 0) - 1))] [] kX6_in gX6_isPerson_X6_in (c_inI l D cs (x := x) (a := 0) (b := ((tf 0) - 1)) (lo := 0) (hi := (Int32.toInt64 ((tf 0) - 1))) (by decide) (rfl)) ⟨Nat.le_of_ble_eq_true rfl, Nat.le_of_ble_eq_true rfl⟩ ⟨rfl, rfl⟩ ⟨Nat.zero_le _, Nat.zero_le _⟩ rfl rfl (Nat.le_of_ble_eq_true rfl) [] [(mo, .inr (6, [.ref ml, .ref mz, .ref mi, .int su, .int (b2 it), .ref mt, .ref mv, .ref mp, .int nby, .int lt, .int pl, .int tok, .int va, .int be, .int wr, .ref md, .ref mc, .int am, .ref mk, .ref mq, .ref mr, .int td])), (mt, .inl (cs 0, 29, .inl tf))] rfl (by decide) rfl (rfl) dX6_isPerson_12 ?_
  refine V.sts (st' := [.int (b2 (inI x 0 ((tf 0) - 1)))]) rfl ?_
  exact v_zret C E (rfl) (by rw [hpe, inI_0 (by omega)]) dX6_isPerson_15
theorem kX6_isSet : KD yX6_isSet wsX6_isSet cX6_isSet 2 (some .boolean) 1 := ⟨⟨_, rfl⟩, by decide, by decide +kernel, by decide +kernel, by decide +kernel⟩
set_option maxHeartbeats 4000000 in
set_option maxRecDepth 100000 in
theorem c_misSet (l : Launch) (D : va_G) (cs : Nat → ClassId) {mo : Nat} {ml : Nat} {mz : Nat} {mi : Nat} {mt : Nat} {mv : Nat} {mp : Nat} {md : Nat} {mc : Nat} {mk : Nat} {mq : Nat} {mr : Nat} {su : Int32} {it : Bool} {nby : Int32} {lt : Int32} {pl : Int32} {tok : Int32} {va : Int32} {be : Int32} {wr : Int32} {am : Int32} {td : Int32} {tf : Nat → Int32} {x : Int32} : CT l D (tz cs) yX6_isSet wsX6_isSet ({ frames := 1, cells := 0, slots := 0, locals := 25 }) [.ref mo, .int x] [(mo, .inr (6, [.ref ml, .ref mz, .ref mi, .int su, .int (b2 it), .ref mt, .ref mv, .ref mp, .int nby, .int lt, .int pl, .int tok, .int va, .int be, .int wr, .ref md, .ref mc, .int am, .ref mk, .ref mq, .ref mr, .int td])), (mt, .inl (cs 0, 29, .inl tf))] (some (.int (b2 (setB (tf 0) x)))) [(mo, .inr (6, [.ref ml, .ref mz, .ref mi, .int su, .int (b2 it), .ref mt, .ref mv, .ref mp, .int nby, .int lt, .int pl, .int tok, .int va, .int be, .int wr, .ref md, .ref mc, .int am, .ref mk, .ref mq, .ref mr, .int td])), (mt, .inl (cs 0, 29, .inl tf))] := by
  refine CT.of kX6_isSet (Nat.le_of_ble_eq_true rfl) ?_
  intro p e s m below meth c A C E
  have C : VOk p s m _ c cX6_isSet 2 wsX6_isSet RX6 D (tz cs) A s.heap := C
  refine V.lvs (lv' := [(0, .ref mo), (1, .int x)]) [0, 1] rfl ?_
  refine v_iload_n C 1 dX6_isSet_0 rfl ?_
  refine v_i2l C dX6_isSet_1 ?_
  refine v_lconst C (v := 0) dX6_isSet_2 (by decide) ?_
  refine v_aload_n C 0 dX6_isSet_3 rfl ?_
  refine v_callV (qi := 0) C [] [.long 0, .long (Int32.toInt64 x)] kX6_all gX6_isSet_X6_all (c_mall l D cs (mo := mo) (ml := ml) (mz := mz) (mi := mi) (mt := mt) (mv := mv) (mp := mp) (md := md) (mc := mc) (mk := mk) (mq := mq) (mr := mr) (su := su) (it := it) (nby := nby) (lt := lt) (pl := pl) (tok := tok) (va := va) (be := be) (wr := wr) (am := am) (td := td) (tf := tf) ) ⟨Nat.le_of_ble_eq_true rfl, Nat.le_of_ble_eq_true rfl⟩ ⟨rfl, rfl⟩ ⟨Nat.zero_le _, Nat.zero_le _⟩ rfl 0 rfl rfl rfl rfl (Nat.le_of_ble_eq_true rfl) [0, 1] [(mo, .inr (6, [.ref ml, .ref mz, .ref mi, .int su, .int (b2 it), .ref mt, .ref mv, .ref mp, .int nby, .int lt, .int pl, .int tok, .int va, .int be, .int wr, .ref md, .ref mc, .int am, .ref mk, .ref mq, .ref mr, .int td])), (mt, .inl (cs 0, 29, .inl tf))] rfl (by decide) (show [mo, mt] = [mo, mt] from rfl) (rfl) dX6_isSet_4 ?_
  refine V.sts (st' := [.int (allI (tf 0)), .long 0, .long (Int32.toInt64 x)]) rfl ?_
  refine v_i2l C dX6_isSet_7 ?_
  refine v_callS C [.long (Int32.toInt64 x), .long 0, .long (Int32.toInt64 (allI (tf 0)))] [] kX6_in gX6_isSet_X6_in (c_inI l D cs (x := x) (a := 0) (b := (allI (tf 0))) (lo := 0) (hi := (Int32.toInt64 (allI (tf 0)))) (by decide) (rfl)) ⟨Nat.le_of_ble_eq_true rfl, Nat.le_of_ble_eq_true rfl⟩ ⟨rfl, rfl⟩ ⟨Nat.zero_le _, Nat.zero_le _⟩ rfl rfl (Nat.le_of_ble_eq_true rfl) [] [(mo, .inr (6, [.ref ml, .ref mz, .ref mi, .int su, .int (b2 it), .ref mt, .ref mv, .ref mp, .int nby, .int lt, .int pl, .int tok, .int va, .int be, .int wr, .ref md, .ref mc, .int am, .ref mk, .ref mq, .ref mr, .int td])), (mt, .inl (cs 0, 29, .inl tf))] rfl (by decide) rfl (rfl) dX6_isSet_8 ?_
  refine V.sts (st' := [.int (b2 (inI x 0 (allI (tf 0))))]) rfl ?_
  exact v_zret C E (rfl) (by first | rfl | (simp [↓reduceIte]; done) | (simp_all [b2]; done)) dX6_isSet_11
theorem kX6_isTie : KD yX6_isTie wsX6_isTie cX6_isTie 2 (some .boolean) 1 := ⟨⟨_, rfl⟩, by decide, by decide +kernel, by decide +kernel, by decide +kernel⟩
theorem in_X6_isTie_X6 : ∀ w ∈ wsX60, w ∈ wsX6_isTie := by decide +kernel
theorem fl_X6_isTie_19 : FL RX6 wsX6_isTie RX6 RX6 TX6 22 6 5 19 := ⟨⟨in_X6_isTie_X6, rfl, by decide, rfl⟩, by decide +kernel⟩
set_option maxHeartbeats 4000000 in
set_option maxRecDepth 100000 in
theorem c_misTie (l : Launch) (D : va_G) (cs : Nat → ClassId) {mo : Nat} {ml : Nat} {mz : Nat} {mi : Nat} {mt : Nat} {mv : Nat} {mp : Nat} {md : Nat} {mc : Nat} {mk : Nat} {mq : Nat} {mr : Nat} {su : Int32} {it : Bool} {nby : Int32} {lt : Int32} {pl : Int32} {tok : Int32} {va : Int32} {be : Int32} {wr : Int32} {am : Int32} {td : Int32} {tf : Nat → Int32} {tn : Nat} {x : Int32} (hte : tf 1 = nI tn) (hti : tn ≤ 8) : CT l D (tz cs) yX6_isTie wsX6_isTie ({ frames := 1, cells := 0, slots := 0, locals := 25 }) [.ref mo, .int x] [(mo, .inr (6, [.ref ml, .ref mz, .ref mi, .int su, .int (b2 it), .ref mt, .ref mv, .ref mp, .int nby, .int lt, .int pl, .int tok, .int va, .int be, .int wr, .ref md, .ref mc, .int am, .ref mk, .ref mq, .ref mr, .int td])), (mt, .inl (cs 0, 29, .inl tf))] (some (.int (b2 (inB (nI tn) x)))) [(mo, .inr (6, [.ref ml, .ref mz, .ref mi, .int su, .int (b2 it), .ref mt, .ref mv, .ref mp, .int nby, .int lt, .int pl, .int tok, .int va, .int be, .int wr, .ref md, .ref mc, .int am, .ref mk, .ref mq, .ref mr, .int td])), (mt, .inl (cs 0, 29, .inl tf))] := by
  refine CT.of kX6_isTie (Nat.le_of_ble_eq_true rfl) ?_
  intro p e s m below meth c A C E
  have C : VOk p s m _ c cX6_isTie 2 wsX6_isTie RX6 D (tz cs) A s.heap := C
  refine V.lvs (lv' := [(0, .ref mo), (1, .int x)]) [0, 1] rfl ?_
  refine v_iload_n C 1 dX6_isTie_0 rfl ?_
  refine v_i2l C dX6_isTie_1 ?_
  refine v_lconst C (v := 0) dX6_isTie_2 (by decide) ?_
  refine v_aload_n C 0 dX6_isTie_3 rfl ?_
  refine v_get C (v := .ref mt) fl_X6_isTie_19 0 rfl rfl dX6_isTie_4 ?_
  refine v_iconst C (v := 1) dX6_isTie_7 (by decide) ?_
  refine v_iald C 1 0 rfl rfl (tf 1) (rfl) (vp_in_nI (n := 1) (N := 29) (by decide) (by decide)) dX6_isTie_8 ?_
  refine v_iconst C (v := 1) dX6_isTie_9 (by decide) ?_
  refine v_isub C dX6_isTie_10 ?_
  refine v_i2l C dX6_isTie_11 ?_
  refine v_callS C [.long (Int32.toInt64 x), .long 0, .long (Int32.toInt64 ((tf 1) - 1))] [] kX6_in gX6_isTie_X6_in (c_inI l D cs (x := x) (a := 0) (b := ((tf 1) - 1)) (lo := 0) (hi := (Int32.toInt64 ((tf 1) - 1))) (by decide) (rfl)) ⟨Nat.le_of_ble_eq_true rfl, Nat.le_of_ble_eq_true rfl⟩ ⟨rfl, rfl⟩ ⟨Nat.zero_le _, Nat.zero_le _⟩ rfl rfl (Nat.le_of_ble_eq_true rfl) [] [(mo, .inr (6, [.ref ml, .ref mz, .ref mi, .int su, .int (b2 it), .ref mt, .ref mv, .ref mp, .int nby, .int lt, .int pl, .int tok, .int va, .int be, .int wr, .ref md, .ref mc, .int am, .ref mk, .ref mq, .ref mr, .int td])), (mt, .inl (cs 0, 29, .inl tf))] rfl (by decide) rfl (rfl) dX6_isTie_12 ?_
  refine V.sts (st' := [.int (b2 (inI x 0 ((tf 1) - 1)))]) rfl ?_
  exact v_zret C E (rfl) (by rw [hte, inI_0 (by omega)]) dX6_isTie_15
theorem kX6_countsBy : KD yX6_countsBy wsX6_countsBy cX6_countsBy 8 (some .int) 3 := ⟨⟨_, rfl⟩, by decide, by decide +kernel, by decide +kernel, by decide +kernel⟩
theorem in_X6_countsBy_X6 : ∀ w ∈ wsX60, w ∈ wsX6_countsBy := by decide +kernel
theorem fl_X6_countsBy_19 : FL RX6 wsX6_countsBy RX6 RX6 TX6 22 6 5 19 := ⟨⟨in_X6_countsBy_X6, rfl, by decide, rfl⟩, by decide +kernel⟩
set_option maxHeartbeats 4000000 in
set_option maxRecDepth 100000 in
theorem c_countsBy (l : Launch) (D : va_G) (cs : Nat → ClassId) {mo : Nat} {ml : Nat} {mz : Nat} {mi : Nat} {mt : Nat} {mv : Nat} {mp : Nat} {md : Nat} {mc : Nat} {mk : Nat} {mq : Nat} {mr : Nat} {su : Int32} {it : Bool} {nby : Int32} {lt : Int32} {pl : Int32} {tok : Int32} {va : Int32} {be : Int32} {wr : Int32} {am : Int32} {td : Int32} {tf : Nat → Int32} {t : Nat} {kd : Int32} {th : Int32} (hk : kok kd) (ht : t < 8) (hS : ∀ t, s64 (tf (13 + t))) : CT l D (tz cs) yX6_countsBy wsX6_countsBy ({ frames := 1, cells := 0, slots := 0, locals := 22 }) [.ref mo, .int kd, .int (nI t), .int th] [(mo, .inr (6, [.ref ml, .ref mz, .ref mi, .int su, .int (b2 it), .ref mt, .ref mv, .ref mp, .int nby, .int lt, .int pl, .int tok, .int va, .int be, .int wr, .ref md, .ref mc, .int am, .ref mk, .ref mq, .ref mr, .int td])), (mt, .inl (cs 0, 29, .inl tf))] (some (.int (cnt kd (tf (13 + t)) (tf (21 + t)) th))) [(mo, .inr (6, [.ref ml, .ref mz, .ref mi, .int su, .int (b2 it), .ref mt, .ref mv, .ref mp, .int nby, .int lt, .int pl, .int tok, .int va, .int be, .int wr, .ref md, .ref mc, .int am, .ref mk, .ref mq, .ref mr, .int td])), (mt, .inl (cs 0, 29, .inl tf))] := by
  refine CT.of kX6_countsBy (Nat.le_of_ble_eq_true rfl) ?_
  intro p e s m below meth c A C E
  have C : VOk p s m _ c cX6_countsBy 8 wsX6_countsBy RX6 D (tz cs) A s.heap := C
  refine V.lvs (lv' := [(0, .ref mo), (1, .int kd), (2, .int (nI t)), (3, .int th)]) [0, 1, 2, 3] rfl ?_
  refine v_aload_n C 0 dX6_countsBy_0 rfl ?_
  refine v_get C (v := .ref mt) fl_X6_countsBy_19 0 rfl rfl dX6_countsBy_1 ?_
  refine v_bipush C (v := 13) dX6_countsBy_4 (by decide) ?_
  refine v_iload_n C 2 dX6_countsBy_6 rfl ?_
  refine v_iadd C dX6_countsBy_7 ?_
  refine V.topr (y := nI (13 + t)) (nI_add 13 t) ?_
  refine v_iald C 1 0 rfl rfl (tf (13 + t)) (by rw [nI_clamp (by omega)]) (vp_in_nI (by omega) (by decide)) dX6_countsBy_8 ?_
  refine v_istore C [(0, .ref mo), (1, .int kd), (2, .int (nI t)), (3, .int th), (4, .int (tf (13 + t)))] [1, 2, 3, 4, 0] dX6_countsBy_9 (by decide) rfl ?_
  refine v_aload_n C 0 dX6_countsBy_11 rfl ?_
  refine v_get C (v := .ref mt) fl_X6_countsBy_19 0 rfl rfl dX6_countsBy_12 ?_
  refine v_bipush C (v := 21) dX6_countsBy_15 (by decide) ?_
  refine v_iload_n C 2 dX6_countsBy_17 rfl ?_
  refine v_iadd C dX6_countsBy_18 ?_
  refine V.topr (y := nI (21 + t)) (nI_add 21 t) ?_
  refine v_iald C 1 0 rfl rfl (tf (21 + t)) (by rw [nI_clamp (by omega)]) (vp_in_nI (by omega) (by omega)) dX6_countsBy_19 ?_
  refine v_istore C [(0, .ref mo), (1, .int kd), (2, .int (nI t)), (3, .int th), (4, .int (tf (13 + t))), (5, .int (tf (21 + t)))] [1, 2, 3, 4, 5, 0] dX6_countsBy_20 (by decide) rfl ?_
  refine v_iload C 4 dX6_countsBy_22 rfl ?_
  refine v_iload_n C 3 dX6_countsBy_24 rfl ?_
  refine v_iand C dX6_countsBy_25 ?_
  refine v_callS C [.int ((tf (13 + t)) &&& th)] [] kX6_ones gX6_countsBy_X6_ones (c_ones l D cs (x := ((tf (13 + t)) &&& th)) (s64_and (hS t))) ⟨Nat.le_of_ble_eq_true rfl, Nat.le_of_ble_eq_true rfl⟩ ⟨rfl, rfl⟩ ⟨Nat.zero_le _, Nat.zero_le _⟩ rfl rfl (Nat.le_of_ble_eq_true rfl) [] [(mo, .inr (6, [.ref ml, .ref mz, .ref mi, .int su, .int (b2 it), .ref mt, .ref mv, .ref mp, .int nby, .int lt, .int pl, .int tok, .int va, .int be, .int wr, .ref md, .ref mc, .int am, .ref mk, .ref mq, .ref mr, .int td])), (mt, .inl (cs 0, 29, .inl tf))] rfl (by decide) rfl (rfl) dX6_countsBy_26 ?_
  refine V.sts (st' := [.int (pcI ((tf (13 + t)) &&& th))]) rfl ?_
  refine v_istore C [(0, .ref mo), (1, .int kd), (2, .int (nI t)), (3, .int th), (4, .int (tf (13 + t))), (5, .int (tf (21 + t))), (6, .int (pcI ((tf (13 + t)) &&& th)))] [1, 2, 3, 4, 5, 6, 0] dX6_countsBy_29 (by decide) rfl ?_
  refine v_iload_n C 1 dX6_countsBy_31 rfl ?_
  refine v_iconst C (v := 3) dX6_countsBy_32 (by decide) ?_
  refine v_icmp_ne C 54 dX6_countsBy_33 (by decide) (fun c1 => ?_) (fun c1 => ?_)
  · skip
    refine v_iload_n C 1 dX6_countsBy_54 rfl ?_
    refine v_iconst C (v := 4) dX6_countsBy_55 (by decide) ?_
    refine v_icmp_eq C 64 dX6_countsBy_56 (by decide) (fun c2 => ?_) (fun c2 => ?_)
    · skip
      refine v_iload C 6 dX6_countsBy_64 rfl ?_
      refine v_if_le C 73 dX6_countsBy_66 (by decide) (fun c3 => ?_) (fun c3 => ?_)
      · skip
        refine v_iconst C (v := 0) dX6_countsBy_73 (by decide) ?_
        refine v_iload_n C 1 dX6_countsBy_74 rfl ?_
        refine v_iconst C (v := 4) dX6_countsBy_75 (by decide) ?_
        refine v_icmp_ne C 83 dX6_countsBy_76 (by decide) (fun c4 => ?_) (fun c4 => ?_)
        · exact absurd c2 c4
        · skip
          refine v_iconst C (v := 1) dX6_countsBy_79 (by decide) ?_
          refine v_goto C 84 dX6_countsBy_80 (by decide) ?_
          refine v_icmp_ne C 92 dX6_countsBy_84 (by decide) (fun c5 => ?_) (fun c5 => ?_)
          · skip
            refine v_iconst C (v := 0) dX6_countsBy_92 (by decide) ?_
            exact v_iret C E (rfl) (by rcases hk with h9 | h9 | h9 | h9 | h9 <;> subst h9 <;> first | (exfalso; simp_all; done) | (simp only [cnt_all, cnt_qua, cnt_more (hS t), cnt_any (hS t), cnt_nob (hS t), c1, c2, c3, Int32.not_lt.mpr c3, c4, c5, ↓reduceIte]; done) | (simp [cnt_all, cnt_qua, cnt_more (hS t), cnt_any (hS t), cnt_nob (hS t), c1, c2, c3, Int32.not_lt.mpr c3, c4, c5]; done)) dX6_countsBy_93
          · exact absurd c5 (by decide)
      · skip
        refine v_iconst C (v := 1) dX6_countsBy_69 (by decide) ?_
        refine v_goto C 74 dX6_countsBy_70 (by decide) ?_
        refine v_iload_n C 1 dX6_countsBy_74 rfl ?_
        refine v_iconst C (v := 4) dX6_countsBy_75 (by decide) ?_
        refine v_icmp_ne C 83 dX6_countsBy_76 (by decide) (fun c6 => ?_) (fun c6 => ?_)
        · exact absurd c2 c6
        · skip
          refine v_iconst C (v := 1) dX6_countsBy_79 (by decide) ?_
          refine v_goto C 84 dX6_countsBy_80 (by decide) ?_
          refine v_icmp_ne C 92 dX6_countsBy_84 (by decide) (fun c7 => ?_) (fun c7 => ?_)
          · exact absurd c7 (by decide)
          · skip
            refine v_iload C 5 dX6_countsBy_87 rfl ?_
            refine v_goto C 93 dX6_countsBy_89 (by decide) ?_
            exact v_iret C E (rfl) (by rcases hk with h9 | h9 | h9 | h9 | h9 <;> subst h9 <;> first | (exfalso; simp_all; done) | (simp only [cnt_all, cnt_qua, cnt_more (hS t), cnt_any (hS t), cnt_nob (hS t), c1, c2, c3, Int32.not_le.mp c3, c6, c7, ↓reduceIte]; done) | (simp [cnt_all, cnt_qua, cnt_more (hS t), cnt_any (hS t), cnt_nob (hS t), c1, c2, c3, Int32.not_le.mp c3, c6, c7]; done)) dX6_countsBy_93
    · skip
      refine v_iload_n C 1 dX6_countsBy_59 rfl ?_
      refine v_iconst C (v := 5) dX6_countsBy_60 (by decide) ?_
      refine v_icmp_ne C 94 dX6_countsBy_61 (by decide) (fun c8 => ?_) (fun c8 => ?_)
      · skip
        refine v_iload C 4 dX6_countsBy_94 rfl ?_
        refine v_iload_n C 3 dX6_countsBy_96 rfl ?_
        refine v_iconst C (v := -1) dX6_countsBy_97 (by decide) ?_
        refine v_ixor C dX6_countsBy_98 ?_
        refine v_iand C dX6_countsBy_99 ?_
        refine v_if_ne C 107 dX6_countsBy_100 (by decide) (fun c9 => ?_) (fun c9 => ?_)
        · skip
          refine v_iconst C (v := 0) dX6_countsBy_107 (by decide) ?_
          refine v_istore C [(0, .ref mo), (1, .int kd), (2, .int (nI t)), (3, .int th), (4, .int (tf (13 + t))), (5, .int (tf (21 + t))), (6, .int (pcI ((tf (13 + t)) &&& th))), (7, .int 0)] [1, 2, 3, 4, 5, 6, 7, 0] dX6_countsBy_108 (by decide) rfl ?_
          refine v_iload C 7 dX6_countsBy_110 rfl ?_
          refine v_if_ne C 119 dX6_countsBy_112 (by decide) (fun c10 => ?_) (fun c10 => ?_)
          · exact absurd c10 (by decide)
          · skip
            refine v_iconst C (v := 0) dX6_countsBy_115 (by decide) ?_
            refine v_goto C 132 dX6_countsBy_116 (by decide) ?_
            exact v_iret C E (rfl) (by rcases hk with h9 | h9 | h9 | h9 | h9 <;> subst h9 <;> first | (exfalso; simp_all; done) | (simp only [cnt_all, cnt_qua, cnt_more (hS t), cnt_any (hS t), cnt_nob (hS t), c1, c2, c8, c9, c10, ↓reduceIte]; done) | (simp [cnt_all, cnt_qua, cnt_more (hS t), cnt_any (hS t), cnt_nob (hS t), c1, c2, c8, c9, c10]; done)) dX6_countsBy_132
        · skip
          refine v_iconst C (v := 1) dX6_countsBy_103 (by decide) ?_
          refine v_goto C 108 dX6_countsBy_104 (by decide) ?_
          refine v_istore C [(0, .ref mo), (1, .int kd), (2, .int (nI t)), (3, .int th), (4, .int (tf (13 + t))), (5, .int (tf (21 + t))), (6, .int (pcI ((tf (13 + t)) &&& th))), (7, .int 1)] [1, 2, 3, 4, 5, 6, 7, 0] dX6_countsBy_108 (by decide) rfl ?_
          refine v_iload C 7 dX6_countsBy_110 rfl ?_
          refine v_if_ne C 119 dX6_countsBy_112 (by decide) (fun c11 => ?_) (fun c11 => ?_)
          · skip
            refine v_iload_n C 1 dX6_countsBy_119 rfl ?_
            refine v_iconst C (v := 1) dX6_countsBy_120 (by decide) ?_
            refine v_icmp_ne C 129 dX6_countsBy_121 (by decide) (fun c12 => ?_) (fun c12 => ?_)
            · skip
              refine v_iload C 5 dX6_countsBy_129 rfl ?_
              refine v_ineg C dX6_countsBy_131 ?_
              exact v_iret C E (rfl) (by rcases hk with h9 | h9 | h9 | h9 | h9 <;> subst h9 <;> first | (exfalso; simp_all; done) | (simp only [cnt_all, cnt_qua, cnt_more (hS t), cnt_any (hS t), cnt_nob (hS t), c1, c2, c8, c9, c11, c12, ↓reduceIte]; done) | (simp [cnt_all, cnt_qua, cnt_more (hS t), cnt_any (hS t), cnt_nob (hS t), c1, c2, c8, c9, c11, c12]; done)) dX6_countsBy_132
            · skip
              refine v_iload C 5 dX6_countsBy_124 rfl ?_
              refine v_goto C 132 dX6_countsBy_126 (by decide) ?_
              exact v_iret C E (rfl) (by rcases hk with h9 | h9 | h9 | h9 | h9 <;> subst h9 <;> first | (exfalso; simp_all; done) | (simp only [cnt_all, cnt_qua, cnt_more (hS t), cnt_any (hS t), cnt_nob (hS t), c1, c2, c8, c9, c11, c12, ↓reduceIte]; done) | (simp [cnt_all, cnt_qua, cnt_more (hS t), cnt_any (hS t), cnt_nob (hS t), c1, c2, c8, c9, c11, c12]; done)) dX6_countsBy_132
          · exact absurd c11 (by decide)
      · skip
        refine v_iload C 6 dX6_countsBy_64 rfl ?_
        refine v_if_le C 73 dX6_countsBy_66 (by decide) (fun c13 => ?_) (fun c13 => ?_)
        · skip
          refine v_iconst C (v := 0) dX6_countsBy_73 (by decide) ?_
          refine v_iload_n C 1 dX6_countsBy_74 rfl ?_
          refine v_iconst C (v := 4) dX6_countsBy_75 (by decide) ?_
          refine v_icmp_ne C 83 dX6_countsBy_76 (by decide) (fun c14 => ?_) (fun c14 => ?_)
          · skip
            refine v_iconst C (v := 0) dX6_countsBy_83 (by decide) ?_
            refine v_icmp_ne C 92 dX6_countsBy_84 (by decide) (fun c15 => ?_) (fun c15 => ?_)
            · exact absurd c15 (by decide)
            · skip
              refine v_iload C 5 dX6_countsBy_87 rfl ?_
              refine v_goto C 93 dX6_countsBy_89 (by decide) ?_
              exact v_iret C E (rfl) (by rcases hk with h9 | h9 | h9 | h9 | h9 <;> subst h9 <;> first | (exfalso; simp_all; done) | (simp only [cnt_all, cnt_qua, cnt_more (hS t), cnt_any (hS t), cnt_nob (hS t), c1, c2, c8, c13, Int32.not_lt.mpr c13, c14, c15, ↓reduceIte]; done) | (simp [cnt_all, cnt_qua, cnt_more (hS t), cnt_any (hS t), cnt_nob (hS t), c1, c2, c8, c13, Int32.not_lt.mpr c13, c14, c15]; done)) dX6_countsBy_93
          · exact absurd c14 c2
        · skip
          refine v_iconst C (v := 1) dX6_countsBy_69 (by decide) ?_
          refine v_goto C 74 dX6_countsBy_70 (by decide) ?_
          refine v_iload_n C 1 dX6_countsBy_74 rfl ?_
          refine v_iconst C (v := 4) dX6_countsBy_75 (by decide) ?_
          refine v_icmp_ne C 83 dX6_countsBy_76 (by decide) (fun c16 => ?_) (fun c16 => ?_)
          · skip
            refine v_iconst C (v := 0) dX6_countsBy_83 (by decide) ?_
            refine v_icmp_ne C 92 dX6_countsBy_84 (by decide) (fun c17 => ?_) (fun c17 => ?_)
            · skip
              refine v_iconst C (v := 0) dX6_countsBy_92 (by decide) ?_
              exact v_iret C E (rfl) (by rcases hk with h9 | h9 | h9 | h9 | h9 <;> subst h9 <;> first | (exfalso; simp_all; done) | (simp only [cnt_all, cnt_qua, cnt_more (hS t), cnt_any (hS t), cnt_nob (hS t), c1, c2, c8, c13, Int32.not_le.mp c13, c16, c17, ↓reduceIte]; done) | (simp [cnt_all, cnt_qua, cnt_more (hS t), cnt_any (hS t), cnt_nob (hS t), c1, c2, c8, c13, Int32.not_le.mp c13, c16, c17]; done)) dX6_countsBy_93
            · exact absurd c17 (by decide)
          · exact absurd c16 c2
  · skip
    refine v_iload C 6 dX6_countsBy_36 rfl ?_
    refine v_iconst C (v := 1) dX6_countsBy_38 (by decide) ?_
    refine v_icmp_le C 52 dX6_countsBy_39 (by decide) (fun c18 => ?_) (fun c18 => ?_)
    · skip
      refine v_iconst C (v := 0) dX6_countsBy_52 (by decide) ?_
      exact v_iret C E (rfl) (by rcases hk with h9 | h9 | h9 | h9 | h9 <;> subst h9 <;> first | (exfalso; simp_all; done) | (simp only [cnt_all, cnt_qua, cnt_more (hS t), cnt_any (hS t), cnt_nob (hS t), c1, c18, Int32.not_lt.mpr c18, ↓reduceIte]; done) | (simp [cnt_all, cnt_qua, cnt_more (hS t), cnt_any (hS t), cnt_nob (hS t), c1, c18, Int32.not_lt.mpr c18]; done)) dX6_countsBy_53
    · skip
      refine v_iload C 6 dX6_countsBy_42 rfl ?_
      refine v_iconst C (v := 1) dX6_countsBy_44 (by decide) ?_
      refine v_isub C dX6_countsBy_45 ?_
      refine v_iload C 5 dX6_countsBy_46 rfl ?_
      refine v_imul C dX6_countsBy_48 ?_
      refine v_goto C 53 dX6_countsBy_49 (by decide) ?_
      exact v_iret C E (rfl) (by rcases hk with h9 | h9 | h9 | h9 | h9 <;> subst h9 <;> first | (exfalso; simp_all; done) | (simp only [cnt_all, cnt_qua, cnt_more (hS t), cnt_any (hS t), cnt_nob (hS t), c1, c18, Int32.not_le.mp c18, ↓reduceIte]; done) | (simp [cnt_all, cnt_qua, cnt_more (hS t), cnt_any (hS t), cnt_nob (hS t), c1, c18, Int32.not_le.mp c18]; done)) dX6_countsBy_53
theorem kX6_worthOf : KD yX6_worthOf wsX6_worthOf cX6_worthOf 4 (some .int) 1 := ⟨⟨_, rfl⟩, by decide, by decide +kernel, by decide +kernel, by decide +kernel⟩
theorem in_X6_worthOf_X6 : ∀ w ∈ wsX60, w ∈ wsX6_worthOf := by decide +kernel
theorem fl_X6_worthOf_19 : FL RX6 wsX6_worthOf RX6 RX6 TX6 22 6 5 19 := ⟨⟨in_X6_worthOf_X6, rfl, by decide, rfl⟩, by decide +kernel⟩
set_option maxHeartbeats 4000000 in
set_option maxRecDepth 100000 in
theorem c_mworthOf (l : Launch) (D : va_G) (cs : Nat → ClassId) {mo : Nat} {ml : Nat} {mz : Nat} {mi : Nat} {mt : Nat} {mv : Nat} {mp : Nat} {md : Nat} {mc : Nat} {mk : Nat} {mq : Nat} {mr : Nat} {su : Int32} {it : Bool} {nby : Int32} {lt : Int32} {pl : Int32} {tok : Int32} {va : Int32} {be : Int32} {wr : Int32} {am : Int32} {td : Int32} {tf : Nat → Int32} {tn : Nat} {th : Int32} (hte : tf 1 = nI tn) (hti : tn ≤ 8) (hS : ∀ t, s64 (tf (13 + t))) (hK : ∀ t, t < tn → kok (tf (5 + t))) : CT l D (tz cs) yX6_worthOf wsX6_worthOf ({ frames := 2, cells := 0, slots := 0, locals := 49 }) [.ref mo, .int th] [(mo, .inr (6, [.ref ml, .ref mz, .ref mi, .int su, .int (b2 it), .ref mt, .ref mv, .ref mp, .int nby, .int lt, .int pl, .int tok, .int va, .int be, .int wr, .ref md, .ref mc, .int am, .ref mk, .ref mq, .ref mr, .int td])), (mt, .inl (cs 0, 29, .inl tf))] (some (.int (wsum (kS tf) (sS tf) (wS tf) th tn))) [(mo, .inr (6, [.ref ml, .ref mz, .ref mi, .int su, .int (b2 it), .ref mt, .ref mv, .ref mp, .int nby, .int lt, .int pl, .int tok, .int va, .int be, .int wr, .ref md, .ref mc, .int am, .ref mk, .ref mq, .ref mr, .int td])), (mt, .inl (cs 0, 29, .inl tf))] := by
  refine CT.of kX6_worthOf (Nat.le_of_ble_eq_true rfl) ?_
  intro p e s m below meth c A C E
  have C : VOk p s m _ c cX6_worthOf 4 wsX6_worthOf RX6 D (tz cs) A s.heap := C
  refine V.lvs (lv' := [(0, .ref mo), (1, .int th)]) [0, 1] rfl ?_
  refine v_iconst C (v := 0) dX6_worthOf_0 (by decide) ?_
  refine v_istore_n C [(0, .ref mo), (1, .int th), (2, .int 0)] [1, 2, 0] dX6_worthOf_1 (by decide) rfl ?_
  refine v_iconst C (v := 0) dX6_worthOf_2 (by decide) ?_
  refine v_istore_n C [(0, .ref mo), (1, .int th), (2, .int 0), (3, .int 0)] [1, 2, 3, 0] dX6_worthOf_3 (by decide) rfl ?_
  have L4 : ∀ (n : Nat) (i : Nat) (y0 : Int32) (y1 : Int32), y0 = (wsum (kS tf) (sS tf) (wS tf) th i) → y1 = (nI i) → (i ≤ tn) → (tn - i) < n → V p l e ({ frames := 2, cells := 0, slots := 0, locals := 49 }) s m (List.toArray [.ref mo, .int th]) below meth c 0 0 (MQ below (vq_Q (some (.int (wsum (kS tf) (sS tf) (wS tf) th tn))) D [(mo, .inr (6, [.ref ml, .ref mz, .ref mi, .int su, .int (b2 it), .ref mt, .ref mv, .ref mp, .int nby, .int lt, .int pl, .int tok, .int va, .int be, .int wr, .ref md, .ref mc, .int am, .ref mk, .ref mq, .ref mr, .int td])), (mt, .inl (cs 0, 29, .inl tf))] [(mo, .inr (6, [.ref ml, .ref mz, .ref mi, .int su, .int (b2 it), .ref mt, .ref mv, .ref mp, .int nby, .int lt, .int pl, .int tok, .int va, .int be, .int wr, .ref md, .ref mc, .int am, .ref mk, .ref mq, .ref mr, .int td])), (mt, .inl (cs 0, 29, .inl tf))] s.heap.size) (List.toArray [.ref mo, .int th]) s 0 0 (va_A [(mo, .inr (6, [.ref ml, .ref mz, .ref mi, .int su, .int (b2 it), .ref mt, .ref mv, .ref mp, .int nby, .int lt, .int pl, .int tok, .int va, .int be, .int wr, .ref md, .ref mc, .int am, .ref mk, .ref mq, .ref mr, .int td])), (mt, .inl (cs 0, 29, .inl tf))] s.heap.size)) 4 D A s.heap 4 [(0, .ref mo), (1, .int th), (2, .int y0), (3, .int y1)] [] [(mo, .inr (6, [.ref ml, .ref mz, .ref mi, .int su, .int (b2 it), .ref mt, .ref mv, .ref mp, .int nby, .int lt, .int pl, .int tok, .int va, .int be, .int wr, .ref md, .ref mc, .int am, .ref mk, .ref mq, .ref mr, .int td])), (mt, .inl (cs 0, 29, .inl tf))] := by
    intro n
    induction n with
    | zero =>
      intros; omega
    | succ n ih4 =>
      intro i y0 y1 ey0 ey1 hi hn
      subst ey0
      subst ey1
      refine v_iload_n C 3 dX6_worthOf_4 rfl ?_
      refine v_aload_n C 0 dX6_worthOf_5 rfl ?_
      refine v_get C (v := .ref mt) fl_X6_worthOf_19 0 rfl rfl dX6_worthOf_6 ?_
      refine v_iconst C (v := 1) dX6_worthOf_9 (by decide) ?_
      refine v_iald C 1 0 rfl rfl (tf 1) (rfl) (vp_in_nI (n := 1) (N := 29) (by decide) (by decide)) dX6_worthOf_10 ?_
      refine v_icmp_ge C 37 dX6_worthOf_11 (by decide) (fun c1 => ?_) (fun c1 => ?_)
      · skip
        have hge : tn ≤ i := le_nI (by rw [← hte]; exact c1) (by omega) (by omega)
        refine v_iload_n C 2 dX6_worthOf_37 rfl ?_
        exact v_iret C E (rfl) (by rw [show i = tn by omega]) dX6_worthOf_38
      · skip
        have hlt : i < tn := nle_nI (by rw [← hte]; exact c1) (by omega) (by omega)
        refine v_iload_n C 2 dX6_worthOf_14 rfl ?_
        refine v_aload_n C 0 dX6_worthOf_15 rfl ?_
        refine v_aload_n C 0 dX6_worthOf_16 rfl ?_
        refine v_get C (v := .ref mt) fl_X6_worthOf_19 0 rfl rfl dX6_worthOf_17 ?_
        refine v_iconst C (v := 5) dX6_worthOf_20 (by decide) ?_
        refine v_iload_n C 3 dX6_worthOf_21 rfl ?_
        refine v_iadd C dX6_worthOf_22 ?_
        refine V.topr (y := nI (5 + i)) (nI_add 5 i) ?_
        refine v_iald C 1 0 rfl rfl (tf (5 + i)) (by rw [nI_clamp (by omega)]) (vp_in_nI (by omega) (by omega)) dX6_worthOf_23 ?_
        refine v_iload_n C 3 dX6_worthOf_24 rfl ?_
        refine v_iload_n C 1 dX6_worthOf_25 rfl ?_
        refine v_callV (qi := 0) C [.int (tf (5 + i)), .int (nI i), .int th] [.int (wsum (kS tf) (sS tf) (wS tf) th i)] kX6_countsBy gX6_worthOf_X6_countsBy (c_countsBy l D cs (mo := mo) (ml := ml) (mz := mz) (mi := mi) (mt := mt) (mv := mv) (mp := mp) (md := md) (mc := mc) (mk := mk) (mq := mq) (mr := mr) (su := su) (it := it) (nby := nby) (lt := lt) (pl := pl) (tok := tok) (va := va) (be := be) (wr := wr) (am := am) (td := td) (tf := tf) (t := i) (kd := tf (5 + i)) (th := th) (hK i hlt) (by first | assumption | omega) (by first | assumption | omega)) ⟨Nat.le_of_ble_eq_true rfl, Nat.le_of_ble_eq_true rfl⟩ ⟨rfl, rfl⟩ ⟨Nat.zero_le _, Nat.zero_le _⟩ rfl 0 rfl rfl rfl rfl (Nat.le_of_ble_eq_true rfl) [0, 1] [(mo, .inr (6, [.ref ml, .ref mz, .ref mi, .int su, .int (b2 it), .ref mt, .ref mv, .ref mp, .int nby, .int lt, .int pl, .int tok, .int va, .int be, .int wr, .ref md, .ref mc, .int am, .ref mk, .ref mq, .ref mr, .int td])), (mt, .inl (cs 0, 29, .inl tf))] rfl (by decide) (show [mo, mt] = [mo, mt] from rfl) (rfl) dX6_worthOf_26 ?_
        refine V.sts (st' := [.int (cnt (tf (5 + i)) (tf (13 + i)) (tf (21 + i)) th), .int (wsum (kS tf) (sS tf) (wS tf) th i)]) rfl ?_
        refine v_iadd C dX6_worthOf_29 ?_
        refine v_istore_n C [(0, .ref mo), (1, .int th), (2, .int ((wsum (kS tf) (sS tf) (wS tf) th i) + (cnt (tf (5 + i)) (tf (13 + i)) (tf (21 + i)) th))), (3, .int (nI i))] [1, 2, 0, 3] dX6_worthOf_30 (by decide) rfl ?_
        refine v_iinc C (k := 3) (nI (i + 1)) [(0, .ref mo), (1, .int th), (2, .int ((wsum (kS tf) (sS tf) (wS tf) th i) + (cnt (tf (5 + i)) (tf (13 + i)) (tf (21 + i)) th))), (3, .int (nI (i + 1)))] [1, 2, 3, 0] dX6_worthOf_31 rfl (nI_inc _) (by decide) rfl ?_
        refine v_goto C 4 dX6_worthOf_34 (by decide) ?_
        exact ih4 (i + 1) _ _ (rfl) (rfl) (by first | assumption | omega) (by omega)
  exact L4 _ 0 _ _ (rfl) (rfl) (by first | assumption | omega) (Nat.lt_succ_self _)
