theorem kX5_aboveOf : KD yX5_aboveOf wsX5_aboveOf cX5_aboveOf 1 (some .int) 1 := ⟨⟨_, rfl⟩, by decide, by decide +kernel, by decide +kernel, by decide +kernel⟩
set_option maxHeartbeats 4000000 in
set_option maxRecDepth 100000 in
theorem c_aboveOf (l : Launch) (D : va_G) (cs : Nat → ClassId) {x : Int32} : CT l D (tz cs) yX5_aboveOf wsX5_aboveOf ({ frames := 0, cells := 0, slots := 0, locals := 0 }) [.int x] [] (some (.int (abvI x))) [] := by
  refine CT.of kX5_aboveOf (Nat.le_of_ble_eq_true rfl) ?_
  intro p e s m below meth c A C E
  have C : VOk p s m _ c cX5_aboveOf 1 wsX5_aboveOf RX5 D (tz cs) A s.heap := C
  refine V.lvs (lv' := [(0, .int x)]) [0] rfl ?_
  refine v_iload_n C 0 dX5_aboveOf_0 rfl ?_
  rcases Decidable.em (x = 2) with z1 | z1
  · skip
    refine v_tableIn C 32 dX5_aboveOf_1 (by rw [z1]; decide) (by rw [z1]; decide) (by rw [z1]; rfl) (by decide) ?_
    refine v_iconst C (v := 1) dX5_aboveOf_32 (by decide) ?_
    exact v_iret C E (rfl) (by first | rfl | (simp [abvI, z1, ↓reduceIte]; done) | (simp_all [abvI]; done)) dX5_aboveOf_33
  · skip
    rcases Decidable.em (x = 3) with z2 | z2
    · skip
      refine v_tableIn C 32 dX5_aboveOf_1 (by rw [z2]; decide) (by rw [z2]; decide) (by rw [z2]; rfl) (by decide) ?_
      refine v_iconst C (v := 1) dX5_aboveOf_32 (by decide) ?_
      exact v_iret C E (rfl) (by first | rfl | (simp [abvI, z1, z2, ↓reduceIte]; done) | (simp_all [abvI]; done)) dX5_aboveOf_33
    · skip
      rcases Decidable.em (x = 4) with z3 | z3
      · skip
        refine v_tableIn C 36 dX5_aboveOf_1 (by rw [z3]; decide) (by rw [z3]; decide) (by rw [z3]; rfl) (by decide) ?_
        refine v_iconst C (v := 0) dX5_aboveOf_36 (by decide) ?_
        exact v_iret C E (rfl) (by first | rfl | (simp [abvI, z1, z2, z3, ↓reduceIte]; done) | (simp_all [abvI]; done)) dX5_aboveOf_37
      · skip
        rcases Decidable.em (x = 5) with z4 | z4
        · skip
          refine v_tableIn C 34 dX5_aboveOf_1 (by rw [z4]; decide) (by rw [z4]; decide) (by rw [z4]; rfl) (by decide) ?_
          refine v_iconst C (v := 4) dX5_aboveOf_34 (by decide) ?_
          exact v_iret C E (rfl) (by first | rfl | (simp [abvI, z1, z2, z3, z4, ↓reduceIte]; done) | (simp_all [abvI]; done)) dX5_aboveOf_35
        · skip
          have tz1 : ¬ Int32.toInt x = 2 := lv_neT z1 (by rfl)
          have tz2 : ¬ Int32.toInt x = 3 := lv_neT z2 (by rfl)
          have tz3 : ¬ Int32.toInt x = 4 := lv_neT z3 (by rfl)
          have tz4 : ¬ Int32.toInt x = 5 := lv_neT z4 (by rfl)
          refine v_tableOut C 36 dX5_aboveOf_1 (by omega) (by decide) ?_
          refine v_iconst C (v := 0) dX5_aboveOf_36 (by decide) ?_
          exact v_iret C E (rfl) (by first | rfl | (simp [abvI, z1, z2, z3, z4, ↓reduceIte]; done) | (simp_all [abvI]; done)) dX5_aboveOf_37
theorem kX5_isA : KD yX5_isA wsX5_isA cX5_isA 2 (some .boolean) 2 := ⟨⟨_, rfl⟩, by decide, by decide +kernel, by decide +kernel, by decide +kernel⟩
set_option maxHeartbeats 4000000 in
set_option maxRecDepth 100000 in
theorem c_isA (l : Launch) (D : va_G) (cs : Nat → ClassId) {x : Int32} {k : Int32} : CT l D (tz cs) yX5_isA wsX5_isA ({ frames := 1, cells := 0, slots := 0, locals := 20 }) [.int x, .int k] [] (some (.int (b2 (isAB x k)))) [] := by
  refine CT.of kX5_isA (Nat.le_of_ble_eq_true rfl) ?_
  intro p e s m below meth c A C E
  have C : VOk p s m _ c cX5_isA 2 wsX5_isA RX5 D (tz cs) A s.heap := C
  refine V.lvs (lv' := [(0, .int x), (1, .int k)]) [0, 1] rfl ?_
  refine v_iload_n C 1 dX5_isA_0 rfl ?_
  refine v_iload_n C 0 dX5_isA_1 rfl ?_
  refine v_icmp_eq C 17 dX5_isA_2 (by decide) (fun c1 => ?_) (fun c1 => ?_)
  · skip
    refine v_iconst C (v := 1) dX5_isA_17 (by decide) ?_
    refine v_goto C 22 dX5_isA_18 (by decide) ?_
    exact v_zret C E (rfl) (by first | rfl | (simp [isAB, b2, c1, ↓reduceIte]; done) | (simp_all [isAB, b2]; done)) dX5_isA_22
  · skip
    refine v_iload_n C 1 dX5_isA_5 rfl ?_
    refine v_if_eq C 17 dX5_isA_6 (by decide) (fun c2 => ?_) (fun c2 => ?_)
    · skip
      refine v_iconst C (v := 1) dX5_isA_17 (by decide) ?_
      refine v_goto C 22 dX5_isA_18 (by decide) ?_
      exact v_zret C E (rfl) (by first | rfl | (simp [isAB, b2, c1, c2, ↓reduceIte]; done) | (simp_all [isAB, b2]; done)) dX5_isA_22
    · skip
      refine v_iload_n C 1 dX5_isA_9 rfl ?_
      refine v_iload_n C 0 dX5_isA_10 rfl ?_
      refine v_callS C [.int x] [.int k] kX5_aboveOf gX5_isA_X5_aboveOf (c_aboveOf l D cs (x := x) ) ⟨Nat.le_of_ble_eq_true rfl, Nat.le_of_ble_eq_true rfl⟩ ⟨rfl, rfl⟩ ⟨Nat.zero_le _, Nat.zero_le _⟩ rfl rfl (Nat.le_of_ble_eq_true rfl) [] [] rfl (by decide) rfl (rfl) dX5_isA_11 ?_
      refine V.sts (st' := [.int (abvI x), .int k]) rfl ?_
      refine v_icmp_ne C 21 dX5_isA_14 (by decide) (fun c3 => ?_) (fun c3 => ?_)
      · skip
        refine v_iconst C (v := 0) dX5_isA_21 (by decide) ?_
        exact v_zret C E (rfl) (by first | rfl | (simp [isAB, b2, c1, c2, c3, ↓reduceIte]; done) | (simp_all [isAB, b2]; done)) dX5_isA_22
      · skip
        refine v_iconst C (v := 1) dX5_isA_17 (by decide) ?_
        refine v_goto C 22 dX5_isA_18 (by decide) ?_
        exact v_zret C E (rfl) (by first | rfl | (simp [isAB, b2, c1, c2, c3, ↓reduceIte]; done) | (simp_all [isAB, b2]; done)) dX5_isA_22
theorem kX5_factorial : KD yX5_factorial wsX5_factorial cX5_factorial 3 (some .int) 1 := ⟨⟨_, rfl⟩, by decide, by decide +kernel, by decide +kernel, by decide +kernel⟩
set_option maxHeartbeats 4000000 in
set_option maxRecDepth 100000 in
theorem c_factorial (l : Launch) (D : va_G) (cs : Nat → ClassId) {a : Nat} (ha : a ≤ 40) : CT l D (tz cs) yX5_factorial wsX5_factorial ({ frames := 0, cells := 0, slots := 0, locals := 0 }) [.int (nI a)] [] (some (.int (nI (facN a)))) [] := by
  refine CT.of kX5_factorial (Nat.le_of_ble_eq_true rfl) ?_
  intro p e s m below meth c A C E
  have C : VOk p s m _ c cX5_factorial 3 wsX5_factorial RX5 D (tz cs) A s.heap := C
  refine V.lvs (lv' := [(0, .int (nI a))]) [0] rfl ?_
  refine v_iconst C (v := 1) dX5_factorial_0 (by decide) ?_
  refine v_istore_n C [(0, .int (nI a)), (1, .int 1)] [1, 0] dX5_factorial_1 (by decide) rfl ?_
  refine v_iconst C (v := 2) dX5_factorial_2 (by decide) ?_
  refine v_istore_n C [(0, .int (nI a)), (1, .int 1), (2, .int 2)] [1, 2, 0] dX5_factorial_3 (by decide) rfl ?_
  have L4 : ∀ (n : Nat) (i : Nat) (y0 : Int32) (y1 : Int32), y0 = (nI (facN (i - 1))) → y1 = (nI i) → (2 ≤ i ∧ (i ≤ a + 1 ∨ i = 2)) → (a + 1 - i) < n → V p l e ({ frames := 0, cells := 0, slots := 0, locals := 0 }) s m (List.toArray [.int (nI a)]) below meth c 0 0 (MQ below (vq_Q (some (.int (nI (facN a)))) D [] [] s.heap.size) (List.toArray [.int (nI a)]) s 0 0 (va_A [] s.heap.size)) 3 D A s.heap 4 [(0, .int (nI a)), (1, .int y0), (2, .int y1)] [] [] := by
    intro n
    induction n with
    | zero =>
      intros; omega
    | succ n ih4 =>
      intro i y0 y1 ey0 ey1 hi hn
      subst ey0
      subst ey1
      refine v_iload_n C 2 dX5_factorial_4 rfl ?_
      refine v_iload_n C 0 dX5_factorial_5 rfl ?_
      refine v_icmp_gt C 19 dX5_factorial_6 (by decide) (fun c1 => ?_) (fun c1 => ?_)
      · skip
        have hge : a < i := lt_nI c1 (by omega) (by omega)
        refine v_iload_n C 1 dX5_factorial_19 rfl ?_
        exact v_iret C E (rfl) (by rcases (show i = a + 1 ∨ (i = 2 ∧ a = 0) by omega) with h9 | ⟨h9, h8⟩ <;> subst h9 <;> (try subst h8) <;> rfl) dX5_factorial_20
      · skip
        have hlt : i ≤ a := nlt_nI c1 (by omega) (by omega)
        refine v_iload_n C 1 dX5_factorial_9 rfl ?_
        refine v_iload_n C 2 dX5_factorial_10 rfl ?_
        refine v_imul C dX5_factorial_11 ?_
        refine v_istore_n C [(0, .int (nI a)), (1, .int ((nI (facN (i - 1))) * (nI i))), (2, .int (nI i))] [1, 0, 2] dX5_factorial_12 (by decide) rfl ?_
        refine v_iinc C (k := 2) (nI (i + 1)) [(0, .int (nI a)), (1, .int ((nI (facN (i - 1))) * (nI i))), (2, .int (nI (i + 1)))] [1, 2, 0] dX5_factorial_13 rfl (nI_inc _) (by decide) rfl ?_
        refine v_goto C 4 dX5_factorial_16 (by decide) ?_
        exact ih4 (i + 1) _ _ (by rw [pk_mul, show i + 1 - 1 = (i - 1) + 1 by omega, facN, show i - 1 + 1 = i by omega]) (rfl) (by omega) (by omega)
  exact L4 _ 2 _ _ (rfl) (rfl) (by omega) (Nat.lt_succ_self _)
theorem kX5_power : KD yX5_power wsX5_power cX5_power 4 (some .int) 2 := ⟨⟨_, rfl⟩, by decide, by decide +kernel, by decide +kernel, by decide +kernel⟩
set_option maxHeartbeats 4000000 in
set_option maxRecDepth 100000 in
theorem c_power (l : Launch) (D : va_G) (cs : Nat → ClassId) {b : Int32} {tn : Nat} (ht : tn ≤ 40) : CT l D (tz cs) yX5_power wsX5_power ({ frames := 0, cells := 0, slots := 0, locals := 0 }) [.int b, .int (nI tn)] [] (some (.int (powI b tn))) [] := by
  refine CT.of kX5_power (Nat.le_of_ble_eq_true rfl) ?_
  intro p e s m below meth c A C E
  have C : VOk p s m _ c cX5_power 4 wsX5_power RX5 D (tz cs) A s.heap := C
  refine V.lvs (lv' := [(0, .int b), (1, .int (nI tn))]) [0, 1] rfl ?_
  refine v_iconst C (v := 1) dX5_power_0 (by decide) ?_
  refine v_istore_n C [(0, .int b), (1, .int (nI tn)), (2, .int 1)] [1, 2, 0] dX5_power_1 (by decide) rfl ?_
  refine v_iconst C (v := 0) dX5_power_2 (by decide) ?_
  refine v_istore_n C [(0, .int b), (1, .int (nI tn)), (2, .int 1), (3, .int 0)] [1, 2, 3, 0] dX5_power_3 (by decide) rfl ?_
  have L4 : ∀ (n : Nat) (i : Nat) (y0 : Int32) (y1 : Int32), y0 = (powI b i) → y1 = (nI i) → (i ≤ tn) → (tn - i) < n → V p l e ({ frames := 0, cells := 0, slots := 0, locals := 0 }) s m (List.toArray [.int b, .int (nI tn)]) below meth c 0 0 (MQ below (vq_Q (some (.int (powI b tn))) D [] [] s.heap.size) (List.toArray [.int b, .int (nI tn)]) s 0 0 (va_A [] s.heap.size)) 4 D A s.heap 4 [(0, .int b), (1, .int (nI tn)), (2, .int y0), (3, .int y1)] [] [] := by
    intro n
    induction n with
    | zero =>
      intros; omega
    | succ n ih4 =>
      intro i y0 y1 ey0 ey1 hi hn
      subst ey0
      subst ey1
      refine v_iload_n C 3 dX5_power_4 rfl ?_
      refine v_iload_n C 1 dX5_power_5 rfl ?_
      refine v_icmp_ge C 19 dX5_power_6 (by decide) (fun c1 => ?_) (fun c1 => ?_)
      · skip
        have hge : tn ≤ i := le_nI c1 (by omega) (by omega)
        refine v_iload_n C 2 dX5_power_19 rfl ?_
        exact v_iret C E (rfl) (by rw [show i = tn by omega]) dX5_power_20
      · skip
        have hlt : i < tn := nle_nI c1 (by omega) (by omega)
        refine v_iload_n C 2 dX5_power_9 rfl ?_
        refine v_iload_n C 0 dX5_power_10 rfl ?_
        refine v_imul C dX5_power_11 ?_
        refine v_istore_n C [(0, .int b), (1, .int (nI tn)), (2, .int ((powI b i) * b)), (3, .int (nI i))] [1, 2, 0, 3] dX5_power_12 (by decide) rfl ?_
        refine v_iinc C (k := 3) (nI (i + 1)) [(0, .int b), (1, .int (nI tn)), (2, .int ((powI b i) * b)), (3, .int (nI (i + 1)))] [1, 2, 3, 0] dX5_power_13 rfl (nI_inc _) (by decide) rfl ?_
        refine v_goto C 4 dX5_power_16 (by decide) ?_
        exact ih4 (i + 1) _ _ (rfl) (rfl) (by first | assumption | omega) (by omega)
  exact L4 _ 0 _ _ (rfl) (rfl) (by first | assumption | omega) (Nat.lt_succ_self _)
theorem kX5_commonDivisor : KD yX5_commonDivisor wsX5_commonDivisor cX5_commonDivisor 6 (some .int) 2 := ⟨⟨_, rfl⟩, by decide, by decide +kernel, by decide +kernel, by decide +kernel⟩
set_option maxHeartbeats 4000000 in
set_option maxRecDepth 100000 in
theorem c_commonDivisor (l : Launch) (D : va_G) (cs : Nat → ClassId) {a : Int32} {b : Int32} : CT l D (tz cs) yX5_commonDivisor wsX5_commonDivisor ({ frames := 0, cells := 0, slots := 0, locals := 0 }) [.int a, .int b] [] (some (.int (euc 100 a b))) [] := by
  refine CT.of kX5_commonDivisor (Nat.le_of_ble_eq_true rfl) ?_
  intro p e s m below meth c A C E
  have C : VOk p s m _ c cX5_commonDivisor 6 wsX5_commonDivisor RX5 D (tz cs) A s.heap := C
  refine V.lvs (lv' := [(0, .int a), (1, .int b)]) [0, 1] rfl ?_
  refine v_iload_n C 0 dX5_commonDivisor_0 rfl ?_
  refine v_istore_n C [(0, .int a), (1, .int b), (2, .int a)] [1, 2, 0] dX5_commonDivisor_1 (by decide) rfl ?_
  refine v_iload_n C 1 dX5_commonDivisor_2 rfl ?_
  refine v_istore_n C [(0, .int a), (1, .int b), (2, .int a), (3, .int b)] [1, 2, 3, 0] dX5_commonDivisor_3 (by decide) rfl ?_
  refine v_iconst C (v := 0) dX5_commonDivisor_4 (by decide) ?_
  refine v_istore C [(0, .int a), (1, .int b), (2, .int a), (3, .int b), (4, .int 0)] [1, 2, 3, 4, 0] dX5_commonDivisor_5 (by decide) rfl ?_
  have L7 : ∀ (n : Nat) (i : Nat) (x : Int32) (y : Int32) (y0 : Int32), y0 = (nI i) → (i ≤ 100) → (euc (100 - i) x y = euc 100 a b) → (100 - i) < n → V p l e ({ frames := 0, cells := 0, slots := 0, locals := 0 }) s m (List.toArray [.int a, .int b]) below meth c 0 0 (MQ below (vq_Q (some (.int (euc 100 a b))) D [] [] s.heap.size) (List.toArray [.int a, .int b]) s 0 0 (va_A [] s.heap.size)) 6 D A s.heap 7 [(0, .int a), (1, .int b), (2, .int x), (3, .int y), (4, .int y0)] [] [] := by
    intro n
    induction n with
    | zero =>
      intros; omega
    | succ n ih7 =>
      intro i x y y0 ey0 hi he hn
      subst ey0
      refine v_iload C 4 dX5_commonDivisor_7 rfl ?_
      refine v_bipush C (v := 100) dX5_commonDivisor_9 (by decide) ?_
      refine v_icmp_ge C 34 dX5_commonDivisor_11 (by decide) (fun c1 => ?_) (fun c1 => ?_)
      · skip
        refine v_iload_n C 2 dX5_commonDivisor_34 rfl ?_
        exact v_iret C E (rfl) (by first | (rw [← he, show i = 100 from Nat.le_antisymm hi (le_nI (a := 100) (b := i) c1 (by omega) (by omega))]; rfl) | (rw [← he, show 100 - i = (100 - (i + 1)) + 1 by omega, euc, if_pos c1])) dX5_commonDivisor_35
      · skip
        have hlt : i < 100 := nle_nI c1 (by omega) (by omega)
        refine v_iload_n C 3 dX5_commonDivisor_14 rfl ?_
        refine v_if_eq C 34 dX5_commonDivisor_15 (by decide) (fun c2 => ?_) (fun c2 => ?_)
        · skip
          refine v_iload_n C 2 dX5_commonDivisor_34 rfl ?_
          exact v_iret C E (rfl) (by first | (rw [← he, show i = 100 from Nat.le_antisymm hi (le_nI (a := 100) (b := i) c2 (by omega) (by omega))]; rfl) | (rw [← he, show 100 - i = (100 - (i + 1)) + 1 by omega, euc, if_pos c2])) dX5_commonDivisor_35
        · skip
          refine v_iload_n C 2 dX5_commonDivisor_18 rfl ?_
          refine v_iload_n C 3 dX5_commonDivisor_19 rfl ?_
          refine v_irem C dX5_commonDivisor_20 (by assumption) ?_
          refine v_istore C [(0, .int a), (1, .int b), (2, .int x), (3, .int y), (4, .int (nI i)), (5, .int (x - x / y * y))] [1, 2, 3, 4, 5, 0] dX5_commonDivisor_21 (by decide) rfl ?_
          refine v_iload_n C 3 dX5_commonDivisor_23 rfl ?_
          refine v_istore_n C [(0, .int a), (1, .int b), (2, .int y), (3, .int y), (4, .int (nI i)), (5, .int (x - x / y * y))] [1, 2, 0, 3, 4, 5] dX5_commonDivisor_24 (by decide) rfl ?_
          refine v_iload C 5 dX5_commonDivisor_25 rfl ?_
          refine v_istore_n C [(0, .int a), (1, .int b), (2, .int y), (3, .int (x - x / y * y)), (4, .int (nI i)), (5, .int (x - x / y * y))] [1, 2, 3, 0, 4, 5] dX5_commonDivisor_27 (by decide) rfl ?_
          refine v_iinc C (k := 4) (nI (i + 1)) [(0, .int a), (1, .int b), (2, .int y), (3, .int (x - x / y * y)), (4, .int (nI (i + 1))), (5, .int (x - x / y * y))] [1, 2, 3, 4, 0, 5] dX5_commonDivisor_28 rfl (nI_inc _) (by decide) rfl ?_
          refine v_goto C 7 dX5_commonDivisor_31 (by decide) ?_
          refine V.lvs (lv' := [(0, .int a), (1, .int b), (2, .int y), (3, .int (x - x / y * y)), (4, .int (nI (i + 1)))]) [0, 1, 2, 3, 4] rfl ?_
          exact ih7 (i + 1) y (x - x / y * y) _ (rfl) (by first | assumption | omega) (by rw [← he, show 100 - i = (100 - (i + 1)) + 1 by omega, euc, if_neg c2]) (by omega)
  exact L7 _ 0 a b _ (rfl) (by first | assumption | omega) (rfl) (Nat.lt_succ_self _)
theorem kX5_fraction : KD yX5_fraction wsX5_fraction cX5_fraction 4 (some .int) 3 := ⟨⟨_, rfl⟩, by decide, by decide +kernel, by decide +kernel, by decide +kernel⟩
set_option maxHeartbeats 4000000 in
set_option maxRecDepth 100000 in
theorem c_fraction (l : Launch) (D : va_G) (cs : Nat → ClassId) {a : Int32} {b : Int32} {w : Int32} : CT l D (tz cs) yX5_fraction wsX5_fraction ({ frames := 1, cells := 0, slots := 0, locals := 25 }) [.int a, .int b, .int w] [] (some (.int (frI a b w))) [] := by
  refine CT.of kX5_fraction (Nat.le_of_ble_eq_true rfl) ?_
  intro p e s m below meth c A C E
  have C : VOk p s m _ c cX5_fraction 4 wsX5_fraction RX5 D (tz cs) A s.heap := C
  refine V.lvs (lv' := [(0, .int a), (1, .int b), (2, .int w)]) [0, 1, 2] rfl ?_
  refine v_iload_n C 0 dX5_fraction_0 rfl ?_
  refine v_mabs C (y := 0) (by decide +kernel) (by decide +kernel) (by decide +kernel) (by decide +kernel) ⟨Nat.le_of_ble_eq_true rfl, Nat.le_of_ble_eq_true rfl⟩ ⟨Nat.zero_le _, Nat.zero_le _⟩ dX5_fraction_1 ?_
  refine v_iload_n C 1 dX5_fraction_4 rfl ?_
  refine v_callS C [.int (abI a), .int b] [] kX5_commonDivisor gX5_fraction_X5_commonDivisor (c_commonDivisor l D cs (a := (abI a)) (b := b) ) ⟨Nat.le_of_ble_eq_true rfl, Nat.le_of_ble_eq_true rfl⟩ ⟨rfl, rfl⟩ ⟨Nat.zero_le _, Nat.zero_le _⟩ rfl rfl (Nat.le_of_ble_eq_true rfl) [] [] rfl (by decide) rfl (rfl) dX5_fraction_5 ?_
  refine V.sts (st' := [.int (euc 100 (abI a) b)]) rfl ?_
  refine v_istore_n C [(0, .int a), (1, .int b), (2, .int w), (3, .int (euc 100 (abI a) b))] [1, 2, 3, 0] dX5_fraction_8 (by decide) rfl ?_
  refine v_iload_n C 3 dX5_fraction_9 rfl ?_
  refine v_if_ne C 15 dX5_fraction_10 (by decide) (fun c1 => ?_) (fun c1 => ?_)
  · skip
    refine v_iload_n C 2 dX5_fraction_15 rfl ?_
    refine v_if_ne C 25 dX5_fraction_16 (by decide) (fun c2 => ?_) (fun c2 => ?_)
    · skip
      refine v_iload_n C 1 dX5_fraction_25 rfl ?_
      refine v_iload_n C 3 dX5_fraction_26 rfl ?_
      refine v_idiv C dX5_fraction_27 (by assumption) ?_
      exact v_iret C E (rfl) (by first | rfl | (simp [frI, c1, c2, ↓reduceIte]; done) | (simp_all [frI]; done)) dX5_fraction_28
    · skip
      refine v_iload_n C 0 dX5_fraction_19 rfl ?_
      refine v_iload_n C 3 dX5_fraction_20 rfl ?_
      refine v_idiv C dX5_fraction_21 (by assumption) ?_
      refine v_goto C 28 dX5_fraction_22 (by decide) ?_
      exact v_iret C E (rfl) (by first | rfl | (simp [frI, c1, c2, ↓reduceIte]; done) | (simp_all [frI]; done)) dX5_fraction_28
  · skip
    refine v_iload_n C 2 dX5_fraction_13 rfl ?_
    exact v_iret C E (rfl) (by first | rfl | (simp [frI, c1, ↓reduceIte]; done) | (simp_all [frI]; done)) dX5_fraction_14
