/-! what the tie of the two tables says of the words -/
theorem nI6 {n : Nat} (h : n ≤ 6) : n < 2 ^ 31 := by omega
theorem pos_nI {n : Nat} (h : n ≤ 6) : (0 : Int32) < nI n ↔ 0 < n := (nI_ltI (a := 0) (by decide) (nI6 h))
theorem itE {α : Type} {n : Nat} (h : n ≤ 6) (a b : α) : (if decide (0 < n) = true then a else b) = (if (0 : Int32) < nI n then a else b) := by
  by_cases hp : 0 < n
  · rw [if_pos (decide_eq_true hp), if_pos ((pos_nI h).mpr hp)]
  · rw [if_neg (by rw [decide_eq_false hp]; decide), if_neg (fun z => hp ((pos_nI h).mp z))]
theorem wsum_cong {kf sf wf kg sg wg : Nat → Int32} {x : Int32} : ∀ {n : Nat}, (∀ t, t < n → kf t = kg t ∧ sf t = sg t ∧ wf t = wg t) → wsum kf sf wf x n = wsum kg sg wg x n
  | 0, _ => rfl
  | n + 1, h => by
    obtain ⟨a, b, c⟩ := h n (by omega)
    rw [wsum, wsum, wsum_cong (fun t ht => h t (by omega)), a, b, c]
section TBF
variable {pn tn : Nat} {aw me sp : Int32} {kf sf wf tf : Nat → Int32}
theorem TB.pnl (h : TB pn tn aw me sp kf sf wf tf) : pn ≤ 6 := h.1.1
theorem TB.tnl (h : TB pn tn aw me sp kf sf wf tf) : tn ≤ 8 := h.1.2.1
theorem TB.awl (h : TB pn tn aw me sp kf sf wf tf) : s64 aw := h.1.2.2.1
theorem TB.S (h : TB pn tn aw me sp kf sf wf tf) : ∀ t, s64 (sf t) := h.1.2.2.2.2
theorem TB.t0 (h : TB pn tn aw me sp kf sf wf tf) : tf 0 = nI pn := h.2.1.1
theorem TB.t1 (h : TB pn tn aw me sp kf sf wf tf) : tf 1 = nI tn := h.2.1.2.1
theorem TB.t2 (h : TB pn tn aw me sp kf sf wf tf) : tf 2 = me := h.2.1.2.2.1
theorem TB.t3 (h : TB pn tn aw me sp kf sf wf tf) : tf 3 = sp := h.2.1.2.2.2.1
theorem TB.t4 (h : TB pn tn aw me sp kf sf wf tf) : tf 4 = aw := h.2.1.2.2.2.2.1
theorem TB.M (h : TB pn tn aw me sp kf sf wf tf) (hz : ∀ j, 29 ≤ j → tf j = 0) : ∀ t, s64 (tf (13 + t)) := fun t => by
  by_cases ht : t < 16
  · exact h.2.1.2.2.2.2.2 t ht
  · rw [hz _ (by omega)]; exact s64_0
theorem TB.K (h : TB pn tn aw me sp kf sf wf tf) : ∀ t, t < tn → kok (tf (5 + t)) := fun t ht => by
  obtain ⟨a, _, _, b, _⟩ := h.2.2 t ht
  rw [← a]; exact b
theorem TB.k (h : TB pn tn aw me sp kf sf wf tf) {t : Nat} (ht : t < tn) : gA kf 8 (nI t) = tf (5 + t) := by
  have := h.tnl
  rw [gA_in (by omega) (by decide)]
  exact (h.2.2 t ht).1
theorem TB.s (h : TB pn tn aw me sp kf sf wf tf) {t : Nat} (ht : t < tn) : gA sf 8 (nI t) = tf (13 + t) := by
  have := h.tnl
  rw [gA_in (by omega) (by decide)]
  exact (h.2.2 t ht).2.1
theorem TB.w (h : TB pn tn aw me sp kf sf wf tf) {t : Nat} (ht : t < tn) : gA wf 8 (nI t) = tf (21 + t) := by
  have := h.tnl
  rw [gA_in (by omega) (by decide)]
  exact (h.2.2 t ht).2.2.1
theorem TB.W (h : TB pn tn aw me sp kf sf wf tf) (x : Int32) : wsum (kS tf) (sS tf) (wS tf) x tn = wsum kf sf wf x tn :=
  wsum_cong (fun t ht => ⟨(h.2.2 t ht).1.symm, (h.2.2 t ht).2.1.symm, (h.2.2 t ht).2.2.1.symm⟩)
theorem TB.A (h : TB pn tn aw me sp kf sf wf tf) (x q : Int32) : adI (kS tf) (sS tf) (wS tf) tn x q = adI kf sf wf tn x q := by unfold adI; rw [h.W, h.W]
theorem TB.L (h : TB pn tn aw me sp kf sf wf tf) (p x : Int32) : loI (kS tf) (sS tf) (wS tf) tn p x = loI kf sf wf tn p x := by unfold loI; rw [h.W, h.W]
theorem TB.to (h : TB pn tn aw me sp kf sf wf tf) : toP (kS tf) (sS tf) (wS tf) tn pn = toP kf sf wf tn pn := by
  funext a b; unfold toP mtB; rw [h.L, h.L, h.L]
theorem TB.wa (h : TB pn tn aw me sp kf sf wf tf) (v : Int32) : waP (kS tf) (sS tf) (wS tf) tn pn v = waP kf sf wf tn pn v := by
  funext i; unfold waP; rw [h.W]
theorem TB.eN (h : TB pn tn aw me sp kf sf wf tf) : wN (kS tf) (sS tf) (wS tf) tn = wN kf sf wf tn := by
  funext i; unfold wN; rw [h.W]
theorem TB.du (h : TB pn tn aw me sp kf sf wf tf) (x : Int32) : ∀ n, dueS (kS tf) (sS tf) (wS tf) tn pn x n = dueS kf sf wf tn pn x n
  | 0 => rfl
  | n + 1 => by rw [dueS, dueS, TB.du h x n, h.A]
theorem TB.br (h : TB pn tn aw me sp kf sf wf tf) (a th : Int32) : ∀ n, brS (kS tf) (sS tf) (wS tf) tn a th n = brS kf sf wf tn a th n
  | 0 => rfl
  | n + 1 => by rw [brS, brS, TB.br h a th n, h.A]
end TBF
theorem gA_cong {f g : Nat → Int32} {n : Nat} (h : ∀ q, q < n → f q = g q) (i : Int32) : gA f n i = gA g n i := by
  unfold gA
  by_cases h1 : i < 0
  · rw [if_pos h1, if_pos h1]
  · rw [if_neg h1, if_neg h1]
    obtain ⟨j, hj, rfl⟩ := nI_of h1
    by_cases h2 : Int32.ofNat n ≤ nI j
    · rw [if_pos h2, if_pos h2]
    · rw [if_neg h2, if_neg h2, nI_clamp hj]
      refine h j ?_
      rcases Nat.lt_or_ge j n with q | q
      · exact q
      · exact absurd (nI_le q hj) h2
theorem sumL_cong {f g : Nat → Int32} (h : ∀ i, gA f 40 i = gA g 40 i) (ix x : Int32) : ∀ n, sumL f ix x n = sumL g ix x n
  | 0 => rfl
  | n + 1 => by rw [sumL, sumL, sumL_cong h ix x n, h]
theorem whB_cong {f g : Nat → Int32} (h : ∀ i, gA f 40 i = gA g 40 i) (pn : Nat) (i : Int32) : ∀ n, whB pn f i n = whB pn g i n
  | 0 => rfl
  | n + 1 => by rw [whB, whB, whB_cong h pn i n, h]
theorem TB.lv {pn tn : Nat} {aw me sp : Int32} {kf sf wf tf rf rg : Nat → Int32} (h : TB pn tn aw me sp kf sf wf tf) (hr : ∀ i, gA rg 40 i = gA rf 40 i) (ix : Int32) : lvP (kS tf) (sS tf) (wS tf) tn pn rg ix = lvP kf sf wf tn pn rf ix := by
  funext i; unfold lvP; rw [h.W, sumL_cong hr]
theorem TB.fit {pn tn t : Nat} {aw me sp : Int32} {kf sf wf tf rf rg : Nat → Int32} (h : TB pn tn aw me sp kf sf wf tf) (ht : t < tn) (hr : ∀ i, gA rg 40 i = gA rf 40 i) (kd i : Int32) : ∀ n, fitB (kS tf) (sS tf) (wS tf) tn rg (nI t) kd i n = fitB kf sf wf tn rf (nI t) kd i n
  | 0 => rfl
  | n + 1 => by
    have h8 := h.tnl
    have e1 : gA (kS tf) 8 (nI t) = gA kf 8 (nI t) := by rw [h.k ht]; exact gA_in (by omega) (by decide)
    have e2 : gA (sS tf) 8 (nI t) = gA sf 8 (nI t) := by rw [h.s ht]; exact gA_in (by omega) (by decide)
    have e3 : gA (wS tf) 8 (nI t) = gA wf 8 (nI t) := by rw [h.w ht]; exact gA_in (by omega) (by decide)
    rw [fitB, fitB, TB.fit h ht hr kd i n, hr, hr, e1, e2, e3, h.W]
theorem rfM_cong {itf rf : Nat → Int32} {j : Nat} (h : ∀ q, q < 40 → itf (40 * j + q) = rf q) : ∀ i, gA (rfM itf j) 40 i = gA rf 40 i := gA_cong h
/-! how large a worth can be -/
theorem toInt_mulN {a b : Nat} (h : a * b < 2 ^ 31) : (nI a * nI b).toInt = ((a * b : Nat) : Int) := by rw [pk_mul, nI_toInt h]
theorem toInt_neg0 {n : Nat} (h : n ≤ 100000) : (-(nI n)).toInt = -(n : Int) := by
  rw [zero_sub32, Int32.toInt_sub, nI_toInt (by omega), show (0 : Int32).toInt = 0 by decide, Int.bmod_eq_of_le (by omega) (by omega)]
  omega
theorem pcI_nI {x : Int32} (h : s64 x) : ∃ c : Nat, c ≤ 6 ∧ pcI x = nI c := by
  obtain ⟨j, hj, rfl⟩ := h
  exact ⟨pop j, pop_le j, pc_nI (by omega)⟩
theorem cnt_bd {k x th : Int32} {u : Nat} (hx : s64 x) (hu : u ≤ 40) : -240 ≤ (cnt k x (nI u) th).toInt ∧ (cnt k x (nI u) th).toInt ≤ 240 := by
  have z : (0 : Int32).toInt = 0 := by decide
  have hp : (nI u).toInt = (u : Int) := nI_toInt (by omega)
  have hn : (-(nI u)).toInt = -(u : Int) := toInt_neg0 (by omega)
  unfold cnt
  split
  · split
    · rw [hp]; omega
    · rw [z]; omega
  · split
    · split
      · rw [hn]; omega
      · rw [z]; omega
    · split
      · obtain ⟨c, hc, e⟩ := pcI_nI (s64_and (y := th) hx)
        rw [e]
        split
        · rename_i h0
          rcases Nat.eq_zero_or_pos c with c0 | c0
          · subst c0; exact absurd h0 (by decide)
          · have e2 : nI c - 1 = nI (c - 1) := pk_sub (a := c) (b := 1) c0
            have hb : u * (c - 1) ≤ 40 * 6 := Nat.mul_le_mul hu (by omega)
            rw [e2, toInt_mulN (by omega)]
            omega
        · rw [Int32.mul_zero, z]; omega
      · split
        · split
          · rw [z]; omega
          · rw [hp]; omega
        · split
          · split
            · rw [hp]; omega
            · rw [z]; omega
          · rw [z]; omega
theorem wsum_bd {kf sf wf : Nat → Int32} {x : Int32} : ∀ {n : Nat}, n ≤ 8 → (∀ t, t < n → s64 (sf t) ∧ ∃ u : Nat, u ≤ 40 ∧ wf t = nI u) → -(240 * (n : Int)) ≤ (wsum kf sf wf x n).toInt ∧ (wsum kf sf wf x n).toInt ≤ 240 * (n : Int)
  | 0, _, _ => by
    have z : (wsum kf sf wf x 0).toInt = 0 := by show (0 : Int32).toInt = 0; decide
    rw [z]; omega
  | n + 1, h8, h => by
    obtain ⟨i1, i2⟩ := wsum_bd (kf := kf) (sf := sf) (wf := wf) (x := x) (n := n) (by omega) (fun t ht => h t (by omega))
    obtain ⟨hs, u, hu, e⟩ := h n (by omega)
    obtain ⟨c1, c2⟩ := cnt_bd (k := kf n) (th := x) hs hu
    rw [wsum, e, Int32.toInt_add, Int.bmod_eq_of_le (by omega) (by omega)]
    omega
theorem TB.B {pn tn : Nat} {aw me sp : Int32} {kf sf wf tf : Nat → Int32} (h : TB pn tn aw me sp kf sf wf tf) (x : Int32) : wbd (wsum (kS tf) (sS tf) (wS tf) x tn) := by
  rw [h.W]
  have h8 := h.tnl
  obtain ⟨a, b⟩ := wsum_bd (kf := kf) (sf := sf) (wf := wf) (x := x) h8 (fun t ht => ⟨h.S t, (h.2.2 t ht).2.2.2.2⟩)
  unfold wbd
  omega
/-! small words -/
theorem hold_in0 {ln i : Int32} {m : Nat} (hm : m < 2 ^ 31) : hold ln i (nI m) = inI i 0 (ln - nI m) := by
  unfold hold inI
  rw [if_neg (nI_pos hm)]
theorem inI_02 {y : Int32} : inI y 0 2 = (decide (y = 0) || decide (y = 1) || decide (y = 2)) := by
  rw [show (2 : Int32) = nI 3 - 1 from by decide, inI_0 (by decide)]
  unfold inB
  by_cases h : y < 0
  · rw [if_pos h]
    have h0 : ¬ y = 0 := by intro q; subst q; exact absurd h (by decide)
    have h1 : ¬ y = 1 := by intro q; subst q; exact absurd h (by decide)
    have h2 : ¬ y = nI 3 - 1 := by intro q; subst q; exact absurd h (by decide)
    simp [h0, h1, h2]
  · rw [if_neg h]
    obtain ⟨j, hj, rfl⟩ := nI_of h
    by_cases h3 : 3 ≤ j
    · rw [if_pos (nI_le h3 hj)]
      have h0 : ¬ nI j = 0 := nI_ne0 (by omega) hj
      have h1 : ¬ nI j = 1 := fun q => by have := eq_nI (a := j) (b := 1) q hj (by decide); omega
      have h2 : ¬ nI j = nI 3 - 1 := fun q => by have := eq_nI (a := j) (b := 2) q hj (by decide); omega
      simp [h0, h1, h2]
    · rw [if_neg (nI_ge (by omega) (by decide))]
      rcases (show j = 0 ∨ j = 1 ∨ j = 2 by omega) with q | q | q <;> subst q <;> decide
theorem i64_sub {a : Nat} {q : Int32} (ha : a ≤ 40) (hq : ¬ q < 0) : (nI a).toInt64 - q.toInt64 = (nI a - q).toInt64 := by
  obtain ⟨k, hk, rfl⟩ := nI_of hq
  apply Int64.toInt_inj.mp
  rw [Int64.toInt_sub, Int32.toInt_toInt64, Int32.toInt_toInt64, Int32.toInt_toInt64, Int32.toInt_sub, nI_toInt (by omega), nI_toInt hk]
  rw [Int.bmod_eq_of_le (by omega) (by omega), Int.bmod_eq_of_le (by omega) (by omega)]
theorem hold_inL {a : Nat} {i q : Int32} (ha : a ≤ 40) (hq : ¬ q < 0) : inL i.toInt64 0 ((nI a).toInt64 - q.toInt64) = hold (nI a) i q := by
  have e0 : (0 : Int64) = (0 : Int32).toInt64 := by decide
  rw [i64_sub ha hq, e0, inL_I]
  unfold inI hold
  rw [if_neg hq]
theorem in8_c (x : Int32) : inB 8 x = false ∨ ∃ j : Nat, j < 8 ∧ x = nI j := by
  by_cases h : inB 8 x = true
  · exact Or.inr (inB_t (n := 8) (by decide) h)
  · exact Or.inl (by simpa using h)
theorem inB_c {n : Nat} (hn : n < 2 ^ 31) (x : Int32) : inB (nI n) x = false ∨ ∃ j : Nat, j < n ∧ x = nI j := by
  by_cases h : inB (nI n) x = true
  · exact Or.inr (inB_t hn h)
  · exact Or.inl (by simpa using h)
theorem neg1 : ((-1 : Int32) < 0) := by decide
theorem bf_nt {b : Bool} (h : b = false) : ¬ b = true := by rw [h]; decide
