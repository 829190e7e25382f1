/-! the sets that were read stay sets -/
theorem s64_of {v al lo : Int32} (h0 : 0 ≤ lo) (h1 : ¬ v < lo) (h2 : ¬ al < v) (hal : al ≤ 63) : s64 v := by
  have e0 : (0 : Int32).toInt = 0 := by decide
  have e63 : (63 : Int32).toInt = 63 := by decide
  rw [Int32.lt_iff_toInt_lt] at h1 h2
  rw [Int32.le_iff_toInt_le] at h0 hal
  refine ⟨v.toInt.toNat, by omega, Int32.toInt_inj.mp ?_⟩
  rw [nI_toInt (by omega)]
  omega
theorem s64_upd {g : Nat → Int32} {i : Nat} {v : Int32} (hg : ∀ t, s64 (g t)) (hv : s64 v) : ∀ t, s64 (upd g i v t) := by
  intro t
  simp only [upd]
  split
  · exact hv
  · exact hg t
theorem riW_s64 {f : Nat → Int32} {len : Nat} {al : Int32} (hal : al ≤ 63) : ∀ (n q tn : Nat) (k x w : Nat → Int32), (∀ t, s64 (x t)) → ∀ t, s64 ((riW f len al n q tn k x w).2.2.2.2.1 t)
  | 0, q, tn, k, x, w, h => h
  | n + 1, q, tn, k, x, w, h => by
    rw [riW]
    by_cases c1 : tkS f len (tkN f len q) = 3
    · rw [if_pos c1]; exact h
    · rw [if_neg c1]
      by_cases c2 : tfR f len al tn (tkN f len q) = 0
      · rw [if_pos c2]
        obtain ⟨_, _, h3, _⟩ := tf_ok c2
        exact riW_s64 hal n _ _ _ _ _ (s64_upd h (s64_of (lo := 1) (by decide) (nfI_num h3).2.1 (nfI_num h3).2.2 hal))
      · rw [if_neg c2]; exact h
theorem s64_u13 {g : Nat → Int32} {i : Nat} {v : Int32} (hg : ∀ t, s64 (g (13 + t))) (hv : s64 v ∨ i < 13) : ∀ t, s64 (upd g i v (13 + t)) := by
  intro t
  simp only [upd]
  split
  · rcases hv with z | z
    · exact z
    · omega
  · exact hg t
theorem rtX_s64 {f : Nat → Int32} {len : Nat} {al : Int32} {tn q : Nat} {kd : Int32} {d : Nat → Int32} (hal : al ≤ 63) (ht : tn ≤ 8) (h : ∀ t, s64 (d (13 + t))) : ∀ t, s64 ((rtX f len al tn q kd d).2.2 (13 + t)) := by
  unfold rtX
  by_cases h1 : tn = 8
  · rw [if_pos h1]; exact h
  · have hk : ∀ t, s64 (upd (upd d (5 + tn) kd) 1 (nI (tn + 1)) (13 + t)) := s64_u13 (s64_u13 h (Or.inr (by omega))) (Or.inr (by omega))
    rw [if_neg h1]
    by_cases h3 : nfM f len (tn1 f len q) 1 al = 0
    · rw [if_pos h3]
      rw [nfM_eq] at h3
      have h4 := nfI_num h3
      have hx : ∀ t, s64 (upd (upd (upd d (5 + tn) kd) 1 (nI (tn + 1))) (13 + tn) (mva f len (tn1 f len q)) (13 + t)) := s64_u13 hk (Or.inl (by rw [mva_num h4.1]; exact s64_of (lo := 1) (by decide) h4.2.1 h4.2.2 hal))
      by_cases h5 : isL f len (tn2 f len q) 44 = true
      · rw [if_pos h5]
        by_cases h6 : nfM f len (tn3 f len q) 0 40 = 0
        · rw [if_pos h6]
          rw [nfM_eq] at h6
          have h7 := nfI_num h6
          have hw : ∀ t, s64 (upd (upd (upd (upd d (5 + tn) kd) 1 (nI (tn + 1))) (13 + tn) (mva f len (tn1 f len q))) (21 + tn) (mva f len (tn3 f len q)) (13 + t)) := s64_u13 hx (Or.inl (by rw [mva_num h7.1]; exact s64_of (lo := 0) (by decide) h7.2.1 h7.2.2 (by decide)))
          by_cases h8 : isL f len (tn4 f len q) 59 = true
          · rw [if_pos h8]; exact hw
          · rw [if_neg h8]; exact hw
        · rw [if_neg h6]; exact hx
      · rw [if_neg h5]; exact hx
    · rw [if_neg h3]; exact hk
theorem rt_ok {f : Nat → Int32} {len : Nat} {al : Int32} {tn q : Nat} {kd : Int32} {d : Nat → Int32} (h : (rtX f len al tn q kd d).1 = 0) (ht : tn ≤ 8) : tn < 8 := by
  unfold rtX at h
  by_cases h1 : tn = 8
  · rw [if_pos h1] at h; exact absurd (show (3 : Int32) = 0 from h) (by decide)
  · omega
theorem rmX_s64 {f : Nat → Int32} {len : Nat} {al : Int32} (hal : al ≤ 63) : ∀ (n q tn : Nat) (d : Nat → Int32), tn ≤ 8 → (∀ t, s64 (d (13 + t))) → ∀ t, s64 ((rmX f len al n q tn d).2.2 (13 + t))
  | 0, q, tn, d, _, h => h
  | n + 1, q, tn, d, ht, h => by
    rw [rmX]
    by_cases c1 : mtk f len q = 3
    · rw [if_pos c1]; exact h
    · rw [if_neg c1]
      by_cases c2 : 0 < kdM f len q
      · rw [if_pos c2]
        by_cases c3 : (rtX f len al tn q (kdM f len q) d).1 = 0
        · rw [if_pos c3]
          exact rmX_s64 hal n _ _ _ (rt_ok c3 ht) (rtX_s64 hal ht h)
        · rw [if_neg c3]; exact rtX_s64 hal ht h
      · rw [if_neg c2]; exact h
theorem allI_le : ∀ p : Nat, p ≤ 6 → allI (nI p) ≤ 63 := by decide +kernel
