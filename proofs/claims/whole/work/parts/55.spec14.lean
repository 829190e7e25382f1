/-! the ties that were read -/
def GT (al : Int32) (d k x w : Nat → Int32) (t : Nat) : Prop := d (5 + t) = k t ∧ d (13 + t) = x t ∧ d (21 + t) = w t ∧ kok (k t) ∧ (¬ x t < 1 ∧ ¬ al < x t) ∧ ¬ w t < 0 ∧ ¬ 40 < w t
theorem kdI_v (v : Int32) : kdI v = 0 ∨ kok (kdI v) := by
  unfold kdI kok
  repeat' split
  all_goals decide
theorem kdAt_v (f : Nat → Int32) (len q : Nat) : kdAt f len q = 0 ∨ kok (kdAt f len q) := by
  unfold kdAt
  split
  · exact kdI_v _
  · exact Or.inl rfl
theorem kdM_pos (f : Nat → Int32) (len q : Nat) : (0 < kdM f len q) ↔ ¬ kdAt f len q = 0 := by
  rw [kdM_eq]
  rcases kdAt_v f len q with h | h
  · rw [h]; decide
  · rcases h with z | z | z | z | z <;> rw [z] <;> decide
theorem tf_ok {f : Nat → Int32} {len : Nat} {al : Int32} {ti q : Nat} (h : tfR f len al ti q = 0) : ¬ kdAt f len q = 0 ∧ ti < 8 ∧ nfI f len (tn1 f len q) 1 al = 0 ∧ nfI f len (tn3 f len q) 0 40 = 0 := by
  have h8 := tfR_lt h
  unfold tfR at h
  by_cases h1 : kdAt f len q = 0
  · rw [if_pos h1] at h; exact absurd h (by decide)
  · rw [if_neg h1, if_neg (by omega)] at h
    by_cases h2 : nfI f len (tn1 f len q) 1 al = 0
    · rw [if_pos h2] at h
      by_cases h3 : sfI f len (tn2 f len q) 44 = 0
      · rw [if_pos h3] at h
        by_cases h4 : nfI f len (tn3 f len q) 0 40 = 0
        · exact ⟨h1, h8, h2, h4⟩
        · rw [if_neg h4] at h; exact absurd h h4
      · rw [if_neg h3] at h; exact absurd h h3
    · rw [if_neg h2] at h; exact absurd h h2
theorem dT_new {f : Nat → Int32} {len tn q : Nat} {al : Int32} {d k x w : Nat → Int32} (h : tfR f len al tn q = 0) (hd : ∀ t, t < tn → GT al d k x w t) : dT f len tn q d 1 = nI (tn + 1) ∧ (∀ i, (i = 0 ∨ i = 2 ∨ i = 3 ∨ i = 4 ∨ 29 ≤ i) → dT f len tn q d i = d i) ∧ ∀ t, t < tn + 1 → GT al (dT f len tn q d) (upd k tn (kdAt f len q)) (upd x tn (tkV f len (tn1 f len q))) (upd w tn (tkV f len (tn3 f len q))) t := by
  obtain ⟨h1, h2, h3, h4⟩ := tf_ok h
  refine ⟨?_, ?_, ?_⟩
  · unfold dT; simp only [upd]
    rw [if_neg (by omega), if_neg (by omega), if_pos trivial]
  · intro i hi
    unfold dT; simp only [upd]
    rw [if_neg (by omega), if_neg (by omega), if_neg (by omega), if_neg (by omega)]
  · intro t ht
    by_cases h5 : t = tn
    · subst h5
      unfold GT dT; simp only [upd]
      refine ⟨?_, ?_, ?_, ?_, ?_, ?_⟩
      · rw [if_neg (by omega), if_neg (by omega), if_neg (by omega), if_pos trivial, if_pos trivial]
      · rw [if_neg (by omega), if_pos trivial, if_pos trivial]
      · rw [if_pos trivial, if_pos trivial]
      · rw [if_pos trivial]; exact (kdAt_v f len q).resolve_left h1
      · rw [if_pos trivial]; exact (nfI_num h3).2
      · rw [if_pos trivial]; exact (nfI_num h4).2
    · obtain ⟨g1, g2, g3, g4, g5, g6⟩ := hd t (by omega)
      unfold GT dT; simp only [upd]
      rw [if_neg h5, if_neg h5, if_neg h5]
      refine ⟨?_, ?_, ?_, g4, g5, g6⟩
      · rw [if_neg (by omega), if_neg (by omega), if_neg (by omega), if_neg (by omega)]; exact g1
      · rw [if_neg (by omega), if_neg (by omega), if_neg (by omega), if_neg (by omega)]; exact g2
      · rw [if_neg (by omega), if_neg (by omega), if_neg (by omega), if_neg (by omega)]; exact g3
theorem rm_ri {f : Nat → Int32} {len : Nat} {al : Int32} : ∀ (n q tn : Nat) (d k x w : Nat → Int32), n + tn = 9 → tn ≤ 8 → d 1 = nI tn → (∀ t, t < tn → GT al d k x w t) →
    (rmX f len al n (tkN f len q) tn d).1 = (riW f len al n q tn k x w).1 ∧
    (¬ (riW f len al n q tn k x w).1 = 0 → (rmX f len al n (tkN f len q) tn d).2.1 = (riW f len al n q tn k x w).2.1) ∧
    ((riW f len al n q tn k x w).1 = 0 → (riW f len al n q tn k x w).2.2.1 ≤ 8 ∧ (rmX f len al n (tkN f len q) tn d).2.2 1 = nI (riW f len al n q tn k x w).2.2.1 ∧
      (∀ i, (i = 0 ∨ i = 2 ∨ i = 3 ∨ i = 4 ∨ 29 ≤ i) → (rmX f len al n (tkN f len q) tn d).2.2 i = d i) ∧
      ∀ t, t < (riW f len al n q tn k x w).2.2.1 → GT al (rmX f len al n (tkN f len q) tn d).2.2 (riW f len al n q tn k x w).2.2.2.1 (riW f len al n q tn k x w).2.2.2.2.1 (riW f len al n q tn k x w).2.2.2.2.2 t)
  | 0, q, tn, d, k, x, w, h, h2, _, _ => by omega
  | n + 1, q, tn, d, k, x, w, h, h2, h3, h4 => by
    rw [rmX, riW]
    by_cases c1 : tkS f len (tkN f len q) = 3
    · rw [if_pos ((mtk_end f len _).mpr c1), if_pos c1]
      exact ⟨rfl, fun z => absurd rfl z, fun _ => ⟨h2, h3, fun _ _ => rfl, h4⟩⟩
    · rw [if_neg (fun z => c1 ((mtk_end f len _).mp z)), if_neg c1]
      by_cases c2 : kdAt f len (tkN f len q) = 0
      · rw [if_neg (fun z => (kdM_pos f len _).mp z c2)]
        have c3 : tfR f len al tn (tkN f len q) = 1 := by unfold tfR; rw [if_pos c2]
        have c4 : tfP f len al tn (tkN f len q) = tkN f len q := by unfold tfP; rw [if_pos c2]
        rw [if_neg (by rw [c3]; decide), c3, c4]
        exact ⟨rfl, fun _ => rfl, fun z => absurd (show (1 : Int32) = 0 from z) (by decide)⟩
      · rw [if_pos ((kdM_pos f len _).mpr c2)]
        obtain ⟨t1, t2, t3⟩ := rt_tf (al := al) (d := d) h2 c2
        by_cases c3 : tfR f len al tn (tkN f len q) = 0
        · have e := t3 c3
          rw [if_pos (t1.trans c3), if_pos c3, e]
          obtain ⟨n1, n2, n3⟩ := dT_new c3 h4
          have i := rm_ri (f := f) (len := len) (al := al) n (tfP f len al tn (tkN f len q)) (tn + 1) (dT f len tn (tkN f len q) d) _ _ _ (by omega) (by have := tfR_lt c3; omega) n1 n3
          show (rmX f len al n (tkN f len (tfP f len al tn (tkN f len q))) (tn + 1) (dT f len tn (tkN f len q) d)).1 = _ ∧ _
          exact ⟨i.1, i.2.1, fun z => ⟨(i.2.2 z).1, (i.2.2 z).2.1, fun y hy => ((i.2.2 z).2.2.1 y hy).trans (n2 y hy), (i.2.2 z).2.2.2⟩⟩
        · rw [if_neg (fun z => c3 (t1.symm.trans z)), if_neg c3]
          exact ⟨t1, fun _ => t2 c3, fun z => absurd z c3⟩
