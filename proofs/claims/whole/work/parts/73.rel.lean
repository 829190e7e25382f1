/-! the world of the class (cells 0 to 40) and of the model (41 to 52); what ties them -/
def wA (cs : Nat → ClassId) (ad : Nat → Nat) (g : Nat → Option Nat) (gi : Nat → Option Nat) (lf : Int32) (fg : Int32) (sd : Nat → Bool) (la : Nat → Int32) (an : Nat → Nat) (rf : Nat → Nat → Int32) (f : Nat → Int32) (len : Nat) (pl : Int32) (nx : Int32) (so : Int32) (va : Int32) (pn : Nat) (tn : Nat) (aw : Int32) (me : Int32) (sp : Int32) (kf : Nat → Int32) (sf : Nat → Int32) (wf : Nat → Int32) (p2 : Int32) (t2 : Int32) (a2 : Int32) (m2 : Int32) (s2 : Int32) (kg : Nat → Int32) (sg : Nat → Int32) (wg : Nat → Int32) (ip : Nat → Int32) (it2 : Nat → Int32) (ia : Nat → Int32) (im : Nat → Int32) (is2 : Nat → Int32) (ik : Nat → Nat → Int32) (iq : Nat → Nat → Int32) (iw : Nat → Nat → Int32) (kn : Nat) (af : Nat → Int32) (bl : Nat) (bf : Nat → Int32) : va_W := [(ad 0, .inr (5, [.ref (ad 1), .ref (ad 18), .ref (ad 20), .ref (ad 24), .ref (ad 28), .ref (ad 37), .ref (ad 39), .int (lf), .int (fg)])), (ad 1, .inl (cs 2, 8, .inr (.inr (.inr (.inr (g)))))), (ad 2, .inr (3, [.ref (ad 3), .int (b2 (sd 0)), .int (la 0), .int (nI (an 0))])), (ad 3, .inl (cs 0, 40, .inl (rf 0))), (ad 4, .inr (3, [.ref (ad 5), .int (b2 (sd 1)), .int (la 1), .int (nI (an 1))])), (ad 5, .inl (cs 0, 40, .inl (rf 1))), (ad 6, .inr (3, [.ref (ad 7), .int (b2 (sd 2)), .int (la 2), .int (nI (an 2))])), (ad 7, .inl (cs 0, 40, .inl (rf 2))), (ad 8, .inr (3, [.ref (ad 9), .int (b2 (sd 3)), .int (la 3), .int (nI (an 3))])), (ad 9, .inl (cs 0, 40, .inl (rf 3))), (ad 10, .inr (3, [.ref (ad 11), .int (b2 (sd 4)), .int (la 4), .int (nI (an 4))])), (ad 11, .inl (cs 0, 40, .inl (rf 4))), (ad 12, .inr (3, [.ref (ad 13), .int (b2 (sd 5)), .int (la 5), .int (nI (an 5))])), (ad 13, .inl (cs 0, 40, .inl (rf 5))), (ad 14, .inr (3, [.ref (ad 15), .int (b2 (sd 6)), .int (la 6), .int (nI (an 6))])), (ad 15, .inl (cs 0, 40, .inl (rf 6))), (ad 16, .inr (3, [.ref (ad 17), .int (b2 (sd 7)), .int (la 7), .int (nI (an 7))])), (ad 17, .inl (cs 0, 40, .inl (rf 7))), (ad 18, .inr (2, [.ref (ad 19), .int (nI len), .int (pl), .int (nx), .int (so), .int (va)])), (ad 19, .inl (cs 0, 120, .inl (f))), (ad 20, .inr (4, [.ref (ad 21), .ref (ad 22), .ref (ad 23), .int (nI pn), .int (nI tn), .int (aw), .int (me), .int (sp)])), (ad 21, .inl (cs 0, 8, .inl (kf))), (ad 22, .inl (cs 0, 8, .inl (sf))), (ad 23, .inl (cs 0, 8, .inl (wf))), (ad 24, .inr (4, [.ref (ad 25), .ref (ad 26), .ref (ad 27), .int (p2), .int (t2), .int (a2), .int (m2), .int (s2)])), (ad 25, .inl (cs 0, 8, .inl (kg))), (ad 26, .inl (cs 0, 8, .inl (sg))), (ad 27, .inl (cs 0, 8, .inl (wg))), (ad 28, .inl (cs 3, 2, .inr (.inr (.inr (.inr (gi)))))), (ad 29, .inr (4, [.ref (ad 30), .ref (ad 31), .ref (ad 32), .int (ip 0), .int (it2 0), .int (ia 0), .int (im 0), .int (is2 0)])), (ad 30, .inl (cs 0, 8, .inl (ik 0))), (ad 31, .inl (cs 0, 8, .inl (iq 0))), (ad 32, .inl (cs 0, 8, .inl (iw 0))), (ad 33, .inr (4, [.ref (ad 34), .ref (ad 35), .ref (ad 36), .int (ip 1), .int (it2 1), .int (ia 1), .int (im 1), .int (is2 1)])), (ad 34, .inl (cs 0, 8, .inl (ik 1))), (ad 35, .inl (cs 0, 8, .inl (iq 1))), (ad 36, .inl (cs 0, 8, .inl (iw 1))), (ad 37, .inr (0, [.ref (ad 38), .int (nI kn)])), (ad 38, .inl (cs 0, 96, .inl (af))), (ad 39, .inr (1, [.ref (ad 20), .ref (ad 40), .int (nI bl)])), (ad 40, .inl (cs 0, 16, .inl (bf)))]
def wB (cs : Nat → ClassId) (ad : Nat → Nat) (lf : Int32) (fg : Int32) (f : Nat → Int32) (len : Nat) (kn : Nat) (bl : Nat) (bf : Nat → Int32) (it : Bool) (mpl : Int32) (mtk0 : Int32) (mva0 : Int32) (mbe : Int32) (mwr : Int32) (laf : Nat → Int32) (szf : Nat → Int32) (itf : Nat → Int32) (tf : Nat → Int32) (mvf : Nat → Int32) (d : Nat → Int32) (mf : Nat → Int32) (zf : Nat → Int32) (qf : Nat → Int32) : va_W := [(ad 41, .inr (6, [.ref (ad 42), .ref (ad 43), .ref (ad 44), .int (fg), .int (b2 it), .ref (ad 45), .ref (ad 46), .ref (ad 47), .int (nI len), .int (lf), .int (mpl), .int (mtk0), .int (mva0), .int (mbe), .int (mwr), .ref (ad 48), .ref (ad 49), .int (nI kn), .ref (ad 50), .ref (ad 51), .ref (ad 52), .int (nI bl)])), (ad 42, .inl (cs 0, 8, .inl (laf))), (ad 43, .inl (cs 0, 8, .inl (szf))), (ad 44, .inl (cs 0, 320, .inl (itf))), (ad 45, .inl (cs 0, 29, .inl (tf))), (ad 46, .inl (cs 0, 40, .inl (mvf))), (ad 47, .inl (cs 0, 120, .inl (f))), (ad 48, .inl (cs 0, 29, .inl (d))), (ad 49, .inl (cs 0, 696, .inl (mf))), (ad 50, .inl (cs 1, 2, .inl (zf))), (ad 51, .inl (cs 0, 58, .inl (qf))), (ad 52, .inl (cs 0, 16, .inl (bf)))]
def updB (f : Nat → Bool) (k : Nat) (x : Bool) : Nat → Bool := fun j => if j = k then x else f j
def updN (f : Nat → Nat) (k : Nat) (x : Nat) : Nat → Nat := fun j => if j = k then x else f j
def updF (f : Nat → Nat → Int32) (k : Nat) (x : Nat → Int32) : Nat → Nat → Int32 := fun j => if j = k then x else f j
def snp (n : Nat) (mf : Nat → Int32) (k : Nat) : Nat → Int32 := fun j => mf (n * k + j)
/-- a table of the class, and one of the model -/
def TB (pn tn : Nat) (aw me sp : Int32) (kf sf wf tf : Nat → Int32) : Prop :=
  (pn ≤ 6 ∧ tn ≤ 8 ∧ s64 aw ∧ (∃ mn : Nat, mn ≤ 999 ∧ me = nI mn) ∧ ∀ t, s64 (sf t)) ∧ (tf 0 = nI pn ∧ tf 1 = nI tn ∧ tf 2 = me ∧ tf 3 = sp ∧ tf 4 = aw ∧ ∀ t, t < 16 → s64 (tf (13 + t))) ∧ ∀ t, t < tn → kf t = tf (5 + t) ∧ sf t = tf (13 + t) ∧ wf t = tf (21 + t) ∧ kok (kf t) ∧ ∃ u : Nat, u ≤ 40 ∧ wf t = nI u
/-- the acts of the class, and the model's snapshots: from the latest on -/
def AR (af mf : Nat → Int32) : Nat → Nat → Nat → Int32 → Int32 → Int32 → (Nat → Int32) → (Nat → Int32) → (Nat → Int32) → Prop
  | 0, _, _, _, _, _, _, _, _ => True
  | k + 1, pn, tn, aw, me, sp, kf, sf, wf =>
    (af (4 * k) = 0 ∧ TB pn tn (af (4 * k + 1)) me sp kf sf wf (snp 29 mf k) ∧ AR af mf k pn tn (af (4 * k + 1)) me sp kf sf wf) ∨
    (af (4 * k) = 1 ∧ ∃ t, tn = t + 1 ∧ TB pn t aw me sp kf sf wf (snp 29 mf k) ∧ AR af mf k pn t aw me sp kf sf wf) ∨
    (af (4 * k) = 2 ∧ tn < 8 ∧ TB pn (tn + 1) aw me sp (upd kf tn (af (4 * k + 1))) (upd sf tn (af (4 * k + 2))) (upd wf tn (af (4 * k + 3))) (snp 29 mf k) ∧ AR af mf k pn (tn + 1) aw me sp (upd kf tn (af (4 * k + 1))) (upd sf tn (af (4 * k + 2))) (upd wf tn (af (4 * k + 3)))) ∨
    (af (4 * k) = 3 ∧ TB pn tn aw (me - 1) (sp - af (4 * k + 1)) kf sf wf (snp 29 mf k) ∧ AR af mf k pn tn aw (me - 1) (sp - af (4 * k + 1)) kf sf wf)
/-- a row of the class, and one of the model -/
def RW (sd : Bool) (la : Int32) (an : Nat) (rf : Nat → Int32) (ml ms : Int32) (itf : Nat → Int32) (j : Nat) : Prop := an ≤ 40 ∧ (sd = false → ms = -1) ∧ (sd = true → ms = nI an ∧ ml = la ∧ ∀ q, q < 40 → itf (40 * j + q) = rf q)
/-- an image of the class, and one of the model -/
def IM (p t : Int32) (a m s : Int32) (kf sf wf : Nat → Int32) (z : Int32) (tf : Nat → Int32) : Prop := (z = 0 ∧ p = 0) ∨ (¬ z = 0 ∧ ∃ pn tn : Nat, 0 < pn ∧ p = nI pn ∧ t = nI tn ∧ TB pn tn a m s kf sf wf tf)
theorem TB.tf {pn tn : Nat} {aw me sp : Int32} {kf sf wf tf tg : Nat → Int32} (h : TB pn tn aw me sp kf sf wf tf) (e : ∀ j, j < 29 → tg j = tf j) : TB pn tn aw me sp kf sf wf tg := by
  obtain ⟨h1, ⟨a0, a1, a2, a3, a4, a5⟩, h3⟩ := h
  have h8 := h1.2.1
  refine ⟨h1, ⟨(e 0 (by omega)).trans a0, (e 1 (by omega)).trans a1, (e 2 (by omega)).trans a2, (e 3 (by omega)).trans a3, (e 4 (by omega)).trans a4, fun t ht => by rw [e _ (by omega)]; exact a5 t ht⟩, fun t ht => ?_⟩
  obtain ⟨b1, b2, b3, b4⟩ := h3 t ht
  exact ⟨b1.trans (e _ (by omega)).symm, b2.trans (e _ (by omega)).symm, b3.trans (e _ (by omega)).symm, b4⟩
theorem AR.cong {af mf ag mg : Nat → Int32} : ∀ {k pn tn : Nat} {aw me sp : Int32} {kf sf wf : Nat → Int32}, (∀ j, j < 4 * k → ag j = af j) → (∀ j, j < 29 * k → mg j = mf j) → AR af mf k pn tn aw me sp kf sf wf → AR ag mg k pn tn aw me sp kf sf wf
  | 0, _, _, _, _, _, _, _, _, _, _, _ => trivial
  | k + 1, pn, tn, aw, me, sp, kf, sf, wf, e1, e2, h => by
    have f0 := e1 (4 * k) (by omega)
    have f1 := e1 (4 * k + 1) (by omega)
    have f2 := e1 (4 * k + 2) (by omega)
    have f3 := e1 (4 * k + 3) (by omega)
    have es : ∀ j, j < 29 → snp 29 mg k j = snp 29 mf k j := fun j hj => e2 _ (by omega)
    unfold AR at h ⊢
    rw [f0, f1, f2, f3]
    rcases h with ⟨a, b, c⟩ | ⟨a, t, b, c, d⟩ | ⟨a, b, c, d⟩ | ⟨a, b, c⟩
    · exact Or.inl ⟨a, b.tf es, AR.cong (fun j hj => e1 j (by omega)) (fun j hj => e2 j (by omega)) c⟩
    · exact Or.inr (Or.inl ⟨a, t, b, c.tf es, AR.cong (fun j hj => e1 j (by omega)) (fun j hj => e2 j (by omega)) d⟩)
    · exact Or.inr (Or.inr (Or.inl ⟨a, b, c.tf es, AR.cong (fun j hj => e1 j (by omega)) (fun j hj => e2 j (by omega)) d⟩))
    · exact Or.inr (Or.inr (Or.inr ⟨a, b.tf es, AR.cong (fun j hj => e1 j (by omega)) (fun j hj => e2 j (by omega)) c⟩))
/-- the oldest forgotten -/
theorem AR.drop {af mf ag mg : Nat → Int32} : ∀ {k pn tn : Nat} {aw me sp : Int32} {kf sf wf : Nat → Int32}, (∀ j, j < 4 * k → ag j = af (j + 4)) → (∀ j, j < 29 * k → mg j = mf (j + 29)) → AR af mf (k + 1) pn tn aw me sp kf sf wf → AR ag mg k pn tn aw me sp kf sf wf
  | 0, _, _, _, _, _, _, _, _, _, _, _ => trivial
  | k + 1, pn, tn, aw, me, sp, kf, sf, wf, e1, e2, h => by
    have f0 : ag (4 * k) = af (4 * (k + 1)) := (e1 (4 * k) (by omega)).trans (congrArg af (by omega))
    have f1 : ag (4 * k + 1) = af (4 * (k + 1) + 1) := (e1 (4 * k + 1) (by omega)).trans (congrArg af (by omega))
    have f2 : ag (4 * k + 2) = af (4 * (k + 1) + 2) := (e1 (4 * k + 2) (by omega)).trans (congrArg af (by omega))
    have f3 : ag (4 * k + 3) = af (4 * (k + 1) + 3) := (e1 (4 * k + 3) (by omega)).trans (congrArg af (by omega))
    have es : ∀ j, j < 29 → snp 29 mg k j = snp 29 mf (k + 1) j := fun j hj => (e2 (29 * k + j) (by omega)).trans (congrArg mf (by omega))
    rw [AR] at h
    rw [AR, f0, f1, f2, f3]
    rcases h with ⟨a, b, c⟩ | ⟨a, t, b, c, d⟩ | ⟨a, b, c, d⟩ | ⟨a, b, c⟩
    · exact Or.inl ⟨a, b.tf es, AR.drop (fun j hj => e1 j (by omega)) (fun j hj => e2 j (by omega)) c⟩
    · exact Or.inr (Or.inl ⟨a, t, b, c.tf es, AR.drop (fun j hj => e1 j (by omega)) (fun j hj => e2 j (by omega)) d⟩)
    · exact Or.inr (Or.inr (Or.inl ⟨a, b, c.tf es, AR.drop (fun j hj => e1 j (by omega)) (fun j hj => e2 j (by omega)) d⟩))
    · exact Or.inr (Or.inr (Or.inr ⟨a, b.tf es, AR.drop (fun j hj => e1 j (by omega)) (fun j hj => e2 j (by omega)) c⟩))
/-- what lies below the place where the next act is kept -/
def lowA (af : Nat → Int32) (n : Nat) : Nat → Int32 := if n < 24 then af else shF af 96
def lowM (mf tf : Nat → Int32) (n : Nat) : Nat → Int32 := ntF mf tf n
def kpL (n : Nat) : Nat := if n < 24 then n else 23
theorem kpL_le {n : Nat} (h : n ≤ 24) : kpL n < 24 := by unfold kpL; split <;> omega
theorem kpN_L (n : Nat) : kpN n = kpL n + 1 := by unfold kpN kpL; split <;> omega
theorem AR.low {af mf tf : Nat → Int32} {k pn tn : Nat} {aw me sp : Int32} {kf sf wf : Nat → Int32} {a b c d : Int32} (hk : k ≤ 24) (h : AR af mf k pn tn aw me sp kf sf wf) : AR (kpF af k a b c d) (ntF mf tf k) (kpL k) pn tn aw me sp kf sf wf := by
  by_cases h1 : k < 24
  · have e : kpL k = k := if_pos h1
    rw [e]
    refine h.cong (fun j hj => ?_) (fun j hj => ?_)
    · unfold kpF
      simp only [if_pos h1, upd]
      rw [if_neg (by omega), if_neg (by omega), if_neg (by omega), if_neg (by omega)]
    · unfold ntF
      rw [if_pos h1, if_neg (by omega)]
  · have e : kpL k = 23 := if_neg h1
    have e2 : k = 23 + 1 := by omega
    rw [e]
    rw [e2] at h
    refine h.drop (fun j hj => ?_) (fun j hj => ?_)
    · unfold kpF shF
      simp only [if_neg h1, upd]
      rw [if_neg (by omega), if_neg (by omega), if_neg (by omega), if_neg (by omega), if_pos (by omega)]
    · unfold ntF
      rw [if_neg h1, if_neg (by omega), if_pos (by omega)]
theorem kpF_at {af : Nat → Int32} {k : Nat} {a b c d : Int32} : kpF af k a b c d (4 * kpL k) = a ∧ kpF af k a b c d (4 * kpL k + 1) = b ∧ kpF af k a b c d (4 * kpL k + 2) = c ∧ kpF af k a b c d (4 * kpL k + 3) = d := by
  unfold kpF kpL
  simp only [upd]
  refine ⟨?_, ?_, ?_, ?_⟩
  · rw [if_neg (by omega), if_neg (by omega), if_neg (by omega), if_pos trivial]
  · rw [if_neg (by omega), if_neg (by omega), if_pos trivial]
  · rw [if_neg (by omega), if_pos trivial]
  · rw [if_pos trivial]
theorem snp_nt {mf tf : Nat → Int32} {k : Nat} (hk : k ≤ 24) : ∀ j, j < 29 → snp 29 (ntF mf tf k) (kpL k) j = tf j := by
  intro j hj
  unfold snp ntF kpL
  by_cases h1 : k < 24
  · rw [if_pos h1, if_pos h1, if_pos (by omega)]
    exact congrArg tf (by omega)
  · rw [if_neg h1, if_neg h1, if_pos (by omega)]
    exact congrArg tf (by omega)
/-- an act more is kept -/
theorem AR.pushA {af mf tf : Nat → Int32} {k pn tn : Nat} {aw aw2 me sp c d : Int32} {kf sf wf : Nat → Int32} (hk : k ≤ 24) (h : AR af mf k pn tn aw me sp kf sf wf) (hT : TB pn tn aw me sp kf sf wf tf) : AR (kpF af k 0 aw c d) (ntF mf tf k) (kpN k) pn tn aw2 me sp kf sf wf := by
  obtain ⟨f0, f1, _, _⟩ := kpF_at (af := af) (k := k) (a := 0) (b := aw) (c := c) (d := d)
  rw [kpN_L, AR]
  exact Or.inl ⟨f0, by rw [f1]; exact hT.tf (snp_nt hk), by rw [f1]; exact h.low hk⟩
theorem AR.pushT {af mf tf : Nat → Int32} {k pn tn : Nat} {aw me sp b c d : Int32} {kf sf wf kg sg wg : Nat → Int32} (hk : k ≤ 24) (h : AR af mf k pn tn aw me sp kg sg wg) (hT : TB pn tn aw me sp kg sg wg tf) : AR (kpF af k 1 b c d) (ntF mf tf k) (kpN k) pn (tn + 1) aw me sp kg sg wg := by
  obtain ⟨f0, f1, _, _⟩ := kpF_at (af := af) (k := k) (a := 1) (b := b) (c := c) (d := d)
  rw [kpN_L, AR]
  exact Or.inr (Or.inl ⟨f0, tn, rfl, hT.tf (snp_nt hk), h.low hk⟩)
theorem AR.pushU {af mf tf : Nat → Int32} {k pn tn : Nat} {aw me sp : Int32} {kf sf wf : Nat → Int32} (hk : k ≤ 24) (ht : tn < 8) (h : AR af mf k pn (tn + 1) aw me sp kf sf wf) (hT : TB pn (tn + 1) aw me sp kf sf wf tf) : AR (kpF af k 2 (kf tn) (sf tn) (wf tn)) (ntF mf tf k) (kpN k) pn tn aw me sp kf sf wf := by
  obtain ⟨f0, f1, f2, f3⟩ := kpF_at (af := af) (k := k) (a := 2) (b := kf tn) (c := sf tn) (d := wf tn)
  have u : ∀ z : Nat → Int32, upd z tn (z tn) = z := fun z => by
    funext j
    simp only [upd]
    split
    · rename_i e; rw [e]
    · rfl
  rw [kpN_L, AR]
  exact Or.inr (Or.inr (Or.inl ⟨f0, ht, by rw [f1, f2, f3, u, u, u]; exact hT.tf (snp_nt hk), by rw [f1, f2, f3, u, u, u]; exact h.low hk⟩))
theorem AR.pushM {af mf tf : Nat → Int32} {k pn tn : Nat} {aw me sp v c d : Int32} {kf sf wf : Nat → Int32} (hk : k ≤ 24) (h : AR af mf k pn tn aw me sp kf sf wf) (hT : TB pn tn aw me sp kf sf wf tf) : AR (kpF af k 3 v c d) (ntF mf tf k) (kpN k) pn tn aw (me + 1) (sp + v) kf sf wf := by
  obtain ⟨f0, f1, _, _⟩ := kpF_at (af := af) (k := k) (a := 3) (b := v) (c := c) (d := d)
  rw [kpN_L, AR]
  have e1 : me + 1 - 1 = me := by first | (rw [Int32.add_sub_cancel]; done) | simp
  have e2 : sp + v - v = sp := by first | (rw [Int32.add_sub_cancel]; done) | simp
  exact Or.inr (Or.inr (Or.inr ⟨f0, by rw [f1, e1, e2]; exact hT.tf (snp_nt hk), by rw [f1, e1, e2]; exact h.low hk⟩))
/-- ties beyond the last don't count -/
theorem AR.junk {af mf : Nat → Int32} : ∀ {k pn tn : Nat} {aw me sp : Int32} {kf sf wf kg sg wg : Nat → Int32}, (∀ t, t < tn → kg t = kf t) → (∀ t, t < tn → sg t = sf t) → (∀ t, t < tn → wg t = wf t) → (∀ t, s64 (sg t)) → AR af mf k pn tn aw me sp kf sf wf → AR af mf k pn tn aw me sp kg sg wg
  | 0, _, _, _, _, _, _, _, _, _, _, _, _, _, _, _, _ => trivial
  | k + 1, pn, tn, aw, me, sp, kf, sf, wf, kg, sg, wg, e1, e2, e3, e4, h => by
    have tb : ∀ {a m s : Int32} {t : Nat} {tf : Nat → Int32}, t ≤ tn → TB pn t a m s kf sf wf tf → TB pn t a m s kg sg wg tf := by
      intro a m s t tf hle hT
      obtain ⟨⟨a1, a2, a3, a4, a5⟩, b, c⟩ := hT
      refine ⟨⟨a1, a2, a3, a4, e4⟩, b, fun i hi => ?_⟩
      rw [e1 i (by omega), e2 i (by omega), e3 i (by omega)]
      exact c i hi
    rw [AR] at h
    rw [AR]
    rcases h with ⟨a, b, c⟩ | ⟨a, t, b, c, d⟩ | ⟨a, b, c, d⟩ | ⟨a, b, c⟩
    · exact Or.inl ⟨a, tb (Nat.le_refl _) b, AR.junk e1 e2 e3 e4 c⟩
    · exact Or.inr (Or.inl ⟨a, t, b, tb (by omega) c, AR.junk (fun i hi => e1 i (by omega)) (fun i hi => e2 i (by omega)) (fun i hi => e3 i (by omega)) e4 d⟩)
    · refine Or.inr (Or.inr (Or.inl ⟨a, b, ?_, ?_⟩))
      · obtain ⟨⟨a1, a2, a3, a4, a5⟩, b1, c1⟩ := c
        refine ⟨⟨a1, a2, a3, a4, fun i => ?_⟩, b1, fun i hi => ?_⟩
        · simp only [upd]
          split
          · have := a5 tn; simp only [upd, if_true] at this; exact this
          · exact e4 i
        · have q := c1 i hi
          simp only [upd] at q ⊢
          by_cases z : i = tn
          · simp only [if_pos z] at q ⊢; exact q
          · simp only [if_neg z] at q ⊢; rw [e1 i (by omega), e2 i (by omega), e3 i (by omega)]; exact q
      · have s5 : ∀ t, s64 (upd sg tn (af (4 * k + 2)) t) := fun i => by
          simp only [upd]
          split
          · have := c.1.2.2.2.2 tn; simp only [upd, if_true] at this; exact this
          · exact e4 i
        refine AR.junk (fun i hi => ?_) (fun i hi => ?_) (fun i hi => ?_) s5 d
        all_goals
          simp only [upd]
          split
          · rfl
          · first | exact e1 i (by omega) | exact e2 i (by omega) | exact e3 i (by omega)
    · exact Or.inr (Or.inr (Or.inr ⟨a, tb (Nat.le_refl _) b, AR.junk e1 e2 e3 e4 c⟩))
/-- a call over a whole world -/
def WC (l : Launch) (D : va_G) (cs : Nat → ClassId) (y : MethodName) (wsy : List Cond) (rm : Room) (av : List Value) (ws : va_W) (r : Int32) (ws' : va_W) : Prop := ∃ (wc w1 : va_W) (isC : List Nat), CT l D (tz cs) y wsy rm av wc (some (.int r)) w1 ∧ isC.map (fun i => ws[i]?) = wc.map some ∧ va_nd isC = true ∧ w1.map (fun q => q.1) = wc.map (fun q => q.1) ∧ putAll ws isC w1 = ws'
theorem put_id : ∀ {is : List Nat} {ws wc : va_W}, is.map (fun i => ws[i]?) = wc.map some → putAll ws is wc = ws
  | [], ws, wc, _ => by cases wc <;> rfl
  | i :: is, ws, [], _ => rfl
  | i :: is, ws, q :: wc, h => by
    rw [List.map_cons, List.map_cons, List.cons.injEq] at h
    have e : ws.set i q = ws := by
      apply List.ext_getElem?
      intro k
      rw [List.getElem?_set]
      split
      · rename_i z
        subst z
        rw [h.1]
        split
        · rfl
        · rename_i hl
          have := (List.getElem?_eq_some_iff.mp h.1).1
          exact absurd this hl
      · rfl
    rw [putAll, e]
    exact put_id h.2
theorem WC.same {l : Launch} {D : va_G} {cs : Nat → ClassId} {y : MethodName} {wsy : List Cond} {rm : Room} {av : List Value} {ws wc : va_W} {r r' : Int32} (isC : List Nat) (h : CT l D (tz cs) y wsy rm av wc (some (.int r)) wc) (hC : isC.map (fun i => ws[i]?) = wc.map some) (hn : va_nd isC = true) (hr : r = r') : WC l D cs y wsy rm av ws r' ws := by
  subst hr
  exact ⟨wc, wc, isC, h, hC, hn, rfl, put_id hC⟩
theorem WC.put {l : Launch} {D : va_G} {cs : Nat → ClassId} {y : MethodName} {wsy : List Cond} {rm : Room} {av : List Value} {ws wc w1 w2 ws' : va_W} {r r' : Int32} (isC : List Nat) (h : CT l D (tz cs) y wsy rm av wc (some (.int r)) w1) (hC : isC.map (fun i => ws[i]?) = wc.map some) (hn : va_nd isC = true) (hr : r = r') (h12 : w1 = w2) (ha : w2.map (fun q => q.1) = wc.map (fun q => q.1)) (hu : putAll ws isC w2 = ws') : WC l D cs y wsy rm av ws r' ws' := by
  subst hr
  subst h12
  exact ⟨wc, w1, isC, h, hC, hn, ha, hu⟩
/-- the two worlds are tied -/
def Inv (cs : Nat → ClassId) (ad : Nat → Nat) (ws : va_W) : Prop := ∃ (g : Nat → Option Nat) (gi : Nat → Option Nat) (lf : Int32) (fg : Int32) (sd : Nat → Bool) (la : Nat → Int32) (an : Nat → Nat) (rf : Nat → Nat → Int32) (f : Nat → Int32) (len : Nat) (pl : Int32) (nx : Int32) (so : Int32) (va : Int32) (pn : Nat) (tn : Nat) (aw : Int32) (me : Int32) (sp : Int32) (kf : Nat → Int32) (sf : Nat → Int32) (wf : Nat → Int32) (p2 : Int32) (t2 : Int32) (a2 : Int32) (m2 : Int32) (s2 : Int32) (kg : Nat → Int32) (sg : Nat → Int32) (wg : Nat → Int32) (ip : Nat → Int32) (it2 : Nat → Int32) (ia : Nat → Int32) (im : Nat → Int32) (is2 : Nat → Int32) (ik : Nat → Nat → Int32) (iq : Nat → Nat → Int32) (iw : Nat → Nat → Int32) (kn : Nat) (af : Nat → Int32) (bl : Nat) (bf : Nat → Int32) (mpl : Int32) (mtk0 : Int32) (mva0 : Int32) (mbe : Int32) (mwr : Int32) (laf : Nat → Int32) (szf : Nat → Int32) (itf : Nat → Int32) (tf : Nat → Int32) (mvf : Nat → Int32) (d : Nat → Int32) (mf : Nat → Int32) (zf : Nat → Int32) (qf : Nat → Int32), ws = wA cs ad g gi lf fg sd la an rf f len pl nx so va pn tn aw me sp kf sf wf p2 t2 a2 m2 s2 kg sg wg ip it2 ia im is2 ik iq iw kn af bl bf ++ wB cs ad lf fg f len kn bl bf (decide (0 < pn)) mpl mtk0 mva0 mbe mwr laf szf itf tf mvf d mf zf qf ∧ ((∀ j, j < 8 → g j = some (ad (2 + 2 * j))) ∧ ∀ k, k < 2 → gi k = some (ad (29 + 4 * k))) ∧ (∀ j, j < 8 → RW (sd j) (la j) (an j) (rf j) (laf j) (szf j) itf j) ∧ (len ≤ 120 ∧ bl ≤ 16 ∧ kn ≤ 24 ∧ (∀ t, s64 (sg t)) ∧ ∀ k, k < 2 → ∀ t, s64 (iq k t)) ∧ (TB pn tn aw me sp kf sf wf tf ∧ ∀ j, 29 ≤ j → tf j = 0) ∧ AR af mf kn pn tn aw me sp kf sf wf ∧ (∀ k, k < 2 → IM (ip k) (it2 k) (ia k) (im k) (is2 k) (ik k) (iq k) (iw k) (zf k) (snp 29 qf k)) ∧ ∀ k, k < 2 → ¬ zf k = 0 → 0 < pn
/-- the class and the model are asked the same: the same answer, and tied behind it -/
def Goes2 (l : Launch) (D : va_G) (cs : Nat → ClassId) (ad : Nat → Nat) (yC : MethodName) (wsC : List Cond) (rC : Room) (yM : MethodName) (wsM : List Cond) (rM : Room) (av : List Value) (ws : va_W) : Prop := ∃ (r : Int32) (w1 w2 : va_W), WC l D cs yC wsC rC (.ref (ad 0) :: av) ws r w1 ∧ WC l D cs yM wsM rM (.ref (ad 41) :: av) w1 r w2 ∧ Inv cs ad w2 ∧ ∃ gs : List Value, w1[41]? = some (ad 41, .inr (6, gs))
set_option maxHeartbeats 8000000 in
theorem Inv.opn {cs : Nat → ClassId} {ad : Nat → Nat} {ws : va_W} {G : va_W → Prop} (h : Inv cs ad ws) (k : ∀ (g : Nat → Option Nat) (gi : Nat → Option Nat) (lf : Int32) (fg : Int32) (sd : Nat → Bool) (la : Nat → Int32) (an : Nat → Nat) (rf : Nat → Nat → Int32) (f : Nat → Int32) (len : Nat) (pl : Int32) (nx : Int32) (so : Int32) (va : Int32) (pn : Nat) (tn : Nat) (aw : Int32) (me : Int32) (sp : Int32) (kf : Nat → Int32) (sf : Nat → Int32) (wf : Nat → Int32) (p2 : Int32) (t2 : Int32) (a2 : Int32) (m2 : Int32) (s2 : Int32) (kg : Nat → Int32) (sg : Nat → Int32) (wg : Nat → Int32) (ip : Nat → Int32) (it2 : Nat → Int32) (ia : Nat → Int32) (im : Nat → Int32) (is2 : Nat → Int32) (ik : Nat → Nat → Int32) (iq : Nat → Nat → Int32) (iw : Nat → Nat → Int32) (kn : Nat) (af : Nat → Int32) (bl : Nat) (bf : Nat → Int32) (mpl : Int32) (mtk0 : Int32) (mva0 : Int32) (mbe : Int32) (mwr : Int32) (laf : Nat → Int32) (szf : Nat → Int32) (itf : Nat → Int32) (tf : Nat → Int32) (mvf : Nat → Int32) (d : Nat → Int32) (mf : Nat → Int32) (zf : Nat → Int32) (qf : Nat → Int32), ((∀ j, j < 8 → g j = some (ad (2 + 2 * j))) ∧ ∀ k, k < 2 → gi k = some (ad (29 + 4 * k))) → (∀ j, j < 8 → RW (sd j) (la j) (an j) (rf j) (laf j) (szf j) itf j) → (len ≤ 120 ∧ bl ≤ 16 ∧ kn ≤ 24 ∧ (∀ t, s64 (sg t)) ∧ ∀ k, k < 2 → ∀ t, s64 (iq k t)) → (TB pn tn aw me sp kf sf wf tf ∧ ∀ j, 29 ≤ j → tf j = 0) → (AR af mf kn pn tn aw me sp kf sf wf) → ((∀ k, k < 2 → IM (ip k) (it2 k) (ia k) (im k) (is2 k) (ik k) (iq k) (iw k) (zf k) (snp 29 qf k)) ∧ ∀ k, k < 2 → ¬ zf k = 0 → 0 < pn) → Inv cs ad (wA cs ad g gi lf fg sd la an rf f len pl nx so va pn tn aw me sp kf sf wf p2 t2 a2 m2 s2 kg sg wg ip it2 ia im is2 ik iq iw kn af bl bf ++ wB cs ad lf fg f len kn bl bf (decide (0 < pn)) mpl mtk0 mva0 mbe mwr laf szf itf tf mvf d mf zf qf) → G (wA cs ad g gi lf fg sd la an rf f len pl nx so va pn tn aw me sp kf sf wf p2 t2 a2 m2 s2 kg sg wg ip it2 ia im is2 ik iq iw kn af bl bf ++ wB cs ad lf fg f len kn bl bf (decide (0 < pn)) mpl mtk0 mva0 mbe mwr laf szf itf tf mvf d mf zf qf)) : G ws := by
  obtain ⟨g, gi, lf, fg, sd, la, an, rf, f, len, pl, nx, so, va, pn, tn, aw, me, sp, kf, sf, wf, p2, t2, a2, m2, s2, kg, sg, wg, ip, it2, ia, im, is2, ik, iq, iw, kn, af, bl, bf, mpl, mtk0, mva0, mbe, mwr, laf, szf, itf, tf, mvf, d, mf, zf, qf, rfl, h1, h2, h3, h4, h5, h6⟩ := id h
  exact k g gi lf fg sd la an rf f len pl nx so va pn tn aw me sp kf sf wf p2 t2 a2 m2 s2 kg sg wg ip it2 ia im is2 ik iq iw kn af bl bf mpl mtk0 mva0 mbe mwr laf szf itf tf mvf d mf zf qf h1 h2 h3 h4 h5 h6 h
set_option maxHeartbeats 8000000 in
theorem Inv.mk {cs : Nat → ClassId} {ad : Nat → Nat} {g : Nat → Option Nat} {gi : Nat → Option Nat} {lf : Int32} {fg : Int32} {sd : Nat → Bool} {la : Nat → Int32} {an : Nat → Nat} {rf : Nat → Nat → Int32} {f : Nat → Int32} {len : Nat} {pl : Int32} {nx : Int32} {so : Int32} {va : Int32} {pn : Nat} {tn : Nat} {aw : Int32} {me : Int32} {sp : Int32} {kf : Nat → Int32} {sf : Nat → Int32} {wf : Nat → Int32} {p2 : Int32} {t2 : Int32} {a2 : Int32} {m2 : Int32} {s2 : Int32} {kg : Nat → Int32} {sg : Nat → Int32} {wg : Nat → Int32} {ip : Nat → Int32} {it2 : Nat → Int32} {ia : Nat → Int32} {im : Nat → Int32} {is2 : Nat → Int32} {ik : Nat → Nat → Int32} {iq : Nat → Nat → Int32} {iw : Nat → Nat → Int32} {kn : Nat} {af : Nat → Int32} {bl : Nat} {bf : Nat → Int32} {mpl : Int32} {mtk0 : Int32} {mva0 : Int32} {mbe : Int32} {mwr : Int32} {laf : Nat → Int32} {szf : Nat → Int32} {itf : Nat → Int32} {tf : Nat → Int32} {mvf : Nat → Int32} {d : Nat → Int32} {mf : Nat → Int32} {zf : Nat → Int32} {qf : Nat → Int32} (h1 : (∀ j, j < 8 → g j = some (ad (2 + 2 * j))) ∧ ∀ k, k < 2 → gi k = some (ad (29 + 4 * k))) (h2 : ∀ j, j < 8 → RW (sd j) (la j) (an j) (rf j) (laf j) (szf j) itf j) (h3 : len ≤ 120 ∧ bl ≤ 16 ∧ kn ≤ 24 ∧ (∀ t, s64 (sg t)) ∧ ∀ k, k < 2 → ∀ t, s64 (iq k t)) (h4 : TB pn tn aw me sp kf sf wf tf ∧ ∀ j, 29 ≤ j → tf j = 0) (h5 : AR af mf kn pn tn aw me sp kf sf wf) (h6 : (∀ k, k < 2 → IM (ip k) (it2 k) (ia k) (im k) (is2 k) (ik k) (iq k) (iw k) (zf k) (snp 29 qf k)) ∧ ∀ k, k < 2 → ¬ zf k = 0 → 0 < pn) : Inv cs ad (wA cs ad g gi lf fg sd la an rf f len pl nx so va pn tn aw me sp kf sf wf p2 t2 a2 m2 s2 kg sg wg ip it2 ia im is2 ik iq iw kn af bl bf ++ wB cs ad lf fg f len kn bl bf (decide (0 < pn)) mpl mtk0 mva0 mbe mwr laf szf itf tf mvf d mf zf qf) :=
  ⟨g, gi, lf, fg, sd, la, an, rf, f, len, pl, nx, so, va, pn, tn, aw, me, sp, kf, sf, wf, p2, t2, a2, m2, s2, kg, sg, wg, ip, it2, ia, im, is2, ik, iq, iw, kn, af, bl, bf, mpl, mtk0, mva0, mbe, mwr, laf, szf, itf, tf, mvf, d, mf, zf, qf, rfl, h1, h2, h3, h4, h5, h6⟩
