/-! the acts -/
theorem aw_s1 : ∀ k : Nat, k < 64 → ∀ i : Nat, i < 6 → awN (nI k) (nI i) 1 = nI (k ||| 2 ^ i) ∧ k ||| 2 ^ i < 64 := by decide +kernel
theorem aw_s0 : ∀ k : Nat, k < 64 → ∀ i : Nat, i < 6 → awN (nI k) (nI i) 0 = nI (k &&& (63 ^^^ 2 ^ i)) ∧ k &&& (63 ^^^ 2 ^ i) < 64 := by decide +kernel
theorem TB.up4 {pn tn : Nat} {aw a me sp : Int32} {kf sf wf tf : Nat → Int32} (h : TB pn tn aw me sp kf sf wf tf) (ha : s64 a) : TB pn tn a me sp kf sf wf (upd tf 4 a) := by
  obtain ⟨⟨b1, b2, _, b4⟩, ⟨a0, a1, a2, a3, a4, a5⟩, h3⟩ := h
  have e : ∀ j, j ≠ 4 → upd tf 4 a j = tf j := fun j hj => pk_un hj
  refine ⟨⟨b1, b2, ha, b4⟩, ⟨(e 0 (by omega)).trans a0, (e 1 (by omega)).trans a1, (e 2 (by omega)).trans a2, (e 3 (by omega)).trans a3, pk_us, fun t ht => by rw [e _ (by omega)]; exact a5 t ht⟩, fun t ht => ?_⟩
  rw [e _ (by omega), e _ (by omega), e _ (by omega)]
  exact h3 t ht
theorem zt_up {tf : Nat → Int32} {k : Nat} {a : Int32} (hk : k < 29) (hz : ∀ j, 29 ≤ j → tf j = 0) : ∀ j, 29 ≤ j → upd tf k a j = 0 := fun j hj => by rw [pk_un (by omega)]; exact hz j hj
theorem tieB_eq (pe x y z : Int32) : tieB pe x y z = (inI x 1 5 && inI y 1 (allI pe) && inI z 0 40) := by
  have e0 : (0 : Int32).toInt = 0 := by decide
  have e1 : (1 : Int32).toInt = 1 := by decide
  unfold tieB inI setB
  by_cases h1 : x < 1
  · simp only [h1, ↓reduceIte, Bool.false_and]
  · by_cases h2 : 5 < x
    · simp only [h1, h2, ↓reduceIte, Bool.false_and]
    · by_cases h3 : y < 1
      · by_cases h4 : y = 0
        · simp only [h1, h2, h3, h4, ↓reduceIte, Bool.true_and, Bool.false_and]
          first | rfl | (rw [if_pos (by decide)]; rfl)
        · have h5 : y < 0 := by
            rw [Int32.lt_iff_toInt_lt] at h3 ⊢
            have : ¬ y.toInt = 0 := fun q => h4 (Int32.toInt_inj.mp (q.trans e0.symm))
            omega
          simp only [h1, h2, h3, h4, h5, ↓reduceIte, Bool.true_and, Bool.false_and, Bool.false_eq_true]
      · have h4 : ¬ y = 0 := fun q => h3 (by rw [q]; decide)
        have h5 : ¬ y < 0 := by
          rw [Int32.lt_iff_toInt_lt] at h3 ⊢
          omega
        by_cases h6 : allI pe < y
        · simp only [h1, h2, h3, h4, h5, h6, ↓reduceIte, Bool.true_and, Bool.false_and, Bool.false_eq_true]
        · simp only [h1, h2, h3, h4, h5, h6, ↓reduceIte, Bool.true_and]
theorem inI_15 {x : Int32} (h : inI x 1 5 = true) : kok x := by
  obtain ⟨h1, h2⟩ := inI_iff.mp h
  have e1 : (1 : Int32).toInt = 1 := by decide
  have e5 : (5 : Int32).toInt = 5 := by decide
  rw [Int32.lt_iff_toInt_lt] at h1 h2
  have h3 : x = nI x.toInt.toNat := by apply Int32.toInt_inj.mp; rw [nI_toInt (by omega)]; omega
  rw [h3]
  exact kok_nI (by omega) (by omega)
theorem inI_s {y : Int32} {pn : Nat} (hp : pn ≤ 6) (h : inI y 1 (allI (nI pn)) = true) : s64 y := by
  obtain ⟨h1, h2⟩ := inI_iff.mp h
  exact s64_of (lo := 1) (by decide) h1 h2 (allI_le pn hp)
theorem inI_40 {z : Int32} (h : inI z 0 40 = true) : ∃ u : Nat, u ≤ 40 ∧ z = nI u := by
  obtain ⟨h1, h2⟩ := inI_iff.mp h
  obtain ⟨j, hj, rfl⟩ := nI_of h1
  exact ⟨j, nlt_nI (a := 40) h2 (by decide) hj, rfl⟩
theorem TB.tie {pn tn : Nat} {aw me sp x y z : Int32} {kf sf wf tf : Nat → Int32} (h : TB pn tn aw me sp kf sf wf tf) (ht : tn < 8) (hx : kok x) (hy : s64 y) (hz : ∃ u : Nat, u ≤ 40 ∧ z = nI u) : TB pn (tn + 1) aw me sp (upd kf tn x) (upd sf tn y) (upd wf tn z) (upd (upd (upd (upd tf (5 + tn) x) (13 + tn) y) (21 + tn) z) 1 (nI (tn + 1))) := by
  have hz64 : s64 z := by obtain ⟨u, hu, e⟩ := hz; exact ⟨u, by omega, e⟩
  have hx64 : s64 x := by rcases hx with e | e | e | e | e <;> rw [e] <;> first | exact ⟨1, by omega, rfl⟩ | exact ⟨2, by omega, rfl⟩ | exact ⟨3, by omega, rfl⟩ | exact ⟨4, by omega, rfl⟩ | exact ⟨5, by omega, rfl⟩
  obtain ⟨⟨b1, b2, b3, b4, b5⟩, ⟨a0, a1, a2, a3, a4, a5⟩, h3⟩ := h
  refine ⟨⟨b1, by omega, b3, b4, s64_upd b5 hy⟩, ⟨?_, ?_, ?_, ?_, ?_, fun t ht => ?_⟩, fun t ht => ?_⟩
  · rw [pk_un (by omega), pk_un (by omega), pk_un (by omega), pk_un (by omega)]; exact a0
  · exact pk_us
  · rw [pk_un (by omega), pk_un (by omega), pk_un (by omega), pk_un (by omega)]; exact a2
  · rw [pk_un (by omega), pk_un (by omega), pk_un (by omega), pk_un (by omega)]; exact a3
  · rw [pk_un (by omega), pk_un (by omega), pk_un (by omega), pk_un (by omega)]; exact a4
  · rw [pk_un (by omega)]
    simp only [upd]
    split
    · exact hz64
    · split
      · exact hy
      · split
        · exact hx64
        · exact a5 t ht
  · by_cases e : t = tn
    · subst e
      refine ⟨?_, ?_, ?_, ?_, ?_⟩
      · rw [pk_us, pk_un (by omega), pk_un (by omega), pk_un (by omega), pk_us]
      · rw [pk_us, pk_un (by omega), pk_un (by omega), pk_us]
      · rw [pk_us, pk_un (by omega), pk_us]
      · rw [pk_us]; exact hx
      · rw [pk_us]; exact hz
    · obtain ⟨c1, c2, c3, c4, c5⟩ := h3 t (by omega)
      rw [pk_un e, pk_un e, pk_un e]
      refine ⟨?_, ?_, ?_, c4, c5⟩
      · rw [pk_un (by omega), pk_un (by omega), pk_un (by omega), pk_un (by omega)]; exact c1
      · rw [pk_un (by omega), pk_un (by omega), pk_un (by omega), pk_un (by omega)]; exact c2
      · rw [pk_un (by omega), pk_un (by omega), pk_un (by omega), pk_un (by omega)]; exact c3
theorem TB.untie {pn t : Nat} {aw me sp : Int32} {kf sf wf tf : Nat → Int32} (h : TB pn (t + 1) aw me sp kf sf wf tf) : TB pn t aw me sp kf sf wf (upd tf 1 (nI t)) := by
  obtain ⟨⟨b1, b2, b3⟩, ⟨a0, a1, a2, a3, a4, a5⟩, h3⟩ := h
  have e : ∀ j, j ≠ 1 → upd tf 1 (nI t) j = tf j := fun j hj => pk_un hj
  refine ⟨⟨b1, by omega, b3⟩, ⟨(e 0 (by omega)).trans a0, pk_us, (e 2 (by omega)).trans a2, (e 3 (by omega)).trans a3, (e 4 (by omega)).trans a4, fun i hi => by rw [e _ (by omega)]; exact a5 i hi⟩, fun i hi => ?_⟩
  rw [e _ (by omega), e _ (by omega), e _ (by omega)]
  exact h3 i (by omega)
theorem TB.meal {pn tn mn i : Nat} {aw sp v : Int32} {kf sf wf tf : Nat → Int32} (h : TB pn tn aw (nI mn) sp kf sf wf tf) (hm : mn + i ≤ 999) : TB pn tn aw (nI (mn + i)) (sp + nI i * v) kf sf wf (mlT tf v i) := by
  obtain ⟨⟨b1, b2, b3, b4, b5⟩, ⟨a0, a1, a2, a3, a4, a5⟩, h3⟩ := h
  have e : ∀ j, j ≠ 2 ∧ j ≠ 3 → mlT tf v i j = tf j := fun j hj => mlT_out tf v i j hj
  have e2 : mlT tf v i 2 = tf 2 + nI i := by unfold mlT; rw [pk_un (by omega), pk_us]
  have e3 : mlT tf v i 3 = tf 3 + nI i * v := by unfold mlT; rw [pk_us]
  refine ⟨⟨b1, b2, b3, ⟨mn + i, hm, rfl⟩, b5⟩, ⟨(e 0 (by omega)).trans a0, (e 1 (by omega)).trans a1, by rw [e2, a2, nI_add], by rw [e3, a3], (e 4 (by omega)).trans a4, fun t ht => by rw [e _ (by omega)]; exact a5 t ht⟩, fun t ht => ?_⟩
  rw [e _ (by omega), e _ (by omega), e _ (by omega)]
  exact h3 t ht
theorem AR.meals {pn tn mn kn : Nat} {aw sp v : Int32} {kf sf wf tf af mf : Nat → Int32} (hk : kn ≤ 24) (hT : TB pn tn aw (nI mn) sp kf sf wf tf) (hA : AR af mf kn pn tn aw (nI mn) sp kf sf wf) : ∀ i, mn + i ≤ 999 → AR (kmF af kn v i) (mlA mf tf v kn i) (kmN kn i) pn tn aw (nI (mn + i)) (sp + nI i * v) kf sf wf
  | 0, _ => by
    rw [show sp + nI 0 * v = sp by rw [show nI 0 = 0 from rfl, Int32.zero_mul, Int32.add_zero]]
    exact hA
  | i + 1, h => by
    have ih := AR.meals (v := v) hk hT hA i (by omega)
    have hp := AR.pushM (v := v) (c := 0) (d := 0) (kmN_le hk i) ih (hT.meal (v := v) (by omega))
    rw [show sp + nI (i + 1) * v = sp + nI i * v + v by rw [← nI_1, Int32.add_mul, Int32.one_mul, Int32.add_assoc], show nI (mn + (i + 1)) = nI (mn + i) + 1 by rw [nI_1]; rfl]
    exact hp
theorem mv_snp {tf mf : Nat → Int32} {k : Nat} : ∀ j, j < 29 → mvF tf mf 0 (29 * k) 29 j = snp 29 mf k j := fun j hj => by
  unfold mvF snp
  rw [if_pos (by omega), Nat.sub_zero]
theorem mv_zt {tf mf : Nat → Int32} {k : Nat} (hz : ∀ j, 29 ≤ j → tf j = 0) : ∀ j, 29 ≤ j → mvF tf mf 0 (29 * k) 29 j = 0 := fun j hj => by
  unfold mvF
  rw [if_neg (by omega)]
  exact hz j hj
set_option maxHeartbeats 4000000 in
set_option maxRecDepth 100000 in
theorem tk_away {l : Launch} {D : va_G} {cs : Nat → ClassId} {ad : Nat → Nat} {ws : va_W} (hI : Inv cs ad ws) (x y : Int32) : Goes2 l D cs ad yX5_away wsX5_away ({ frames := 3, cells := 0, slots := 0, locals := 68 }) yX6_away wsX6_away ({ frames := 2, cells := 0, slots := 0, locals := 46 }) [.int x, .int y] ws := by
  refine hI.opn (G := fun ws => Goes2 l D cs ad yX5_away wsX5_away ({ frames := 3, cells := 0, slots := 0, locals := 68 }) yX6_away wsX6_away ({ frames := 2, cells := 0, slots := 0, locals := 46 }) [.int x, .int y] ws) ?_
  clear hI
  intro g gi lf fg sd la an rf f len pl nx so va pn tn aw me sp kf sf wf p2 t2 a2 m2 s2 kg sg wg ip it2 ia im is2 ik iq iw kn af bl bf mpl mtk0 mva0 mbe mwr laf szf itf tf mvf d mf zf qf h1 h2 h3 h4 hA hIm hI
  obtain ⟨hg, hgi⟩ := h1
  obtain ⟨hlen, hbl, hkn, hSg⟩ := h3
  obtain ⟨hT, hz⟩ := h4
  have hRw := h2
  clear h2
  show Goes2 l D cs ad yX5_away wsX5_away ({ frames := 3, cells := 0, slots := 0, locals := 68 }) yX6_away wsX6_away ({ frames := 2, cells := 0, slots := 0, locals := 46 }) [.int x, .int y] (wA cs ad g gi lf fg sd la an rf f len pl nx so va pn tn aw me sp kf sf wf p2 t2 a2 m2 s2 kg sg wg ip it2 ia im is2 ik iq iw kn af bl bf ++ wB cs ad lf fg f len kn bl bf (decide (0 < pn)) mpl mtk0 mva0 mbe mwr laf szf itf tf mvf d mf zf qf)
  have h01 : inI y 0 1 = zo y := inI_01b
  by_cases hb : (inB (nI pn) x && zo y) = true
  · have hb0 := hb
    rw [Bool.and_eq_true] at hb
    obtain ⟨q, hq, rfl⟩ := inB_t (nI6 hT.pnl) hb.1
    obtain ⟨k, hk, rfl⟩ := hT.awl
    have h4 := hT.t4
    have hpn := hT.pnl
    have hb := hb0
    clear hb0
    have hy : y = 0 ∨ y = 1 := by
      have := hb
      rw [Bool.and_eq_true] at this
      have h2 := this.2
      unfold zo at h2
      rw [Bool.or_eq_true, decide_eq_true_eq, decide_eq_true_eq] at h2
      exact h2
    rcases hy with rfl | rfl
    · by_cases he : awN (nI k) (nI q) 0 = nI k
      · have hok : ¬ awOk (nI pn) (nI k) (nI q) 0 = true := by unfold awOk; rw [decide_eq_true he]; simp
        have hbit := (aw_0 k hk q (by omega)).1.mp he
        have hc := (c_away l D cs (xo := ad 0) (xr := ad 1) (xd := ad 18) (ta := ad 20) (tb := ad 24) (xi := ad 28) (aa := ad 37) (sa := ad 39) (lf := lf) (fg := fg) (tk := ad 21) (tq := ad 22) (tw := ad 23) (pe := nI pn) (ti := nI tn) (aw := nI k) (me := me) (sp := sp) (ap := ad 38) (af := af) (kn := kn) (x := nI q) (y := 0) hkn)
        simp only [hb, if_pos he, if_neg hok, ↓reduceIte] at hc
        have hm := (c_maway l D cs (mo := ad 41) (ml := ad 42) (mz := ad 43) (mi := ad 44) (mt := ad 45) (mv := ad 46) (mp := ad 47) (md := ad 48) (mc := ad 49) (mk := ad 50) (mq := ad 51) (mr := ad 52) (su := fg) (it := decide (0 < pn)) (nby := nI len) (lt := lf) (pl := mpl) (tok := mtk0) (va := mva0) (be := mbe) (wr := mwr) (td := nI bl) (tf := tf) (mf := mf) (pn := pn) (an := kn) (x := nI q) (y := 0) hkn hT.t0 hT.pnl)
        simp only [h01, hb, h4, if_pos hbit, ↓reduceIte] at hm
        exact ⟨_, wA cs ad g gi lf fg sd la an rf f len pl nx so va pn tn (nI k) me sp kf sf wf p2 t2 a2 m2 s2 kg sg wg ip it2 ia im is2 ik iq iw kn af bl bf ++ wB cs ad lf fg f len kn bl bf (decide (0 < pn)) mpl mtk0 mva0 mbe mwr laf szf itf tf mvf d mf zf qf, wA cs ad g gi lf fg sd la an rf f len pl nx so va pn tn (nI k) me sp kf sf wf p2 t2 a2 m2 s2 kg sg wg ip it2 ia im is2 ik iq iw kn af bl bf ++ wB cs ad lf fg f len kn bl bf (decide (0 < pn)) mpl mtk0 mva0 mbe mwr laf szf itf tf mvf d mf zf qf, ⟨_, _, [0, 20, 37, 38], hc, rfl, by decide, rfl, rfl⟩, ⟨_, _, [41, 45, 49], hm, rfl, by decide, rfl, rfl⟩, Inv.mk ⟨hg, hgi⟩ (hRw) ⟨hlen, hbl, hkn, hSg⟩ ⟨hT, hz⟩ (hA) (hIm), _, rfl⟩
      · have hok : awOk (nI pn) (nI k) (nI q) 0 = true := by unfold awOk; rw [hb, decide_eq_false he]; rfl
        have hbit : ¬ (nI k >>> (nI q &&& 31)) &&& 1 = 0 := fun z => he ((aw_0 k hk q (by omega)).1.mpr z)
        have hx := (aw_0 k hk q (by omega)).2 he
        have hs : s64 (awN (nI k) (nI q) 0) := ⟨_, (aw_s0 k hk q (by omega)).2, (aw_s0 k hk q (by omega)).1⟩
        have hc := (c_away l D cs (xo := ad 0) (xr := ad 1) (xd := ad 18) (ta := ad 20) (tb := ad 24) (xi := ad 28) (aa := ad 37) (sa := ad 39) (lf := lf) (fg := fg) (tk := ad 21) (tq := ad 22) (tw := ad 23) (pe := nI pn) (ti := nI tn) (aw := nI k) (me := me) (sp := sp) (ap := ad 38) (af := af) (kn := kn) (x := nI q) (y := 0) hkn)
        simp only [hb, if_neg he, if_pos hok, ↓reduceIte] at hc
        have hm := (c_maway l D cs (mo := ad 41) (ml := ad 42) (mz := ad 43) (mi := ad 44) (mt := ad 45) (mv := ad 46) (mp := ad 47) (md := ad 48) (mc := ad 49) (mk := ad 50) (mq := ad 51) (mr := ad 52) (su := fg) (it := decide (0 < pn)) (nby := nI len) (lt := lf) (pl := mpl) (tok := mtk0) (va := mva0) (be := mbe) (wr := mwr) (td := nI bl) (tf := tf) (mf := mf) (pn := pn) (an := kn) (x := nI q) (y := 0) hkn hT.t0 hT.pnl)
        simp only [h01, hb, h4, if_neg hbit, ↓reduceIte, ← hx] at hm
        exact ⟨_, wA cs ad g gi lf fg sd la an rf f len pl nx so va pn tn (awN (nI k) (nI q) 0) me sp kf sf wf p2 t2 a2 m2 s2 kg sg wg ip it2 ia im is2 ik iq iw (kpN kn) (kpF af kn 0 (nI k) 0 0) bl bf ++ wB cs ad lf fg f len kn bl bf (decide (0 < pn)) mpl mtk0 mva0 mbe mwr laf szf itf tf mvf d mf zf qf, wA cs ad g gi lf fg sd la an rf f len pl nx so va pn tn (awN (nI k) (nI q) 0) me sp kf sf wf p2 t2 a2 m2 s2 kg sg wg ip it2 ia im is2 ik iq iw (kpN kn) (kpF af kn 0 (nI k) 0 0) bl bf ++ wB cs ad lf fg f len (kpN kn) bl bf (decide (0 < pn)) mpl mtk0 mva0 mbe mwr laf szf itf (upd tf 4 (awN (nI k) (nI q) 0)) mvf d (ntF mf tf kn) zf qf, ⟨_, _, [0, 20, 37, 38], hc, rfl, by decide, rfl, rfl⟩, ⟨_, _, [41, 45, 49], hm, rfl, by decide, rfl, rfl⟩, Inv.mk ⟨hg, hgi⟩ (hRw) ⟨hlen, hbl, kpN_le hkn, hSg⟩ ⟨hT.up4 hs, zt_up (by omega) hz⟩ (hA.pushA hkn hT) (hIm), _, rfl⟩
    · by_cases he : awN (nI k) (nI q) 1 = nI k
      · have hok : ¬ awOk (nI pn) (nI k) (nI q) 1 = true := by unfold awOk; rw [decide_eq_true he]; simp
        have hbit := (aw_1 k hk q (by omega)).1.mp he
        have hc := (c_away l D cs (xo := ad 0) (xr := ad 1) (xd := ad 18) (ta := ad 20) (tb := ad 24) (xi := ad 28) (aa := ad 37) (sa := ad 39) (lf := lf) (fg := fg) (tk := ad 21) (tq := ad 22) (tw := ad 23) (pe := nI pn) (ti := nI tn) (aw := nI k) (me := me) (sp := sp) (ap := ad 38) (af := af) (kn := kn) (x := nI q) (y := 1) hkn)
        simp only [hb, if_pos he, if_neg hok, ↓reduceIte] at hc
        have hm := (c_maway l D cs (mo := ad 41) (ml := ad 42) (mz := ad 43) (mi := ad 44) (mt := ad 45) (mv := ad 46) (mp := ad 47) (md := ad 48) (mc := ad 49) (mk := ad 50) (mq := ad 51) (mr := ad 52) (su := fg) (it := decide (0 < pn)) (nby := nI len) (lt := lf) (pl := mpl) (tok := mtk0) (va := mva0) (be := mbe) (wr := mwr) (td := nI bl) (tf := tf) (mf := mf) (pn := pn) (an := kn) (x := nI q) (y := 1) hkn hT.t0 hT.pnl)
        simp only [h01, hb, h4, if_pos hbit, ↓reduceIte] at hm
        exact ⟨_, wA cs ad g gi lf fg sd la an rf f len pl nx so va pn tn (nI k) me sp kf sf wf p2 t2 a2 m2 s2 kg sg wg ip it2 ia im is2 ik iq iw kn af bl bf ++ wB cs ad lf fg f len kn bl bf (decide (0 < pn)) mpl mtk0 mva0 mbe mwr laf szf itf tf mvf d mf zf qf, wA cs ad g gi lf fg sd la an rf f len pl nx so va pn tn (nI k) me sp kf sf wf p2 t2 a2 m2 s2 kg sg wg ip it2 ia im is2 ik iq iw kn af bl bf ++ wB cs ad lf fg f len kn bl bf (decide (0 < pn)) mpl mtk0 mva0 mbe mwr laf szf itf tf mvf d mf zf qf, ⟨_, _, [0, 20, 37, 38], hc, rfl, by decide, rfl, rfl⟩, ⟨_, _, [41, 45, 49], hm, rfl, by decide, rfl, rfl⟩, Inv.mk ⟨hg, hgi⟩ (hRw) ⟨hlen, hbl, hkn, hSg⟩ ⟨hT, hz⟩ (hA) (hIm), _, rfl⟩
      · have hok : awOk (nI pn) (nI k) (nI q) 1 = true := by unfold awOk; rw [hb, decide_eq_false he]; rfl
        have hbit : ¬ (nI k >>> (nI q &&& 31)) &&& 1 = 1 := fun z => he ((aw_1 k hk q (by omega)).1.mpr z)
        have hx := (aw_1 k hk q (by omega)).2 he
        have hs : s64 (awN (nI k) (nI q) 1) := ⟨_, (aw_s1 k hk q (by omega)).2, (aw_s1 k hk q (by omega)).1⟩
        have hc := (c_away l D cs (xo := ad 0) (xr := ad 1) (xd := ad 18) (ta := ad 20) (tb := ad 24) (xi := ad 28) (aa := ad 37) (sa := ad 39) (lf := lf) (fg := fg) (tk := ad 21) (tq := ad 22) (tw := ad 23) (pe := nI pn) (ti := nI tn) (aw := nI k) (me := me) (sp := sp) (ap := ad 38) (af := af) (kn := kn) (x := nI q) (y := 1) hkn)
        simp only [hb, if_neg he, if_pos hok, ↓reduceIte] at hc
        have hm := (c_maway l D cs (mo := ad 41) (ml := ad 42) (mz := ad 43) (mi := ad 44) (mt := ad 45) (mv := ad 46) (mp := ad 47) (md := ad 48) (mc := ad 49) (mk := ad 50) (mq := ad 51) (mr := ad 52) (su := fg) (it := decide (0 < pn)) (nby := nI len) (lt := lf) (pl := mpl) (tok := mtk0) (va := mva0) (be := mbe) (wr := mwr) (td := nI bl) (tf := tf) (mf := mf) (pn := pn) (an := kn) (x := nI q) (y := 1) hkn hT.t0 hT.pnl)
        simp only [h01, hb, h4, if_neg hbit, ↓reduceIte, ← hx] at hm
        exact ⟨_, wA cs ad g gi lf fg sd la an rf f len pl nx so va pn tn (awN (nI k) (nI q) 1) me sp kf sf wf p2 t2 a2 m2 s2 kg sg wg ip it2 ia im is2 ik iq iw (kpN kn) (kpF af kn 0 (nI k) 0 0) bl bf ++ wB cs ad lf fg f len kn bl bf (decide (0 < pn)) mpl mtk0 mva0 mbe mwr laf szf itf tf mvf d mf zf qf, wA cs ad g gi lf fg sd la an rf f len pl nx so va pn tn (awN (nI k) (nI q) 1) me sp kf sf wf p2 t2 a2 m2 s2 kg sg wg ip it2 ia im is2 ik iq iw (kpN kn) (kpF af kn 0 (nI k) 0 0) bl bf ++ wB cs ad lf fg f len (kpN kn) bl bf (decide (0 < pn)) mpl mtk0 mva0 mbe mwr laf szf itf (upd tf 4 (awN (nI k) (nI q) 1)) mvf d (ntF mf tf kn) zf qf, ⟨_, _, [0, 20, 37, 38], hc, rfl, by decide, rfl, rfl⟩, ⟨_, _, [41, 45, 49], hm, rfl, by decide, rfl, rfl⟩, Inv.mk ⟨hg, hgi⟩ (hRw) ⟨hlen, hbl, kpN_le hkn, hSg⟩ ⟨hT.up4 hs, zt_up (by omega) hz⟩ (hA.pushA hkn hT) (hIm), _, rfl⟩
  · have hok : ¬ awOk (nI pn) aw x y = true := by
      unfold awOk
      rw [Bool.not_eq_true] at hb
      rw [hb, Bool.false_and]; decide
    have hc := (c_away l D cs (xo := ad 0) (xr := ad 1) (xd := ad 18) (ta := ad 20) (tb := ad 24) (xi := ad 28) (aa := ad 37) (sa := ad 39) (lf := lf) (fg := fg) (tk := ad 21) (tq := ad 22) (tw := ad 23) (pe := nI pn) (ti := nI tn) (aw := aw) (me := me) (sp := sp) (ap := ad 38) (af := af) (kn := kn) (x := x) (y := y) hkn)
    simp only [if_neg hb, if_neg hok] at hc
    have hm := (c_maway l D cs (mo := ad 41) (ml := ad 42) (mz := ad 43) (mi := ad 44) (mt := ad 45) (mv := ad 46) (mp := ad 47) (md := ad 48) (mc := ad 49) (mk := ad 50) (mq := ad 51) (mr := ad 52) (su := fg) (it := decide (0 < pn)) (nby := nI len) (lt := lf) (pl := mpl) (tok := mtk0) (va := mva0) (be := mbe) (wr := mwr) (td := nI bl) (tf := tf) (mf := mf) (pn := pn) (an := kn) (x := x) (y := y) hkn hT.t0 hT.pnl)
    simp only [h01, if_neg hb] at hm
    exact ⟨_, wA cs ad g gi lf fg sd la an rf f len pl nx so va pn tn aw me sp kf sf wf p2 t2 a2 m2 s2 kg sg wg ip it2 ia im is2 ik iq iw kn af bl bf ++ wB cs ad lf fg f len kn bl bf (decide (0 < pn)) mpl mtk0 mva0 mbe mwr laf szf itf tf mvf d mf zf qf, wA cs ad g gi lf fg sd la an rf f len pl nx so va pn tn aw me sp kf sf wf p2 t2 a2 m2 s2 kg sg wg ip it2 ia im is2 ik iq iw kn af bl bf ++ wB cs ad lf fg f len kn bl bf (decide (0 < pn)) mpl mtk0 mva0 mbe mwr laf szf itf tf mvf d mf zf qf, ⟨_, _, [0, 20, 37, 38], hc, rfl, by decide, rfl, rfl⟩, ⟨_, _, [41, 45, 49], hm, rfl, by decide, rfl, rfl⟩, Inv.mk ⟨hg, hgi⟩ (hRw) ⟨hlen, hbl, hkn, hSg⟩ ⟨hT, hz⟩ (hA) (hIm), _, rfl⟩

set_option maxHeartbeats 4000000 in
set_option maxRecDepth 100000 in
theorem tk_tie {l : Launch} {D : va_G} {cs : Nat → ClassId} {ad : Nat → Nat} {ws : va_W} (hI : Inv cs ad ws) (x y z : Int32) : Goes2 l D cs ad yX5_tie wsX5_tie ({ frames := 3, cells := 0, slots := 0, locals := 68 }) yX6_tie wsX6_tie ({ frames := 1, cells := 0, slots := 0, locals := 25 }) [.int x, .int y, .int z] ws := by
  refine hI.opn (G := fun ws => Goes2 l D cs ad yX5_tie wsX5_tie ({ frames := 3, cells := 0, slots := 0, locals := 68 }) yX6_tie wsX6_tie ({ frames := 1, cells := 0, slots := 0, locals := 25 }) [.int x, .int y, .int z] ws) ?_
  clear hI
  intro g gi lf fg sd la an rf f len pl nx so va pn tn aw me sp kf sf wf p2 t2 a2 m2 s2 kg sg wg ip it2 ia im is2 ik iq iw kn af bl bf mpl mtk0 mva0 mbe mwr laf szf itf tf mvf d mf zf qf h1 h2 h3 h4 hA hIm hI
  obtain ⟨hg, hgi⟩ := h1
  obtain ⟨hlen, hbl, hkn, hSg⟩ := h3
  obtain ⟨hT, hz⟩ := h4
  have hRw := h2
  clear h2
  show Goes2 l D cs ad yX5_tie wsX5_tie ({ frames := 3, cells := 0, slots := 0, locals := 68 }) yX6_tie wsX6_tie ({ frames := 1, cells := 0, slots := 0, locals := 25 }) [.int x, .int y, .int z] (wA cs ad g gi lf fg sd la an rf f len pl nx so va pn tn aw me sp kf sf wf p2 t2 a2 m2 s2 kg sg wg ip it2 ia im is2 ik iq iw kn af bl bf ++ wB cs ad lf fg f len kn bl bf (decide (0 < pn)) mpl mtk0 mva0 mbe mwr laf szf itf tf mvf d mf zf qf)
  by_cases hp : 0 < pn
  · have hpI : (0 : Int32) < nI pn := (pos_nI hT.pnl).mpr hp
    have hpt : decide (0 < pn) = true := decide_eq_true hp
    have hte := tieB_eq (nI pn) x y z
    by_cases hb : tieB (nI pn) x y z = true
    · by_cases h8 : tn < 8
      · have hok : tieOk (nI pn) x y z tn = true := by unfold tieOk; rw [decide_eq_true hpI, hb, decide_eq_true h8]; rfl
        have ht8 : ¬ tf 1 = 8 := by rw [hT.t1]; exact fun q => by have := eq_nI (a := tn) (b := 8) q (by omega) (by decide); omega
        have hb2 : (inI x 1 5 && inI y 1 (allI (nI pn)) && inI z 0 40) = true := by rw [← hte]; exact hb
        have hb3 := hb2
        rw [Bool.and_eq_true, Bool.and_eq_true] at hb3
        have hkx := inI_15 hb3.1.1
        have hsy := inI_s hT.pnl hb3.1.2
        have hzz := inI_40 hb3.2
        have hj : AR af mf kn pn tn aw me sp (upd kf tn x) (upd sf tn y) (upd wf tn z) := hA.junk (fun t ht => pk_un (by omega)) (fun t ht => pk_un (by omega)) (fun t ht => pk_un (by omega)) (s64_upd hT.S hsy)
        have hTj : TB pn tn aw me sp (upd kf tn x) (upd sf tn y) (upd wf tn z) tf := ⟨⟨hT.pnl, hT.tnl, hT.awl, hT.1.2.2.2.1, s64_upd hT.S hsy⟩, hT.2.1, fun t ht => by rw [pk_un (by omega), pk_un (by omega), pk_un (by omega)]; exact hT.2.2 t ht⟩
        have hc := (c_tie l D cs (xo := ad 0) (xr := ad 1) (xd := ad 18) (ta := ad 20) (tb := ad 24) (xi := ad 28) (aa := ad 37) (sa := ad 39) (lf := lf) (fg := fg) (tk := ad 21) (tq := ad 22) (tw := ad 23) (kf := kf) (sf := sf) (wf := wf) (pe := nI pn) (aw := aw) (me := me) (sp := sp) (tn := tn) (ap := ad 38) (af := af) (kn := kn) (x := x) (y := y) (z := z) hkn hT.tnl)
        simp only [if_pos hpI, if_pos hb, if_pos h8, if_pos hok] at hc
        have hm := (c_mtie l D cs (mo := ad 41) (ml := ad 42) (mz := ad 43) (mi := ad 44) (mt := ad 45) (mv := ad 46) (mp := ad 47) (md := ad 48) (mc := ad 49) (mk := ad 50) (mq := ad 51) (mr := ad 52) (su := fg) (it := decide (0 < pn)) (nby := nI len) (lt := lf) (pl := mpl) (tok := mtk0) (va := mva0) (be := mbe) (wr := mwr) (td := nI bl) (tf := tf) (mf := mf) (tn := tn) (an := kn) (x := x) (y := y) (z := z) hkn hT.t1 hT.tnl)
        simp only [if_pos hpt, hT.t0, if_pos hb2, if_neg ht8] at hm
        exact ⟨_, wA cs ad g gi lf fg sd la an rf f len pl nx so va pn (tn + 1) aw me sp (upd kf tn x) (upd sf tn y) (upd wf tn z) p2 t2 a2 m2 s2 kg sg wg ip it2 ia im is2 ik iq iw (kpN kn) (kpF af kn 1 0 0 0) bl bf ++ wB cs ad lf fg f len kn bl bf (decide (0 < pn)) mpl mtk0 mva0 mbe mwr laf szf itf tf mvf d mf zf qf, wA cs ad g gi lf fg sd la an rf f len pl nx so va pn (tn + 1) aw me sp (upd kf tn x) (upd sf tn y) (upd wf tn z) p2 t2 a2 m2 s2 kg sg wg ip it2 ia im is2 ik iq iw (kpN kn) (kpF af kn 1 0 0 0) bl bf ++ wB cs ad lf fg f len (kpN kn) bl bf (decide (0 < pn)) mpl mtk0 mva0 mbe mwr laf szf itf (upd (upd (upd (upd tf (5 + tn) x) (13 + tn) y) (21 + tn) z) 1 (nI (tn + 1))) mvf d (ntF mf tf kn) zf qf, ⟨_, _, [0, 20, 21, 22, 23, 37, 38], hc, rfl, by decide, rfl, rfl⟩, ⟨_, _, [41, 45, 49], hm, rfl, by decide, rfl, rfl⟩, Inv.mk ⟨hg, hgi⟩ (hRw) ⟨hlen, hbl, kpN_le hkn, hSg⟩ ⟨hT.tie h8 hkx hsy hzz, zt_up (by omega) (zt_up (by omega) (zt_up (by omega) (zt_up (by omega) hz)))⟩ (AR.pushT (kf := kf) (sf := sf) (wf := wf) hkn hj hTj) (hIm), _, rfl⟩
      · have hok : ¬ tieOk (nI pn) x y z tn = true := by unfold tieOk; rw [decide_eq_false h8]; simp
        have h88 : tn = 8 := by have := hT.tnl; omega
        have ht8 : tf 1 = 8 := by rw [hT.t1, h88]; rfl
        have hb2 : (inI x 1 5 && inI y 1 (allI (nI pn)) && inI z 0 40) = true := by rw [← hte]; exact hb
        have hc := (c_tie l D cs (xo := ad 0) (xr := ad 1) (xd := ad 18) (ta := ad 20) (tb := ad 24) (xi := ad 28) (aa := ad 37) (sa := ad 39) (lf := lf) (fg := fg) (tk := ad 21) (tq := ad 22) (tw := ad 23) (kf := kf) (sf := sf) (wf := wf) (pe := nI pn) (aw := aw) (me := me) (sp := sp) (tn := tn) (ap := ad 38) (af := af) (kn := kn) (x := x) (y := y) (z := z) hkn hT.tnl)
        simp only [if_pos hpI, if_pos hb, if_neg h8, if_neg hok] at hc
        have hm := (c_mtie l D cs (mo := ad 41) (ml := ad 42) (mz := ad 43) (mi := ad 44) (mt := ad 45) (mv := ad 46) (mp := ad 47) (md := ad 48) (mc := ad 49) (mk := ad 50) (mq := ad 51) (mr := ad 52) (su := fg) (it := decide (0 < pn)) (nby := nI len) (lt := lf) (pl := mpl) (tok := mtk0) (va := mva0) (be := mbe) (wr := mwr) (td := nI bl) (tf := tf) (mf := mf) (tn := tn) (an := kn) (x := x) (y := y) (z := z) hkn hT.t1 hT.tnl)
        simp only [if_pos hpt, hT.t0, if_pos hb2, if_pos ht8] at hm
        exact ⟨_, wA cs ad g gi lf fg sd la an rf f len pl nx so va pn tn aw me sp kf sf wf p2 t2 a2 m2 s2 kg sg wg ip it2 ia im is2 ik iq iw kn af bl bf ++ wB cs ad lf fg f len kn bl bf (decide (0 < pn)) mpl mtk0 mva0 mbe mwr laf szf itf tf mvf d mf zf qf, wA cs ad g gi lf fg sd la an rf f len pl nx so va pn tn aw me sp kf sf wf p2 t2 a2 m2 s2 kg sg wg ip it2 ia im is2 ik iq iw kn af bl bf ++ wB cs ad lf fg f len kn bl bf (decide (0 < pn)) mpl mtk0 mva0 mbe mwr laf szf itf tf mvf d mf zf qf, ⟨_, _, [0, 20, 21, 22, 23, 37, 38], hc, rfl, by decide, rfl, rfl⟩, ⟨_, _, [41, 45, 49], hm, rfl, by decide, rfl, rfl⟩, Inv.mk ⟨hg, hgi⟩ (hRw) ⟨hlen, hbl, hkn, hSg⟩ ⟨hT, hz⟩ (hA) (hIm), _, rfl⟩
    · have hok : ¬ tieOk (nI pn) x y z tn = true := by unfold tieOk; rw [Bool.not_eq_true] at hb; rw [hb]; simp
      have hb2 : ¬ (inI x 1 5 && inI y 1 (allI (nI pn)) && inI z 0 40) = true := by rw [← hte]; exact hb
      have hc := (c_tie l D cs (xo := ad 0) (xr := ad 1) (xd := ad 18) (ta := ad 20) (tb := ad 24) (xi := ad 28) (aa := ad 37) (sa := ad 39) (lf := lf) (fg := fg) (tk := ad 21) (tq := ad 22) (tw := ad 23) (kf := kf) (sf := sf) (wf := wf) (pe := nI pn) (aw := aw) (me := me) (sp := sp) (tn := tn) (ap := ad 38) (af := af) (kn := kn) (x := x) (y := y) (z := z) hkn hT.tnl)
      simp only [if_pos hpI, if_neg hb, if_neg hok] at hc
      have hm := (c_mtie l D cs (mo := ad 41) (ml := ad 42) (mz := ad 43) (mi := ad 44) (mt := ad 45) (mv := ad 46) (mp := ad 47) (md := ad 48) (mc := ad 49) (mk := ad 50) (mq := ad 51) (mr := ad 52) (su := fg) (it := decide (0 < pn)) (nby := nI len) (lt := lf) (pl := mpl) (tok := mtk0) (va := mva0) (be := mbe) (wr := mwr) (td := nI bl) (tf := tf) (mf := mf) (tn := tn) (an := kn) (x := x) (y := y) (z := z) hkn hT.t1 hT.tnl)
      simp only [if_pos hpt, hT.t0, if_neg hb2] at hm
      exact ⟨_, wA cs ad g gi lf fg sd la an rf f len pl nx so va pn tn aw me sp kf sf wf p2 t2 a2 m2 s2 kg sg wg ip it2 ia im is2 ik iq iw kn af bl bf ++ wB cs ad lf fg f len kn bl bf (decide (0 < pn)) mpl mtk0 mva0 mbe mwr laf szf itf tf mvf d mf zf qf, wA cs ad g gi lf fg sd la an rf f len pl nx so va pn tn aw me sp kf sf wf p2 t2 a2 m2 s2 kg sg wg ip it2 ia im is2 ik iq iw kn af bl bf ++ wB cs ad lf fg f len kn bl bf (decide (0 < pn)) mpl mtk0 mva0 mbe mwr laf szf itf tf mvf d mf zf qf, ⟨_, _, [0, 20, 21, 22, 23, 37, 38], hc, rfl, by decide, rfl, rfl⟩, ⟨_, _, [41, 45, 49], hm, rfl, by decide, rfl, rfl⟩, Inv.mk ⟨hg, hgi⟩ (hRw) ⟨hlen, hbl, hkn, hSg⟩ ⟨hT, hz⟩ (hA) (hIm), _, rfl⟩
  · have hpI : ¬ (0 : Int32) < nI pn := fun z => hp ((pos_nI hT.pnl).mp z)
    have hpf : ¬ decide (0 < pn) = true := by rw [decide_eq_false hp]; decide
    have hok : ¬ tieOk (nI pn) x y z tn = true := by unfold tieOk; rw [decide_eq_false hpI]; simp
    have hc := (c_tie l D cs (xo := ad 0) (xr := ad 1) (xd := ad 18) (ta := ad 20) (tb := ad 24) (xi := ad 28) (aa := ad 37) (sa := ad 39) (lf := lf) (fg := fg) (tk := ad 21) (tq := ad 22) (tw := ad 23) (kf := kf) (sf := sf) (wf := wf) (pe := nI pn) (aw := aw) (me := me) (sp := sp) (tn := tn) (ap := ad 38) (af := af) (kn := kn) (x := x) (y := y) (z := z) hkn hT.tnl)
    simp only [if_neg hpI, if_neg hok] at hc
    have hm := (c_mtie l D cs (mo := ad 41) (ml := ad 42) (mz := ad 43) (mi := ad 44) (mt := ad 45) (mv := ad 46) (mp := ad 47) (md := ad 48) (mc := ad 49) (mk := ad 50) (mq := ad 51) (mr := ad 52) (su := fg) (it := decide (0 < pn)) (nby := nI len) (lt := lf) (pl := mpl) (tok := mtk0) (va := mva0) (be := mbe) (wr := mwr) (td := nI bl) (tf := tf) (mf := mf) (tn := tn) (an := kn) (x := x) (y := y) (z := z) hkn hT.t1 hT.tnl)
    simp only [if_neg hpf] at hm
    exact ⟨_, wA cs ad g gi lf fg sd la an rf f len pl nx so va pn tn aw me sp kf sf wf p2 t2 a2 m2 s2 kg sg wg ip it2 ia im is2 ik iq iw kn af bl bf ++ wB cs ad lf fg f len kn bl bf (decide (0 < pn)) mpl mtk0 mva0 mbe mwr laf szf itf tf mvf d mf zf qf, wA cs ad g gi lf fg sd la an rf f len pl nx so va pn tn aw me sp kf sf wf p2 t2 a2 m2 s2 kg sg wg ip it2 ia im is2 ik iq iw kn af bl bf ++ wB cs ad lf fg f len kn bl bf (decide (0 < pn)) mpl mtk0 mva0 mbe mwr laf szf itf tf mvf d mf zf qf, ⟨_, _, [0, 20, 21, 22, 23, 37, 38], hc, rfl, by decide, rfl, rfl⟩, ⟨_, _, [41, 45, 49], hm, rfl, by decide, rfl, rfl⟩, Inv.mk ⟨hg, hgi⟩ (hRw) ⟨hlen, hbl, hkn, hSg⟩ ⟨hT, hz⟩ (hA) (hIm), _, rfl⟩

set_option maxHeartbeats 4000000 in
set_option maxRecDepth 100000 in
theorem tk_untie {l : Launch} {D : va_G} {cs : Nat → ClassId} {ad : Nat → Nat} {ws : va_W} (hI : Inv cs ad ws) : Goes2 l D cs ad yX5_untie wsX5_untie ({ frames := 3, cells := 0, slots := 0, locals := 68 }) yX6_untie wsX6_untie ({ frames := 1, cells := 0, slots := 0, locals := 21 }) [] ws := by
  refine hI.opn (G := fun ws => Goes2 l D cs ad yX5_untie wsX5_untie ({ frames := 3, cells := 0, slots := 0, locals := 68 }) yX6_untie wsX6_untie ({ frames := 1, cells := 0, slots := 0, locals := 21 }) [] ws) ?_
  clear hI
  intro g gi lf fg sd la an rf f len pl nx so va pn tn aw me sp kf sf wf p2 t2 a2 m2 s2 kg sg wg ip it2 ia im is2 ik iq iw kn af bl bf mpl mtk0 mva0 mbe mwr laf szf itf tf mvf d mf zf qf h1 h2 h3 h4 hA hIm hI
  obtain ⟨hg, hgi⟩ := h1
  obtain ⟨hlen, hbl, hkn, hSg⟩ := h3
  obtain ⟨hT, hz⟩ := h4
  have hRw := h2
  clear h2
  show Goes2 l D cs ad yX5_untie wsX5_untie ({ frames := 3, cells := 0, slots := 0, locals := 68 }) yX6_untie wsX6_untie ({ frames := 1, cells := 0, slots := 0, locals := 21 }) [] (wA cs ad g gi lf fg sd la an rf f len pl nx so va pn tn aw me sp kf sf wf p2 t2 a2 m2 s2 kg sg wg ip it2 ia im is2 ik iq iw kn af bl bf ++ wB cs ad lf fg f len kn bl bf (decide (0 < pn)) mpl mtk0 mva0 mbe mwr laf szf itf tf mvf d mf zf qf)
  cases tn with
  | zero =>
    have ht0 : tf 1 = 0 := hT.t1
    have hc := (c_untie0 l D cs (xo := ad 0) (xr := ad 1) (xd := ad 18) (ta := ad 20) (tb := ad 24) (xi := ad 28) (aa := ad 37) (sa := ad 39) (lf := lf) (fg := fg) (tk := ad 21) (tq := ad 22) (tw := ad 23) (pe := nI pn) (aw := aw) (me := me) (sp := sp) (ap := ad 38) (kn := nI kn) )
    have hm := (c_muntie l D cs (mo := ad 41) (ml := ad 42) (mz := ad 43) (mi := ad 44) (mt := ad 45) (mv := ad 46) (mp := ad 47) (md := ad 48) (mc := ad 49) (mk := ad 50) (mq := ad 51) (mr := ad 52) (su := fg) (it := decide (0 < pn)) (nby := nI len) (lt := lf) (pl := mpl) (tok := mtk0) (va := mva0) (be := mbe) (wr := mwr) (td := nI bl) (tf := tf) (mf := mf) (an := kn) hkn)
    simp only [if_pos ht0] at hm
    exact ⟨_, wA cs ad g gi lf fg sd la an rf f len pl nx so va pn 0 aw me sp kf sf wf p2 t2 a2 m2 s2 kg sg wg ip it2 ia im is2 ik iq iw kn af bl bf ++ wB cs ad lf fg f len kn bl bf (decide (0 < pn)) mpl mtk0 mva0 mbe mwr laf szf itf tf mvf d mf zf qf, wA cs ad g gi lf fg sd la an rf f len pl nx so va pn 0 aw me sp kf sf wf p2 t2 a2 m2 s2 kg sg wg ip it2 ia im is2 ik iq iw kn af bl bf ++ wB cs ad lf fg f len kn bl bf (decide (0 < pn)) mpl mtk0 mva0 mbe mwr laf szf itf tf mvf d mf zf qf, ⟨_, _, [0, 20, 37], hc, rfl, by decide, rfl, rfl⟩, ⟨_, _, [41, 45, 49], hm, rfl, by decide, rfl, rfl⟩, Inv.mk ⟨hg, hgi⟩ (hRw) ⟨hlen, hbl, hkn, hSg⟩ ⟨hT, hz⟩ (hA) (hIm), _, rfl⟩
  | succ t =>
    have h8 := hT.tnl
    have ht0 : ¬ nI (t + 1) = 0 := nI_ne0 (by omega) (by omega)
    have hc := (c_untieS l D cs (xo := ad 0) (xr := ad 1) (xd := ad 18) (ta := ad 20) (tb := ad 24) (xi := ad 28) (aa := ad 37) (sa := ad 39) (lf := lf) (fg := fg) (tk := ad 21) (tq := ad 22) (tw := ad 23) (kf := kf) (sf := sf) (wf := wf) (pe := nI pn) (aw := aw) (me := me) (sp := sp) (tn := t) (ap := ad 38) (af := af) (kn := kn) hkn (by omega))
    have hm := (c_muntie l D cs (mo := ad 41) (ml := ad 42) (mz := ad 43) (mi := ad 44) (mt := ad 45) (mv := ad 46) (mp := ad 47) (md := ad 48) (mc := ad 49) (mk := ad 50) (mq := ad 51) (mr := ad 52) (su := fg) (it := decide (0 < pn)) (nby := nI len) (lt := lf) (pl := mpl) (tok := mtk0) (va := mva0) (be := mbe) (wr := mwr) (td := nI bl) (tf := tf) (mf := mf) (an := kn) hkn)
    simp only [if_neg ht0, hT.t1, nI_pred] at hm
    exact ⟨_, wA cs ad g gi lf fg sd la an rf f len pl nx so va pn t aw me sp kf sf wf p2 t2 a2 m2 s2 kg sg wg ip it2 ia im is2 ik iq iw (kpN kn) (kpF af kn 2 (kf t) (sf t) (wf t)) bl bf ++ wB cs ad lf fg f len kn bl bf (decide (0 < pn)) mpl mtk0 mva0 mbe mwr laf szf itf tf mvf d mf zf qf, wA cs ad g gi lf fg sd la an rf f len pl nx so va pn t aw me sp kf sf wf p2 t2 a2 m2 s2 kg sg wg ip it2 ia im is2 ik iq iw (kpN kn) (kpF af kn 2 (kf t) (sf t) (wf t)) bl bf ++ wB cs ad lf fg f len (kpN kn) bl bf (decide (0 < pn)) mpl mtk0 mva0 mbe mwr laf szf itf (upd tf 1 (nI t)) mvf d (ntF mf tf kn) zf qf, ⟨_, _, [0, 20, 21, 22, 23, 37, 38], hc, rfl, by decide, rfl, rfl⟩, ⟨_, _, [41, 45, 49], hm, rfl, by decide, rfl, rfl⟩, Inv.mk ⟨hg, hgi⟩ (hRw) ⟨hlen, hbl, kpN_le hkn, hSg⟩ ⟨hT.untie, zt_up (by omega) hz⟩ (AR.pushU hkn (by omega) hA hT) (hIm), _, rfl⟩

set_option maxHeartbeats 4000000 in
set_option maxRecDepth 100000 in
theorem tk_meals {l : Launch} {D : va_G} {cs : Nat → ClassId} {ad : Nat → Nat} {ws : va_W} (hI : Inv cs ad ws) (x : Int32) : Goes2 l D cs ad yX5_meals wsX5_meals ({ frames := 4, cells := 0, slots := 0, locals := 91 }) yX6_meals wsX6_meals ({ frames := 3, cells := 0, slots := 0, locals := 72 }) [.int x] ws := by
  refine hI.opn (G := fun ws => Goes2 l D cs ad yX5_meals wsX5_meals ({ frames := 4, cells := 0, slots := 0, locals := 91 }) yX6_meals wsX6_meals ({ frames := 3, cells := 0, slots := 0, locals := 72 }) [.int x] ws) ?_
  clear hI
  intro g gi lf fg sd la an rf f len pl nx so va pn tn aw me sp kf sf wf p2 t2 a2 m2 s2 kg sg wg ip it2 ia im is2 ik iq iw kn af bl bf mpl mtk0 mva0 mbe mwr laf szf itf tf mvf d mf zf qf h1 h2 h3 h4 hA hIm hI
  obtain ⟨hg, hgi⟩ := h1
  obtain ⟨hlen, hbl, hkn, hSg⟩ := h3
  obtain ⟨hT, hz⟩ := h4
  have hRw := h2
  clear h2
  show Goes2 l D cs ad yX5_meals wsX5_meals ({ frames := 4, cells := 0, slots := 0, locals := 91 }) yX6_meals wsX6_meals ({ frames := 3, cells := 0, slots := 0, locals := 72 }) [.int x] (wA cs ad g gi lf fg sd la an rf f len pl nx so va pn tn aw me sp kf sf wf p2 t2 a2 m2 s2 kg sg wg ip it2 ia im is2 ik iq iw kn af bl bf ++ wB cs ad lf fg f len kn bl bf (decide (0 < pn)) mpl mtk0 mva0 mbe mwr laf szf itf tf mvf d mf zf qf)
  by_cases hp : 0 < pn
  · by_cases h1 : x < 1
    · refine ⟨_, _, _, WC.same [0, 20] (c_mealsNo l D cs (xo := ad 0) (xr := ad 1) (xd := ad 18) (ta := ad 20) (tb := ad 24) (xi := ad 28) (aa := ad 37) (sa := ad 39) (lf := lf) (fg := fg) (tk := ad 21) (tq := ad 22) (tw := ad 23) (pe := nI pn) (ti := nI tn) (aw := aw) (me := me) (sp := sp) (x := x) (Or.inr (Or.inl h1))) rfl (by decide) rfl, WC.same [41, 45] (c_mmealsNo l D cs (mo := ad 41) (ml := ad 42) (mz := ad 43) (mi := ad 44) (mt := ad 45) (mv := ad 46) (mp := ad 47) (md := ad 48) (mc := ad 49) (mk := ad 50) (mq := ad 51) (mr := ad 52) (su := fg) (it := decide (0 < pn)) (nby := nI len) (lt := lf) (pl := mpl) (tok := mtk0) (va := mva0) (be := mbe) (wr := mwr) (am := nI kn) (td := nI bl) (tf := tf) (x := x) (Or.inr (Or.inl (by unfold inI; rw [if_pos h1])))) rfl (by decide) ?_, hI, _, rfl⟩
      rw [itE hT.pnl]
      unfold inI
      by_cases a1 : x < 1
      · simp only [a1, Bool.false_eq_true, ↓reduceIte]
      · by_cases a2 : 20 < x
        · simp only [a1, a2, Bool.false_eq_true, ↓reduceIte]
        · simp only [a1, a2, ↓reduceIte]
    · by_cases h2 : 20 < x
      · refine ⟨_, _, _, WC.same [0, 20] (c_mealsNo l D cs (xo := ad 0) (xr := ad 1) (xd := ad 18) (ta := ad 20) (tb := ad 24) (xi := ad 28) (aa := ad 37) (sa := ad 39) (lf := lf) (fg := fg) (tk := ad 21) (tq := ad 22) (tw := ad 23) (pe := nI pn) (ti := nI tn) (aw := aw) (me := me) (sp := sp) (x := x) (Or.inr (Or.inr (Or.inl h2)))) rfl (by decide) rfl, WC.same [41, 45] (c_mmealsNo l D cs (mo := ad 41) (ml := ad 42) (mz := ad 43) (mi := ad 44) (mt := ad 45) (mv := ad 46) (mp := ad 47) (md := ad 48) (mc := ad 49) (mk := ad 50) (mq := ad 51) (mr := ad 52) (su := fg) (it := decide (0 < pn)) (nby := nI len) (lt := lf) (pl := mpl) (tok := mtk0) (va := mva0) (be := mbe) (wr := mwr) (am := nI kn) (td := nI bl) (tf := tf) (x := x) (Or.inr (Or.inl (by unfold inI; rw [if_neg h1, if_pos h2])))) rfl (by decide) ?_, hI, _, rfl⟩
        rw [itE hT.pnl]
        unfold inI
        by_cases a1 : x < 1
        · simp only [a1, Bool.false_eq_true, ↓reduceIte]
        · by_cases a2 : 20 < x
          · simp only [a1, a2, Bool.false_eq_true, ↓reduceIte]
          · simp only [a1, a2, ↓reduceIte]
      · obtain ⟨mn, hmn, rfl⟩ := hT.1.2.2.2.1
        have hx0 : ¬ x < 0 := fun q => h1 (by
          have e0 : (0 : Int32).toInt = 0 := by decide
          have e1 : (1 : Int32).toInt = 1 := by decide
          rw [Int32.lt_iff_toInt_lt] at q ⊢
          omega)
        obtain ⟨nn, hn31, rfl⟩ := nI_of hx0
        have h1 : 1 ≤ nn := nlt_nI (b := 1) h1 hn31 (by decide)
        have h2 : nn ≤ 20 := nlt_nI (a := 20) h2 (by decide) hn31
        by_cases h3 : mn + nn ≤ 999
        · have hpt : decide (0 < pn) = true := decide_eq_true hp
          have hc := (c_mealsOk l D cs (xo := ad 0) (xr := ad 1) (xd := ad 18) (ta := ad 20) (tb := ad 24) (xi := ad 28) (aa := ad 37) (sa := ad 39) (lf := lf) (fg := fg) (tk := ad 21) (tq := ad 22) (tw := ad 23) (kf := kf) (sf := sf) (wf := wf) (pe := nI pn) (aw := aw) (sp := sp) (tn := tn) (ap := ad 38) (af := af) (kn := kn) (mn := mn) (nn := nn) hT.S hT.tnl hkn ((pos_nI hT.pnl).mpr hp) h1 h2 h3)
          have hm := (c_mmealsOk l D cs (mo := ad 41) (ml := ad 42) (mz := ad 43) (mi := ad 44) (mt := ad 45) (mv := ad 46) (mp := ad 47) (md := ad 48) (mc := ad 49) (mk := ad 50) (mq := ad 51) (mr := ad 52) (su := fg) (nby := nI len) (lt := lf) (pl := mpl) (tok := mtk0) (va := mva0) (be := mbe) (wr := mwr) (td := nI bl) (tf := tf) (mf := mf) (pn := pn) (tn := tn) (an := kn) (nn := nn) (mn := mn) hkn hT.t1 hT.tnl (hT.M hz) hT.K hT.t0 hT.pnl hT.t2 h1 h2 h3)
          simp only [hT.t0, hT.t3, hT.t4, hT.W] at hm
          rw [← hpt] at hm
          exact ⟨_, wA cs ad g gi lf fg sd la an rf f len pl nx so va pn tn aw (nI (mn + nn)) (sp + nI nn * wsum kf sf wf (thI (nI pn) aw) tn) kf sf wf p2 t2 a2 m2 s2 kg sg wg ip it2 ia im is2 ik iq iw (kmN kn nn) (kmF af kn (wsum kf sf wf (thI (nI pn) aw) tn) nn) bl bf ++ wB cs ad lf fg f len kn bl bf (decide (0 < pn)) mpl mtk0 mva0 mbe mwr laf szf itf tf mvf d mf zf qf, wA cs ad g gi lf fg sd la an rf f len pl nx so va pn tn aw (nI (mn + nn)) (sp + nI nn * wsum kf sf wf (thI (nI pn) aw) tn) kf sf wf p2 t2 a2 m2 s2 kg sg wg ip it2 ia im is2 ik iq iw (kmN kn nn) (kmF af kn (wsum kf sf wf (thI (nI pn) aw) tn) nn) bl bf ++ wB cs ad lf fg f len (kmN kn nn) bl bf (decide (0 < pn)) mpl mtk0 mva0 mbe mwr laf szf itf (mlT tf (wsum kf sf wf (thI (nI pn) aw) tn) nn) mvf d (mlA mf tf (wsum kf sf wf (thI (nI pn) aw) tn) kn nn) zf qf, ⟨_, _, [0, 20, 21, 22, 23, 37, 38], hc, rfl, by decide, rfl, rfl⟩, ⟨_, _, [41, 45, 49], hm, rfl, by decide, rfl, rfl⟩, Inv.mk ⟨hg, hgi⟩ (hRw) ⟨hlen, hbl, kmN_le hkn nn, hSg⟩ ⟨hT.meal h3, fun j hj => by rw [mlT_out _ _ _ _ (by omega)]; exact hz j hj⟩ (AR.meals hkn hT hA nn h3) (hIm), _, rfl⟩
        · have h4 : (999 : Int32) < nI mn + nI nn := by rw [nI_add]; exact nI_lt (a := 999) (by omega) (by omega)
          refine ⟨_, _, _, WC.same [0, 20] (c_mealsNo l D cs (xo := ad 0) (xr := ad 1) (xd := ad 18) (ta := ad 20) (tb := ad 24) (xi := ad 28) (aa := ad 37) (sa := ad 39) (lf := lf) (fg := fg) (tk := ad 21) (tq := ad 22) (tw := ad 23) (pe := nI pn) (ti := nI tn) (aw := aw) (me := nI mn) (sp := sp) (x := nI nn) (Or.inr (Or.inr (Or.inr h4)))) rfl (by decide) rfl, WC.same [41, 45] (c_mmealsNo l D cs (mo := ad 41) (ml := ad 42) (mz := ad 43) (mi := ad 44) (mt := ad 45) (mv := ad 46) (mp := ad 47) (md := ad 48) (mc := ad 49) (mk := ad 50) (mq := ad 51) (mr := ad 52) (su := fg) (it := decide (0 < pn)) (nby := nI len) (lt := lf) (pl := mpl) (tok := mtk0) (va := mva0) (be := mbe) (wr := mwr) (am := nI kn) (td := nI bl) (tf := tf) (x := nI nn) (Or.inr (Or.inr (by rw [hT.t2]; exact h4)))) rfl (by decide) ?_, hI, _, rfl⟩
          rw [itE hT.pnl]
          unfold inI
          by_cases a1 : nI nn < 1
          · simp only [a1, Bool.false_eq_true, ↓reduceIte]
          · by_cases a2 : 20 < nI nn
            · simp only [a1, a2, Bool.false_eq_true, ↓reduceIte]
            · simp only [a1, a2, ↓reduceIte]
  · refine ⟨_, _, _, WC.same [0, 20] (c_mealsNo l D cs (xo := ad 0) (xr := ad 1) (xd := ad 18) (ta := ad 20) (tb := ad 24) (xi := ad 28) (aa := ad 37) (sa := ad 39) (lf := lf) (fg := fg) (tk := ad 21) (tq := ad 22) (tw := ad 23) (pe := nI pn) (ti := nI tn) (aw := aw) (me := me) (sp := sp) (x := x) (Or.inl (fun z => hp ((pos_nI hT.pnl).mp z)))) rfl (by decide) rfl, WC.same [41, 45] (c_mmealsNo l D cs (mo := ad 41) (ml := ad 42) (mz := ad 43) (mi := ad 44) (mt := ad 45) (mv := ad 46) (mp := ad 47) (md := ad 48) (mc := ad 49) (mk := ad 50) (mq := ad 51) (mr := ad 52) (su := fg) (it := decide (0 < pn)) (nby := nI len) (lt := lf) (pl := mpl) (tok := mtk0) (va := mva0) (be := mbe) (wr := mwr) (am := nI kn) (td := nI bl) (tf := tf) (x := x) (Or.inl (decide_eq_false hp))) rfl (by decide) ?_, hI, _, rfl⟩
    rw [itE hT.pnl]
    unfold inI
    by_cases a1 : x < 1
    · simp only [a1, Bool.false_eq_true, ↓reduceIte]
    · by_cases a2 : 20 < x
      · simp only [a1, a2, Bool.false_eq_true, ↓reduceIte]
      · simp only [a1, a2, ↓reduceIte]

set_option maxHeartbeats 4000000 in
set_option maxRecDepth 100000 in
theorem tk_undo {l : Launch} {D : va_G} {cs : Nat → ClassId} {ad : Nat → Nat} {ws : va_W} (hI : Inv cs ad ws) : Goes2 l D cs ad yX5_undo wsX5_undo ({ frames := 2, cells := 0, slots := 0, locals := 45 }) yX6_undo wsX6_undo ({ frames := 0, cells := 0, slots := 0, locals := 0 }) [] ws := by
  refine hI.opn (G := fun ws => Goes2 l D cs ad yX5_undo wsX5_undo ({ frames := 2, cells := 0, slots := 0, locals := 45 }) yX6_undo wsX6_undo ({ frames := 0, cells := 0, slots := 0, locals := 0 }) [] ws) ?_
  clear hI
  intro g gi lf fg sd la an rf f len pl nx so va pn tn aw me sp kf sf wf p2 t2 a2 m2 s2 kg sg wg ip it2 ia im is2 ik iq iw kn af bl bf mpl mtk0 mva0 mbe mwr laf szf itf tf mvf d mf zf qf h1 h2 h3 h4 hA hIm hI
  obtain ⟨hg, hgi⟩ := h1
  obtain ⟨hlen, hbl, hkn, hSg⟩ := h3
  obtain ⟨hT, hz⟩ := h4
  have hRw := h2
  clear h2
  show Goes2 l D cs ad yX5_undo wsX5_undo ({ frames := 2, cells := 0, slots := 0, locals := 45 }) yX6_undo wsX6_undo ({ frames := 0, cells := 0, slots := 0, locals := 0 }) [] (wA cs ad g gi lf fg sd la an rf f len pl nx so va pn tn aw me sp kf sf wf p2 t2 a2 m2 s2 kg sg wg ip it2 ia im is2 ik iq iw kn af bl bf ++ wB cs ad lf fg f len kn bl bf (decide (0 < pn)) mpl mtk0 mva0 mbe mwr laf szf itf tf mvf d mf zf qf)
  cases kn with
  | zero =>
    have hc := (c_undo0 l D cs (xo := ad 0) (xr := ad 1) (xd := ad 18) (ta := ad 20) (tb := ad 24) (xi := ad 28) (aa := ad 37) (sa := ad 39) (lf := lf) (fg := fg) (ap := ad 38) )
    have hm := (c_mundo0 l D cs (mo := ad 41) (ml := ad 42) (mz := ad 43) (mi := ad 44) (mt := ad 45) (mv := ad 46) (mp := ad 47) (md := ad 48) (mc := ad 49) (mk := ad 50) (mq := ad 51) (mr := ad 52) (su := fg) (it := decide (0 < pn)) (nby := nI len) (lt := lf) (pl := mpl) (tok := mtk0) (va := mva0) (be := mbe) (wr := mwr) (td := nI bl) )
    exact ⟨_, wA cs ad g gi lf fg sd la an rf f len pl nx so va pn tn aw me sp kf sf wf p2 t2 a2 m2 s2 kg sg wg ip it2 ia im is2 ik iq iw 0 af bl bf ++ wB cs ad lf fg f len 0 bl bf (decide (0 < pn)) mpl mtk0 mva0 mbe mwr laf szf itf tf mvf d mf zf qf, wA cs ad g gi lf fg sd la an rf f len pl nx so va pn tn aw me sp kf sf wf p2 t2 a2 m2 s2 kg sg wg ip it2 ia im is2 ik iq iw 0 af bl bf ++ wB cs ad lf fg f len 0 bl bf (decide (0 < pn)) mpl mtk0 mva0 mbe mwr laf szf itf tf mvf d mf zf qf, ⟨_, _, [0, 37], hc, rfl, by decide, rfl, rfl⟩, ⟨_, _, [41], hm, rfl, by decide, rfl, rfl⟩, Inv.mk ⟨hg, hgi⟩ (hRw) ⟨hlen, hbl, hkn, hSg⟩ ⟨hT, hz⟩ (hA) (hIm), _, rfl⟩
  | succ k =>
    rw [AR] at hA
    rcases hA with ⟨a, b, hA⟩ | ⟨a, t, rfl, b, hA⟩ | ⟨a, h8, b, hA⟩ | ⟨a, b, hA⟩
    · have hc := (c_undoA l D cs (xo := ad 0) (xr := ad 1) (xd := ad 18) (ta := ad 20) (tb := ad 24) (xi := ad 28) (aa := ad 37) (sa := ad 39) (lf := lf) (fg := fg) (tk := ad 21) (tq := ad 22) (tw := ad 23) (kf := kf) (sf := sf) (wf := wf) (pe := nI pn) (ti := nI tn) (aw := aw) (me := me) (sp := sp) (ap := ad 38) (af := af) (kn := k) (by omega) a)
      have hm := (c_mundoS l D cs (mo := ad 41) (ml := ad 42) (mz := ad 43) (mi := ad 44) (mt := ad 45) (mv := ad 46) (mp := ad 47) (md := ad 48) (mc := ad 49) (mk := ad 50) (mq := ad 51) (mr := ad 52) (su := fg) (it := decide (0 < pn)) (nby := nI len) (lt := lf) (pl := mpl) (tok := mtk0) (va := mva0) (be := mbe) (wr := mwr) (td := nI bl) (tf := tf) (mf := mf) (an := k) (by omega))
      exact ⟨_, wA cs ad g gi lf fg sd la an rf f len pl nx so va pn tn (af (4 * k + 1)) me sp kf sf wf p2 t2 a2 m2 s2 kg sg wg ip it2 ia im is2 ik iq iw k af bl bf ++ wB cs ad lf fg f len (k + 1) bl bf (decide (0 < pn)) mpl mtk0 mva0 mbe mwr laf szf itf tf mvf d mf zf qf, wA cs ad g gi lf fg sd la an rf f len pl nx so va pn tn (af (4 * k + 1)) me sp kf sf wf p2 t2 a2 m2 s2 kg sg wg ip it2 ia im is2 ik iq iw k af bl bf ++ wB cs ad lf fg f len k bl bf (decide (0 < pn)) mpl mtk0 mva0 mbe mwr laf szf itf (mvF tf mf 0 (29 * k) 29) mvf d mf zf qf, ⟨_, _, [0, 20, 21, 22, 23, 37, 38], hc, rfl, by decide, rfl, rfl⟩, ⟨_, _, [41, 45, 49], hm, rfl, by decide, rfl, rfl⟩, Inv.mk ⟨hg, hgi⟩ (hRw) ⟨hlen, hbl, by omega, hSg⟩ ⟨(b).tf mv_snp, mv_zt hz⟩ (hA) (hIm), _, rfl⟩
    · have h8 := hT.tnl
      have hc := (c_undoT l D cs (xo := ad 0) (xr := ad 1) (xd := ad 18) (ta := ad 20) (tb := ad 24) (xi := ad 28) (aa := ad 37) (sa := ad 39) (lf := lf) (fg := fg) (tk := ad 21) (tq := ad 22) (tw := ad 23) (kf := kf) (sf := sf) (wf := wf) (pe := nI pn) (aw := aw) (me := me) (sp := sp) (tn := t) (ap := ad 38) (af := af) (kn := k) (by omega) a (by omega))
      have hm := (c_mundoS l D cs (mo := ad 41) (ml := ad 42) (mz := ad 43) (mi := ad 44) (mt := ad 45) (mv := ad 46) (mp := ad 47) (md := ad 48) (mc := ad 49) (mk := ad 50) (mq := ad 51) (mr := ad 52) (su := fg) (it := decide (0 < pn)) (nby := nI len) (lt := lf) (pl := mpl) (tok := mtk0) (va := mva0) (be := mbe) (wr := mwr) (td := nI bl) (tf := tf) (mf := mf) (an := k) (by omega))
      exact ⟨_, wA cs ad g gi lf fg sd la an rf f len pl nx so va pn t aw me sp kf sf wf p2 t2 a2 m2 s2 kg sg wg ip it2 ia im is2 ik iq iw k af bl bf ++ wB cs ad lf fg f len (k + 1) bl bf (decide (0 < pn)) mpl mtk0 mva0 mbe mwr laf szf itf tf mvf d mf zf qf, wA cs ad g gi lf fg sd la an rf f len pl nx so va pn t aw me sp kf sf wf p2 t2 a2 m2 s2 kg sg wg ip it2 ia im is2 ik iq iw k af bl bf ++ wB cs ad lf fg f len k bl bf (decide (0 < pn)) mpl mtk0 mva0 mbe mwr laf szf itf (mvF tf mf 0 (29 * k) 29) mvf d mf zf qf, ⟨_, _, [0, 20, 21, 22, 23, 37, 38], hc, rfl, by decide, rfl, rfl⟩, ⟨_, _, [41, 45, 49], hm, rfl, by decide, rfl, rfl⟩, Inv.mk ⟨hg, hgi⟩ (hRw) ⟨hlen, hbl, by omega, hSg⟩ ⟨(b).tf mv_snp, mv_zt hz⟩ (hA) (hIm), _, rfl⟩
    · have hc := (c_undoU l D cs (xo := ad 0) (xr := ad 1) (xd := ad 18) (ta := ad 20) (tb := ad 24) (xi := ad 28) (aa := ad 37) (sa := ad 39) (lf := lf) (fg := fg) (tk := ad 21) (tq := ad 22) (tw := ad 23) (kf := kf) (sf := sf) (wf := wf) (pe := nI pn) (aw := aw) (me := me) (sp := sp) (tn := tn) (ap := ad 38) (af := af) (kn := k) (by omega) a h8)
      have hm := (c_mundoS l D cs (mo := ad 41) (ml := ad 42) (mz := ad 43) (mi := ad 44) (mt := ad 45) (mv := ad 46) (mp := ad 47) (md := ad 48) (mc := ad 49) (mk := ad 50) (mq := ad 51) (mr := ad 52) (su := fg) (it := decide (0 < pn)) (nby := nI len) (lt := lf) (pl := mpl) (tok := mtk0) (va := mva0) (be := mbe) (wr := mwr) (td := nI bl) (tf := tf) (mf := mf) (an := k) (by omega))
      exact ⟨_, wA cs ad g gi lf fg sd la an rf f len pl nx so va pn (tn + 1) aw me sp (upd kf tn (af (4 * k + 1))) (upd sf tn (af (4 * k + 2))) (upd wf tn (af (4 * k + 3))) p2 t2 a2 m2 s2 kg sg wg ip it2 ia im is2 ik iq iw k af bl bf ++ wB cs ad lf fg f len (k + 1) bl bf (decide (0 < pn)) mpl mtk0 mva0 mbe mwr laf szf itf tf mvf d mf zf qf, wA cs ad g gi lf fg sd la an rf f len pl nx so va pn (tn + 1) aw me sp (upd kf tn (af (4 * k + 1))) (upd sf tn (af (4 * k + 2))) (upd wf tn (af (4 * k + 3))) p2 t2 a2 m2 s2 kg sg wg ip it2 ia im is2 ik iq iw k af bl bf ++ wB cs ad lf fg f len k bl bf (decide (0 < pn)) mpl mtk0 mva0 mbe mwr laf szf itf (mvF tf mf 0 (29 * k) 29) mvf d mf zf qf, ⟨_, _, [0, 20, 21, 22, 23, 37, 38], hc, rfl, by decide, rfl, rfl⟩, ⟨_, _, [41, 45, 49], hm, rfl, by decide, rfl, rfl⟩, Inv.mk ⟨hg, hgi⟩ (hRw) ⟨hlen, hbl, by omega, hSg⟩ ⟨(b).tf mv_snp, mv_zt hz⟩ (hA) (hIm), _, rfl⟩
    · have hc := (c_undoM l D cs (xo := ad 0) (xr := ad 1) (xd := ad 18) (ta := ad 20) (tb := ad 24) (xi := ad 28) (aa := ad 37) (sa := ad 39) (lf := lf) (fg := fg) (tk := ad 21) (tq := ad 22) (tw := ad 23) (kf := kf) (sf := sf) (wf := wf) (pe := nI pn) (ti := nI tn) (aw := aw) (me := me) (sp := sp) (ap := ad 38) (af := af) (kn := k) (by omega) a)
      have hm := (c_mundoS l D cs (mo := ad 41) (ml := ad 42) (mz := ad 43) (mi := ad 44) (mt := ad 45) (mv := ad 46) (mp := ad 47) (md := ad 48) (mc := ad 49) (mk := ad 50) (mq := ad 51) (mr := ad 52) (su := fg) (it := decide (0 < pn)) (nby := nI len) (lt := lf) (pl := mpl) (tok := mtk0) (va := mva0) (be := mbe) (wr := mwr) (td := nI bl) (tf := tf) (mf := mf) (an := k) (by omega))
      exact ⟨_, wA cs ad g gi lf fg sd la an rf f len pl nx so va pn tn aw (me - 1) (sp - af (4 * k + 1)) kf sf wf p2 t2 a2 m2 s2 kg sg wg ip it2 ia im is2 ik iq iw k af bl bf ++ wB cs ad lf fg f len (k + 1) bl bf (decide (0 < pn)) mpl mtk0 mva0 mbe mwr laf szf itf tf mvf d mf zf qf, wA cs ad g gi lf fg sd la an rf f len pl nx so va pn tn aw (me - 1) (sp - af (4 * k + 1)) kf sf wf p2 t2 a2 m2 s2 kg sg wg ip it2 ia im is2 ik iq iw k af bl bf ++ wB cs ad lf fg f len k bl bf (decide (0 < pn)) mpl mtk0 mva0 mbe mwr laf szf itf (mvF tf mf 0 (29 * k) 29) mvf d mf zf qf, ⟨_, _, [0, 20, 21, 22, 23, 37, 38], hc, rfl, by decide, rfl, rfl⟩, ⟨_, _, [41, 45, 49], hm, rfl, by decide, rfl, rfl⟩, Inv.mk ⟨hg, hgi⟩ (hRw) ⟨hlen, hbl, by omega, hSg⟩ ⟨(b).tf mv_snp, mv_zt hz⟩ (hA) (hIm), _, rfl⟩

