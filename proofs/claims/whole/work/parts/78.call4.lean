/-! feed, table, images, leaves, which -/
theorem IM.cong {p t a m s z : Int32} {kf sf wf tf tg : Nat → Int32} (h : IM p t a m s kf sf wf z tf) (e : ∀ j, j < 29 → tg j = tf j) : IM p t a m s kf sf wf z tg := by
  rcases h with h | ⟨h1, pn, tn, h2, h3, h4, h5⟩
  · exact Or.inl h
  · exact Or.inr ⟨h1, pn, tn, h2, h3, h4, h5.tf e⟩
/-- copies of the class: eight places -/
theorem TB.cp {pn tn : Nat} {aw me sp : Int32} {kf sf wf kg sg wg tf : Nat → Int32} (h : TB pn tn aw me sp kf sf wf tf) (hs : ∀ t, s64 (sg t)) : TB pn tn aw me sp (cpF kg kf 8) (cpF sg sf 8) (cpF wg wf 8) tf := by
  have h8 := h.tnl
  refine ⟨⟨h.pnl, h8, h.awl, h.1.2.2.2.1, fun t => ?_⟩, h.2.1, fun t ht => ?_⟩
  · unfold cpF
    split
    · exact h.S t
    · exact hs t
  · unfold cpF
    rw [if_pos (by omega), if_pos (by omega), if_pos (by omega)]
    exact h.2.2 t ht
theorem mv_at {qf tf : Nat → Int32} {k : Nat} : ∀ j, j < 29 → snp 29 (mvF qf tf (29 * k) 0 29) k j = tf j := fun j hj => by
  unfold snp mvF
  rw [if_pos (by omega)]
  exact congrArg tf (by omega)
theorem mv_out {qf tf : Nat → Int32} {k i : Nat} (h : i ≠ k) : ∀ j, j < 29 → snp 29 (mvF qf tf (29 * k) 0 29) i j = snp 29 qf i j := fun j hj => by
  unfold snp mvF
  rw [if_neg (by omega)]
theorem len_120 {x : Int32} (h : inI x 0 255 = true) : ¬ x < 0 ∧ ¬ 255 < x := inI_iff.mp h
theorem tv_26 {f : Nat → Int32} {len : Nat} (h : lwR f len = 0) : ∃ p : Nat, 2 ≤ p ∧ p ≤ 6 ∧ tkV f len (tn1 f len 0) = nI p := by
  have h2 := (lm_ok ((lm_lw f len).trans h)).2.1
  rw [nfM_eq] at h2
  obtain ⟨_, a, b⟩ := nfI_num h2
  have e2 : (2 : Int32).toInt = 2 := by decide
  have e6 : (6 : Int32).toInt = 6 := by decide
  rw [Int32.lt_iff_toInt_lt] at a b
  refine ⟨(tkV f len (tn1 f len 0)).toInt.toNat, ?_, ?_, ?_⟩
  · unfold tn1; omega
  · unfold tn1; omega
  · apply Int32.toInt_inj.mp
    unfold tn1
    rw [nI_toInt (by omega)]
    omega
/-- what was read, by the class and by the model -/
theorem rd_md {f : Nat → Int32} {len : Nat} {d k x u : Nat → Int32} (h : lwR f len = 0) :
    (mdX f len d).1 = (rdW f len k x u).1 ∧ (¬ (rdW f len k x u).1 = 0 → (mdX f len d).2.1 = (rdW f len k x u).2.1) ∧
    ((rdW f len k x u).1 = 0 → (rdW f len k x u).2.2.1 ≤ 8 ∧ (mdX f len d).2.2 1 = nI (rdW f len k x u).2.2.1 ∧ (mdX f len d).2.2 0 = tkV f len (tn1 f len 0) ∧ (∀ i, (i = 2 ∨ i = 3 ∨ i = 4) → (mdX f len d).2.2 i = 0) ∧
      ∀ t, t < (rdW f len k x u).2.2.1 → GT (allI (tkV f len (tn1 f len 0))) (mdX f len d).2.2 (rdW f len k x u).2.2.2.1 (rdW f len k x u).2.2.2.2.1 (rdW f len k x u).2.2.2.2.2 t) := by
  have hm : lmR f len = 0 := (lm_lw f len).trans h
  have hp := pe0_eq hm
  have hl := lwP_ok hm
  have hr := rm_ri (f := f) (len := len) (al := allI (tkV f len (tn1 f len 0))) 9 (lwP f len) 0 (upd (zrF d 29) 0 (tkV f len (tn1 f len 0))) k x u rfl (by omega) (by rw [pk_un (by omega)]; unfold zrF; rw [if_pos (by omega)]; rfl) (fun t ht => absurd ht (by omega))
  have e : mdX f len d = rmX f len (allI (tkV f len (tn1 f len 0))) 9 (tkN f len (lwP f len)) 0 (upd (zrF d 29) 0 (tkV f len (tn1 f len 0))) := by
    unfold mdX
    rw [hp, hl]
  rw [e]
  unfold rdW
  refine ⟨hr.1, hr.2.1, fun z => ?_⟩
  obtain ⟨a, b, c, g⟩ := hr.2.2 z
  refine ⟨a, b, (c 0 (Or.inl rfl)).trans pk_us, fun i hi => ?_, g⟩
  rw [c i (by omega), pk_un (by omega)]
  unfold zrF
  rw [if_pos (by omega)]
theorem rd_s64 {f : Nat → Int32} {len : Nat} {k x u : Nat → Int32} (h : lwR f len = 0) (hx : ∀ t, s64 (x t)) : ∀ t, s64 ((rdW f len k x u).2.2.2.2.1 t) := by
  obtain ⟨p, _, hp, e⟩ := tv_26 h
  unfold rdW
  exact riW_s64 (by rw [e]; exact allI_le p hp) 9 _ _ _ _ _ hx
theorem nI_40 {z : Int32} (h1 : ¬ z < 0) (h2 : ¬ 40 < z) : ∃ u : Nat, u ≤ 40 ∧ z = nI u := by
  obtain ⟨j, hj, rfl⟩ := nI_of h1
  exact ⟨j, nlt_nI (a := 40) h2 (by decide) hj, rfl⟩
theorem TB.read {f : Nat → Int32} {len p tn : Nat} {M k x u kf sf wf tf : Nat → Int32} (hp : p ≤ 6) (ht : tn ≤ 8) (h1 : M 1 = nI tn) (h0 : M 0 = nI p) (h2 : ∀ i, (i = 2 ∨ i = 3 ∨ i = 4) → M i = 0) (hg : ∀ t, t < tn → GT (allI (nI p)) M k x u t) (hx : ∀ t, s64 (x t)) (hs : ∀ t, s64 (sf t)) (hM : ∀ t, t < 16 → s64 (M (13 + t))) : TB p tn 0 0 0 (cpF kf k 8) (cpF sf x 8) (cpF wf u 8) (cpF tf M 29) := by
  have e : ∀ j, j < 29 → cpF tf M 29 j = M j := fun j hj => by unfold cpF; rw [if_pos hj]
  refine ⟨⟨hp, ht, s64_0, ⟨0, by omega, rfl⟩, fun t => ?_⟩, ⟨(e 0 (by omega)).trans h0, (e 1 (by omega)).trans h1, (e 2 (by omega)).trans (h2 2 (by omega)), (e 3 (by omega)).trans (h2 3 (by omega)), (e 4 (by omega)).trans (h2 4 (by omega)), fun t ht2 => by rw [e _ (by omega)]; exact hM t ht2⟩, fun t ht2 => ?_⟩
  · unfold cpF
    split
    · exact hx t
    · exact hs t
  · obtain ⟨g1, g2, g3, g4, g5, g6, g7⟩ := hg t ht2
    have c : ∀ a b : Nat → Int32, cpF a b 8 t = b t := fun a b => by unfold cpF; rw [if_pos (by omega)]
    rw [c, c, c, e _ (by omega), e _ (by omega), e _ (by omega)]
    exact ⟨g1.symm, g2.symm, g3.symm, g4, nI_40 g6 g7⟩
theorem zr29_s {d : Nat → Int32} {a : Int32} : ∀ t, t < 16 → s64 (upd (zrF d 29) 0 a (13 + t)) := fun t ht => by
  rw [pk_un (by omega)]
  unfold zrF
  rw [if_pos (by omega)]
  exact s64_0
theorem rt_low {f : Nat → Int32} {len : Nat} {al : Int32} {tn q : Nat} {kd : Int32} {d e : Nat → Int32} (ht : tn ≤ 8) (h : ∀ j, j < 29 → d j = e j) : (rtX f len al tn q kd d).1 = (rtX f len al tn q kd e).1 ∧ (rtX f len al tn q kd d).2.1 = (rtX f len al tn q kd e).2.1 ∧ ∀ j, j < 29 → (rtX f len al tn q kd d).2.2 j = (rtX f len al tn q kd e).2.2 j := by
  have u : ∀ {a b : Nat → Int32} {k : Nat} {z : Int32}, (∀ j, j < 29 → a j = b j) → ∀ j, j < 29 → upd a k z j = upd b k z j := fun hab j hj => by
    simp only [upd]
    split
    · rfl
    · exact hab j hj
  unfold rtX
  by_cases h1 : tn = 8
  · rw [if_pos h1, if_pos h1]; exact ⟨rfl, rfl, h⟩
  · rw [if_neg h1, if_neg h1]
    have k1 := u (k := 1) (z := nI (tn + 1)) (u (k := 5 + tn) (z := kd) h)
    by_cases h3 : nfM f len (tn1 f len q) 1 al = 0
    · rw [if_pos h3, if_pos h3]
      have k2 := u (k := 13 + tn) (z := mva f len (tn1 f len q)) k1
      by_cases h5 : isL f len (tn2 f len q) 44 = true
      · rw [if_pos h5, if_pos h5]
        by_cases h6 : nfM f len (tn3 f len q) 0 40 = 0
        · rw [if_pos h6, if_pos h6]
          have k3 := u (k := 21 + tn) (z := mva f len (tn3 f len q)) k2
          by_cases h8 : isL f len (tn4 f len q) 59 = true
          · rw [if_pos h8, if_pos h8]; exact ⟨rfl, rfl, k3⟩
          · rw [if_neg h8, if_neg h8]; exact ⟨rfl, rfl, k3⟩
        · rw [if_neg h6, if_neg h6]; exact ⟨rfl, rfl, k2⟩
      · rw [if_neg h5, if_neg h5]; exact ⟨rfl, rfl, k2⟩
    · rw [if_neg h3, if_neg h3]; exact ⟨rfl, rfl, k1⟩
theorem rm_low {f : Nat → Int32} {len : Nat} {al : Int32} : ∀ (n q tn : Nat) (d e : Nat → Int32), tn ≤ 8 → (∀ j, j < 29 → d j = e j) → ∀ j, j < 29 → (rmX f len al n q tn d).2.2 j = (rmX f len al n q tn e).2.2 j
  | 0, q, tn, d, e, _, h => h
  | n + 1, q, tn, d, e, ht, h => by
    rw [rmX, rmX]
    by_cases c1 : mtk f len q = 3
    · rw [if_pos c1, if_pos c1]; exact h
    · rw [if_neg c1, if_neg c1]
      by_cases c2 : 0 < kdM f len q
      · rw [if_pos c2, if_pos c2]
        obtain ⟨a, b, c⟩ := rt_low (f := f) (len := len) (al := al) (q := q) (kd := kdM f len q) ht h
        by_cases c3 : (rtX f len al tn q (kdM f len q) d).1 = 0
        · rw [if_pos c3, if_pos (a.symm.trans c3), b]
          exact rm_low n _ _ _ _ (rt_ok c3 ht) c
        · rw [if_neg c3, if_neg (fun z => c3 (a.trans z))]
          exact c
      · rw [if_neg c2, if_neg c2]; exact h
theorem md_s64 {f : Nat → Int32} {len : Nat} {d : Nat → Int32} (h : lwR f len = 0) : ∀ t, t < 16 → s64 ((mdX f len d).2.2 (13 + t)) := by
  obtain ⟨p, _, hp, e⟩ := tv_26 h
  have e2 := pe0_eq ((lm_lw f len).trans h)
  have key : ∀ (g : Nat → Int32), (∀ t, s64 (g (13 + t))) → ∀ t, s64 ((rmX f len (allI (pe0 f len)) 9 (tkN f len (tkN f len (tkN f len 0))) 0 g).2.2 (13 + t)) := fun g hg => rmX_s64 (by rw [e2, e]; exact allI_le p hp) 9 _ _ _ (by omega) hg
  intro t ht
  have hz := key (fun j => if j < 29 then upd (zrF d 29) 0 (pe0 f len) j else 0) (fun i => by
    by_cases hi : i < 16
    · simp only [show 13 + i < 29 by omega, if_true]; exact zr29_s i hi
    · simp only [show ¬ 13 + i < 29 by omega, if_false]; exact s64_0) t
  have hq := rm_low (f := f) (len := len) (al := allI (pe0 f len)) 9 (tkN f len (tkN f len (tkN f len 0))) 0 (upd (zrF d 29) 0 (pe0 f len)) (fun j => if j < 29 then upd (zrF d 29) 0 (pe0 f len) j else 0) (by omega) (fun j hj => by simp only [hj, if_true]) (13 + t) (by omega)
  unfold mdX
  rw [hq]
  exact hz
set_option maxHeartbeats 4000000 in
set_option maxRecDepth 100000 in
theorem tk_feed {l : Launch} {D : va_G} {cs : Nat → ClassId} {ad : Nat → Nat} {ws : va_W} (hI : Inv cs ad ws) (x : Int32) : Goes2 l D cs ad yX5_feed wsX5_feed ({ frames := 2, cells := 0, slots := 0, locals := 43 }) yX6_feed wsX6_feed ({ frames := 1, cells := 0, slots := 0, locals := 25 }) [.int x] ws := by
  refine hI.opn (G := fun ws => Goes2 l D cs ad yX5_feed wsX5_feed ({ frames := 2, cells := 0, slots := 0, locals := 43 }) yX6_feed wsX6_feed ({ frames := 1, cells := 0, slots := 0, locals := 25 }) [.int x] ws) ?_
  clear hI
  intro g gi lf fg sd la an rf f len pl nx so va pn tn aw me sp kf sf wf p2 t2 a2 m2 s2 kg sg wg ip it2 ia im is2 ik iq iw kn af bl bf mpl mtk0 mva0 mbe mwr laf szf itf tf mvf d mf zf qf h1 h2 h3 h4 hA hIm hI
  obtain ⟨hg, hgi⟩ := h1
  obtain ⟨hlen, hbl, hkn, hSg⟩ := h3
  obtain ⟨hT, hz⟩ := h4
  have hRw := h2
  clear h2
  show Goes2 l D cs ad yX5_feed wsX5_feed ({ frames := 2, cells := 0, slots := 0, locals := 43 }) yX6_feed wsX6_feed ({ frames := 1, cells := 0, slots := 0, locals := 25 }) [.int x] (wA cs ad g gi lf fg sd la an rf f len pl nx so va pn tn aw me sp kf sf wf p2 t2 a2 m2 s2 kg sg wg ip it2 ia im is2 ik iq iw kn af bl bf ++ wB cs ad lf fg f len kn bl bf (decide (0 < pn)) mpl mtk0 mva0 mbe mwr laf szf itf tf mvf d mf zf qf)
  by_cases h0 : x < 0
  · have hc := (c_feed l D cs (xo := ad 0) (xr := ad 1) (xd := ad 18) (ta := ad 20) (tb := ad 24) (xi := ad 28) (aa := ad 37) (sa := ad 39) (lf := lf) (fg := fg) (xt := ad 19) (f := f) (len := len) (pl := pl) (nx := nx) (so := so) (va := va) (x := x) hlen)
    simp only [if_pos h0] at hc
    have hm := (c_mfeed l D cs (mo := ad 41) (ml := ad 42) (mz := ad 43) (mi := ad 44) (mt := ad 45) (mv := ad 46) (mp := ad 47) (md := ad 48) (mc := ad 49) (mk := ad 50) (mq := ad 51) (mr := ad 52) (su := fg) (it := decide (0 < pn)) (lt := lf) (pl := mpl) (tok := mtk0) (va := mva0) (be := mbe) (wr := mwr) (am := nI kn) (td := nI bl) (f := f) (len := len) (x := x) hlen)
    simp only [if_neg (show ¬ inI x 0 255 = true by unfold inI; rw [if_pos h0]; decide)] at hm
    exact ⟨_, wA cs ad g gi lf fg sd la an rf f len pl nx so va pn tn aw me sp kf sf wf p2 t2 a2 m2 s2 kg sg wg ip it2 ia im is2 ik iq iw kn af bl bf ++ wB cs ad lf fg f len kn bl bf (decide (0 < pn)) mpl mtk0 mva0 mbe mwr laf szf itf tf mvf d mf zf qf, wA cs ad g gi lf fg sd la an rf f len pl nx so va pn tn aw me sp kf sf wf p2 t2 a2 m2 s2 kg sg wg ip it2 ia im is2 ik iq iw kn af bl bf ++ wB cs ad lf fg f len kn bl bf (decide (0 < pn)) mpl mtk0 mva0 mbe mwr laf szf itf tf mvf d mf zf qf, ⟨_, _, [0, 18, 19], hc, rfl, by decide, rfl, rfl⟩, ⟨_, _, [41, 47], hm, rfl, by decide, rfl, rfl⟩, Inv.mk ⟨hg, hgi⟩ (hRw) ⟨hlen, hbl, hkn, hSg⟩ ⟨hT, hz⟩ (hA) (hIm), _, rfl⟩
  · by_cases h1 : 255 < x
    · have hc := (c_feed l D cs (xo := ad 0) (xr := ad 1) (xd := ad 18) (ta := ad 20) (tb := ad 24) (xi := ad 28) (aa := ad 37) (sa := ad 39) (lf := lf) (fg := fg) (xt := ad 19) (f := f) (len := len) (pl := pl) (nx := nx) (so := so) (va := va) (x := x) hlen)
      simp only [if_neg h0, if_pos h1] at hc
      have hm := (c_mfeed l D cs (mo := ad 41) (ml := ad 42) (mz := ad 43) (mi := ad 44) (mt := ad 45) (mv := ad 46) (mp := ad 47) (md := ad 48) (mc := ad 49) (mk := ad 50) (mq := ad 51) (mr := ad 52) (su := fg) (it := decide (0 < pn)) (lt := lf) (pl := mpl) (tok := mtk0) (va := mva0) (be := mbe) (wr := mwr) (am := nI kn) (td := nI bl) (f := f) (len := len) (x := x) hlen)
      simp only [if_neg (show ¬ inI x 0 255 = true by unfold inI; rw [if_neg h0, if_pos h1]; decide)] at hm
      exact ⟨_, wA cs ad g gi lf fg sd la an rf f len pl nx so va pn tn aw me sp kf sf wf p2 t2 a2 m2 s2 kg sg wg ip it2 ia im is2 ik iq iw kn af bl bf ++ wB cs ad lf fg f len kn bl bf (decide (0 < pn)) mpl mtk0 mva0 mbe mwr laf szf itf tf mvf d mf zf qf, wA cs ad g gi lf fg sd la an rf f len pl nx so va pn tn aw me sp kf sf wf p2 t2 a2 m2 s2 kg sg wg ip it2 ia im is2 ik iq iw kn af bl bf ++ wB cs ad lf fg f len kn bl bf (decide (0 < pn)) mpl mtk0 mva0 mbe mwr laf szf itf tf mvf d mf zf qf, ⟨_, _, [0, 18, 19], hc, rfl, by decide, rfl, rfl⟩, ⟨_, _, [41, 47], hm, rfl, by decide, rfl, rfl⟩, Inv.mk ⟨hg, hgi⟩ (hRw) ⟨hlen, hbl, hkn, hSg⟩ ⟨hT, hz⟩ (hA) (hIm), _, rfl⟩
    · have hin : inI x 0 255 = true := by unfold inI; rw [if_neg h0, if_neg h1]
      by_cases h2 : 120 ≤ len
      · have hc := (c_feed l D cs (xo := ad 0) (xr := ad 1) (xd := ad 18) (ta := ad 20) (tb := ad 24) (xi := ad 28) (aa := ad 37) (sa := ad 39) (lf := lf) (fg := fg) (xt := ad 19) (f := f) (len := len) (pl := pl) (nx := nx) (so := so) (va := va) (x := x) hlen)
        simp only [if_neg h0, if_neg h1, if_pos h2] at hc
        have hm := (c_mfeed l D cs (mo := ad 41) (ml := ad 42) (mz := ad 43) (mi := ad 44) (mt := ad 45) (mv := ad 46) (mp := ad 47) (md := ad 48) (mc := ad 49) (mk := ad 50) (mq := ad 51) (mr := ad 52) (su := fg) (it := decide (0 < pn)) (lt := lf) (pl := mpl) (tok := mtk0) (va := mva0) (be := mbe) (wr := mwr) (am := nI kn) (td := nI bl) (f := f) (len := len) (x := x) hlen)
        simp only [if_pos hin, if_pos (show len = 120 by omega)] at hm
        exact ⟨_, wA cs ad g gi lf fg sd la an rf f len pl nx so va pn tn aw me sp kf sf wf p2 t2 a2 m2 s2 kg sg wg ip it2 ia im is2 ik iq iw kn af bl bf ++ wB cs ad lf fg f len kn bl bf (decide (0 < pn)) mpl mtk0 mva0 mbe mwr laf szf itf tf mvf d mf zf qf, wA cs ad g gi lf fg sd la an rf f len pl nx so va pn tn aw me sp kf sf wf p2 t2 a2 m2 s2 kg sg wg ip it2 ia im is2 ik iq iw kn af bl bf ++ wB cs ad lf fg f len kn bl bf (decide (0 < pn)) mpl mtk0 mva0 mbe mwr laf szf itf tf mvf d mf zf qf, ⟨_, _, [0, 18, 19], hc, rfl, by decide, rfl, rfl⟩, ⟨_, _, [41, 47], hm, rfl, by decide, rfl, rfl⟩, Inv.mk ⟨hg, hgi⟩ (hRw) ⟨hlen, hbl, hkn, hSg⟩ ⟨hT, hz⟩ (hA) (hIm), _, rfl⟩
      · have hc := (c_feed l D cs (xo := ad 0) (xr := ad 1) (xd := ad 18) (ta := ad 20) (tb := ad 24) (xi := ad 28) (aa := ad 37) (sa := ad 39) (lf := lf) (fg := fg) (xt := ad 19) (f := f) (len := len) (pl := pl) (nx := nx) (so := so) (va := va) (x := x) hlen)
        simp only [if_neg h0, if_neg h1, if_neg h2] at hc
        have hm := (c_mfeed l D cs (mo := ad 41) (ml := ad 42) (mz := ad 43) (mi := ad 44) (mt := ad 45) (mv := ad 46) (mp := ad 47) (md := ad 48) (mc := ad 49) (mk := ad 50) (mq := ad 51) (mr := ad 52) (su := fg) (it := decide (0 < pn)) (lt := lf) (pl := mpl) (tok := mtk0) (va := mva0) (be := mbe) (wr := mwr) (am := nI kn) (td := nI bl) (f := f) (len := len) (x := x) hlen)
        simp only [if_pos hin, if_neg (show ¬ len = 120 by omega)] at hm
        exact ⟨_, wA cs ad g gi lf fg sd la an rf (upd f len x) (len + 1) pl nx so va pn tn aw me sp kf sf wf p2 t2 a2 m2 s2 kg sg wg ip it2 ia im is2 ik iq iw kn af bl bf ++ wB cs ad lf fg f len kn bl bf (decide (0 < pn)) mpl mtk0 mva0 mbe mwr laf szf itf tf mvf d mf zf qf, wA cs ad g gi lf fg sd la an rf (upd f len x) (len + 1) pl nx so va pn tn aw me sp kf sf wf p2 t2 a2 m2 s2 kg sg wg ip it2 ia im is2 ik iq iw kn af bl bf ++ wB cs ad lf fg (upd f len x) (len + 1) kn bl bf (decide (0 < pn)) mpl mtk0 mva0 mbe mwr laf szf itf tf mvf d mf zf qf, ⟨_, _, [0, 18, 19], hc, rfl, by decide, rfl, rfl⟩, ⟨_, _, [41, 47], hm, rfl, by decide, rfl, rfl⟩, Inv.mk ⟨hg, hgi⟩ (hRw) ⟨by omega, hbl, hkn, hSg⟩ ⟨hT, hz⟩ (hA) (hIm), _, rfl⟩

set_option maxHeartbeats 4000000 in
set_option maxRecDepth 100000 in
theorem tk_table {l : Launch} {D : va_G} {cs : Nat → ClassId} {ad : Nat → Nat} {ws : va_W} (hI : Inv cs ad ws) : Goes2 l D cs ad yX5_table wsX5_table ({ frames := 6, cells := 0, slots := 0, locals := 133 }) yX6_table wsX6_table ({ frames := 6, cells := 0, slots := 0, locals := 134 }) [] ws := by
  refine hI.opn (G := fun ws => Goes2 l D cs ad yX5_table wsX5_table ({ frames := 6, cells := 0, slots := 0, locals := 133 }) yX6_table wsX6_table ({ frames := 6, cells := 0, slots := 0, locals := 134 }) [] ws) ?_
  clear hI
  intro g gi lf fg sd la an rf f len pl nx so va pn tn aw me sp kf sf wf p2 t2 a2 m2 s2 kg sg wg ip it2 ia im is2 ik iq iw kn af bl bf mpl mtk0 mva0 mbe mwr laf szf itf tf mvf d mf zf qf h1 h2 h3 h4 hA hIm hI
  obtain ⟨hg, hgi⟩ := h1
  obtain ⟨hlen, hbl, hkn, hSg⟩ := h3
  obtain ⟨hT, hz⟩ := h4
  have hRw := h2
  clear h2
  show Goes2 l D cs ad yX5_table wsX5_table ({ frames := 6, cells := 0, slots := 0, locals := 133 }) yX6_table wsX6_table ({ frames := 6, cells := 0, slots := 0, locals := 134 }) [] (wA cs ad g gi lf fg sd la an rf f len pl nx so va pn tn aw me sp kf sf wf p2 t2 a2 m2 s2 kg sg wg ip it2 ia im is2 ik iq iw kn af bl bf ++ wB cs ad lf fg f len kn bl bf (decide (0 < pn)) mpl mtk0 mva0 mbe mwr laf szf itf tf mvf d mf zf qf)
  have hlm := lm_lw f len
  by_cases h0 : lwR f len = 0
  · have hm0 : lmR f len = 0 := hlm.trans h0
    by_cases h1 : (rdW f len kg sg wg).1 = 0
    · obtain ⟨r1, _, r3⟩ := rd_md (d := d) (k := kg) (x := sg) (u := wg) h0
      have hm1 : (mdX f len d).1 = 0 := r1.trans h1
      obtain ⟨g8, g1, g0, g2, gg⟩ := r3 h1
      obtain ⟨p, hp2, hp6, ep⟩ := tv_26 h0
      have hs := rd_s64 (k := kg) (u := wg) h0 hSg.1
      have hpt : decide (0 < p) = true := decide_eq_true (by omega)
      rw [ep] at gg g0
      have hTn := TB.read (kf := kf) (sf := sf) (wf := wf) (tf := tf) (f := f) (len := len) hp6 g8 g1 g0 g2 gg hs hT.S (md_s64 (d := d) h0)
      have ean : cpF tf (mdX f len d).2.2 29 1 = nI (rdW f len kg sg wg).2.2.1 := by unfold cpF; rw [if_pos (by omega)]; exact g1
      have hc := (c_tableOk l D cs (xo := ad 0) (xr := ad 1) (xd := ad 18) (ta := ad 20) (tb := ad 24) (xi := ad 28) (aa := ad 37) (sa := ad 39) (lf := lf) (fg := fg) (xt := ad 19) (f := f) (len := len) (pl := pl) (nx := nx) (so := so) (va := va) (tk := ad 21) (tq := ad 22) (tw := ad 23) (uk := ad 25) (uq := ad 26) (uw := ad 27) (kf := kf) (sf := sf) (wf := wf) (kg := kg) (sg := sg) (wg := wg) (pe := nI pn) (ti := nI tn) (aw := aw) (me := me) (sp := sp) (pe2 := p2) (ti2 := t2) (aw2 := a2) (me2 := m2) (sp2 := s2) (ap := ad 38) (kn := nI kn) hlen h0 h1)
      simp only [ep] at hc
      have hm := (c_mtableOk l D cs (mo := ad 41) (ml := ad 42) (mz := ad 43) (mi := ad 44) (mt := ad 45) (mv := ad 46) (mp := ad 47) (md := ad 48) (mc := ad 49) (mk := ad 50) (mq := ad 51) (mr := ad 52) (su := fg) (it := decide (0 < pn)) (lt := lf) (pl := mpl) (tok := mtk0) (va := mva0) (be := mbe) (wr := mwr) (am := nI kn) (td := nI bl) (f := f) (len := len) (d := d) (tf := tf) hlen hm0 hm1)
      simp only [ean] at hm
      rw [← hpt] at hm
      exact ⟨_, wA cs ad g gi lf fg sd la an rf f 0 (nI (rdW f len kg sg wg).2.1) (nI (tkN f len (rdW f len kg sg wg).2.1)) (tkS f len (rdW f len kg sg wg).2.1) (tkV f len (rdW f len kg sg wg).2.1) p ((rdW f len kg sg wg).2.2.1) 0 0 0 (cpF kf (rdW f len kg sg wg).2.2.2.1 8) (cpF sf (rdW f len kg sg wg).2.2.2.2.1 8) (cpF wf (rdW f len kg sg wg).2.2.2.2.2 8) (nI p) (nI (rdW f len kg sg wg).2.2.1) 0 0 0 ((rdW f len kg sg wg).2.2.2.1) ((rdW f len kg sg wg).2.2.2.2.1) ((rdW f len kg sg wg).2.2.2.2.2) ip it2 ia im is2 ik iq iw 0 af bl bf ++ wB cs ad lf fg f len kn bl bf (decide (0 < pn)) mpl mtk0 mva0 mbe mwr laf szf itf tf mvf d mf zf qf, wA cs ad g gi lf fg sd la an rf f 0 (nI (rdW f len kg sg wg).2.1) (nI (tkN f len (rdW f len kg sg wg).2.1)) (tkS f len (rdW f len kg sg wg).2.1) (tkV f len (rdW f len kg sg wg).2.1) p ((rdW f len kg sg wg).2.2.1) 0 0 0 (cpF kf (rdW f len kg sg wg).2.2.2.1 8) (cpF sf (rdW f len kg sg wg).2.2.2.2.1 8) (cpF wf (rdW f len kg sg wg).2.2.2.2.2 8) (nI p) (nI (rdW f len kg sg wg).2.2.1) 0 0 0 ((rdW f len kg sg wg).2.2.2.1) ((rdW f len kg sg wg).2.2.2.2.1) ((rdW f len kg sg wg).2.2.2.2.2) ip it2 ia im is2 ik iq iw 0 af bl bf ++ wB cs ad lf fg f 0 0 bl bf (decide (0 < p)) (nI (tkN f len (mdX f len d).2.1)) (mtk f len (mdX f len d).2.1) (mva f len (mdX f len d).2.1) (nI (mdX f len d).2.1) mwr laf szf itf (cpF tf (mdX f len d).2.2 29) mvf ((mdX f len d).2.2) mf zf qf, ⟨_, _, [0, 18, 19, 20, 21, 22, 23, 24, 25, 26, 27, 37], hc, rfl, by decide, rfl, rfl⟩, ⟨_, _, [41, 47, 48, 45], hm, rfl, by decide, rfl, rfl⟩, Inv.mk ⟨hg, hgi⟩ (hRw) ⟨by omega, hbl, by omega, hs, hSg.2⟩ ⟨hTn, fun j hj => by unfold cpF; rw [if_neg (by omega)]; exact hz j hj⟩ (trivial) ⟨hIm.1, fun k hk z => by omega⟩, _, rfl⟩
    · obtain ⟨r1, r2, _⟩ := rd_md (d := d) (k := kg) (x := sg) (u := wg) h0
      have hm1 : ¬ (mdX f len d).1 = 0 := fun z => h1 (r1.symm.trans z)
      have r3 := r2 h1
      have hs := rd_s64 (k := kg) (u := wg) h0 hSg.1
      have hc := (c_tableBad2 l D cs (xo := ad 0) (xr := ad 1) (xd := ad 18) (ta := ad 20) (tb := ad 24) (xi := ad 28) (aa := ad 37) (sa := ad 39) (lf := lf) (fg := fg) (xt := ad 19) (f := f) (len := len) (pl := pl) (nx := nx) (so := so) (va := va) (tk := ad 21) (tq := ad 22) (tw := ad 23) (uk := ad 25) (uq := ad 26) (uw := ad 27) (kf := kf) (sf := sf) (wf := wf) (kg := kg) (sg := sg) (wg := wg) (pe := nI pn) (ti := nI tn) (aw := aw) (me := me) (sp := sp) (pe2 := p2) (ti2 := t2) (aw2 := a2) (me2 := m2) (sp2 := s2) (ap := ad 38) (kn := nI kn) hlen h0 h1)
      have hm := (c_mtableBad2 l D cs (mo := ad 41) (ml := ad 42) (mz := ad 43) (mi := ad 44) (mt := ad 45) (mv := ad 46) (mp := ad 47) (md := ad 48) (mc := ad 49) (mk := ad 50) (mq := ad 51) (mr := ad 52) (su := fg) (it := decide (0 < pn)) (lt := lf) (pl := mpl) (tok := mtk0) (va := mva0) (be := mbe) (wr := mwr) (am := nI kn) (td := nI bl) (f := f) (len := len) (d := d) (tf := tf) hlen hm0 hm1)
      simp only [r1, r3] at hm
      exact ⟨_, wA cs ad g gi ((rdW f len kg sg wg).1) fg sd la an rf f 0 (nI (rdW f len kg sg wg).2.1) (nI (tkN f len (rdW f len kg sg wg).2.1)) (tkS f len (rdW f len kg sg wg).2.1) (tkV f len (rdW f len kg sg wg).2.1) pn tn aw me sp kf sf wf (tkV f len (tn1 f len 0)) (nI (rdW f len kg sg wg).2.2.1) 0 0 0 ((rdW f len kg sg wg).2.2.2.1) ((rdW f len kg sg wg).2.2.2.2.1) ((rdW f len kg sg wg).2.2.2.2.2) ip it2 ia im is2 ik iq iw kn af bl bf ++ wB cs ad lf fg f len kn bl bf (decide (0 < pn)) mpl mtk0 mva0 mbe mwr laf szf itf tf mvf d mf zf qf, wA cs ad g gi ((rdW f len kg sg wg).1) fg sd la an rf f 0 (nI (rdW f len kg sg wg).2.1) (nI (tkN f len (rdW f len kg sg wg).2.1)) (tkS f len (rdW f len kg sg wg).2.1) (tkV f len (rdW f len kg sg wg).2.1) pn tn aw me sp kf sf wf (tkV f len (tn1 f len 0)) (nI (rdW f len kg sg wg).2.2.1) 0 0 0 ((rdW f len kg sg wg).2.2.2.1) ((rdW f len kg sg wg).2.2.2.2.1) ((rdW f len kg sg wg).2.2.2.2.2) ip it2 ia im is2 ik iq iw kn af bl bf ++ wB cs ad ((rdW f len kg sg wg).1) fg f 0 kn bl bf (decide (0 < pn)) (nI (tkN f len (rdW f len kg sg wg).2.1)) (mtk f len (rdW f len kg sg wg).2.1) (mva f len (rdW f len kg sg wg).2.1) (nI (rdW f len kg sg wg).2.1) ((rdW f len kg sg wg).1) laf szf itf tf mvf ((mdX f len d).2.2) mf zf qf, ⟨_, _, [0, 18, 19, 20, 21, 22, 23, 24, 25, 26, 27, 37], hc, rfl, by decide, rfl, rfl⟩, ⟨_, _, [41, 47, 48, 45], hm, rfl, by decide, rfl, rfl⟩, Inv.mk ⟨hg, hgi⟩ (hRw) ⟨by omega, hbl, hkn, hs, hSg.2⟩ ⟨hT, hz⟩ (hA) (hIm), _, rfl⟩
  · have hm0 : ¬ lmR f len = 0 := fun z => h0 (hlm.symm.trans z)
    have hc := (c_tableBad l D cs (xo := ad 0) (xr := ad 1) (xd := ad 18) (ta := ad 20) (tb := ad 24) (xi := ad 28) (aa := ad 37) (sa := ad 39) (lf := lf) (fg := fg) (xt := ad 19) (f := f) (len := len) (pl := pl) (nx := nx) (so := so) (va := va) (tk := ad 21) (tq := ad 22) (tw := ad 23) (uk := ad 25) (uq := ad 26) (uw := ad 27) (kf := kf) (sf := sf) (wf := wf) (kg := kg) (sg := sg) (wg := wg) (pe := nI pn) (ti := nI tn) (aw := aw) (me := me) (sp := sp) (pe2 := p2) (ti2 := t2) (aw2 := a2) (me2 := m2) (sp2 := s2) (ap := ad 38) (kn := nI kn) hlen h0)
    have hm := (c_mtableBad l D cs (mo := ad 41) (ml := ad 42) (mz := ad 43) (mi := ad 44) (mt := ad 45) (mv := ad 46) (mp := ad 47) (md := ad 48) (mc := ad 49) (mk := ad 50) (mq := ad 51) (mr := ad 52) (su := fg) (it := decide (0 < pn)) (lt := lf) (pl := mpl) (tok := mtk0) (va := mva0) (be := mbe) (wr := mwr) (am := nI kn) (td := nI bl) (f := f) (len := len) (d := d) (tf := tf) hlen hm0)
    simp only [lmP_bad hm0, lm_lw] at hm
    exact ⟨_, wA cs ad g gi (lwR f len) fg sd la an rf f 0 (nI (lwP f len)) (nI (tkN f len (lwP f len))) (tkS f len (lwP f len)) (tkV f len (lwP f len)) pn tn aw me sp kf sf wf (if lwB f len = true then tkV f len (tn1 f len 0) else p2) (if lwB f len = true then 0 else t2) (if lwB f len = true then 0 else a2) (if lwB f len = true then 0 else m2) (if lwB f len = true then 0 else s2) kg sg wg ip it2 ia im is2 ik iq iw kn af bl bf ++ wB cs ad lf fg f len kn bl bf (decide (0 < pn)) mpl mtk0 mva0 mbe mwr laf szf itf tf mvf d mf zf qf, wA cs ad g gi (lwR f len) fg sd la an rf f 0 (nI (lwP f len)) (nI (tkN f len (lwP f len))) (tkS f len (lwP f len)) (tkV f len (lwP f len)) pn tn aw me sp kf sf wf (if lwB f len = true then tkV f len (tn1 f len 0) else p2) (if lwB f len = true then 0 else t2) (if lwB f len = true then 0 else a2) (if lwB f len = true then 0 else m2) (if lwB f len = true then 0 else s2) kg sg wg ip it2 ia im is2 ik iq iw kn af bl bf ++ wB cs ad (lwR f len) fg f 0 kn bl bf (decide (0 < pn)) (nI (tkN f len (lwP f len))) (mtk f len (lwP f len)) (mva f len (lwP f len)) (nI (lwP f len)) (lwR f len) laf szf itf tf mvf (lmD f len d) mf zf qf, ⟨_, _, [0, 18, 19, 20, 21, 22, 23, 24, 25, 26, 27, 37], hc, rfl, by decide, rfl, rfl⟩, ⟨_, _, [41, 47, 48, 45], hm, rfl, by decide, rfl, rfl⟩, Inv.mk ⟨hg, hgi⟩ (hRw) ⟨by omega, hbl, hkn, hSg⟩ ⟨hT, hz⟩ (hA) (hIm), _, rfl⟩

theorem in2_c (x : Int32) : inB 2 x = false ∨ x = 0 ∨ x = 1 := by
  rcases inB_c (n := 2) (by decide) x with h | ⟨j, hj, rfl⟩
  · exact Or.inl h
  · rcases (show j = 0 ∨ j = 1 by omega) with e | e <;> subst e
    · exact Or.inr (Or.inl rfl)
    · exact Or.inr (Or.inr rfl)
theorem zo_f {x : Int32} (h : inB 2 x = false) : zo x = false := by
  rw [← inI_01, show (1 : Int32) = nI 2 - 1 from by decide, inI_0 (by decide)]; exact h
theorem updF_s {iq : Nat → Nat → Int32} {sf : Nat → Int32} {j : Nat} (h : ∀ k, k < 2 → ∀ t, s64 (iq k t)) (hs : ∀ t, s64 (sf t)) : ∀ k, k < 2 → ∀ t, s64 (updF iq j (cpF (iq j) sf 8) k t) := by
  intro k hk t
  unfold updF
  split
  · rename_i e
    subst e
    unfold cpF
    split
    · exact hs t
    · exact h k hk t
  · exact h k hk t
theorem IM.set {p t a m s : Int32} {ip it2 ia im is2 zf zg : Nat → Int32} {ik iq iw : Nat → Nat → Int32} {qf qg : Nat → Int32} {j : Nat} {k2 s2 w2 : Nat → Int32} (h : ∀ k, k < 2 → IM (ip k) (it2 k) (ia k) (im k) (is2 k) (ik k) (iq k) (iw k) (zf k) (snp 29 qf k)) (hj : IM p t a m s k2 s2 w2 (zg j) (snp 29 qg j)) (hzz : ∀ k, k ≠ j → zg k = zf k) (hq : ∀ k, k ≠ j → ∀ i, i < 29 → snp 29 qg k i = snp 29 qf k i) : ∀ k, k < 2 → IM (upd ip j p k) (upd it2 j t k) (upd ia j a k) (upd im j m k) (upd is2 j s k) (updF ik j k2 k) (updF iq j s2 k) (updF iw j w2 k) (zg k) (snp 29 qg k) := by
  intro k hk
  simp only [upd, updF]
  by_cases e : k = j
  · simp only [if_pos e]; rw [e]; exact hj
  · simp only [if_neg e]; rw [hzz k e]; exact (h k hk).cong (hq k e)
set_option maxHeartbeats 4000000 in
set_option maxRecDepth 100000 in
theorem tk_image {l : Launch} {D : va_G} {cs : Nat → ClassId} {ad : Nat → Nat} {ws : va_W} (hI : Inv cs ad ws) (x : Int32) : Goes2 l D cs ad yX5_image wsX5_image ({ frames := 2, cells := 0, slots := 0, locals := 44 }) yX6_image wsX6_image ({ frames := 1, cells := 0, slots := 0, locals := 25 }) [.int x] ws := by
  refine hI.opn (G := fun ws => Goes2 l D cs ad yX5_image wsX5_image ({ frames := 2, cells := 0, slots := 0, locals := 44 }) yX6_image wsX6_image ({ frames := 1, cells := 0, slots := 0, locals := 25 }) [.int x] ws) ?_
  clear hI
  intro g gi lf fg sd la an rf f len pl nx so va pn tn aw me sp kf sf wf p2 t2 a2 m2 s2 kg sg wg ip it2 ia im is2 ik iq iw kn af bl bf mpl mtk0 mva0 mbe mwr laf szf itf tf mvf d mf zf qf h1 h2 h3 h4 hA hIm hI
  obtain ⟨hg, hgi⟩ := h1
  obtain ⟨hlen, hbl, hkn, hSg⟩ := h3
  obtain ⟨hT, hz⟩ := h4
  have hRw := h2
  clear h2
  show Goes2 l D cs ad yX5_image wsX5_image ({ frames := 2, cells := 0, slots := 0, locals := 44 }) yX6_image wsX6_image ({ frames := 1, cells := 0, slots := 0, locals := 25 }) [.int x] (wA cs ad g gi lf fg sd la an rf f len pl nx so va pn tn aw me sp kf sf wf p2 t2 a2 m2 s2 kg sg wg ip it2 ia im is2 ik iq iw kn af bl bf ++ wB cs ad lf fg f len kn bl bf (decide (0 < pn)) mpl mtk0 mva0 mbe mwr laf szf itf tf mvf d mf zf qf)
  rcases in2_c x with h | rfl | rfl
  · refine ⟨_, _, _, WC.same [0, 28] (c_imageOut l D cs (xo := ad 0) (xr := ad 1) (xd := ad 18) (ta := ad 20) (tb := ad 24) (xi := ad 28) (aa := ad 37) (sa := ad 39) (lf := lf) (fg := fg) (g := gi) (x0 := x) (in2_out h)) rfl (by decide) rfl, WC.same [41] (c_mimageNo l D cs (mo := ad 41) (ml := ad 42) (mz := ad 43) (mi := ad 44) (mt := ad 45) (mv := ad 46) (mp := ad 47) (md := ad 48) (mc := ad 49) (mk := ad 50) (mq := ad 51) (mr := ad 52) (su := fg) (it := decide (0 < pn)) (nby := nI len) (lt := lf) (pl := mpl) (tok := mtk0) (va := mva0) (be := mbe) (wr := mwr) (am := nI kn) (td := nI bl) (x := x) (Or.inl (zo_f h))) rfl (by decide) ?_, hI, _, rfl⟩
    rw [if_neg (bf_nt (zo_f h))]
  · by_cases hp : 0 < pn
    · have hpI : (0 : Int32) < nI pn := (pos_nI hT.pnl).mpr hp
      have hpt : decide (0 < pn) = true := decide_eq_true hp
      have hc := (c_imageIn l D cs (xo := ad 0) (xr := ad 1) (xd := ad 18) (ta := ad 20) (tb := ad 24) (xi := ad 28) (aa := ad 37) (sa := ad 39) (lf := lf) (fg := fg) (g := gi) (j := 0) (tk := ad 21) (tq := ad 22) (tw := ad 23) (ib := ad 29) (ik := ad 30) (iq := ad 31) (iw := ad 32) (kf := kf) (sf := sf) (wf := wf) (kg := ik 0) (sg := iq 0) (wg := iw 0) (pe := nI pn) (ti := nI tn) (aw := aw) (me := me) (sp := sp) (pe2 := ip 0) (ti2 := it2 0) (aw2 := ia 0) (me2 := im 0) (sp2 := is2 0) (by omega) (hgi 0 (by omega)))
      simp only [if_pos hpI] at hc
      have hm := (c_mimageOk l D cs (mo := ad 41) (ml := ad 42) (mz := ad 43) (mi := ad 44) (mt := ad 45) (mv := ad 46) (mp := ad 47) (md := ad 48) (mc := ad 49) (mk := ad 50) (mq := ad 51) (mr := ad 52) (su := fg) (nby := nI len) (lt := lf) (pl := mpl) (tok := mtk0) (va := mva0) (be := mbe) (wr := mwr) (am := nI kn) (td := nI bl) (tf := tf) (zf := zf) (qf := qf) (j := 0) (by omega))
      rw [← hpt] at hm
      exact ⟨_, wA cs ad g gi lf fg sd la an rf f len pl nx so va pn tn aw me sp kf sf wf p2 t2 a2 m2 s2 kg sg wg (upd ip 0 (nI pn)) (upd it2 0 (nI tn)) (upd ia 0 aw) (upd im 0 me) (upd is2 0 sp) (updF ik 0 (cpF (ik 0) kf 8)) (updF iq 0 (cpF (iq 0) sf 8)) (updF iw 0 (cpF (iw 0) wf 8)) kn af bl bf ++ wB cs ad lf fg f len kn bl bf (decide (0 < pn)) mpl mtk0 mva0 mbe mwr laf szf itf tf mvf d mf zf qf, wA cs ad g gi lf fg sd la an rf f len pl nx so va pn tn aw me sp kf sf wf p2 t2 a2 m2 s2 kg sg wg (upd ip 0 (nI pn)) (upd it2 0 (nI tn)) (upd ia 0 aw) (upd im 0 me) (upd is2 0 sp) (updF ik 0 (cpF (ik 0) kf 8)) (updF iq 0 (cpF (iq 0) sf 8)) (updF iw 0 (cpF (iw 0) wf 8)) kn af bl bf ++ wB cs ad lf fg f len kn bl bf (decide (0 < pn)) mpl mtk0 mva0 mbe mwr laf szf itf tf mvf d mf (upd zf 0 1) (mvF qf tf (29 * 0) 0 29), ⟨_, _, [0, 28, 20, 21, 22, 23, 29, 30, 31, 32], hc, rfl, by decide, rfl, rfl⟩, ⟨_, _, [41, 45, 50, 51], hm, rfl, by decide, rfl, rfl⟩, Inv.mk ⟨hg, hgi⟩ (hRw) ⟨hlen, hbl, hkn, hSg.1, updF_s hSg.2 hT.S (j := 0)⟩ ⟨hT, hz⟩ (hA) ⟨IM.set hIm.1 (Or.inr ⟨by rw [pk_us]; decide, pn, tn, hp, rfl, rfl, (hT.cp (hSg.2 0 (by omega))).tf mv_at⟩) (fun k e => pk_un e) (fun k e => mv_out e), fun k _ _ => hp⟩, _, rfl⟩
    · have hpI : ¬ (0 : Int32) < nI pn := fun z => hp ((pos_nI hT.pnl).mp z)
      have hc := (c_imageIn l D cs (xo := ad 0) (xr := ad 1) (xd := ad 18) (ta := ad 20) (tb := ad 24) (xi := ad 28) (aa := ad 37) (sa := ad 39) (lf := lf) (fg := fg) (g := gi) (j := 0) (tk := ad 21) (tq := ad 22) (tw := ad 23) (ib := ad 29) (ik := ad 30) (iq := ad 31) (iw := ad 32) (kf := kf) (sf := sf) (wf := wf) (kg := ik 0) (sg := iq 0) (wg := iw 0) (pe := nI pn) (ti := nI tn) (aw := aw) (me := me) (sp := sp) (pe2 := ip 0) (ti2 := it2 0) (aw2 := ia 0) (me2 := im 0) (sp2 := is2 0) (by omega) (hgi 0 (by omega)))
      simp only [if_neg hpI] at hc
      have hm := (c_mimageNo l D cs (mo := ad 41) (ml := ad 42) (mz := ad 43) (mi := ad 44) (mt := ad 45) (mv := ad 46) (mp := ad 47) (md := ad 48) (mc := ad 49) (mk := ad 50) (mq := ad 51) (mr := ad 52) (su := fg) (it := decide (0 < pn)) (nby := nI len) (lt := lf) (pl := mpl) (tok := mtk0) (va := mva0) (be := mbe) (wr := mwr) (am := nI kn) (td := nI bl) (x := 0) (Or.inr (decide_eq_false hp)))
      simp only [if_pos (show zo 0 = true by decide)] at hm
      exact ⟨_, wA cs ad g gi lf fg sd la an rf f len pl nx so va pn tn aw me sp kf sf wf p2 t2 a2 m2 s2 kg sg wg ip it2 ia im is2 ik iq iw kn af bl bf ++ wB cs ad lf fg f len kn bl bf (decide (0 < pn)) mpl mtk0 mva0 mbe mwr laf szf itf tf mvf d mf zf qf, wA cs ad g gi lf fg sd la an rf f len pl nx so va pn tn aw me sp kf sf wf p2 t2 a2 m2 s2 kg sg wg ip it2 ia im is2 ik iq iw kn af bl bf ++ wB cs ad lf fg f len kn bl bf (decide (0 < pn)) mpl mtk0 mva0 mbe mwr laf szf itf tf mvf d mf zf qf, ⟨_, _, [0, 28, 20, 21, 22, 23, 29, 30, 31, 32], hc, rfl, by decide, rfl, rfl⟩, ⟨_, _, [41], hm, rfl, by decide, rfl, rfl⟩, Inv.mk ⟨hg, hgi⟩ (hRw) ⟨hlen, hbl, hkn, hSg⟩ ⟨hT, hz⟩ (hA) (hIm), _, rfl⟩
  · by_cases hp : 0 < pn
    · have hpI : (0 : Int32) < nI pn := (pos_nI hT.pnl).mpr hp
      have hpt : decide (0 < pn) = true := decide_eq_true hp
      have hc := (c_imageIn l D cs (xo := ad 0) (xr := ad 1) (xd := ad 18) (ta := ad 20) (tb := ad 24) (xi := ad 28) (aa := ad 37) (sa := ad 39) (lf := lf) (fg := fg) (g := gi) (j := 1) (tk := ad 21) (tq := ad 22) (tw := ad 23) (ib := ad 33) (ik := ad 34) (iq := ad 35) (iw := ad 36) (kf := kf) (sf := sf) (wf := wf) (kg := ik 1) (sg := iq 1) (wg := iw 1) (pe := nI pn) (ti := nI tn) (aw := aw) (me := me) (sp := sp) (pe2 := ip 1) (ti2 := it2 1) (aw2 := ia 1) (me2 := im 1) (sp2 := is2 1) (by omega) (hgi 1 (by omega)))
      simp only [if_pos hpI] at hc
      have hm := (c_mimageOk l D cs (mo := ad 41) (ml := ad 42) (mz := ad 43) (mi := ad 44) (mt := ad 45) (mv := ad 46) (mp := ad 47) (md := ad 48) (mc := ad 49) (mk := ad 50) (mq := ad 51) (mr := ad 52) (su := fg) (nby := nI len) (lt := lf) (pl := mpl) (tok := mtk0) (va := mva0) (be := mbe) (wr := mwr) (am := nI kn) (td := nI bl) (tf := tf) (zf := zf) (qf := qf) (j := 1) (by omega))
      rw [← hpt] at hm
      exact ⟨_, wA cs ad g gi lf fg sd la an rf f len pl nx so va pn tn aw me sp kf sf wf p2 t2 a2 m2 s2 kg sg wg (upd ip 1 (nI pn)) (upd it2 1 (nI tn)) (upd ia 1 aw) (upd im 1 me) (upd is2 1 sp) (updF ik 1 (cpF (ik 1) kf 8)) (updF iq 1 (cpF (iq 1) sf 8)) (updF iw 1 (cpF (iw 1) wf 8)) kn af bl bf ++ wB cs ad lf fg f len kn bl bf (decide (0 < pn)) mpl mtk0 mva0 mbe mwr laf szf itf tf mvf d mf zf qf, wA cs ad g gi lf fg sd la an rf f len pl nx so va pn tn aw me sp kf sf wf p2 t2 a2 m2 s2 kg sg wg (upd ip 1 (nI pn)) (upd it2 1 (nI tn)) (upd ia 1 aw) (upd im 1 me) (upd is2 1 sp) (updF ik 1 (cpF (ik 1) kf 8)) (updF iq 1 (cpF (iq 1) sf 8)) (updF iw 1 (cpF (iw 1) wf 8)) kn af bl bf ++ wB cs ad lf fg f len kn bl bf (decide (0 < pn)) mpl mtk0 mva0 mbe mwr laf szf itf tf mvf d mf (upd zf 1 1) (mvF qf tf (29 * 1) 0 29), ⟨_, _, [0, 28, 20, 21, 22, 23, 33, 34, 35, 36], hc, rfl, by decide, rfl, rfl⟩, ⟨_, _, [41, 45, 50, 51], hm, rfl, by decide, rfl, rfl⟩, Inv.mk ⟨hg, hgi⟩ (hRw) ⟨hlen, hbl, hkn, hSg.1, updF_s hSg.2 hT.S (j := 1)⟩ ⟨hT, hz⟩ (hA) ⟨IM.set hIm.1 (Or.inr ⟨by rw [pk_us]; decide, pn, tn, hp, rfl, rfl, (hT.cp (hSg.2 1 (by omega))).tf mv_at⟩) (fun k e => pk_un e) (fun k e => mv_out e), fun k _ _ => hp⟩, _, rfl⟩
    · have hpI : ¬ (0 : Int32) < nI pn := fun z => hp ((pos_nI hT.pnl).mp z)
      have hc := (c_imageIn l D cs (xo := ad 0) (xr := ad 1) (xd := ad 18) (ta := ad 20) (tb := ad 24) (xi := ad 28) (aa := ad 37) (sa := ad 39) (lf := lf) (fg := fg) (g := gi) (j := 1) (tk := ad 21) (tq := ad 22) (tw := ad 23) (ib := ad 33) (ik := ad 34) (iq := ad 35) (iw := ad 36) (kf := kf) (sf := sf) (wf := wf) (kg := ik 1) (sg := iq 1) (wg := iw 1) (pe := nI pn) (ti := nI tn) (aw := aw) (me := me) (sp := sp) (pe2 := ip 1) (ti2 := it2 1) (aw2 := ia 1) (me2 := im 1) (sp2 := is2 1) (by omega) (hgi 1 (by omega)))
      simp only [if_neg hpI] at hc
      have hm := (c_mimageNo l D cs (mo := ad 41) (ml := ad 42) (mz := ad 43) (mi := ad 44) (mt := ad 45) (mv := ad 46) (mp := ad 47) (md := ad 48) (mc := ad 49) (mk := ad 50) (mq := ad 51) (mr := ad 52) (su := fg) (it := decide (0 < pn)) (nby := nI len) (lt := lf) (pl := mpl) (tok := mtk0) (va := mva0) (be := mbe) (wr := mwr) (am := nI kn) (td := nI bl) (x := 1) (Or.inr (decide_eq_false hp)))
      simp only [if_pos (show zo 1 = true by decide)] at hm
      exact ⟨_, wA cs ad g gi lf fg sd la an rf f len pl nx so va pn tn aw me sp kf sf wf p2 t2 a2 m2 s2 kg sg wg ip it2 ia im is2 ik iq iw kn af bl bf ++ wB cs ad lf fg f len kn bl bf (decide (0 < pn)) mpl mtk0 mva0 mbe mwr laf szf itf tf mvf d mf zf qf, wA cs ad g gi lf fg sd la an rf f len pl nx so va pn tn aw me sp kf sf wf p2 t2 a2 m2 s2 kg sg wg ip it2 ia im is2 ik iq iw kn af bl bf ++ wB cs ad lf fg f len kn bl bf (decide (0 < pn)) mpl mtk0 mva0 mbe mwr laf szf itf tf mvf d mf zf qf, ⟨_, _, [0, 28, 20, 21, 22, 23, 33, 34, 35, 36], hc, rfl, by decide, rfl, rfl⟩, ⟨_, _, [41], hm, rfl, by decide, rfl, rfl⟩, Inv.mk ⟨hg, hgi⟩ (hRw) ⟨hlen, hbl, hkn, hSg⟩ ⟨hT, hz⟩ (hA) (hIm), _, rfl⟩

set_option maxHeartbeats 4000000 in
set_option maxRecDepth 100000 in
theorem tk_restore {l : Launch} {D : va_G} {cs : Nat → ClassId} {ad : Nat → Nat} {ws : va_W} (hI : Inv cs ad ws) (x : Int32) : Goes2 l D cs ad yX5_restore wsX5_restore ({ frames := 2, cells := 0, slots := 0, locals := 44 }) yX6_restore wsX6_restore ({ frames := 1, cells := 0, slots := 0, locals := 25 }) [.int x] ws := by
  refine hI.opn (G := fun ws => Goes2 l D cs ad yX5_restore wsX5_restore ({ frames := 2, cells := 0, slots := 0, locals := 44 }) yX6_restore wsX6_restore ({ frames := 1, cells := 0, slots := 0, locals := 25 }) [.int x] ws) ?_
  clear hI
  intro g gi lf fg sd la an rf f len pl nx so va pn tn aw me sp kf sf wf p2 t2 a2 m2 s2 kg sg wg ip it2 ia im is2 ik iq iw kn af bl bf mpl mtk0 mva0 mbe mwr laf szf itf tf mvf d mf zf qf h1 h2 h3 h4 hA hIm hI
  obtain ⟨hg, hgi⟩ := h1
  obtain ⟨hlen, hbl, hkn, hSg⟩ := h3
  obtain ⟨hT, hz⟩ := h4
  have hRw := h2
  clear h2
  show Goes2 l D cs ad yX5_restore wsX5_restore ({ frames := 2, cells := 0, slots := 0, locals := 44 }) yX6_restore wsX6_restore ({ frames := 1, cells := 0, slots := 0, locals := 25 }) [.int x] (wA cs ad g gi lf fg sd la an rf f len pl nx so va pn tn aw me sp kf sf wf p2 t2 a2 m2 s2 kg sg wg ip it2 ia im is2 ik iq iw kn af bl bf ++ wB cs ad lf fg f len kn bl bf (decide (0 < pn)) mpl mtk0 mva0 mbe mwr laf szf itf tf mvf d mf zf qf)
  rcases in2_c x with h | rfl | rfl
  · refine ⟨_, _, _, WC.same [0, 28] (c_restoreOut l D cs (xo := ad 0) (xr := ad 1) (xd := ad 18) (ta := ad 20) (tb := ad 24) (xi := ad 28) (aa := ad 37) (sa := ad 39) (lf := lf) (fg := fg) (g := gi) (x0 := x) (in2_out h)) rfl (by decide) rfl, WC.same [41] (c_mrestoreOut l D cs (mo := ad 41) (ml := ad 42) (mz := ad 43) (mi := ad 44) (mt := ad 45) (mv := ad 46) (mp := ad 47) (md := ad 48) (mc := ad 49) (mk := ad 50) (mq := ad 51) (mr := ad 52) (su := fg) (it := decide (0 < pn)) (nby := nI len) (lt := lf) (pl := mpl) (tok := mtk0) (va := mva0) (be := mbe) (wr := mwr) (am := nI kn) (td := nI bl) (x := x) (zo_f h)) rfl (by decide) ?_, hI, _, rfl⟩
    rfl
  · rcases hIm.1 0 (by omega) with ⟨h1, h2⟩ | ⟨h1, pi, ti, h2, h3, h4, h5⟩
    · have hi0 : ¬ (0 : Int32) < ip 0 := by rw [h2]; decide
      have hc := (c_restoreIn l D cs (xo := ad 0) (xr := ad 1) (xd := ad 18) (ta := ad 20) (tb := ad 24) (xi := ad 28) (aa := ad 37) (sa := ad 39) (lf := lf) (fg := fg) (g := gi) (j := 0) (tk := ad 21) (tq := ad 22) (tw := ad 23) (ib := ad 29) (ik := ad 30) (iq := ad 31) (iw := ad 32) (kf := kf) (sf := sf) (wf := wf) (kg := ik 0) (sg := iq 0) (wg := iw 0) (pe := nI pn) (ti := nI tn) (aw := aw) (me := me) (sp := sp) (pe2 := ip 0) (ti2 := it2 0) (aw2 := ia 0) (me2 := im 0) (sp2 := is2 0) (ap := ad 38) (kn := nI kn) (by omega) (hgi 0 (by omega)))
      simp only [if_neg hi0] at hc
      have hm := (c_mrestoreNo l D cs (mo := ad 41) (ml := ad 42) (mz := ad 43) (mi := ad 44) (mt := ad 45) (mv := ad 46) (mp := ad 47) (md := ad 48) (mc := ad 49) (mk := ad 50) (mq := ad 51) (mr := ad 52) (su := fg) (it := decide (0 < pn)) (nby := nI len) (lt := lf) (pl := mpl) (tok := mtk0) (va := mva0) (be := mbe) (wr := mwr) (am := nI kn) (td := nI bl) (zf := zf) (j := 0) (by omega) h1)
      exact ⟨_, wA cs ad g gi lf fg sd la an rf f len pl nx so va pn tn aw me sp kf sf wf p2 t2 a2 m2 s2 kg sg wg ip it2 ia im is2 ik iq iw kn af bl bf ++ wB cs ad lf fg f len kn bl bf (decide (0 < pn)) mpl mtk0 mva0 mbe mwr laf szf itf tf mvf d mf zf qf, wA cs ad g gi lf fg sd la an rf f len pl nx so va pn tn aw me sp kf sf wf p2 t2 a2 m2 s2 kg sg wg ip it2 ia im is2 ik iq iw kn af bl bf ++ wB cs ad lf fg f len kn bl bf (decide (0 < pn)) mpl mtk0 mva0 mbe mwr laf szf itf tf mvf d mf zf qf, ⟨_, _, [0, 28, 20, 21, 22, 23, 29, 30, 31, 32, 37], hc, rfl, by decide, rfl, rfl⟩, ⟨_, _, [41, 50], hm, rfl, by decide, rfl, rfl⟩, Inv.mk ⟨hg, hgi⟩ (hRw) ⟨hlen, hbl, hkn, hSg⟩ ⟨hT, hz⟩ (hA) (hIm), _, rfl⟩
    · have hpn := hIm.2 0 (by omega) h1
      have hpI : (0 : Int32) < nI pi := (pos_nI h5.pnl).mpr h2
      have hpt : decide (0 < pn) = true := decide_eq_true hpn
      have hpu : decide (0 < pi) = true := decide_eq_true h2
      have e1 : ip = upd ip 0 (nI pi) := by
        funext k
        unfold upd
        split
        · rename_i e; rw [e]; exact h3
        · rfl
      have e2 : it2 = upd it2 0 (nI ti) := by
        funext k
        unfold upd
        split
        · rename_i e; rw [e]; exact h4
        · rfl
      clear h3 h4
      obtain ⟨jp, e3⟩ : ∃ z, ip = upd z 0 (nI pi) := ⟨ip, e1⟩
      obtain ⟨jt, e4⟩ : ∃ z, it2 = upd z 0 (nI ti) := ⟨it2, e2⟩
      clear e1 e2
      subst e3
      subst e4
      have hc := (c_restoreIn l D cs (xo := ad 0) (xr := ad 1) (xd := ad 18) (ta := ad 20) (tb := ad 24) (xi := ad 28) (aa := ad 37) (sa := ad 39) (lf := lf) (fg := fg) (g := gi) (j := 0) (tk := ad 21) (tq := ad 22) (tw := ad 23) (ib := ad 29) (ik := ad 30) (iq := ad 31) (iw := ad 32) (kf := kf) (sf := sf) (wf := wf) (kg := ik 0) (sg := iq 0) (wg := iw 0) (pe := nI pn) (ti := nI tn) (aw := aw) (me := me) (sp := sp) (pe2 := nI pi) (ti2 := nI ti) (aw2 := ia 0) (me2 := im 0) (sp2 := is2 0) (ap := ad 38) (kn := nI kn) (by omega) (hgi 0 (by omega)))
      simp only [if_pos hpI] at hc
      have hm := (c_mrestoreOk l D cs (mo := ad 41) (ml := ad 42) (mz := ad 43) (mi := ad 44) (mt := ad 45) (mv := ad 46) (mp := ad 47) (md := ad 48) (mc := ad 49) (mk := ad 50) (mq := ad 51) (mr := ad 52) (su := fg) (it := true) (nby := nI len) (lt := lf) (pl := mpl) (tok := mtk0) (va := mva0) (be := mbe) (wr := mwr) (am := nI kn) (td := nI bl) (tf := tf) (zf := zf) (qf := qf) (j := 0) (by omega) h1)
      exact ⟨_, wA cs ad g gi lf fg sd la an rf f len pl nx so va pi ti (ia 0) (im 0) (is2 0) (cpF kf (ik 0) 8) (cpF sf (iq 0) 8) (cpF wf (iw 0) 8) p2 t2 a2 m2 s2 kg sg wg (upd jp 0 (nI pi)) (upd jt 0 (nI ti)) ia im is2 ik iq iw 0 af bl bf ++ wB cs ad lf fg f len kn bl bf (decide (0 < pn)) mpl mtk0 mva0 mbe mwr laf szf itf tf mvf d mf zf qf, wA cs ad g gi lf fg sd la an rf f len pl nx so va pi ti (ia 0) (im 0) (is2 0) (cpF kf (ik 0) 8) (cpF sf (iq 0) 8) (cpF wf (iw 0) 8) p2 t2 a2 m2 s2 kg sg wg (upd jp 0 (nI pi)) (upd jt 0 (nI ti)) ia im is2 ik iq iw 0 af bl bf ++ wB cs ad lf fg f len 0 bl bf (decide (0 < pi)) mpl mtk0 mva0 mbe mwr laf szf itf (mvF tf qf 0 (29 * 0) 29) mvf d mf zf qf, ⟨_, _, [0, 28, 20, 21, 22, 23, 29, 30, 31, 32, 37], hc, rfl, by decide, rfl, rfl⟩, ⟨_, _, [41, 45, 50, 51], hm, (by rw [hpt]; rfl), by decide, rfl, (by rw [hpt, hpu]; rfl)⟩, Inv.mk ⟨hg, hgi⟩ (hRw) ⟨hlen, hbl, by omega, hSg⟩ ⟨(h5.cp hT.S).tf mv_snp, mv_zt hz⟩ (trivial) ⟨hIm.1, fun _ _ _ => h2⟩, _, rfl⟩
  · rcases hIm.1 1 (by omega) with ⟨h1, h2⟩ | ⟨h1, pi, ti, h2, h3, h4, h5⟩
    · have hi0 : ¬ (0 : Int32) < ip 1 := by rw [h2]; decide
      have hc := (c_restoreIn l D cs (xo := ad 0) (xr := ad 1) (xd := ad 18) (ta := ad 20) (tb := ad 24) (xi := ad 28) (aa := ad 37) (sa := ad 39) (lf := lf) (fg := fg) (g := gi) (j := 1) (tk := ad 21) (tq := ad 22) (tw := ad 23) (ib := ad 33) (ik := ad 34) (iq := ad 35) (iw := ad 36) (kf := kf) (sf := sf) (wf := wf) (kg := ik 1) (sg := iq 1) (wg := iw 1) (pe := nI pn) (ti := nI tn) (aw := aw) (me := me) (sp := sp) (pe2 := ip 1) (ti2 := it2 1) (aw2 := ia 1) (me2 := im 1) (sp2 := is2 1) (ap := ad 38) (kn := nI kn) (by omega) (hgi 1 (by omega)))
      simp only [if_neg hi0] at hc
      have hm := (c_mrestoreNo l D cs (mo := ad 41) (ml := ad 42) (mz := ad 43) (mi := ad 44) (mt := ad 45) (mv := ad 46) (mp := ad 47) (md := ad 48) (mc := ad 49) (mk := ad 50) (mq := ad 51) (mr := ad 52) (su := fg) (it := decide (0 < pn)) (nby := nI len) (lt := lf) (pl := mpl) (tok := mtk0) (va := mva0) (be := mbe) (wr := mwr) (am := nI kn) (td := nI bl) (zf := zf) (j := 1) (by omega) h1)
      exact ⟨_, wA cs ad g gi lf fg sd la an rf f len pl nx so va pn tn aw me sp kf sf wf p2 t2 a2 m2 s2 kg sg wg ip it2 ia im is2 ik iq iw kn af bl bf ++ wB cs ad lf fg f len kn bl bf (decide (0 < pn)) mpl mtk0 mva0 mbe mwr laf szf itf tf mvf d mf zf qf, wA cs ad g gi lf fg sd la an rf f len pl nx so va pn tn aw me sp kf sf wf p2 t2 a2 m2 s2 kg sg wg ip it2 ia im is2 ik iq iw kn af bl bf ++ wB cs ad lf fg f len kn bl bf (decide (0 < pn)) mpl mtk0 mva0 mbe mwr laf szf itf tf mvf d mf zf qf, ⟨_, _, [0, 28, 20, 21, 22, 23, 33, 34, 35, 36, 37], hc, rfl, by decide, rfl, rfl⟩, ⟨_, _, [41, 50], hm, rfl, by decide, rfl, rfl⟩, Inv.mk ⟨hg, hgi⟩ (hRw) ⟨hlen, hbl, hkn, hSg⟩ ⟨hT, hz⟩ (hA) (hIm), _, rfl⟩
    · have hpn := hIm.2 1 (by omega) h1
      have hpI : (0 : Int32) < nI pi := (pos_nI h5.pnl).mpr h2
      have hpt : decide (0 < pn) = true := decide_eq_true hpn
      have hpu : decide (0 < pi) = true := decide_eq_true h2
      have e1 : ip = upd ip 1 (nI pi) := by
        funext k
        unfold upd
        split
        · rename_i e; rw [e]; exact h3
        · rfl
      have e2 : it2 = upd it2 1 (nI ti) := by
        funext k
        unfold upd
        split
        · rename_i e; rw [e]; exact h4
        · rfl
      clear h3 h4
      obtain ⟨jp, e3⟩ : ∃ z, ip = upd z 1 (nI pi) := ⟨ip, e1⟩
      obtain ⟨jt, e4⟩ : ∃ z, it2 = upd z 1 (nI ti) := ⟨it2, e2⟩
      clear e1 e2
      subst e3
      subst e4
      have hc := (c_restoreIn l D cs (xo := ad 0) (xr := ad 1) (xd := ad 18) (ta := ad 20) (tb := ad 24) (xi := ad 28) (aa := ad 37) (sa := ad 39) (lf := lf) (fg := fg) (g := gi) (j := 1) (tk := ad 21) (tq := ad 22) (tw := ad 23) (ib := ad 33) (ik := ad 34) (iq := ad 35) (iw := ad 36) (kf := kf) (sf := sf) (wf := wf) (kg := ik 1) (sg := iq 1) (wg := iw 1) (pe := nI pn) (ti := nI tn) (aw := aw) (me := me) (sp := sp) (pe2 := nI pi) (ti2 := nI ti) (aw2 := ia 1) (me2 := im 1) (sp2 := is2 1) (ap := ad 38) (kn := nI kn) (by omega) (hgi 1 (by omega)))
      simp only [if_pos hpI] at hc
      have hm := (c_mrestoreOk l D cs (mo := ad 41) (ml := ad 42) (mz := ad 43) (mi := ad 44) (mt := ad 45) (mv := ad 46) (mp := ad 47) (md := ad 48) (mc := ad 49) (mk := ad 50) (mq := ad 51) (mr := ad 52) (su := fg) (it := true) (nby := nI len) (lt := lf) (pl := mpl) (tok := mtk0) (va := mva0) (be := mbe) (wr := mwr) (am := nI kn) (td := nI bl) (tf := tf) (zf := zf) (qf := qf) (j := 1) (by omega) h1)
      exact ⟨_, wA cs ad g gi lf fg sd la an rf f len pl nx so va pi ti (ia 1) (im 1) (is2 1) (cpF kf (ik 1) 8) (cpF sf (iq 1) 8) (cpF wf (iw 1) 8) p2 t2 a2 m2 s2 kg sg wg (upd jp 1 (nI pi)) (upd jt 1 (nI ti)) ia im is2 ik iq iw 0 af bl bf ++ wB cs ad lf fg f len kn bl bf (decide (0 < pn)) mpl mtk0 mva0 mbe mwr laf szf itf tf mvf d mf zf qf, wA cs ad g gi lf fg sd la an rf f len pl nx so va pi ti (ia 1) (im 1) (is2 1) (cpF kf (ik 1) 8) (cpF sf (iq 1) 8) (cpF wf (iw 1) 8) p2 t2 a2 m2 s2 kg sg wg (upd jp 1 (nI pi)) (upd jt 1 (nI ti)) ia im is2 ik iq iw 0 af bl bf ++ wB cs ad lf fg f len 0 bl bf (decide (0 < pi)) mpl mtk0 mva0 mbe mwr laf szf itf (mvF tf qf 0 (29 * 1) 29) mvf d mf zf qf, ⟨_, _, [0, 28, 20, 21, 22, 23, 33, 34, 35, 36, 37], hc, rfl, by decide, rfl, rfl⟩, ⟨_, _, [41, 45, 50, 51], hm, (by rw [hpt]; rfl), by decide, rfl, (by rw [hpt, hpu]; rfl)⟩, Inv.mk ⟨hg, hgi⟩ (hRw) ⟨hlen, hbl, by omega, hSg⟩ ⟨(h5.cp hT.S).tf mv_snp, mv_zt hz⟩ (trivial) ⟨hIm.1, fun _ _ _ => h2⟩, _, rfl⟩

set_option maxHeartbeats 4000000 in
set_option maxRecDepth 100000 in
theorem tk_leaves {l : Launch} {D : va_G} {cs : Nat → ClassId} {ad : Nat → Nat} {ws : va_W} (hI : Inv cs ad ws) (x0 x : Int32) : Goes2 l D cs ad yX5_leaves wsX5_leaves ({ frames := 4, cells := 0, slots := 0, locals := 91 }) yX6_leaves wsX6_leaves ({ frames := 3, cells := 0, slots := 0, locals := 72 }) [.int x0, .int x] ws := by
  refine hI.opn (G := fun ws => Goes2 l D cs ad yX5_leaves wsX5_leaves ({ frames := 4, cells := 0, slots := 0, locals := 91 }) yX6_leaves wsX6_leaves ({ frames := 3, cells := 0, slots := 0, locals := 72 }) [.int x0, .int x] ws) ?_
  clear hI
  intro g gi lf fg sd la an rf f len pl nx so va pn tn aw me sp kf sf wf p2 t2 a2 m2 s2 kg sg wg ip it2 ia im is2 ik iq iw kn af bl bf mpl mtk0 mva0 mbe mwr laf szf itf tf mvf d mf zf qf h1 h2 h3 h4 hA hIm hI
  obtain ⟨hg, hgi⟩ := h1
  obtain ⟨hlen, hbl, hkn, hSg⟩ := h3
  obtain ⟨hT, hz⟩ := h4
  have hRw := h2
  clear h2
  show Goes2 l D cs ad yX5_leaves wsX5_leaves ({ frames := 4, cells := 0, slots := 0, locals := 91 }) yX6_leaves wsX6_leaves ({ frames := 3, cells := 0, slots := 0, locals := 72 }) [.int x0, .int x] (wA cs ad g gi lf fg sd la an rf f len pl nx so va pn tn aw me sp kf sf wf p2 t2 a2 m2 s2 kg sg wg ip it2 ia im is2 ik iq iw kn af bl bf ++ wB cs ad lf fg f len kn bl bf (decide (0 < pn)) mpl mtk0 mva0 mbe mwr laf szf itf tf mvf d mf zf qf)
  rcases in8_c x0 with h | ⟨j, hj, rfl⟩
  · by_cases hp : 0 < pn
    · have hpI : (0 : Int32) < nI pn := (pos_nI hT.pnl).mpr hp
      have hpt : decide (0 < pn) = true := decide_eq_true hp
      have hc := (c_leavesOut l D cs (xo := ad 0) (xr := ad 1) (xd := ad 18) (ta := ad 20) (tb := ad 24) (xi := ad 28) (aa := ad 37) (sa := ad 39) (lf := lf) (fg := fg) (g := g) (tk := ad 21) (tq := ad 22) (tw := ad 23) (pe := nI pn) (ti := nI tn) (aw := aw) (me := me) (sp := sp) (x0 := x0) (x := x) (in8_out h))
      simp only [if_pos hpI] at hc
      have hm := (c_mleavesOut l D cs (mo := ad 41) (ml := ad 42) (mz := ad 43) (mi := ad 44) (mt := ad 45) (mv := ad 46) (mp := ad 47) (md := ad 48) (mc := ad 49) (mk := ad 50) (mq := ad 51) (mr := ad 52) (su := fg) (it := decide (0 < pn)) (nby := nI len) (lt := lf) (pl := mpl) (tok := mtk0) (va := mva0) (be := mbe) (wr := mwr) (am := nI kn) (td := nI bl) (x0 := x0) (x := x) h)
      simp only [if_pos hpt] at hm
      exact ⟨_, wA cs ad g gi lf fg sd la an rf f len pl nx so va pn tn aw me sp kf sf wf p2 t2 a2 m2 s2 kg sg wg ip it2 ia im is2 ik iq iw kn af bl bf ++ wB cs ad lf fg f len kn bl bf (decide (0 < pn)) mpl mtk0 mva0 mbe mwr laf szf itf tf mvf d mf zf qf, wA cs ad g gi lf fg sd la an rf f len pl nx so va pn tn aw me sp kf sf wf p2 t2 a2 m2 s2 kg sg wg ip it2 ia im is2 ik iq iw kn af bl bf ++ wB cs ad lf fg f len kn bl bf (decide (0 < pn)) mpl mtk0 mva0 mbe mwr laf szf itf tf mvf d mf zf qf, ⟨_, _, [0, 1, 20], hc, rfl, by decide, rfl, rfl⟩, ⟨_, _, [41], hm, rfl, by decide, rfl, rfl⟩, Inv.mk ⟨hg, hgi⟩ (hRw) ⟨hlen, hbl, hkn, hSg⟩ ⟨hT, hz⟩ (hA) (hIm), _, rfl⟩
    · have hpI : ¬ (0 : Int32) < nI pn := fun z => hp ((pos_nI hT.pnl).mp z)
      have hpf : decide (0 < pn) = false := decide_eq_false hp
      have hc := (c_leavesOut l D cs (xo := ad 0) (xr := ad 1) (xd := ad 18) (ta := ad 20) (tb := ad 24) (xi := ad 28) (aa := ad 37) (sa := ad 39) (lf := lf) (fg := fg) (g := g) (tk := ad 21) (tq := ad 22) (tw := ad 23) (pe := nI pn) (ti := nI tn) (aw := aw) (me := me) (sp := sp) (x0 := x0) (x := x) (in8_out h))
      simp only [if_neg hpI] at hc
      have hm := (c_mleavesSt l D cs (mo := ad 41) (ml := ad 42) (mz := ad 43) (mi := ad 44) (mt := ad 45) (mv := ad 46) (mp := ad 47) (md := ad 48) (mc := ad 49) (mk := ad 50) (mq := ad 51) (mr := ad 52) (su := fg) (nby := nI len) (lt := lf) (pl := mpl) (tok := mtk0) (va := mva0) (be := mbe) (wr := mwr) (am := nI kn) (td := nI bl) (x0 := x0) (x := x) )
      rw [← hpf] at hm
      exact ⟨_, wA cs ad g gi lf fg sd la an rf f len pl nx so va pn tn aw me sp kf sf wf p2 t2 a2 m2 s2 kg sg wg ip it2 ia im is2 ik iq iw kn af bl bf ++ wB cs ad lf fg f len kn bl bf (decide (0 < pn)) mpl mtk0 mva0 mbe mwr laf szf itf tf mvf d mf zf qf, wA cs ad g gi lf fg sd la an rf f len pl nx so va pn tn aw me sp kf sf wf p2 t2 a2 m2 s2 kg sg wg ip it2 ia im is2 ik iq iw kn af bl bf ++ wB cs ad lf fg f len kn bl bf (decide (0 < pn)) mpl mtk0 mva0 mbe mwr laf szf itf tf mvf d mf zf qf, ⟨_, _, [0, 1, 20], hc, rfl, by decide, rfl, rfl⟩, ⟨_, _, [41], hm, rfl, by decide, rfl, rfl⟩, Inv.mk ⟨hg, hgi⟩ (hRw) ⟨hlen, hbl, hkn, hSg⟩ ⟨hT, hz⟩ (hA) (hIm), _, rfl⟩
  · by_cases hp : 0 < pn
    · have hpI : (0 : Int32) < nI pn := (pos_nI hT.pnl).mpr hp
      have hpt : decide (0 < pn) = true := decide_eq_true hp
      by_cases hsd : sd j = false
      · have hs := (hRw j hj).2.1 hsd
        have hc := (c_leavesIn l D cs (xo := ad 0) (xr := ad 1) (xd := ad 18) (ta := ad 20) (tb := ad 24) (xi := ad 28) (aa := ad 37) (sa := ad 39) (lf := lf) (fg := fg) (tk := ad 21) (tq := ad 22) (tw := ad 23) (kf := kf) (sf := sf) (wf := wf) (pn := pn) (aw := aw) (me := me) (sp := sp) (tn := tn) (g := g) (j := j) (ra := ad (2 + 2 * j)) (rp := ad (3 + 2 * j)) (rf := rf j) (sd := sd j) (la := la j) (an := an j) (x := x) hT.S hT.tnl hT.pnl hj (hg j hj) (hRw j hj).1)
        simp only [if_pos hpI, if_pos hsd] at hc
        have hm := (c_mleavesLk l D cs (mo := ad 41) (ml := ad 42) (mz := ad 43) (mi := ad 44) (mt := ad 45) (mv := ad 46) (mp := ad 47) (md := ad 48) (mc := ad 49) (mk := ad 50) (mq := ad 51) (mr := ad 52) (su := fg) (nby := nI len) (lt := lf) (pl := mpl) (tok := mtk0) (va := mva0) (be := mbe) (wr := mwr) (am := nI kn) (td := nI bl) (tf := tf) (szf := szf) (j := j) (pn := pn) (x := x) hT.t0 hj (Or.inl (by rw [hs]; exact neg1)))
        simp only [hs, if_pos neg1] at hm
        rw [← hpt] at hm
        exact ⟨_, wA cs ad g gi lf 1 sd la an rf f len pl nx so va pn tn aw me sp kf sf wf p2 t2 a2 m2 s2 kg sg wg ip it2 ia im is2 ik iq iw kn af bl bf ++ wB cs ad lf fg f len kn bl bf (decide (0 < pn)) mpl mtk0 mva0 mbe mwr laf szf itf tf mvf d mf zf qf, wA cs ad g gi lf 1 sd la an rf f len pl nx so va pn tn aw me sp kf sf wf p2 t2 a2 m2 s2 kg sg wg ip it2 ia im is2 ik iq iw kn af bl bf ++ wB cs ad lf 1 f len kn bl bf (decide (0 < pn)) mpl mtk0 mva0 mbe mwr laf szf itf tf mvf d mf zf qf, ⟨_, _, [0, 1, 20, 21, 22, 23, 2 + 2 * j, 3 + 2 * j], hc, rtC hj, rtN hj, rfl, rtF hj 1⟩, ⟨_, _, [41, 43, 45], hm, rfl, by decide, rfl, rfl⟩, Inv.mk ⟨hg, hgi⟩ (hRw) ⟨hlen, hbl, hkn, hSg⟩ ⟨hT, hz⟩ (hA) (hIm), _, rfl⟩
      · have hs : ¬ sd j = false := hsd
        have hst : sd j = true := by simpa using hsd
        obtain ⟨ha, _, hc3⟩ := hRw j hj
        obtain ⟨hsz, hla, hit⟩ := hc3 hst
        have hnn : ¬ nI (an j) < 0 := nI_pos (by omega)
        by_cases hh : hold (nI (an j)) x (nI pn) = false
        · have hh2 : inI x 0 (szf j - nI pn) = false := by rw [hsz, ← hold_in0 (nI6 hT.pnl)]; exact hh
          have hc := (c_leavesIn l D cs (xo := ad 0) (xr := ad 1) (xd := ad 18) (ta := ad 20) (tb := ad 24) (xi := ad 28) (aa := ad 37) (sa := ad 39) (lf := lf) (fg := fg) (tk := ad 21) (tq := ad 22) (tw := ad 23) (kf := kf) (sf := sf) (wf := wf) (pn := pn) (aw := aw) (me := me) (sp := sp) (tn := tn) (g := g) (j := j) (ra := ad (2 + 2 * j)) (rp := ad (3 + 2 * j)) (rf := rf j) (sd := sd j) (la := la j) (an := an j) (x := x) hT.S hT.tnl hT.pnl hj (hg j hj) (hRw j hj).1)
          simp only [if_pos hpI, if_neg hs, if_pos hh] at hc
          have hm := (c_mleavesLk l D cs (mo := ad 41) (ml := ad 42) (mz := ad 43) (mi := ad 44) (mt := ad 45) (mv := ad 46) (mp := ad 47) (md := ad 48) (mc := ad 49) (mk := ad 50) (mq := ad 51) (mr := ad 52) (su := fg) (nby := nI len) (lt := lf) (pl := mpl) (tok := mtk0) (va := mva0) (be := mbe) (wr := mwr) (am := nI kn) (td := nI bl) (tf := tf) (szf := szf) (j := j) (pn := pn) (x := x) hT.t0 hj (Or.inr hh2))
          simp only [hsz, if_neg hnn] at hm
          rw [← hpt] at hm
          exact ⟨_, wA cs ad g gi lf 2 sd la an rf f len pl nx so va pn tn aw me sp kf sf wf p2 t2 a2 m2 s2 kg sg wg ip it2 ia im is2 ik iq iw kn af bl bf ++ wB cs ad lf fg f len kn bl bf (decide (0 < pn)) mpl mtk0 mva0 mbe mwr laf szf itf tf mvf d mf zf qf, wA cs ad g gi lf 2 sd la an rf f len pl nx so va pn tn aw me sp kf sf wf p2 t2 a2 m2 s2 kg sg wg ip it2 ia im is2 ik iq iw kn af bl bf ++ wB cs ad lf 2 f len kn bl bf (decide (0 < pn)) mpl mtk0 mva0 mbe mwr laf szf itf tf mvf d mf zf qf, ⟨_, _, [0, 1, 20, 21, 22, 23, 2 + 2 * j, 3 + 2 * j], hc, rtC hj, rtN hj, rfl, rtF hj 2⟩, ⟨_, _, [41, 43, 45], hm, rfl, by decide, rfl, rfl⟩, Inv.mk ⟨hg, hgi⟩ (hRw) ⟨hlen, hbl, hkn, hSg⟩ ⟨hT, hz⟩ (hA) (hIm), _, rfl⟩
        · have hh2 : hold (nI (an j)) x (nI pn) = true := by simpa using hh
          obtain ⟨q, p2', rfl, ep, hq⟩ := hold_t ha hh2
          have hpn := hT.pnl
          have hpp : pn = p2' := by
            have b1 := hold_le ha hh2
            rw [nI_clamp (nI6 hpn)] at b1
            have b2 : (nI p2').toNatClampNeg ≤ 40 := by rw [← ep, nI_clamp (nI6 hpn)]; omega
            by_cases hb : p2' < 2 ^ 31
            · exact eq_nI ep (by omega) hb
            · omega
          subst hpp
          have hlv := hT.lv (rf := rf j) (rg := rfM itf j) (rfM_cong hit) (nI q)
          have hc := (c_leavesIn l D cs (xo := ad 0) (xr := ad 1) (xd := ad 18) (ta := ad 20) (tb := ad 24) (xi := ad 28) (aa := ad 37) (sa := ad 39) (lf := lf) (fg := fg) (tk := ad 21) (tq := ad 22) (tw := ad 23) (kf := kf) (sf := sf) (wf := wf) (pn := pn) (aw := aw) (me := me) (sp := sp) (tn := tn) (g := g) (j := j) (ra := ad (2 + 2 * j)) (rp := ad (3 + 2 * j)) (rf := rf j) (sd := sd j) (la := la j) (an := an j) (x := nI q) hT.S hT.tnl hT.pnl hj (hg j hj) (hRw j hj).1)
          simp only [if_pos hpI, if_neg hs, if_neg hh] at hc
          have hm := (c_mleavesOk l D cs (mo := ad 41) (ml := ad 42) (mz := ad 43) (mi := ad 44) (mt := ad 45) (mv := ad 46) (mp := ad 47) (md := ad 48) (mc := ad 49) (mk := ad 50) (mq := ad 51) (mr := ad 52) (su := fg) (nby := nI len) (lt := lf) (pl := mpl) (tok := mtk0) (va := mva0) (be := mbe) (wr := mwr) (am := nI kn) (td := nI bl) (tf := tf) (szf := szf) (itf := itf) (pn := pn) (tn := tn) (j := j) (sn := an j) (q := q) hT.t1 hT.tnl (hT.M hz) hT.K hT.t0 hT.pnl hj hsz ha hq)
          simp only [hlv] at hm
          rw [← hpt] at hm
          exact ⟨_, wA cs ad g gi lf 0 sd la an rf f len pl nx so va pn tn aw me sp kf sf wf p2 t2 a2 m2 s2 kg sg wg ip it2 ia im is2 ik iq iw kn af bl bf ++ wB cs ad lf fg f len kn bl bf (decide (0 < pn)) mpl mtk0 mva0 mbe mwr laf szf itf tf mvf d mf zf qf, wA cs ad g gi lf 0 sd la an rf f len pl nx so va pn tn aw me sp kf sf wf p2 t2 a2 m2 s2 kg sg wg ip it2 ia im is2 ik iq iw kn af bl bf ++ wB cs ad lf 0 f len kn bl bf (decide (0 < pn)) mpl mtk0 mva0 mbe mwr laf szf itf tf mvf d mf zf qf, ⟨_, _, [0, 1, 20, 21, 22, 23, 2 + 2 * j, 3 + 2 * j], hc, rtC hj, rtN hj, rfl, rtF hj 0⟩, ⟨_, _, [41, 43, 44, 45], hm, rfl, by decide, rfl, rfl⟩, Inv.mk ⟨hg, hgi⟩ (hRw) ⟨hlen, hbl, hkn, hSg⟩ ⟨hT, hz⟩ (hA) (hIm), _, rfl⟩
    · have hpI : ¬ (0 : Int32) < nI pn := fun z => hp ((pos_nI hT.pnl).mp z)
      have hpf : decide (0 < pn) = false := decide_eq_false hp
      have hc := (c_leavesIn l D cs (xo := ad 0) (xr := ad 1) (xd := ad 18) (ta := ad 20) (tb := ad 24) (xi := ad 28) (aa := ad 37) (sa := ad 39) (lf := lf) (fg := fg) (tk := ad 21) (tq := ad 22) (tw := ad 23) (kf := kf) (sf := sf) (wf := wf) (pn := pn) (aw := aw) (me := me) (sp := sp) (tn := tn) (g := g) (j := j) (ra := ad (2 + 2 * j)) (rp := ad (3 + 2 * j)) (rf := rf j) (sd := sd j) (la := la j) (an := an j) (x := x) hT.S hT.tnl hT.pnl hj (hg j hj) (hRw j hj).1)
      simp only [if_neg hpI] at hc
      have hm := (c_mleavesSt l D cs (mo := ad 41) (ml := ad 42) (mz := ad 43) (mi := ad 44) (mt := ad 45) (mv := ad 46) (mp := ad 47) (md := ad 48) (mc := ad 49) (mk := ad 50) (mq := ad 51) (mr := ad 52) (su := fg) (nby := nI len) (lt := lf) (pl := mpl) (tok := mtk0) (va := mva0) (be := mbe) (wr := mwr) (am := nI kn) (td := nI bl) (x0 := nI j) (x := x) )
      rw [← hpf] at hm
      exact ⟨_, wA cs ad g gi lf fg sd la an rf f len pl nx so va pn tn aw me sp kf sf wf p2 t2 a2 m2 s2 kg sg wg ip it2 ia im is2 ik iq iw kn af bl bf ++ wB cs ad lf fg f len kn bl bf (decide (0 < pn)) mpl mtk0 mva0 mbe mwr laf szf itf tf mvf d mf zf qf, wA cs ad g gi lf fg sd la an rf f len pl nx so va pn tn aw me sp kf sf wf p2 t2 a2 m2 s2 kg sg wg ip it2 ia im is2 ik iq iw kn af bl bf ++ wB cs ad lf fg f len kn bl bf (decide (0 < pn)) mpl mtk0 mva0 mbe mwr laf szf itf tf mvf d mf zf qf, ⟨_, _, [0, 1, 20, 21, 22, 23, 2 + 2 * j, 3 + 2 * j], hc, rtC hj, rtN hj, rfl, put_id (rtC hj)⟩, ⟨_, _, [41], hm, rfl, by decide, rfl, rfl⟩, Inv.mk ⟨hg, hgi⟩ (hRw) ⟨hlen, hbl, hkn, hSg⟩ ⟨hT, hz⟩ (hA) (hIm), _, rfl⟩

set_option maxHeartbeats 4000000 in
set_option maxRecDepth 100000 in
theorem tk_which {l : Launch} {D : va_G} {cs : Nat → ClassId} {ad : Nat → Nat} {ws : va_W} (hI : Inv cs ad ws) (x x0 i y : Int32) : Goes2 l D cs ad yX5_which wsX5_which ({ frames := 6, cells := 0, slots := 0, locals := 141 }) yX6_which wsX6_which ({ frames := 3, cells := 0, slots := 0, locals := 72 }) [.int x, .int x0, .int i, .int y] ws := by
  refine hI.opn (G := fun ws => Goes2 l D cs ad yX5_which wsX5_which ({ frames := 6, cells := 0, slots := 0, locals := 141 }) yX6_which wsX6_which ({ frames := 3, cells := 0, slots := 0, locals := 72 }) [.int x, .int x0, .int i, .int y] ws) ?_
  clear hI
  intro g gi lf fg sd la an rf f len pl nx so va pn tn aw me sp kf sf wf p2 t2 a2 m2 s2 kg sg wg ip it2 ia im is2 ik iq iw kn af bl bf mpl mtk0 mva0 mbe mwr laf szf itf tf mvf d mf zf qf h1 h2 h3 h4 hA hIm hI
  obtain ⟨hg, hgi⟩ := h1
  obtain ⟨hlen, hbl, hkn, hSg⟩ := h3
  obtain ⟨hT, hz⟩ := h4
  have hRw := h2
  clear h2
  show Goes2 l D cs ad yX5_which wsX5_which ({ frames := 6, cells := 0, slots := 0, locals := 141 }) yX6_which wsX6_which ({ frames := 3, cells := 0, slots := 0, locals := 72 }) [.int x, .int x0, .int i, .int y] (wA cs ad g gi lf fg sd la an rf f len pl nx so va pn tn aw me sp kf sf wf p2 t2 a2 m2 s2 kg sg wg ip it2 ia im is2 ik iq iw kn af bl bf ++ wB cs ad lf fg f len kn bl bf (decide (0 < pn)) mpl mtk0 mva0 mbe mwr laf szf itf tf mvf d mf zf qf)
  rcases in8_c x0 with h | ⟨j, hj, rfl⟩
  · refine ⟨_, _, _, WC.same [0, 1, 20, 21, 22, 23] (c_whichOut l D cs (xo := ad 0) (xr := ad 1) (xd := ad 18) (ta := ad 20) (tb := ad 24) (xi := ad 28) (aa := ad 37) (sa := ad 39) (lf := lf) (fg := fg) (tk := ad 21) (tq := ad 22) (tw := ad 23) (kf := kf) (sf := sf) (wf := wf) (pn := pn) (aw := aw) (me := me) (sp := sp) (tn := tn) (g := g) (x := x) (x0 := x0) (i := i) (y := y) hT.S hT.tnl hT.pnl (in8_out h)) rfl (by decide) rfl, WC.same [41, 45] (c_mwhichBad l D cs (mo := ad 41) (ml := ad 42) (mz := ad 43) (mi := ad 44) (mt := ad 45) (mv := ad 46) (mp := ad 47) (md := ad 48) (mc := ad 49) (mk := ad 50) (mq := ad 51) (mr := ad 52) (su := fg) (it := decide (0 < pn)) (nby := nI len) (lt := lf) (pl := mpl) (tok := mtk0) (va := mva0) (be := mbe) (wr := mwr) (am := nI kn) (td := nI bl) (tf := tf) (tn := tn) (x := x) (x0 := x0) (i := i) (y := y) hT.t1 hT.tnl (Or.inr (Or.inl h))) rfl (by decide) ?_, hI, _, rfl⟩
    rfl
  · rcases inB_c (n := tn) (by have := hT.tnl; omega) x with hx | ⟨t, ht, rfl⟩
    · exact ⟨_, _, _, WC.same [0, 1, 20, 21, 22, 23, 2 + 2 * j, 3 + 2 * j] (c_whichBad l D cs (xo := ad 0) (xr := ad 1) (xd := ad 18) (ta := ad 20) (tb := ad 24) (xi := ad 28) (aa := ad 37) (sa := ad 39) (lf := lf) (fg := fg) (tk := ad 21) (tq := ad 22) (tw := ad 23) (kf := kf) (sf := sf) (wf := wf) (pn := pn) (aw := aw) (me := me) (sp := sp) (tn := tn) (g := g) (j := j) (ra := ad (2 + 2 * j)) (rp := ad (3 + 2 * j)) (rf := rf j) (sd := sd j) (la := la j) (an := an j) (x := x) (i := i) (y := y) hT.S hT.tnl hT.pnl hj (hg j hj) (Or.inl hx)) (rtC hj) (rtN hj) rfl, WC.same [41, 45] (c_mwhichBad l D cs (mo := ad 41) (ml := ad 42) (mz := ad 43) (mi := ad 44) (mt := ad 45) (mv := ad 46) (mp := ad 47) (md := ad 48) (mc := ad 49) (mk := ad 50) (mq := ad 51) (mr := ad 52) (su := fg) (it := decide (0 < pn)) (nby := nI len) (lt := lf) (pl := mpl) (tok := mtk0) (va := mva0) (be := mbe) (wr := mwr) (am := nI kn) (td := nI bl) (tf := tf) (tn := tn) (x := x) (x0 := nI j) (i := i) (y := y) hT.t1 hT.tnl (Or.inl hx)) rfl (by decide) rfl, hI, _, rfl⟩
    · by_cases y0 : y < 0
      · exact ⟨_, _, _, WC.same [0, 1, 20, 21, 22, 23, 2 + 2 * j, 3 + 2 * j] (c_whichBad l D cs (xo := ad 0) (xr := ad 1) (xd := ad 18) (ta := ad 20) (tb := ad 24) (xi := ad 28) (aa := ad 37) (sa := ad 39) (lf := lf) (fg := fg) (tk := ad 21) (tq := ad 22) (tw := ad 23) (kf := kf) (sf := sf) (wf := wf) (pn := pn) (aw := aw) (me := me) (sp := sp) (tn := tn) (g := g) (j := j) (ra := ad (2 + 2 * j)) (rp := ad (3 + 2 * j)) (rf := rf j) (sd := sd j) (la := la j) (an := an j) (x := nI t) (i := i) (y := y) hT.S hT.tnl hT.pnl hj (hg j hj) (Or.inr (Or.inl y0))) (rtC hj) (rtN hj) rfl, WC.same [41, 45] (c_mwhichBad l D cs (mo := ad 41) (ml := ad 42) (mz := ad 43) (mi := ad 44) (mt := ad 45) (mv := ad 46) (mp := ad 47) (md := ad 48) (mc := ad 49) (mk := ad 50) (mq := ad 51) (mr := ad 52) (su := fg) (it := decide (0 < pn)) (nby := nI len) (lt := lf) (pl := mpl) (tok := mtk0) (va := mva0) (be := mbe) (wr := mwr) (am := nI kn) (td := nI bl) (tf := tf) (tn := tn) (x := nI t) (x0 := nI j) (i := i) (y := y) hT.t1 hT.tnl (Or.inr (Or.inr (by unfold inI; rw [if_pos y0])))) rfl (by decide) rfl, hI, _, rfl⟩
      · by_cases y1 : 10 < y
        · exact ⟨_, _, _, WC.same [0, 1, 20, 21, 22, 23, 2 + 2 * j, 3 + 2 * j] (c_whichBad l D cs (xo := ad 0) (xr := ad 1) (xd := ad 18) (ta := ad 20) (tb := ad 24) (xi := ad 28) (aa := ad 37) (sa := ad 39) (lf := lf) (fg := fg) (tk := ad 21) (tq := ad 22) (tw := ad 23) (kf := kf) (sf := sf) (wf := wf) (pn := pn) (aw := aw) (me := me) (sp := sp) (tn := tn) (g := g) (j := j) (ra := ad (2 + 2 * j)) (rp := ad (3 + 2 * j)) (rf := rf j) (sd := sd j) (la := la j) (an := an j) (x := nI t) (i := i) (y := y) hT.S hT.tnl hT.pnl hj (hg j hj) (Or.inr (Or.inr y1))) (rtC hj) (rtN hj) rfl, WC.same [41, 45] (c_mwhichBad l D cs (mo := ad 41) (ml := ad 42) (mz := ad 43) (mi := ad 44) (mt := ad 45) (mv := ad 46) (mp := ad 47) (md := ad 48) (mc := ad 49) (mk := ad 50) (mq := ad 51) (mr := ad 52) (su := fg) (it := decide (0 < pn)) (nby := nI len) (lt := lf) (pl := mpl) (tok := mtk0) (va := mva0) (be := mbe) (wr := mwr) (am := nI kn) (td := nI bl) (tf := tf) (tn := tn) (x := nI t) (x0 := nI j) (i := i) (y := y) hT.t1 hT.tnl (Or.inr (Or.inr (by unfold inI; rw [if_neg y0, if_pos y1])))) rfl (by decide) rfl, hI, _, rfl⟩
        · obtain ⟨nn, hn31, rfl⟩ := nI_of y0
          have hnn : nn ≤ 10 := nlt_nI (a := 10) y1 (by decide) hn31
          have hin : inB (nI tn) (nI t) = true := inB_in (by have := hT.tnl; omega) ht
          have e2n : (2 : Int32) * nI nn = nI (2 * nn) := pk_mul 2 nn
          by_cases hsd : sd j = false
          · have hs := (hRw j hj).2.1 hsd
            have hc := (c_whichIn l D cs (xo := ad 0) (xr := ad 1) (xd := ad 18) (ta := ad 20) (tb := ad 24) (xi := ad 28) (aa := ad 37) (sa := ad 39) (lf := lf) (fg := fg) (tk := ad 21) (tq := ad 22) (tw := ad 23) (kf := kf) (sf := sf) (wf := wf) (pn := pn) (aw := aw) (me := me) (sp := sp) (tn := tn) (g := g) (j := j) (ra := ad (2 + 2 * j)) (rp := ad (3 + 2 * j)) (rf := rf j) (sd := sd j) (la := la j) (an := an j) (x := nI t) (i := i) (nn := nn) hT.S hT.tnl hT.pnl hj (hg j hj) hin hnn)
            simp only [if_pos hsd] at hc
            have hm := (c_mwhichLk l D cs (mo := ad 41) (ml := ad 42) (mz := ad 43) (mi := ad 44) (mt := ad 45) (mv := ad 46) (mp := ad 47) (md := ad 48) (mc := ad 49) (mk := ad 50) (mq := ad 51) (mr := ad 52) (su := fg) (it := decide (0 < pn)) (nby := nI len) (lt := lf) (pl := mpl) (tok := mtk0) (va := mva0) (be := mbe) (wr := mwr) (am := nI kn) (td := nI bl) (tf := tf) (szf := szf) (tn := tn) (j := j) (t := t) (nn := nn) (i := i) hT.t1 hT.tnl hj ht hnn (Or.inl (by rw [hs]; exact neg1)))
            simp only [hs, if_pos neg1] at hm
            exact ⟨_, wA cs ad g gi lf 1 sd la an rf f len pl nx so va pn tn aw me sp kf sf wf p2 t2 a2 m2 s2 kg sg wg ip it2 ia im is2 ik iq iw kn af bl bf ++ wB cs ad lf fg f len kn bl bf (decide (0 < pn)) mpl mtk0 mva0 mbe mwr laf szf itf tf mvf d mf zf qf, wA cs ad g gi lf 1 sd la an rf f len pl nx so va pn tn aw me sp kf sf wf p2 t2 a2 m2 s2 kg sg wg ip it2 ia im is2 ik iq iw kn af bl bf ++ wB cs ad lf 1 f len kn bl bf (decide (0 < pn)) mpl mtk0 mva0 mbe mwr laf szf itf tf mvf d mf zf qf, ⟨_, _, [0, 1, 20, 21, 22, 23, 2 + 2 * j, 3 + 2 * j], hc, rtC hj, rtN hj, rfl, rtF hj 1⟩, ⟨_, _, [41, 43, 45], hm, rfl, by decide, rfl, rfl⟩, Inv.mk ⟨hg, hgi⟩ (hRw) ⟨hlen, hbl, hkn, hSg⟩ ⟨hT, hz⟩ (hA) (hIm), _, rfl⟩
          · have hs : ¬ sd j = false := hsd
            have hst : sd j = true := by simpa using hsd
            obtain ⟨ha, _, hc3⟩ := hRw j hj
            obtain ⟨hsz, hla, hit⟩ := hc3 hst
            have hnn0 : ¬ nI (an j) < 0 := nI_pos (by omega)
            by_cases hh : hold (nI (an j)) i (2 * nI nn) = false
            · have hh2 : inI i 0 (szf j - 2 * nI nn) = false := by rw [hsz, e2n, ← hold_in0 (by omega), ← e2n]; exact hh
              have hc := (c_whichIn l D cs (xo := ad 0) (xr := ad 1) (xd := ad 18) (ta := ad 20) (tb := ad 24) (xi := ad 28) (aa := ad 37) (sa := ad 39) (lf := lf) (fg := fg) (tk := ad 21) (tq := ad 22) (tw := ad 23) (kf := kf) (sf := sf) (wf := wf) (pn := pn) (aw := aw) (me := me) (sp := sp) (tn := tn) (g := g) (j := j) (ra := ad (2 + 2 * j)) (rp := ad (3 + 2 * j)) (rf := rf j) (sd := sd j) (la := la j) (an := an j) (x := nI t) (i := i) (nn := nn) hT.S hT.tnl hT.pnl hj (hg j hj) hin hnn)
              simp only [if_neg hs, if_pos hh] at hc
              have hm := (c_mwhichLk l D cs (mo := ad 41) (ml := ad 42) (mz := ad 43) (mi := ad 44) (mt := ad 45) (mv := ad 46) (mp := ad 47) (md := ad 48) (mc := ad 49) (mk := ad 50) (mq := ad 51) (mr := ad 52) (su := fg) (it := decide (0 < pn)) (nby := nI len) (lt := lf) (pl := mpl) (tok := mtk0) (va := mva0) (be := mbe) (wr := mwr) (am := nI kn) (td := nI bl) (tf := tf) (szf := szf) (tn := tn) (j := j) (t := t) (nn := nn) (i := i) hT.t1 hT.tnl hj ht hnn (Or.inr hh2))
              simp only [hsz, if_neg hnn0] at hm
              exact ⟨_, wA cs ad g gi lf 2 sd la an rf f len pl nx so va pn tn aw me sp kf sf wf p2 t2 a2 m2 s2 kg sg wg ip it2 ia im is2 ik iq iw kn af bl bf ++ wB cs ad lf fg f len kn bl bf (decide (0 < pn)) mpl mtk0 mva0 mbe mwr laf szf itf tf mvf d mf zf qf, wA cs ad g gi lf 2 sd la an rf f len pl nx so va pn tn aw me sp kf sf wf p2 t2 a2 m2 s2 kg sg wg ip it2 ia im is2 ik iq iw kn af bl bf ++ wB cs ad lf 2 f len kn bl bf (decide (0 < pn)) mpl mtk0 mva0 mbe mwr laf szf itf tf mvf d mf zf qf, ⟨_, _, [0, 1, 20, 21, 22, 23, 2 + 2 * j, 3 + 2 * j], hc, rtC hj, rtN hj, rfl, rtF hj 2⟩, ⟨_, _, [41, 43, 45], hm, rfl, by decide, rfl, rfl⟩, Inv.mk ⟨hg, hgi⟩ (hRw) ⟨hlen, hbl, hkn, hSg⟩ ⟨hT, hz⟩ (hA) (hIm), _, rfl⟩
            · have hh2 : hold (nI (an j)) i (2 * nI nn) = true := by simpa using hh
              have hh3 := hh2
              rw [e2n] at hh3
              obtain ⟨ii, m2', rfl, em, hq⟩ := hold_t ha hh3
              have hmm : 2 * nn = m2' := by
                by_cases hb : m2' < 2 ^ 31
                · exact eq_nI em (by omega) hb
                · omega
              subst hmm
              have hgc := rfM_cong hit
              have hwc := whB_cong hgc pn (nI ii) nn
              have hfc : (fun kd => fitB (kS tf) (sS tf) (wS tf) tn (rfM itf j) (nI t) (nI kd) (nI ii) nn) = fun kd => fitB kf sf wf tn (rf j) (nI t) (nI kd) (nI ii) nn := by
                funext kd
                exact hT.fit ht hgc (nI kd) (nI ii) nn
              by_cases hw : whB pn (rf j) (nI ii) nn = true
              · have hc := (c_whichIn l D cs (xo := ad 0) (xr := ad 1) (xd := ad 18) (ta := ad 20) (tb := ad 24) (xi := ad 28) (aa := ad 37) (sa := ad 39) (lf := lf) (fg := fg) (tk := ad 21) (tq := ad 22) (tw := ad 23) (kf := kf) (sf := sf) (wf := wf) (pn := pn) (aw := aw) (me := me) (sp := sp) (tn := tn) (g := g) (j := j) (ra := ad (2 + 2 * j)) (rp := ad (3 + 2 * j)) (rf := rf j) (sd := sd j) (la := la j) (an := an j) (x := nI t) (i := nI ii) (nn := nn) hT.S hT.tnl hT.pnl hj (hg j hj) hin hnn)
                simp only [if_neg hs, if_neg hh, if_pos hw] at hc
                have hm := (c_mwhichOk l D cs (mo := ad 41) (ml := ad 42) (mz := ad 43) (mi := ad 44) (mt := ad 45) (mv := ad 46) (mp := ad 47) (md := ad 48) (mc := ad 49) (mk := ad 50) (mq := ad 51) (mr := ad 52) (su := fg) (it := decide (0 < pn)) (nby := nI len) (lt := lf) (pl := mpl) (tok := mtk0) (va := mva0) (be := mbe) (wr := mwr) (am := nI kn) (td := nI bl) (tf := tf) (szf := szf) (itf := itf) (pn := pn) (tn := tn) (j := j) (sn := an j) (ii := ii) (nn := nn) (t := t) hT.t1 hT.tnl (hT.M hz) hT.K hT.t0 hT.pnl hj hsz ha hq hnn ht)
                simp only [hfc, hwc, if_pos hw] at hm
                exact ⟨_, wA cs ad g gi lf 0 sd la an rf f len pl nx so va pn tn aw me sp kf sf wf p2 t2 a2 m2 s2 kg sg wg ip it2 ia im is2 ik iq iw kn af bl bf ++ wB cs ad lf fg f len kn bl bf (decide (0 < pn)) mpl mtk0 mva0 mbe mwr laf szf itf tf mvf d mf zf qf, wA cs ad g gi lf 0 sd la an rf f len pl nx so va pn tn aw me sp kf sf wf p2 t2 a2 m2 s2 kg sg wg ip it2 ia im is2 ik iq iw kn af bl bf ++ wB cs ad lf 0 f len kn bl bf (decide (0 < pn)) mpl mtk0 mva0 mbe mwr laf szf itf tf mvf d mf zf qf, ⟨_, _, [0, 1, 20, 21, 22, 23, 2 + 2 * j, 3 + 2 * j], hc, rtC hj, rtN hj, rfl, rtF hj 0⟩, ⟨_, _, [41, 43, 44, 45], hm, rfl, by decide, rfl, rfl⟩, Inv.mk ⟨hg, hgi⟩ (hRw) ⟨hlen, hbl, hkn, hSg⟩ ⟨hT, hz⟩ (hA) (hIm), _, rfl⟩
              · have hc := (c_whichIn l D cs (xo := ad 0) (xr := ad 1) (xd := ad 18) (ta := ad 20) (tb := ad 24) (xi := ad 28) (aa := ad 37) (sa := ad 39) (lf := lf) (fg := fg) (tk := ad 21) (tq := ad 22) (tw := ad 23) (kf := kf) (sf := sf) (wf := wf) (pn := pn) (aw := aw) (me := me) (sp := sp) (tn := tn) (g := g) (j := j) (ra := ad (2 + 2 * j)) (rp := ad (3 + 2 * j)) (rf := rf j) (sd := sd j) (la := la j) (an := an j) (x := nI t) (i := nI ii) (nn := nn) hT.S hT.tnl hT.pnl hj (hg j hj) hin hnn)
                simp only [if_neg hs, if_neg hh, if_neg hw] at hc
                have hm := (c_mwhichOk l D cs (mo := ad 41) (ml := ad 42) (mz := ad 43) (mi := ad 44) (mt := ad 45) (mv := ad 46) (mp := ad 47) (md := ad 48) (mc := ad 49) (mk := ad 50) (mq := ad 51) (mr := ad 52) (su := fg) (it := decide (0 < pn)) (nby := nI len) (lt := lf) (pl := mpl) (tok := mtk0) (va := mva0) (be := mbe) (wr := mwr) (am := nI kn) (td := nI bl) (tf := tf) (szf := szf) (itf := itf) (pn := pn) (tn := tn) (j := j) (sn := an j) (ii := ii) (nn := nn) (t := t) hT.t1 hT.tnl (hT.M hz) hT.K hT.t0 hT.pnl hj hsz ha hq hnn ht)
                simp only [hwc, if_neg hw] at hm
                exact ⟨_, wA cs ad g gi lf fg sd la an rf f len pl nx so va pn tn aw me sp kf sf wf p2 t2 a2 m2 s2 kg sg wg ip it2 ia im is2 ik iq iw kn af bl bf ++ wB cs ad lf fg f len kn bl bf (decide (0 < pn)) mpl mtk0 mva0 mbe mwr laf szf itf tf mvf d mf zf qf, wA cs ad g gi lf fg sd la an rf f len pl nx so va pn tn aw me sp kf sf wf p2 t2 a2 m2 s2 kg sg wg ip it2 ia im is2 ik iq iw kn af bl bf ++ wB cs ad lf fg f len kn bl bf (decide (0 < pn)) mpl mtk0 mva0 mbe mwr laf szf itf tf mvf d mf zf qf, ⟨_, _, [0, 1, 20, 21, 22, 23, 2 + 2 * j, 3 + 2 * j], hc, rtC hj, rtN hj, rfl, put_id (rtC hj)⟩, ⟨_, _, [41, 43, 44, 45], hm, rfl, by decide, rfl, rfl⟩, Inv.mk ⟨hg, hgi⟩ (hRw) ⟨hlen, hbl, hkn, hSg⟩ ⟨hT, hz⟩ (hA) (hIm), _, rfl⟩

