/-! the calls: the class and the model answer the same -/
theorem cntS_cong {a b : Nat → Bool} : ∀ {n : Nat}, (∀ r, r < n → a r = b r) → cntS a n = cntS b n
  | 0, _ => rfl
  | n + 1, h => by rw [cntS, cntS, cntS_cong (fun r hr => h r (by omega)), h n (by omega)]
theorem askT_len (k x : Int32) : (askT k x).length ≤ 16 := by
  have h1 := maT_len k
  have h2 := syT_len k
  have h3 : (saT k).length ≤ 6 := by unfold saT; split <;> simp <;> omega
  have h4 : (myT k).length ≤ 6 := by unfold myT; simp; omega
  unfold askT
  split
  · split <;> omega
  · split <;> omega
theorem th_all : ∀ pn : Nat, pn ≤ 6 → ∀ k : Nat, k < 64 → thI (nI pn) (nI k) = nI ((2 ^ pn - 1) &&& (63 ^^^ k)) := by decide +kernel
theorem th_of {pn : Nat} {aw : Int32} (hp : pn ≤ 6) (h : s64 aw) : ∃ n : Nat, n < 2 ^ pn ∧ n < 64 ∧ thI (nI pn) aw = nI n := by
  obtain ⟨k, hk, rfl⟩ := h
  have h1 := pw64 pn hp
  have h2 : (2 ^ pn - 1) &&& (63 ^^^ k) ≤ 2 ^ pn - 1 := Nat.and_le_left
  exact ⟨(2 ^ pn - 1) &&& (63 ^^^ k), by omega, by omega, th_all pn hp k hk⟩
theorem RW.neg {sd : Bool} {la : Int32} {an : Nat} {rf : Nat → Int32} {ml ms : Int32} {itf : Nat → Int32} {j : Nat} (h : RW sd la an rf ml ms itf j) : sd = !decide (ms < 0) := by
  cases sd with
  | false => rw [h.2.1 rfl]; decide
  | true => rw [(h.2.2 rfl).1, decide_eq_false (nI_pos (by have := h.1; omega))]; rfl
set_option maxHeartbeats 4000000 in
set_option maxRecDepth 100000 in
theorem tk_fault {l : Launch} {D : va_G} {cs : Nat → ClassId} {ad : Nat → Nat} {ws : va_W} (hI : Inv cs ad ws) : Goes2 l D cs ad yX5_fault wsX5_fault ({ frames := 0, cells := 0, slots := 0, locals := 0 }) yX6_fault wsX6_fault ({ frames := 0, cells := 0, slots := 0, locals := 0 }) [] ws := by
  refine hI.opn (G := fun ws => Goes2 l D cs ad yX5_fault wsX5_fault ({ frames := 0, cells := 0, slots := 0, locals := 0 }) yX6_fault wsX6_fault ({ frames := 0, cells := 0, slots := 0, locals := 0 }) [] ws) ?_
  clear hI
  intro g gi lf fg sd la an rf f len pl nx so va pn tn aw me sp kf sf wf p2 t2 a2 m2 s2 kg sg wg ip it2 ia im is2 ik iq iw kn af bl bf mpl mtk0 mva0 mbe mwr laf szf itf tf mvf d mf zf qf h1 h2 h3 h4 hA hIm hI
  obtain ⟨hg, hgi⟩ := h1
  obtain ⟨hlen, hbl, hkn, hSg⟩ := h3
  obtain ⟨hT, hz⟩ := h4
  have hRw := h2
  clear h2
  show Goes2 l D cs ad yX5_fault wsX5_fault ({ frames := 0, cells := 0, slots := 0, locals := 0 }) yX6_fault wsX6_fault ({ frames := 0, cells := 0, slots := 0, locals := 0 }) [] (wA cs ad g gi lf fg sd la an rf f len pl nx so va pn tn aw me sp kf sf wf p2 t2 a2 m2 s2 kg sg wg ip it2 ia im is2 ik iq iw kn af bl bf ++ wB cs ad lf fg f len kn bl bf (decide (0 < pn)) mpl mtk0 mva0 mbe mwr laf szf itf tf mvf d mf zf qf)
  refine ⟨_, _, _, WC.same [0] (c_fault l D cs (xo := ad 0) (xr := ad 1) (xd := ad 18) (ta := ad 20) (tb := ad 24) (xi := ad 28) (aa := ad 37) (sa := ad 39) (lf := lf) (fg := fg) ) rfl (by decide) rfl, WC.same [41] (c_mfault l D cs (mo := ad 41) (ml := ad 42) (mz := ad 43) (mi := ad 44) (mt := ad 45) (mv := ad 46) (mp := ad 47) (md := ad 48) (mc := ad 49) (mk := ad 50) (mq := ad 51) (mr := ad 52) (su := fg) (it := decide (0 < pn)) (nby := nI len) (lt := lf) (pl := mpl) (tok := mtk0) (va := mva0) (be := mbe) (wr := mwr) (am := nI kn) (td := nI bl) ) rfl (by decide) ?_, hI, _, rfl⟩
  rfl

set_option maxHeartbeats 4000000 in
set_option maxRecDepth 100000 in
theorem tk_status {l : Launch} {D : va_G} {cs : Nat → ClassId} {ad : Nat → Nat} {ws : va_W} (hI : Inv cs ad ws) : Goes2 l D cs ad yX5_status wsX5_status ({ frames := 0, cells := 0, slots := 0, locals := 0 }) yX6_status wsX6_status ({ frames := 0, cells := 0, slots := 0, locals := 0 }) [] ws := by
  refine hI.opn (G := fun ws => Goes2 l D cs ad yX5_status wsX5_status ({ frames := 0, cells := 0, slots := 0, locals := 0 }) yX6_status wsX6_status ({ frames := 0, cells := 0, slots := 0, locals := 0 }) [] ws) ?_
  clear hI
  intro g gi lf fg sd la an rf f len pl nx so va pn tn aw me sp kf sf wf p2 t2 a2 m2 s2 kg sg wg ip it2 ia im is2 ik iq iw kn af bl bf mpl mtk0 mva0 mbe mwr laf szf itf tf mvf d mf zf qf h1 h2 h3 h4 hA hIm hI
  obtain ⟨hg, hgi⟩ := h1
  obtain ⟨hlen, hbl, hkn, hSg⟩ := h3
  obtain ⟨hT, hz⟩ := h4
  have hRw := h2
  clear h2
  show Goes2 l D cs ad yX5_status wsX5_status ({ frames := 0, cells := 0, slots := 0, locals := 0 }) yX6_status wsX6_status ({ frames := 0, cells := 0, slots := 0, locals := 0 }) [] (wA cs ad g gi lf fg sd la an rf f len pl nx so va pn tn aw me sp kf sf wf p2 t2 a2 m2 s2 kg sg wg ip it2 ia im is2 ik iq iw kn af bl bf ++ wB cs ad lf fg f len kn bl bf (decide (0 < pn)) mpl mtk0 mva0 mbe mwr laf szf itf tf mvf d mf zf qf)
  refine ⟨_, _, _, WC.same [0] (c_status l D cs (xo := ad 0) (xr := ad 1) (xd := ad 18) (ta := ad 20) (tb := ad 24) (xi := ad 28) (aa := ad 37) (sa := ad 39) (lf := lf) (fg := fg) ) rfl (by decide) rfl, WC.same [41] (c_mstatus l D cs (mo := ad 41) (ml := ad 42) (mz := ad 43) (mi := ad 44) (mt := ad 45) (mv := ad 46) (mp := ad 47) (md := ad 48) (mc := ad 49) (mk := ad 50) (mq := ad 51) (mr := ad 52) (su := fg) (it := decide (0 < pn)) (nby := nI len) (lt := lf) (pl := mpl) (tok := mtk0) (va := mva0) (be := mbe) (wr := mwr) (am := nI kn) (td := nI bl) ) rfl (by decide) ?_, hI, _, rfl⟩
  rfl

set_option maxHeartbeats 4000000 in
set_option maxRecDepth 100000 in
theorem tk_trace {l : Launch} {D : va_G} {cs : Nat → ClassId} {ad : Nat → Nat} {ws : va_W} (hI : Inv cs ad ws) (x : Int32) : Goes2 l D cs ad yX5_trace wsX5_trace ({ frames := 1, cells := 0, slots := 0, locals := 21 }) yX6_trace wsX6_trace ({ frames := 1, cells := 0, slots := 0, locals := 25 }) [.int x] ws := by
  refine hI.opn (G := fun ws => Goes2 l D cs ad yX5_trace wsX5_trace ({ frames := 1, cells := 0, slots := 0, locals := 21 }) yX6_trace wsX6_trace ({ frames := 1, cells := 0, slots := 0, locals := 25 }) [.int x] ws) ?_
  clear hI
  intro g gi lf fg sd la an rf f len pl nx so va pn tn aw me sp kf sf wf p2 t2 a2 m2 s2 kg sg wg ip it2 ia im is2 ik iq iw kn af bl bf mpl mtk0 mva0 mbe mwr laf szf itf tf mvf d mf zf qf h1 h2 h3 h4 hA hIm hI
  obtain ⟨hg, hgi⟩ := h1
  obtain ⟨hlen, hbl, hkn, hSg⟩ := h3
  obtain ⟨hT, hz⟩ := h4
  have hRw := h2
  clear h2
  show Goes2 l D cs ad yX5_trace wsX5_trace ({ frames := 1, cells := 0, slots := 0, locals := 21 }) yX6_trace wsX6_trace ({ frames := 1, cells := 0, slots := 0, locals := 25 }) [.int x] (wA cs ad g gi lf fg sd la an rf f len pl nx so va pn tn aw me sp kf sf wf p2 t2 a2 m2 s2 kg sg wg ip it2 ia im is2 ik iq iw kn af bl bf ++ wB cs ad lf fg f len kn bl bf (decide (0 < pn)) mpl mtk0 mva0 mbe mwr laf szf itf tf mvf d mf zf qf)
  refine ⟨_, _, _, WC.same [0, 39, 40] (c_trace l D cs (xo := ad 0) (xr := ad 1) (xd := ad 18) (ta := ad 20) (tb := ad 24) (xi := ad 28) (aa := ad 37) (sa := ad 39) (lf := lf) (fg := fg) (sb := ad 40) (bf := bf) (af := nI bl) (x := x) ) rfl (by decide) rfl, WC.same [41, 52] (c_mtrace l D cs (mo := ad 41) (ml := ad 42) (mz := ad 43) (mi := ad 44) (mt := ad 45) (mv := ad 46) (mp := ad 47) (md := ad 48) (mc := ad 49) (mk := ad 50) (mq := ad 51) (mr := ad 52) (su := fg) (it := decide (0 < pn)) (nby := nI len) (lt := lf) (pl := mpl) (tok := mtk0) (va := mva0) (be := mbe) (wr := mwr) (am := nI kn) (bf := bf) (lf := bl) (x := x) hbl) rfl (by decide) ?_, hI, _, rfl⟩
  rcases inB_c (n := bl) (by omega) x with h | ⟨j, hj, rfl⟩
  · rw [if_neg (bf_nt h)]
    by_cases q0 : x < 0
    · rw [if_pos q0]
    · rw [if_neg q0, if_pos ((inB_f h).resolve_left q0)]
  · rw [if_pos (inB_in (by omega) hj), if_neg (nI_pos (by omega)), if_neg (nI_ge hj (by omega)), gA_in (by omega) (by decide), nI_clamp (by omega)]

set_option maxHeartbeats 4000000 in
set_option maxRecDepth 100000 in
theorem tk_kind {l : Launch} {D : va_G} {cs : Nat → ClassId} {ad : Nat → Nat} {ws : va_W} (hI : Inv cs ad ws) (x : Int32) : Goes2 l D cs ad yX5_kind wsX5_kind ({ frames := 2, cells := 0, slots := 0, locals := 42 }) yX6_kind wsX6_kind ({ frames := 2, cells := 0, slots := 0, locals := 46 }) [.int x] ws := by
  refine hI.opn (G := fun ws => Goes2 l D cs ad yX5_kind wsX5_kind ({ frames := 2, cells := 0, slots := 0, locals := 42 }) yX6_kind wsX6_kind ({ frames := 2, cells := 0, slots := 0, locals := 46 }) [.int x] ws) ?_
  clear hI
  intro g gi lf fg sd la an rf f len pl nx so va pn tn aw me sp kf sf wf p2 t2 a2 m2 s2 kg sg wg ip it2 ia im is2 ik iq iw kn af bl bf mpl mtk0 mva0 mbe mwr laf szf itf tf mvf d mf zf qf h1 h2 h3 h4 hA hIm hI
  obtain ⟨hg, hgi⟩ := h1
  obtain ⟨hlen, hbl, hkn, hSg⟩ := h3
  obtain ⟨hT, hz⟩ := h4
  have hRw := h2
  clear h2
  show Goes2 l D cs ad yX5_kind wsX5_kind ({ frames := 2, cells := 0, slots := 0, locals := 42 }) yX6_kind wsX6_kind ({ frames := 2, cells := 0, slots := 0, locals := 46 }) [.int x] (wA cs ad g gi lf fg sd la an rf f len pl nx so va pn tn aw me sp kf sf wf p2 t2 a2 m2 s2 kg sg wg ip it2 ia im is2 ik iq iw kn af bl bf ++ wB cs ad lf fg f len kn bl bf (decide (0 < pn)) mpl mtk0 mva0 mbe mwr laf szf itf tf mvf d mf zf qf)
  rcases inB_c (n := tn) (by have := hT.tnl; omega) x with h | ⟨q, hq, rfl⟩
  · refine ⟨_, _, _, WC.same [0, 20, 21, 22, 23] (c_kind l D cs (xo := ad 0) (xr := ad 1) (xd := ad 18) (ta := ad 20) (tb := ad 24) (xi := ad 28) (aa := ad 37) (sa := ad 39) (lf := lf) (fg := fg) (tk := ad 21) (tq := ad 22) (tw := ad 23) (kf := kf) (sf := sf) (wf := wf) (pn := pn) (aw := aw) (me := me) (sp := sp) (tn := tn) (x := x) hT.S hT.tnl hT.pnl) rfl (by decide) rfl, WC.same [41, 45] (c_mkindOut l D cs (mo := ad 41) (ml := ad 42) (mz := ad 43) (mi := ad 44) (mt := ad 45) (mv := ad 46) (mp := ad 47) (md := ad 48) (mc := ad 49) (mk := ad 50) (mq := ad 51) (mr := ad 52) (su := fg) (it := decide (0 < pn)) (nby := nI len) (lt := lf) (pl := mpl) (tok := mtk0) (va := mva0) (be := mbe) (wr := mwr) (am := nI kn) (td := nI bl) (tf := tf) (tn := tn) (x := x) hT.t1 hT.tnl h) rfl (by decide) ?_, hI, _, rfl⟩
    rw [if_neg (bf_nt h)]
  · refine ⟨_, _, _, WC.same [0, 20, 21, 22, 23] (c_kind l D cs (xo := ad 0) (xr := ad 1) (xd := ad 18) (ta := ad 20) (tb := ad 24) (xi := ad 28) (aa := ad 37) (sa := ad 39) (lf := lf) (fg := fg) (tk := ad 21) (tq := ad 22) (tw := ad 23) (kf := kf) (sf := sf) (wf := wf) (pn := pn) (aw := aw) (me := me) (sp := sp) (tn := tn) (x := nI q) hT.S hT.tnl hT.pnl) rfl (by decide) rfl, WC.same [41, 45] (c_mkindIn l D cs (mo := ad 41) (ml := ad 42) (mz := ad 43) (mi := ad 44) (mt := ad 45) (mv := ad 46) (mp := ad 47) (md := ad 48) (mc := ad 49) (mk := ad 50) (mq := ad 51) (mr := ad 52) (su := fg) (it := decide (0 < pn)) (nby := nI len) (lt := lf) (pl := mpl) (tok := mtk0) (va := mva0) (be := mbe) (wr := mwr) (am := nI kn) (td := nI bl) (tf := tf) (tn := tn) (q := q) hT.t1 hT.tnl hq) rfl (by decide) ?_, hI, _, rfl⟩
    rw [if_pos (inB_in (by have := hT.tnl; omega) hq), hT.k hq]

set_option maxHeartbeats 4000000 in
set_option maxRecDepth 100000 in
theorem tk_tieHas {l : Launch} {D : va_G} {cs : Nat → ClassId} {ad : Nat → Nat} {ws : va_W} (hI : Inv cs ad ws) (x y : Int32) : Goes2 l D cs ad yX5_tieHas wsX5_tieHas ({ frames := 3, cells := 0, slots := 0, locals := 68 }) yX6_tieHas wsX6_tieHas ({ frames := 2, cells := 0, slots := 0, locals := 49 }) [.int x, .int y] ws := by
  refine hI.opn (G := fun ws => Goes2 l D cs ad yX5_tieHas wsX5_tieHas ({ frames := 3, cells := 0, slots := 0, locals := 68 }) yX6_tieHas wsX6_tieHas ({ frames := 2, cells := 0, slots := 0, locals := 49 }) [.int x, .int y] ws) ?_
  clear hI
  intro g gi lf fg sd la an rf f len pl nx so va pn tn aw me sp kf sf wf p2 t2 a2 m2 s2 kg sg wg ip it2 ia im is2 ik iq iw kn af bl bf mpl mtk0 mva0 mbe mwr laf szf itf tf mvf d mf zf qf h1 h2 h3 h4 hA hIm hI
  obtain ⟨hg, hgi⟩ := h1
  obtain ⟨hlen, hbl, hkn, hSg⟩ := h3
  obtain ⟨hT, hz⟩ := h4
  have hRw := h2
  clear h2
  show Goes2 l D cs ad yX5_tieHas wsX5_tieHas ({ frames := 3, cells := 0, slots := 0, locals := 68 }) yX6_tieHas wsX6_tieHas ({ frames := 2, cells := 0, slots := 0, locals := 49 }) [.int x, .int y] (wA cs ad g gi lf fg sd la an rf f len pl nx so va pn tn aw me sp kf sf wf p2 t2 a2 m2 s2 kg sg wg ip it2 ia im is2 ik iq iw kn af bl bf ++ wB cs ad lf fg f len kn bl bf (decide (0 < pn)) mpl mtk0 mva0 mbe mwr laf szf itf tf mvf d mf zf qf)
  rcases inB_c (n := tn) (by have := hT.tnl; omega) x with h | ⟨q, hq, rfl⟩
  · refine ⟨_, _, _, WC.same [0, 20, 21, 22, 23] (c_tieHas l D cs (xo := ad 0) (xr := ad 1) (xd := ad 18) (ta := ad 20) (tb := ad 24) (xi := ad 28) (aa := ad 37) (sa := ad 39) (lf := lf) (fg := fg) (tk := ad 21) (tq := ad 22) (tw := ad 23) (kf := kf) (sf := sf) (wf := wf) (pn := pn) (aw := aw) (me := me) (sp := sp) (tn := tn) (x := x) (y := y) hT.S hT.tnl hT.pnl) rfl (by decide) rfl, WC.same [41, 45] (c_mtieHasOut l D cs (mo := ad 41) (ml := ad 42) (mz := ad 43) (mi := ad 44) (mt := ad 45) (mv := ad 46) (mp := ad 47) (md := ad 48) (mc := ad 49) (mk := ad 50) (mq := ad 51) (mr := ad 52) (su := fg) (it := decide (0 < pn)) (nby := nI len) (lt := lf) (pl := mpl) (tok := mtk0) (va := mva0) (be := mbe) (wr := mwr) (am := nI kn) (td := nI bl) (tf := tf) (tn := tn) (x := x) (y := y) hT.t1 hT.tnl h) rfl (by decide) ?_, hI, _, rfl⟩
    rw [if_neg (bf_nt h)]
  · refine ⟨_, _, _, WC.same [0, 20, 21, 22, 23] (c_tieHas l D cs (xo := ad 0) (xr := ad 1) (xd := ad 18) (ta := ad 20) (tb := ad 24) (xi := ad 28) (aa := ad 37) (sa := ad 39) (lf := lf) (fg := fg) (tk := ad 21) (tq := ad 22) (tw := ad 23) (kf := kf) (sf := sf) (wf := wf) (pn := pn) (aw := aw) (me := me) (sp := sp) (tn := tn) (x := nI q) (y := y) hT.S hT.tnl hT.pnl) rfl (by decide) rfl, WC.same [41, 45] (c_mtieHasIn l D cs (mo := ad 41) (ml := ad 42) (mz := ad 43) (mi := ad 44) (mt := ad 45) (mv := ad 46) (mp := ad 47) (md := ad 48) (mc := ad 49) (mk := ad 50) (mq := ad 51) (mr := ad 52) (su := fg) (it := decide (0 < pn)) (nby := nI len) (lt := lf) (pl := mpl) (tok := mtk0) (va := mva0) (be := mbe) (wr := mwr) (am := nI kn) (td := nI bl) (tf := tf) (tn := tn) (q := q) (y := y) hT.t1 hT.tnl (hT.M hz) hT.K hq) rfl (by decide) ?_, hI, _, rfl⟩
    rw [if_pos (inB_in (by have := hT.tnl; omega) hq), hT.s hq, hT.w hq, hT.k hq, inI_02, hT.t0, hT.t4]
    by_cases h0 : y = 0
    · simp only [h0, decide_true, Bool.true_or, ↓reduceIte]
    · by_cases h1 : y = 1
      · subst h1; first | rfl | simp
      · by_cases h2 : y = 2
        · subst h2; first | rfl | simp
        · simp only [h0, h1, h2, decide_false, Bool.or_false, Bool.false_eq_true, ↓reduceIte]

set_option maxHeartbeats 4000000 in
set_option maxRecDepth 100000 in
theorem tk_tableHas {l : Launch} {D : va_G} {cs : Nat → ClassId} {ad : Nat → Nat} {ws : va_W} (hI : Inv cs ad ws) (x : Int32) : Goes2 l D cs ad yX5_tableHas wsX5_tableHas ({ frames := 4, cells := 0, slots := 0, locals := 91 }) yX6_tableHas wsX6_tableHas ({ frames := 3, cells := 0, slots := 0, locals := 72 }) [.int x] ws := by
  refine hI.opn (G := fun ws => Goes2 l D cs ad yX5_tableHas wsX5_tableHas ({ frames := 4, cells := 0, slots := 0, locals := 91 }) yX6_tableHas wsX6_tableHas ({ frames := 3, cells := 0, slots := 0, locals := 72 }) [.int x] ws) ?_
  clear hI
  intro g gi lf fg sd la an rf f len pl nx so va pn tn aw me sp kf sf wf p2 t2 a2 m2 s2 kg sg wg ip it2 ia im is2 ik iq iw kn af bl bf mpl mtk0 mva0 mbe mwr laf szf itf tf mvf d mf zf qf h1 h2 h3 h4 hA hIm hI
  obtain ⟨hg, hgi⟩ := h1
  obtain ⟨hlen, hbl, hkn, hSg⟩ := h3
  obtain ⟨hT, hz⟩ := h4
  have hRw := h2
  clear h2
  show Goes2 l D cs ad yX5_tableHas wsX5_tableHas ({ frames := 4, cells := 0, slots := 0, locals := 91 }) yX6_tableHas wsX6_tableHas ({ frames := 3, cells := 0, slots := 0, locals := 72 }) [.int x] (wA cs ad g gi lf fg sd la an rf f len pl nx so va pn tn aw me sp kf sf wf p2 t2 a2 m2 s2 kg sg wg ip it2 ia im is2 ik iq iw kn af bl bf ++ wB cs ad lf fg f len kn bl bf (decide (0 < pn)) mpl mtk0 mva0 mbe mwr laf szf itf tf mvf d mf zf qf)
  refine ⟨_, _, _, WC.same [0, 20, 21, 22, 23] (c_tableHas l D cs (xo := ad 0) (xr := ad 1) (xd := ad 18) (ta := ad 20) (tb := ad 24) (xi := ad 28) (aa := ad 37) (sa := ad 39) (lf := lf) (fg := fg) (tk := ad 21) (tq := ad 22) (tw := ad 23) (kf := kf) (sf := sf) (wf := wf) (pn := pn) (aw := aw) (me := me) (sp := sp) (tn := tn) (x := x) hT.S hT.tnl hT.pnl) rfl (by decide) rfl, WC.same [41, 45] (c_mtableHas l D cs (mo := ad 41) (ml := ad 42) (mz := ad 43) (mi := ad 44) (mt := ad 45) (mv := ad 46) (mp := ad 47) (md := ad 48) (mc := ad 49) (mk := ad 50) (mq := ad 51) (mr := ad 52) (su := fg) (it := decide (0 < pn)) (nby := nI len) (lt := lf) (pl := mpl) (tok := mtk0) (va := mva0) (be := mbe) (wr := mwr) (am := nI kn) (td := nI bl) (tf := tf) (tn := tn) (x := x) hT.t1 hT.tnl (hT.M hz) hT.K) rfl (by decide) ?_, hI, _, rfl⟩
  simp only [itE hT.pnl, hT.t0, hT.t2, hT.t3, hT.t4, hT.W]

set_option maxHeartbeats 4000000 in
set_option maxRecDepth 100000 in
theorem tk_worth {l : Launch} {D : va_G} {cs : Nat → ClassId} {ad : Nat → Nat} {ws : va_W} (hI : Inv cs ad ws) (x : Int32) : Goes2 l D cs ad yX5_worth wsX5_worth ({ frames := 4, cells := 0, slots := 0, locals := 91 }) yX6_worth wsX6_worth ({ frames := 3, cells := 0, slots := 0, locals := 72 }) [.int x] ws := by
  refine hI.opn (G := fun ws => Goes2 l D cs ad yX5_worth wsX5_worth ({ frames := 4, cells := 0, slots := 0, locals := 91 }) yX6_worth wsX6_worth ({ frames := 3, cells := 0, slots := 0, locals := 72 }) [.int x] ws) ?_
  clear hI
  intro g gi lf fg sd la an rf f len pl nx so va pn tn aw me sp kf sf wf p2 t2 a2 m2 s2 kg sg wg ip it2 ia im is2 ik iq iw kn af bl bf mpl mtk0 mva0 mbe mwr laf szf itf tf mvf d mf zf qf h1 h2 h3 h4 hA hIm hI
  obtain ⟨hg, hgi⟩ := h1
  obtain ⟨hlen, hbl, hkn, hSg⟩ := h3
  obtain ⟨hT, hz⟩ := h4
  have hRw := h2
  clear h2
  show Goes2 l D cs ad yX5_worth wsX5_worth ({ frames := 4, cells := 0, slots := 0, locals := 91 }) yX6_worth wsX6_worth ({ frames := 3, cells := 0, slots := 0, locals := 72 }) [.int x] (wA cs ad g gi lf fg sd la an rf f len pl nx so va pn tn aw me sp kf sf wf p2 t2 a2 m2 s2 kg sg wg ip it2 ia im is2 ik iq iw kn af bl bf ++ wB cs ad lf fg f len kn bl bf (decide (0 < pn)) mpl mtk0 mva0 mbe mwr laf szf itf tf mvf d mf zf qf)
  refine ⟨_, _, _, WC.same [0, 20, 21, 22, 23] (c_worth l D cs (xo := ad 0) (xr := ad 1) (xd := ad 18) (ta := ad 20) (tb := ad 24) (xi := ad 28) (aa := ad 37) (sa := ad 39) (lf := lf) (fg := fg) (tk := ad 21) (tq := ad 22) (tw := ad 23) (kf := kf) (sf := sf) (wf := wf) (pn := pn) (aw := aw) (me := me) (sp := sp) (tn := tn) (x := x) hT.S hT.tnl hT.pnl) rfl (by decide) rfl, WC.same [41, 45] (c_mworth l D cs (mo := ad 41) (ml := ad 42) (mz := ad 43) (mi := ad 44) (mt := ad 45) (mv := ad 46) (mp := ad 47) (md := ad 48) (mc := ad 49) (mk := ad 50) (mq := ad 51) (mr := ad 52) (su := fg) (it := decide (0 < pn)) (nby := nI len) (lt := lf) (pl := mpl) (tok := mtk0) (va := mva0) (be := mbe) (wr := mwr) (am := nI kn) (td := nI bl) (tf := tf) (tn := tn) (x := x) hT.t1 hT.tnl (hT.M hz) hT.K) rfl (by decide) ?_, hI, _, rfl⟩
  simp only [itE hT.pnl, hT.t0, hT.W]

set_option maxHeartbeats 4000000 in
set_option maxRecDepth 100000 in
theorem tk_adds {l : Launch} {D : va_G} {cs : Nat → ClassId} {ad : Nat → Nat} {ws : va_W} (hI : Inv cs ad ws) (x y : Int32) : Goes2 l D cs ad yX5_adds wsX5_adds ({ frames := 5, cells := 0, slots := 0, locals := 113 }) yX6_adds wsX6_adds ({ frames := 4, cells := 0, slots := 0, locals := 94 }) [.int x, .int y] ws := by
  refine hI.opn (G := fun ws => Goes2 l D cs ad yX5_adds wsX5_adds ({ frames := 5, cells := 0, slots := 0, locals := 113 }) yX6_adds wsX6_adds ({ frames := 4, cells := 0, slots := 0, locals := 94 }) [.int x, .int y] ws) ?_
  clear hI
  intro g gi lf fg sd la an rf f len pl nx so va pn tn aw me sp kf sf wf p2 t2 a2 m2 s2 kg sg wg ip it2 ia im is2 ik iq iw kn af bl bf mpl mtk0 mva0 mbe mwr laf szf itf tf mvf d mf zf qf h1 h2 h3 h4 hA hIm hI
  obtain ⟨hg, hgi⟩ := h1
  obtain ⟨hlen, hbl, hkn, hSg⟩ := h3
  obtain ⟨hT, hz⟩ := h4
  have hRw := h2
  clear h2
  show Goes2 l D cs ad yX5_adds wsX5_adds ({ frames := 5, cells := 0, slots := 0, locals := 113 }) yX6_adds wsX6_adds ({ frames := 4, cells := 0, slots := 0, locals := 94 }) [.int x, .int y] (wA cs ad g gi lf fg sd la an rf f len pl nx so va pn tn aw me sp kf sf wf p2 t2 a2 m2 s2 kg sg wg ip it2 ia im is2 ik iq iw kn af bl bf ++ wB cs ad lf fg f len kn bl bf (decide (0 < pn)) mpl mtk0 mva0 mbe mwr laf szf itf tf mvf d mf zf qf)
  refine ⟨_, _, _, WC.same [0, 20, 21, 22, 23] (c_adds l D cs (xo := ad 0) (xr := ad 1) (xd := ad 18) (ta := ad 20) (tb := ad 24) (xi := ad 28) (aa := ad 37) (sa := ad 39) (lf := lf) (fg := fg) (tk := ad 21) (tq := ad 22) (tw := ad 23) (kf := kf) (sf := sf) (wf := wf) (pn := pn) (aw := aw) (me := me) (sp := sp) (tn := tn) (x := x) (y := y) hT.S hT.tnl hT.pnl) rfl (by decide) rfl, WC.same [41, 45] (c_madds l D cs (mo := ad 41) (ml := ad 42) (mz := ad 43) (mi := ad 44) (mt := ad 45) (mv := ad 46) (mp := ad 47) (md := ad 48) (mc := ad 49) (mk := ad 50) (mq := ad 51) (mr := ad 52) (su := fg) (it := decide (0 < pn)) (nby := nI len) (lt := lf) (pl := mpl) (tok := mtk0) (va := mva0) (be := mbe) (wr := mwr) (am := nI kn) (td := nI bl) (tf := tf) (tn := tn) (pn := pn) (x := x) (y := y) hT.t1 hT.tnl (hT.M hz) hT.K hT.t0 hT.pnl) rfl (by decide) ?_, hI, _, rfl⟩
  simp only [hT.t0, hT.A]

set_option maxHeartbeats 4000000 in
set_option maxRecDepth 100000 in
theorem tk_missed {l : Launch} {D : va_G} {cs : Nat → ClassId} {ad : Nat → Nat} {ws : va_W} (hI : Inv cs ad ws) (x : Int32) : Goes2 l D cs ad yX5_missed wsX5_missed ({ frames := 5, cells := 0, slots := 0, locals := 112 }) yX6_missed wsX6_missed ({ frames := 4, cells := 0, slots := 0, locals := 93 }) [.int x] ws := by
  refine hI.opn (G := fun ws => Goes2 l D cs ad yX5_missed wsX5_missed ({ frames := 5, cells := 0, slots := 0, locals := 112 }) yX6_missed wsX6_missed ({ frames := 4, cells := 0, slots := 0, locals := 93 }) [.int x] ws) ?_
  clear hI
  intro g gi lf fg sd la an rf f len pl nx so va pn tn aw me sp kf sf wf p2 t2 a2 m2 s2 kg sg wg ip it2 ia im is2 ik iq iw kn af bl bf mpl mtk0 mva0 mbe mwr laf szf itf tf mvf d mf zf qf h1 h2 h3 h4 hA hIm hI
  obtain ⟨hg, hgi⟩ := h1
  obtain ⟨hlen, hbl, hkn, hSg⟩ := h3
  obtain ⟨hT, hz⟩ := h4
  have hRw := h2
  clear h2
  show Goes2 l D cs ad yX5_missed wsX5_missed ({ frames := 5, cells := 0, slots := 0, locals := 112 }) yX6_missed wsX6_missed ({ frames := 4, cells := 0, slots := 0, locals := 93 }) [.int x] (wA cs ad g gi lf fg sd la an rf f len pl nx so va pn tn aw me sp kf sf wf p2 t2 a2 m2 s2 kg sg wg ip it2 ia im is2 ik iq iw kn af bl bf ++ wB cs ad lf fg f len kn bl bf (decide (0 < pn)) mpl mtk0 mva0 mbe mwr laf szf itf tf mvf d mf zf qf)
  refine ⟨_, _, _, WC.same [0, 20, 21, 22, 23] (c_missed l D cs (xo := ad 0) (xr := ad 1) (xd := ad 18) (ta := ad 20) (tb := ad 24) (xi := ad 28) (aa := ad 37) (sa := ad 39) (lf := lf) (fg := fg) (tk := ad 21) (tq := ad 22) (tw := ad 23) (kf := kf) (sf := sf) (wf := wf) (pn := pn) (aw := aw) (me := me) (sp := sp) (tn := tn) (x := x) hT.S hT.tnl hT.pnl) rfl (by decide) rfl, WC.same [41, 45] (c_mmissed l D cs (mo := ad 41) (ml := ad 42) (mz := ad 43) (mi := ad 44) (mt := ad 45) (mv := ad 46) (mp := ad 47) (md := ad 48) (mc := ad 49) (mk := ad 50) (mq := ad 51) (mr := ad 52) (su := fg) (it := decide (0 < pn)) (nby := nI len) (lt := lf) (pl := mpl) (tok := mtk0) (va := mva0) (be := mbe) (wr := mwr) (am := nI kn) (td := nI bl) (tf := tf) (tn := tn) (pn := pn) (x := x) hT.t1 hT.tnl (hT.M hz) hT.K hT.t0 hT.pnl) rfl (by decide) ?_, hI, _, rfl⟩
  simp only [hT.t0, hT.L]

set_option maxHeartbeats 4000000 in
set_option maxRecDepth 100000 in
theorem tk_due {l : Launch} {D : va_G} {cs : Nat → ClassId} {ad : Nat → Nat} {ws : va_W} (hI : Inv cs ad ws) (x y : Int32) : Goes2 l D cs ad yX5_due wsX5_due ({ frames := 5, cells := 0, slots := 0, locals := 113 }) yX6_due wsX6_due ({ frames := 4, cells := 0, slots := 0, locals := 94 }) [.int x, .int y] ws := by
  refine hI.opn (G := fun ws => Goes2 l D cs ad yX5_due wsX5_due ({ frames := 5, cells := 0, slots := 0, locals := 113 }) yX6_due wsX6_due ({ frames := 4, cells := 0, slots := 0, locals := 94 }) [.int x, .int y] ws) ?_
  clear hI
  intro g gi lf fg sd la an rf f len pl nx so va pn tn aw me sp kf sf wf p2 t2 a2 m2 s2 kg sg wg ip it2 ia im is2 ik iq iw kn af bl bf mpl mtk0 mva0 mbe mwr laf szf itf tf mvf d mf zf qf h1 h2 h3 h4 hA hIm hI
  obtain ⟨hg, hgi⟩ := h1
  obtain ⟨hlen, hbl, hkn, hSg⟩ := h3
  obtain ⟨hT, hz⟩ := h4
  have hRw := h2
  clear h2
  show Goes2 l D cs ad yX5_due wsX5_due ({ frames := 5, cells := 0, slots := 0, locals := 113 }) yX6_due wsX6_due ({ frames := 4, cells := 0, slots := 0, locals := 94 }) [.int x, .int y] (wA cs ad g gi lf fg sd la an rf f len pl nx so va pn tn aw me sp kf sf wf p2 t2 a2 m2 s2 kg sg wg ip it2 ia im is2 ik iq iw kn af bl bf ++ wB cs ad lf fg f len kn bl bf (decide (0 < pn)) mpl mtk0 mva0 mbe mwr laf szf itf tf mvf d mf zf qf)
  refine ⟨_, _, _, WC.same [0, 20, 21, 22, 23] (c_due l D cs (xo := ad 0) (xr := ad 1) (xd := ad 18) (ta := ad 20) (tb := ad 24) (xi := ad 28) (aa := ad 37) (sa := ad 39) (lf := lf) (fg := fg) (tk := ad 21) (tq := ad 22) (tw := ad 23) (kf := kf) (sf := sf) (wf := wf) (pn := pn) (aw := aw) (me := me) (sp := sp) (tn := tn) (x := x) (y := y) hT.S hT.tnl hT.pnl) rfl (by decide) rfl, WC.same [41, 45] (c_mdue l D cs (mo := ad 41) (ml := ad 42) (mz := ad 43) (mi := ad 44) (mt := ad 45) (mv := ad 46) (mp := ad 47) (md := ad 48) (mc := ad 49) (mk := ad 50) (mq := ad 51) (mr := ad 52) (su := fg) (it := decide (0 < pn)) (nby := nI len) (lt := lf) (pl := mpl) (tok := mtk0) (va := mva0) (be := mbe) (wr := mwr) (am := nI kn) (td := nI bl) (tf := tf) (pn := pn) (tn := tn) (x := x) (y := y) hT.t1 hT.tnl (hT.M hz) hT.K hT.t0 hT.pnl) rfl (by decide) ?_, hI, _, rfl⟩
  simp only [hT.du]

set_option maxHeartbeats 4000000 in
set_option maxRecDepth 100000 in
theorem tk_together {l : Launch} {D : va_G} {cs : Nat → ClassId} {ad : Nat → Nat} {ws : va_W} (hI : Inv cs ad ws) (x : Int32) : Goes2 l D cs ad yX5_together wsX5_together ({ frames := 6, cells := 0, slots := 0, locals := 134 }) yX6_together wsX6_together ({ frames := 4, cells := 0, slots := 0, locals := 93 }) [.int x] ws := by
  refine hI.opn (G := fun ws => Goes2 l D cs ad yX5_together wsX5_together ({ frames := 6, cells := 0, slots := 0, locals := 134 }) yX6_together wsX6_together ({ frames := 4, cells := 0, slots := 0, locals := 93 }) [.int x] ws) ?_
  clear hI
  intro g gi lf fg sd la an rf f len pl nx so va pn tn aw me sp kf sf wf p2 t2 a2 m2 s2 kg sg wg ip it2 ia im is2 ik iq iw kn af bl bf mpl mtk0 mva0 mbe mwr laf szf itf tf mvf d mf zf qf h1 h2 h3 h4 hA hIm hI
  obtain ⟨hg, hgi⟩ := h1
  obtain ⟨hlen, hbl, hkn, hSg⟩ := h3
  obtain ⟨hT, hz⟩ := h4
  have hRw := h2
  clear h2
  show Goes2 l D cs ad yX5_together wsX5_together ({ frames := 6, cells := 0, slots := 0, locals := 134 }) yX6_together wsX6_together ({ frames := 4, cells := 0, slots := 0, locals := 93 }) [.int x] (wA cs ad g gi lf fg sd la an rf f len pl nx so va pn tn aw me sp kf sf wf p2 t2 a2 m2 s2 kg sg wg ip it2 ia im is2 ik iq iw kn af bl bf ++ wB cs ad lf fg f len kn bl bf (decide (0 < pn)) mpl mtk0 mva0 mbe mwr laf szf itf tf mvf d mf zf qf)
  refine ⟨_, _, _, WC.same [0, 20, 21, 22, 23] (c_together l D cs (xo := ad 0) (xr := ad 1) (xd := ad 18) (ta := ad 20) (tb := ad 24) (xi := ad 28) (aa := ad 37) (sa := ad 39) (lf := lf) (fg := fg) (tk := ad 21) (tq := ad 22) (tw := ad 23) (kf := kf) (sf := sf) (wf := wf) (pn := pn) (aw := aw) (me := me) (sp := sp) (tn := tn) (x := x) hT.S hT.tnl hT.pnl) rfl (by decide) rfl, WC.same [41, 45] (c_mtogether l D cs (mo := ad 41) (ml := ad 42) (mz := ad 43) (mi := ad 44) (mt := ad 45) (mv := ad 46) (mp := ad 47) (md := ad 48) (mc := ad 49) (mk := ad 50) (mq := ad 51) (mr := ad 52) (su := fg) (it := decide (0 < pn)) (nby := nI len) (lt := lf) (pl := mpl) (tok := mtk0) (va := mva0) (be := mbe) (wr := mwr) (am := nI kn) (td := nI bl) (tf := tf) (pn := pn) (tn := tn) (x := x) hT.t1 hT.tnl (hT.M hz) hT.K hT.t0 hT.pnl) rfl (by decide) ?_, hI, _, rfl⟩
  simp only [itE hT.pnl, hT.to, tm_to hT.pnl]

set_option maxHeartbeats 4000000 in
set_option maxRecDepth 100000 in
theorem tk_whoAway {l : Launch} {D : va_G} {cs : Nat → ClassId} {ad : Nat → Nat} {ws : va_W} (hI : Inv cs ad ws) (x y : Int32) : Goes2 l D cs ad yX5_whoAway wsX5_whoAway ({ frames := 4, cells := 0, slots := 0, locals := 91 }) yX6_whoAway wsX6_whoAway ({ frames := 3, cells := 0, slots := 0, locals := 72 }) [.int x, .int y] ws := by
  refine hI.opn (G := fun ws => Goes2 l D cs ad yX5_whoAway wsX5_whoAway ({ frames := 4, cells := 0, slots := 0, locals := 91 }) yX6_whoAway wsX6_whoAway ({ frames := 3, cells := 0, slots := 0, locals := 72 }) [.int x, .int y] ws) ?_
  clear hI
  intro g gi lf fg sd la an rf f len pl nx so va pn tn aw me sp kf sf wf p2 t2 a2 m2 s2 kg sg wg ip it2 ia im is2 ik iq iw kn af bl bf mpl mtk0 mva0 mbe mwr laf szf itf tf mvf d mf zf qf h1 h2 h3 h4 hA hIm hI
  obtain ⟨hg, hgi⟩ := h1
  obtain ⟨hlen, hbl, hkn, hSg⟩ := h3
  obtain ⟨hT, hz⟩ := h4
  have hRw := h2
  clear h2
  show Goes2 l D cs ad yX5_whoAway wsX5_whoAway ({ frames := 4, cells := 0, slots := 0, locals := 91 }) yX6_whoAway wsX6_whoAway ({ frames := 3, cells := 0, slots := 0, locals := 72 }) [.int x, .int y] (wA cs ad g gi lf fg sd la an rf f len pl nx so va pn tn aw me sp kf sf wf p2 t2 a2 m2 s2 kg sg wg ip it2 ia im is2 ik iq iw kn af bl bf ++ wB cs ad lf fg f len kn bl bf (decide (0 < pn)) mpl mtk0 mva0 mbe mwr laf szf itf tf mvf d mf zf qf)
  refine ⟨_, _, _, WC.same [0, 20, 21, 22, 23] (c_whoAway l D cs (xo := ad 0) (xr := ad 1) (xd := ad 18) (ta := ad 20) (tb := ad 24) (xi := ad 28) (aa := ad 37) (sa := ad 39) (lf := lf) (fg := fg) (tk := ad 21) (tq := ad 22) (tw := ad 23) (kf := kf) (sf := sf) (wf := wf) (pn := pn) (aw := aw) (me := me) (sp := sp) (tn := tn) (x := x) (y := y) hT.S hT.tnl hT.pnl) rfl (by decide) rfl, WC.same [41, 45] (c_mwhoAway l D cs (mo := ad 41) (ml := ad 42) (mz := ad 43) (mi := ad 44) (mt := ad 45) (mv := ad 46) (mp := ad 47) (md := ad 48) (mc := ad 49) (mk := ad 50) (mq := ad 51) (mr := ad 52) (su := fg) (it := decide (0 < pn)) (nby := nI len) (lt := lf) (pl := mpl) (tok := mtk0) (va := mva0) (be := mbe) (wr := mwr) (am := nI kn) (td := nI bl) (tf := tf) (pn := pn) (tn := tn) (x := x) (y := y) hT.t1 hT.tnl (hT.M hz) hT.K hT.t0 hT.pnl) rfl (by decide) ?_, hI, _, rfl⟩
  simp only [itE hT.pnl, hT.wa]

set_option maxHeartbeats 4000000 in
set_option maxRecDepth 100000 in
theorem tk_enough {l : Launch} {D : va_G} {cs : Nat → ClassId} {ad : Nat → Nat} {ws : va_W} (hI : Inv cs ad ws) (x y : Int32) : Goes2 l D cs ad yX5_enough wsX5_enough ({ frames := 4, cells := 0, slots := 0, locals := 91 }) yX6_enough wsX6_enough ({ frames := 3, cells := 0, slots := 0, locals := 72 }) [.int x, .int y] ws := by
  refine hI.opn (G := fun ws => Goes2 l D cs ad yX5_enough wsX5_enough ({ frames := 4, cells := 0, slots := 0, locals := 91 }) yX6_enough wsX6_enough ({ frames := 3, cells := 0, slots := 0, locals := 72 }) [.int x, .int y] ws) ?_
  clear hI
  intro g gi lf fg sd la an rf f len pl nx so va pn tn aw me sp kf sf wf p2 t2 a2 m2 s2 kg sg wg ip it2 ia im is2 ik iq iw kn af bl bf mpl mtk0 mva0 mbe mwr laf szf itf tf mvf d mf zf qf h1 h2 h3 h4 hA hIm hI
  obtain ⟨hg, hgi⟩ := h1
  obtain ⟨hlen, hbl, hkn, hSg⟩ := h3
  obtain ⟨hT, hz⟩ := h4
  have hRw := h2
  clear h2
  show Goes2 l D cs ad yX5_enough wsX5_enough ({ frames := 4, cells := 0, slots := 0, locals := 91 }) yX6_enough wsX6_enough ({ frames := 3, cells := 0, slots := 0, locals := 72 }) [.int x, .int y] (wA cs ad g gi lf fg sd la an rf f len pl nx so va pn tn aw me sp kf sf wf p2 t2 a2 m2 s2 kg sg wg ip it2 ia im is2 ik iq iw kn af bl bf ++ wB cs ad lf fg f len kn bl bf (decide (0 < pn)) mpl mtk0 mva0 mbe mwr laf szf itf tf mvf d mf zf qf)
  refine ⟨_, _, _, WC.same [0, 20, 21, 22, 23] (c_enough l D cs (xo := ad 0) (xr := ad 1) (xd := ad 18) (ta := ad 20) (tb := ad 24) (xi := ad 28) (aa := ad 37) (sa := ad 39) (lf := lf) (fg := fg) (tk := ad 21) (tq := ad 22) (tw := ad 23) (kf := kf) (sf := sf) (wf := wf) (pn := pn) (aw := aw) (me := me) (sp := sp) (tn := tn) (x := x) (y := y) hT.S hT.tnl hT.pnl) rfl (by decide) rfl, WC.same [41, 45] (c_menough l D cs (mo := ad 41) (ml := ad 42) (mz := ad 43) (mi := ad 44) (mt := ad 45) (mv := ad 46) (mp := ad 47) (md := ad 48) (mc := ad 49) (mk := ad 50) (mq := ad 51) (mr := ad 52) (su := fg) (it := decide (0 < pn)) (nby := nI len) (lt := lf) (pl := mpl) (tok := mtk0) (va := mva0) (be := mbe) (wr := mwr) (am := nI kn) (td := nI bl) (tf := tf) (pn := pn) (tn := tn) (x := x) (y := y) hT.t1 hT.tnl (hT.M hz) hT.K hT.t0 hT.pnl) rfl (by decide) ?_, hI, _, rfl⟩
  simp only [itE hT.pnl, hT.eN]

set_option maxHeartbeats 4000000 in
set_option maxRecDepth 100000 in
theorem tk_best {l : Launch} {D : va_G} {cs : Nat → ClassId} {ad : Nat → Nat} {ws : va_W} (hI : Inv cs ad ws) (x : Int32) : Goes2 l D cs ad yX5_best wsX5_best ({ frames := 4, cells := 0, slots := 0, locals := 91 }) yX6_best wsX6_best ({ frames := 3, cells := 0, slots := 0, locals := 72 }) [.int x] ws := by
  refine hI.opn (G := fun ws => Goes2 l D cs ad yX5_best wsX5_best ({ frames := 4, cells := 0, slots := 0, locals := 91 }) yX6_best wsX6_best ({ frames := 3, cells := 0, slots := 0, locals := 72 }) [.int x] ws) ?_
  clear hI
  intro g gi lf fg sd la an rf f len pl nx so va pn tn aw me sp kf sf wf p2 t2 a2 m2 s2 kg sg wg ip it2 ia im is2 ik iq iw kn af bl bf mpl mtk0 mva0 mbe mwr laf szf itf tf mvf d mf zf qf h1 h2 h3 h4 hA hIm hI
  obtain ⟨hg, hgi⟩ := h1
  obtain ⟨hlen, hbl, hkn, hSg⟩ := h3
  obtain ⟨hT, hz⟩ := h4
  have hRw := h2
  clear h2
  show Goes2 l D cs ad yX5_best wsX5_best ({ frames := 4, cells := 0, slots := 0, locals := 91 }) yX6_best wsX6_best ({ frames := 3, cells := 0, slots := 0, locals := 72 }) [.int x] (wA cs ad g gi lf fg sd la an rf f len pl nx so va pn tn aw me sp kf sf wf p2 t2 a2 m2 s2 kg sg wg ip it2 ia im is2 ik iq iw kn af bl bf ++ wB cs ad lf fg f len kn bl bf (decide (0 < pn)) mpl mtk0 mva0 mbe mwr laf szf itf tf mvf d mf zf qf)
  refine ⟨_, _, _, WC.same [0, 20, 21, 22, 23] (c_best l D cs (xo := ad 0) (xr := ad 1) (xd := ad 18) (ta := ad 20) (tb := ad 24) (xi := ad 28) (aa := ad 37) (sa := ad 39) (lf := lf) (fg := fg) (tk := ad 21) (tq := ad 22) (tw := ad 23) (kf := kf) (sf := sf) (wf := wf) (pn := pn) (aw := aw) (me := me) (sp := sp) (tn := tn) (x := x) hT.S hT.tnl hT.pnl) rfl (by decide) rfl, WC.same [41, 45] (c_mbest l D cs (mo := ad 41) (ml := ad 42) (mz := ad 43) (mi := ad 44) (mt := ad 45) (mv := ad 46) (mp := ad 47) (md := ad 48) (mc := ad 49) (mk := ad 50) (mq := ad 51) (mr := ad 52) (su := fg) (it := decide (0 < pn)) (nby := nI len) (lt := lf) (pl := mpl) (tok := mtk0) (va := mva0) (be := mbe) (wr := mwr) (am := nI kn) (td := nI bl) (tf := tf) (pn := pn) (tn := tn) (x := x) hT.t1 hT.tnl (hT.M hz) hT.K hT.t0 hT.pnl hT.B) rfl (by decide) ?_, hI, _, rfl⟩
  simp only [itE hT.pnl, hT.eN]

set_option maxHeartbeats 4000000 in
set_option maxRecDepth 100000 in
theorem tk_bring {l : Launch} {D : va_G} {cs : Nat → ClassId} {ad : Nat → Nat} {ws : va_W} (hI : Inv cs ad ws) (x : Int32) : Goes2 l D cs ad yX5_bring wsX5_bring ({ frames := 5, cells := 0, slots := 0, locals := 113 }) yX6_bring wsX6_bring ({ frames := 4, cells := 0, slots := 0, locals := 94 }) [.int x] ws := by
  refine hI.opn (G := fun ws => Goes2 l D cs ad yX5_bring wsX5_bring ({ frames := 5, cells := 0, slots := 0, locals := 113 }) yX6_bring wsX6_bring ({ frames := 4, cells := 0, slots := 0, locals := 94 }) [.int x] ws) ?_
  clear hI
  intro g gi lf fg sd la an rf f len pl nx so va pn tn aw me sp kf sf wf p2 t2 a2 m2 s2 kg sg wg ip it2 ia im is2 ik iq iw kn af bl bf mpl mtk0 mva0 mbe mwr laf szf itf tf mvf d mf zf qf h1 h2 h3 h4 hA hIm hI
  obtain ⟨hg, hgi⟩ := h1
  obtain ⟨hlen, hbl, hkn, hSg⟩ := h3
  obtain ⟨hT, hz⟩ := h4
  have hRw := h2
  clear h2
  show Goes2 l D cs ad yX5_bring wsX5_bring ({ frames := 5, cells := 0, slots := 0, locals := 113 }) yX6_bring wsX6_bring ({ frames := 4, cells := 0, slots := 0, locals := 94 }) [.int x] (wA cs ad g gi lf fg sd la an rf f len pl nx so va pn tn aw me sp kf sf wf p2 t2 a2 m2 s2 kg sg wg ip it2 ia im is2 ik iq iw kn af bl bf ++ wB cs ad lf fg f len kn bl bf (decide (0 < pn)) mpl mtk0 mva0 mbe mwr laf szf itf tf mvf d mf zf qf)
  refine ⟨_, _, _, WC.same [0, 20, 21, 22, 23] (c_bring l D cs (xo := ad 0) (xr := ad 1) (xd := ad 18) (ta := ad 20) (tb := ad 24) (xi := ad 28) (aa := ad 37) (sa := ad 39) (lf := lf) (fg := fg) (tk := ad 21) (tq := ad 22) (tw := ad 23) (kf := kf) (sf := sf) (wf := wf) (pn := pn) (aw := aw) (me := me) (sp := sp) (tn := tn) (x := x) hT.S hT.tnl hT.pnl) rfl (by decide) rfl, WC.same [41, 45] (c_mbring l D cs (mo := ad 41) (ml := ad 42) (mz := ad 43) (mi := ad 44) (mt := ad 45) (mv := ad 46) (mp := ad 47) (md := ad 48) (mc := ad 49) (mk := ad 50) (mq := ad 51) (mr := ad 52) (su := fg) (it := decide (0 < pn)) (nby := nI len) (lt := lf) (pl := mpl) (tok := mtk0) (va := mva0) (be := mbe) (wr := mwr) (am := nI kn) (td := nI bl) (tf := tf) (pn := pn) (tn := tn) (x := x) hT.t1 hT.tnl (hT.M hz) hT.K hT.t0 hT.pnl) rfl (by decide) ?_, hI, _, rfl⟩
  simp only [itE hT.pnl, hT.t0, hT.t4, hT.br]

set_option maxHeartbeats 4000000 in
set_option maxRecDepth 100000 in
theorem tk_colds {l : Launch} {D : va_G} {cs : Nat → ClassId} {ad : Nat → Nat} {ws : va_W} (hI : Inv cs ad ws) (x y z : Int32) : Goes2 l D cs ad yX5_colds wsX5_colds ({ frames := 4, cells := 0, slots := 0, locals := 91 }) yX6_colds wsX6_colds ({ frames := 3, cells := 0, slots := 0, locals := 72 }) [.int x, .int y, .int z] ws := by
  refine hI.opn (G := fun ws => Goes2 l D cs ad yX5_colds wsX5_colds ({ frames := 4, cells := 0, slots := 0, locals := 91 }) yX6_colds wsX6_colds ({ frames := 3, cells := 0, slots := 0, locals := 72 }) [.int x, .int y, .int z] ws) ?_
  clear hI
  intro g gi lf fg sd la an rf f len pl nx so va pn tn aw me sp kf sf wf p2 t2 a2 m2 s2 kg sg wg ip it2 ia im is2 ik iq iw kn af bl bf mpl mtk0 mva0 mbe mwr laf szf itf tf mvf d mf zf qf h1 h2 h3 h4 hA hIm hI
  obtain ⟨hg, hgi⟩ := h1
  obtain ⟨hlen, hbl, hkn, hSg⟩ := h3
  obtain ⟨hT, hz⟩ := h4
  have hRw := h2
  clear h2
  show Goes2 l D cs ad yX5_colds wsX5_colds ({ frames := 4, cells := 0, slots := 0, locals := 91 }) yX6_colds wsX6_colds ({ frames := 3, cells := 0, slots := 0, locals := 72 }) [.int x, .int y, .int z] (wA cs ad g gi lf fg sd la an rf f len pl nx so va pn tn aw me sp kf sf wf p2 t2 a2 m2 s2 kg sg wg ip it2 ia im is2 ik iq iw kn af bl bf ++ wB cs ad lf fg f len kn bl bf (decide (0 < pn)) mpl mtk0 mva0 mbe mwr laf szf itf tf mvf d mf zf qf)
  obtain ⟨thn, ht1, ht2, ht3⟩ := th_of hT.pnl hT.awl
  refine ⟨_, _, _, WC.same [0, 20, 21, 22, 23] (c_colds l D cs (xo := ad 0) (xr := ad 1) (xd := ad 18) (ta := ad 20) (tb := ad 24) (xi := ad 28) (aa := ad 37) (sa := ad 39) (lf := lf) (fg := fg) (tk := ad 21) (tq := ad 22) (tw := ad 23) (kf := kf) (sf := sf) (wf := wf) (pn := pn) (aw := aw) (me := me) (sp := sp) (tn := tn) (x := x) (y := y) (z := z) (thn := thn) hT.S hT.tnl hT.pnl ht3 ht2) rfl (by decide) rfl, WC.same [41, 45] (c_mcolds l D cs (mo := ad 41) (ml := ad 42) (mz := ad 43) (mi := ad 44) (mt := ad 45) (mv := ad 46) (mp := ad 47) (md := ad 48) (mc := ad 49) (mk := ad 50) (mq := ad 51) (mr := ad 52) (su := fg) (it := decide (0 < pn)) (nby := nI len) (lt := lf) (pl := mpl) (tok := mtk0) (va := mva0) (be := mbe) (wr := mwr) (am := nI kn) (td := nI bl) (tf := tf) (pn := pn) (tn := tn) (x := x) (y := y) (z := z) (thn := thn) hT.t1 hT.tnl (hT.M hz) hT.K hT.t0 hT.pnl (by rw [hT.t4]; exact ht3) ht1) rfl (by decide) ?_, hI, _, rfl⟩
  simp only [itE hT.pnl, hT.eN, inI]
  by_cases h1 : lkF x = true
  · by_cases h2 : zo z = true
    · by_cases h3 : y < 0
      · simp only [h1, h2, h3, Bool.and_true, Bool.false_eq_true, ↓reduceIte]
      · by_cases h4 : 10 < y
        · simp only [h1, h2, h3, h4, Bool.and_true, Bool.false_eq_true, ↓reduceIte]
        · simp only [h1, h2, h3, h4, Bool.and_true, Bool.false_eq_true, ↓reduceIte]
    · simp only [h1, h2, Bool.true_and, Bool.false_eq_true, ↓reduceIte, ite_self]
  · simp only [h1, Bool.false_and, Bool.false_eq_true, ↓reduceIte]

set_option maxHeartbeats 4000000 in
set_option maxRecDepth 100000 in
theorem tk_count {l : Launch} {D : va_G} {cs : Nat → ClassId} {ad : Nat → Nat} {ws : va_W} (hI : Inv cs ad ws) (x : Int32) : Goes2 l D cs ad yX5_count wsX5_count ({ frames := 2, cells := 0, slots := 0, locals := 44 }) yX6_count wsX6_count ({ frames := 1, cells := 0, slots := 0, locals := 22 }) [.int x] ws := by
  refine hI.opn (G := fun ws => Goes2 l D cs ad yX5_count wsX5_count ({ frames := 2, cells := 0, slots := 0, locals := 44 }) yX6_count wsX6_count ({ frames := 1, cells := 0, slots := 0, locals := 22 }) [.int x] ws) ?_
  clear hI
  intro g gi lf fg sd la an rf f len pl nx so va pn tn aw me sp kf sf wf p2 t2 a2 m2 s2 kg sg wg ip it2 ia im is2 ik iq iw kn af bl bf mpl mtk0 mva0 mbe mwr laf szf itf tf mvf d mf zf qf h1 h2 h3 h4 hA hIm hI
  obtain ⟨hg, hgi⟩ := h1
  obtain ⟨hlen, hbl, hkn, hSg⟩ := h3
  obtain ⟨hT, hz⟩ := h4
  have hRw := h2
  clear h2
  show Goes2 l D cs ad yX5_count wsX5_count ({ frames := 2, cells := 0, slots := 0, locals := 44 }) yX6_count wsX6_count ({ frames := 1, cells := 0, slots := 0, locals := 22 }) [.int x] (wA cs ad g gi lf fg sd la an rf f len pl nx so va pn tn aw me sp kf sf wf p2 t2 a2 m2 s2 kg sg wg ip it2 ia im is2 ik iq iw kn af bl bf ++ wB cs ad lf fg f len kn bl bf (decide (0 < pn)) mpl mtk0 mva0 mbe mwr laf szf itf tf mvf d mf zf qf)
  have hcs : cntS (fun r => !decide (szf r < 0)) 8 = cntS sd 8 := cntS_cong (fun r hr => (hRw r hr).neg.symm)
  refine ⟨_, _, _, WC.same [0, 1, 2, 3, 4, 5, 6, 7, 8, 9, 10, 11, 12, 13, 14, 15, 16, 17, 20, 37, 18] (c_count l D cs (xo := ad 0) (xr := ad 1) (xd := ad 18) (ta := ad 20) (tb := ad 24) (xi := ad 28) (aa := ad 37) (sa := ad 39) (lf := lf) (fg := fg) (xt := ad 19) (ap := ad 38) (tk := ad 21) (tq := ad 22) (tw := ad 23) (g := g) (rr := fun j => ad (2 + 2 * j)) (rp := fun j => ad (3 + 2 * j)) (rst := sd) (rla := la) (rln := fun j => nI (an j)) (rf := rf) (pe := nI pn) (ti := nI tn) (aw := aw) (me := me) (sp := sp) (kn := nI kn) (len := nI len) (pl := pl) (nx := nx) (so := so) (va := va) (x := x) (fun j hj => hg j hj) hT.awl) rfl (by decide) rfl, WC.same [41, 43, 45] (c_mcount l D cs (mo := ad 41) (ml := ad 42) (mz := ad 43) (mi := ad 44) (mt := ad 45) (mv := ad 46) (mp := ad 47) (md := ad 48) (mc := ad 49) (mk := ad 50) (mq := ad 51) (mr := ad 52) (su := fg) (it := decide (0 < pn)) (nby := nI len) (lt := lf) (pl := mpl) (tok := mtk0) (va := mva0) (be := mbe) (wr := mwr) (am := nI kn) (td := nI bl) (tf := tf) (szf := szf) (x := x) (by rw [hT.t4]; exact hT.awl)) rfl (by decide) ?_, hI, _, rfl⟩
  simp only [hcs, hT.t0, hT.t1, hT.t2, hT.t4]

set_option maxHeartbeats 4000000 in
set_option maxRecDepth 100000 in
theorem tk_as {l : Launch} {D : va_G} {cs : Nat → ClassId} {ad : Nat → Nat} {ws : va_W} (hI : Inv cs ad ws) (x y : Int32) : Goes2 l D cs ad yX5_as wsX5_as ({ frames := 2, cells := 0, slots := 0, locals := 42 }) yX6_as wsX6_as ({ frames := 2, cells := 0, slots := 0, locals := 46 }) [.int x, .int y] ws := by
  refine hI.opn (G := fun ws => Goes2 l D cs ad yX5_as wsX5_as ({ frames := 2, cells := 0, slots := 0, locals := 42 }) yX6_as wsX6_as ({ frames := 2, cells := 0, slots := 0, locals := 46 }) [.int x, .int y] ws) ?_
  clear hI
  intro g gi lf fg sd la an rf f len pl nx so va pn tn aw me sp kf sf wf p2 t2 a2 m2 s2 kg sg wg ip it2 ia im is2 ik iq iw kn af bl bf mpl mtk0 mva0 mbe mwr laf szf itf tf mvf d mf zf qf h1 h2 h3 h4 hA hIm hI
  obtain ⟨hg, hgi⟩ := h1
  obtain ⟨hlen, hbl, hkn, hSg⟩ := h3
  obtain ⟨hT, hz⟩ := h4
  have hRw := h2
  clear h2
  show Goes2 l D cs ad yX5_as wsX5_as ({ frames := 2, cells := 0, slots := 0, locals := 42 }) yX6_as wsX6_as ({ frames := 2, cells := 0, slots := 0, locals := 46 }) [.int x, .int y] (wA cs ad g gi lf fg sd la an rf f len pl nx so va pn tn aw me sp kf sf wf p2 t2 a2 m2 s2 kg sg wg ip it2 ia im is2 ik iq iw kn af bl bf ++ wB cs ad lf fg f len kn bl bf (decide (0 < pn)) mpl mtk0 mva0 mbe mwr laf szf itf tf mvf d mf zf qf)
  rcases inB_c (n := tn) (by have := hT.tnl; omega) x with h | ⟨q, hq, rfl⟩
  · have hc := (c_as l D cs (xo := ad 0) (xr := ad 1) (xd := ad 18) (ta := ad 20) (tb := ad 24) (xi := ad 28) (aa := ad 37) (sa := ad 39) (lf := lf) (fg := fg) (tk := ad 21) (tq := ad 22) (tw := ad 23) (kf := kf) (sf := sf) (wf := wf) (pn := pn) (aw := aw) (me := me) (sp := sp) (tn := tn) (x := x) (y := y) hT.S hT.tnl hT.pnl)
    try simp only [h, Bool.false_eq_true, ↓reduceIte] at hc
    have hm := (c_masOut l D cs (mo := ad 41) (ml := ad 42) (mz := ad 43) (mi := ad 44) (mt := ad 45) (mv := ad 46) (mp := ad 47) (md := ad 48) (mc := ad 49) (mk := ad 50) (mq := ad 51) (mr := ad 52) (su := fg) (it := decide (0 < pn)) (nby := nI len) (lt := lf) (pl := mpl) (tok := mtk0) (va := mva0) (be := mbe) (wr := mwr) (am := nI kn) (td := nI bl) (tf := tf) (tn := tn) (x := x) (y := y) hT.t1 hT.tnl h)
    exact ⟨_, wA cs ad g gi lf fg sd la an rf f len pl nx so va pn tn aw me sp kf sf wf p2 t2 a2 m2 s2 kg sg wg ip it2 ia im is2 ik iq iw kn af bl bf ++ wB cs ad lf fg f len kn bl bf (decide (0 < pn)) mpl mtk0 mva0 mbe mwr laf szf itf tf mvf d mf zf qf, wA cs ad g gi lf fg sd la an rf f len pl nx so va pn tn aw me sp kf sf wf p2 t2 a2 m2 s2 kg sg wg ip it2 ia im is2 ik iq iw kn af bl bf ++ wB cs ad lf fg f len kn bl bf (decide (0 < pn)) mpl mtk0 mva0 mbe mwr laf szf itf tf mvf d mf zf qf, ⟨_, _, [0, 20, 21, 22, 23], hc, rfl, by decide, rfl, rfl⟩, ⟨_, _, [41, 45], hm, rfl, by decide, rfl, rfl⟩, Inv.mk ⟨hg, hgi⟩ (hRw) ⟨hlen, hbl, hkn, hSg⟩ ⟨hT, hz⟩ (hA) (hIm), _, rfl⟩
  · have hin : inB (nI tn) (nI q) = true := (inB_in (by have := hT.tnl; omega) hq)
    have hk := hT.k hq
    have hK := isKB_eq (hT.K q hq) (k := y)
    by_cases h0 : y < 0
    · have hc := (c_as l D cs (xo := ad 0) (xr := ad 1) (xd := ad 18) (ta := ad 20) (tb := ad 24) (xi := ad 28) (aa := ad 37) (sa := ad 39) (lf := lf) (fg := fg) (tk := ad 21) (tq := ad 22) (tw := ad 23) (kf := kf) (sf := sf) (wf := wf) (pn := pn) (aw := aw) (me := me) (sp := sp) (tn := tn) (x := nI q) (y := y) hT.S hT.tnl hT.pnl)
      try simp only [hin, h0, ↓reduceIte] at hc
      have hm := (c_masIn l D cs (mo := ad 41) (ml := ad 42) (mz := ad 43) (mi := ad 44) (mt := ad 45) (mv := ad 46) (mp := ad 47) (md := ad 48) (mc := ad 49) (mk := ad 50) (mq := ad 51) (mr := ad 52) (su := fg) (it := decide (0 < pn)) (nby := nI len) (lt := lf) (pl := mpl) (tok := mtk0) (va := mva0) (be := mbe) (wr := mwr) (am := nI kn) (td := nI bl) (tf := tf) (tn := tn) (q := q) (y := y) hT.t1 hT.tnl hq)
      try simp only [inI, h0, Bool.false_eq_true, ↓reduceIte] at hm
      exact ⟨_, wA cs ad g gi lf fg sd la an rf f len pl nx so va pn tn aw me sp kf sf wf p2 t2 a2 m2 s2 kg sg wg ip it2 ia im is2 ik iq iw kn af bl bf ++ wB cs ad lf fg f len kn bl bf (decide (0 < pn)) mpl mtk0 mva0 mbe mwr laf szf itf tf mvf d mf zf qf, wA cs ad g gi lf fg sd la an rf f len pl nx so va pn tn aw me sp kf sf wf p2 t2 a2 m2 s2 kg sg wg ip it2 ia im is2 ik iq iw kn af bl bf ++ wB cs ad lf fg f len kn bl bf (decide (0 < pn)) mpl mtk0 mva0 mbe mwr laf szf itf tf mvf d mf zf qf, ⟨_, _, [0, 20, 21, 22, 23], hc, rfl, by decide, rfl, rfl⟩, ⟨_, _, [41, 45], hm, rfl, by decide, rfl, rfl⟩, Inv.mk ⟨hg, hgi⟩ (hRw) ⟨hlen, hbl, hkn, hSg⟩ ⟨hT, hz⟩ (hA) (hIm), _, rfl⟩
    · by_cases h5 : 5 < y
      · have hc := (c_as l D cs (xo := ad 0) (xr := ad 1) (xd := ad 18) (ta := ad 20) (tb := ad 24) (xi := ad 28) (aa := ad 37) (sa := ad 39) (lf := lf) (fg := fg) (tk := ad 21) (tq := ad 22) (tw := ad 23) (kf := kf) (sf := sf) (wf := wf) (pn := pn) (aw := aw) (me := me) (sp := sp) (tn := tn) (x := nI q) (y := y) hT.S hT.tnl hT.pnl)
        try simp only [hin, h0, h5, ↓reduceIte] at hc
        have hm := (c_masIn l D cs (mo := ad 41) (ml := ad 42) (mz := ad 43) (mi := ad 44) (mt := ad 45) (mv := ad 46) (mp := ad 47) (md := ad 48) (mc := ad 49) (mk := ad 50) (mq := ad 51) (mr := ad 52) (su := fg) (it := decide (0 < pn)) (nby := nI len) (lt := lf) (pl := mpl) (tok := mtk0) (va := mva0) (be := mbe) (wr := mwr) (am := nI kn) (td := nI bl) (tf := tf) (tn := tn) (q := q) (y := y) hT.t1 hT.tnl hq)
        try simp only [inI, h0, h5, Bool.false_eq_true, ↓reduceIte] at hm
        exact ⟨_, wA cs ad g gi lf fg sd la an rf f len pl nx so va pn tn aw me sp kf sf wf p2 t2 a2 m2 s2 kg sg wg ip it2 ia im is2 ik iq iw kn af bl bf ++ wB cs ad lf fg f len kn bl bf (decide (0 < pn)) mpl mtk0 mva0 mbe mwr laf szf itf tf mvf d mf zf qf, wA cs ad g gi lf fg sd la an rf f len pl nx so va pn tn aw me sp kf sf wf p2 t2 a2 m2 s2 kg sg wg ip it2 ia im is2 ik iq iw kn af bl bf ++ wB cs ad lf fg f len kn bl bf (decide (0 < pn)) mpl mtk0 mva0 mbe mwr laf szf itf tf mvf d mf zf qf, ⟨_, _, [0, 20, 21, 22, 23], hc, rfl, by decide, rfl, rfl⟩, ⟨_, _, [41, 45], hm, rfl, by decide, rfl, rfl⟩, Inv.mk ⟨hg, hgi⟩ (hRw) ⟨hlen, hbl, hkn, hSg⟩ ⟨hT, hz⟩ (hA) (hIm), _, rfl⟩
      · by_cases hb : isAB (tf (5 + q)) y = true
        · have hc := (c_as l D cs (xo := ad 0) (xr := ad 1) (xd := ad 18) (ta := ad 20) (tb := ad 24) (xi := ad 28) (aa := ad 37) (sa := ad 39) (lf := lf) (fg := fg) (tk := ad 21) (tq := ad 22) (tw := ad 23) (kf := kf) (sf := sf) (wf := wf) (pn := pn) (aw := aw) (me := me) (sp := sp) (tn := tn) (x := nI q) (y := y) hT.S hT.tnl hT.pnl)
          try simp only [hin, h0, h5, hk, hb, ↓reduceIte] at hc
          have hm := (c_masIn l D cs (mo := ad 41) (ml := ad 42) (mz := ad 43) (mi := ad 44) (mt := ad 45) (mv := ad 46) (mp := ad 47) (md := ad 48) (mc := ad 49) (mk := ad 50) (mq := ad 51) (mr := ad 52) (su := fg) (it := decide (0 < pn)) (nby := nI len) (lt := lf) (pl := mpl) (tok := mtk0) (va := mva0) (be := mbe) (wr := mwr) (am := nI kn) (td := nI bl) (tf := tf) (tn := tn) (q := q) (y := y) hT.t1 hT.tnl hq)
          try simp only [inI, h0, h5, hK, hb, ↓reduceIte] at hm
          exact ⟨_, wA cs ad g gi lf 0 sd la an rf f len pl nx so va pn tn aw me sp kf sf wf p2 t2 a2 m2 s2 kg sg wg ip it2 ia im is2 ik iq iw kn af bl bf ++ wB cs ad lf fg f len kn bl bf (decide (0 < pn)) mpl mtk0 mva0 mbe mwr laf szf itf tf mvf d mf zf qf, wA cs ad g gi lf 0 sd la an rf f len pl nx so va pn tn aw me sp kf sf wf p2 t2 a2 m2 s2 kg sg wg ip it2 ia im is2 ik iq iw kn af bl bf ++ wB cs ad lf 0 f len kn bl bf (decide (0 < pn)) mpl mtk0 mva0 mbe mwr laf szf itf tf mvf d mf zf qf, ⟨_, _, [0, 20, 21, 22, 23], hc, rfl, by decide, rfl, rfl⟩, ⟨_, _, [41, 45], hm, rfl, by decide, rfl, rfl⟩, Inv.mk ⟨hg, hgi⟩ (hRw) ⟨hlen, hbl, hkn, hSg⟩ ⟨hT, hz⟩ (hA) (hIm), _, rfl⟩
        · have hc := (c_as l D cs (xo := ad 0) (xr := ad 1) (xd := ad 18) (ta := ad 20) (tb := ad 24) (xi := ad 28) (aa := ad 37) (sa := ad 39) (lf := lf) (fg := fg) (tk := ad 21) (tq := ad 22) (tw := ad 23) (kf := kf) (sf := sf) (wf := wf) (pn := pn) (aw := aw) (me := me) (sp := sp) (tn := tn) (x := nI q) (y := y) hT.S hT.tnl hT.pnl)
          try simp only [hin, h0, h5, hk, hb, ↓reduceIte] at hc
          have hm := (c_masIn l D cs (mo := ad 41) (ml := ad 42) (mz := ad 43) (mi := ad 44) (mt := ad 45) (mv := ad 46) (mp := ad 47) (md := ad 48) (mc := ad 49) (mk := ad 50) (mq := ad 51) (mr := ad 52) (su := fg) (it := decide (0 < pn)) (nby := nI len) (lt := lf) (pl := mpl) (tok := mtk0) (va := mva0) (be := mbe) (wr := mwr) (am := nI kn) (td := nI bl) (tf := tf) (tn := tn) (q := q) (y := y) hT.t1 hT.tnl hq)
          try simp only [inI, h0, h5, hK, hb, ↓reduceIte] at hm
          exact ⟨_, wA cs ad g gi lf 3 sd la an rf f len pl nx so va pn tn aw me sp kf sf wf p2 t2 a2 m2 s2 kg sg wg ip it2 ia im is2 ik iq iw kn af bl bf ++ wB cs ad lf fg f len kn bl bf (decide (0 < pn)) mpl mtk0 mva0 mbe mwr laf szf itf tf mvf d mf zf qf, wA cs ad g gi lf 3 sd la an rf f len pl nx so va pn tn aw me sp kf sf wf p2 t2 a2 m2 s2 kg sg wg ip it2 ia im is2 ik iq iw kn af bl bf ++ wB cs ad lf 3 f len kn bl bf (decide (0 < pn)) mpl mtk0 mva0 mbe mwr laf szf itf tf mvf d mf zf qf, ⟨_, _, [0, 20, 21, 22, 23], hc, rfl, by decide, rfl, rfl⟩, ⟨_, _, [41, 45], hm, rfl, by decide, rfl, rfl⟩, Inv.mk ⟨hg, hgi⟩ (hRw) ⟨hlen, hbl, hkn, hSg⟩ ⟨hT, hz⟩ (hA) (hIm), _, rfl⟩

set_option maxHeartbeats 4000000 in
set_option maxRecDepth 100000 in
theorem tk_ask {l : Launch} {D : va_G} {cs : Nat → ClassId} {ad : Nat → Nat} {ws : va_W} (hI : Inv cs ad ws) (x y : Int32) : Goes2 l D cs ad yX5_ask wsX5_ask ({ frames := 6, cells := 0, slots := 0, locals := 131 }) yX6_ask wsX6_ask ({ frames := 7, cells := 0, slots := 0, locals := 152 }) [.int x, .int y] ws := by
  refine hI.opn (G := fun ws => Goes2 l D cs ad yX5_ask wsX5_ask ({ frames := 6, cells := 0, slots := 0, locals := 131 }) yX6_ask wsX6_ask ({ frames := 7, cells := 0, slots := 0, locals := 152 }) [.int x, .int y] ws) ?_
  clear hI
  intro g gi lf fg sd la an rf f len pl nx so va pn tn aw me sp kf sf wf p2 t2 a2 m2 s2 kg sg wg ip it2 ia im is2 ik iq iw kn af bl bf mpl mtk0 mva0 mbe mwr laf szf itf tf mvf d mf zf qf h1 h2 h3 h4 hA hIm hI
  obtain ⟨hg, hgi⟩ := h1
  obtain ⟨hlen, hbl, hkn, hSg⟩ := h3
  obtain ⟨hT, hz⟩ := h4
  have hRw := h2
  clear h2
  show Goes2 l D cs ad yX5_ask wsX5_ask ({ frames := 6, cells := 0, slots := 0, locals := 131 }) yX6_ask wsX6_ask ({ frames := 7, cells := 0, slots := 0, locals := 152 }) [.int x, .int y] (wA cs ad g gi lf fg sd la an rf f len pl nx so va pn tn aw me sp kf sf wf p2 t2 a2 m2 s2 kg sg wg ip it2 ia im is2 ik iq iw kn af bl bf ++ wB cs ad lf fg f len kn bl bf (decide (0 < pn)) mpl mtk0 mva0 mbe mwr laf szf itf tf mvf d mf zf qf)
  rcases inB_c (n := tn) (by have := hT.tnl; omega) x with h | ⟨q, hq, rfl⟩
  · have hc := (c_ask l D cs (xo := ad 0) (xr := ad 1) (xd := ad 18) (ta := ad 20) (tb := ad 24) (xi := ad 28) (aa := ad 37) (sa := ad 39) (lf := lf) (fg := fg) (tk := ad 21) (tq := ad 22) (tw := ad 23) (kf := kf) (sf := sf) (wf := wf) (pn := pn) (aw := aw) (me := me) (sp := sp) (tn := tn) (sb := ad 40) (bf := bf) (af := nI bl) (x := x) (y := y) hT.S hT.tnl hT.pnl)
    try simp only [h, Bool.false_and, Bool.false_eq_true, ↓reduceIte] at hc
    have hm := (c_maskOut l D cs (mo := ad 41) (ml := ad 42) (mz := ad 43) (mi := ad 44) (mt := ad 45) (mv := ad 46) (mp := ad 47) (md := ad 48) (mc := ad 49) (mk := ad 50) (mq := ad 51) (mr := ad 52) (su := fg) (it := decide (0 < pn)) (nby := nI len) (lt := lf) (pl := mpl) (tok := mtk0) (va := mva0) (be := mbe) (wr := mwr) (am := nI kn) (td := nI bl) (tf := tf) (tn := tn) (x := x) (y := y) hT.t1 hT.tnl h)
    exact ⟨_, wA cs ad g gi lf fg sd la an rf f len pl nx so va pn tn aw me sp kf sf wf p2 t2 a2 m2 s2 kg sg wg ip it2 ia im is2 ik iq iw kn af bl bf ++ wB cs ad lf fg f len kn bl bf (decide (0 < pn)) mpl mtk0 mva0 mbe mwr laf szf itf tf mvf d mf zf qf, wA cs ad g gi lf fg sd la an rf f len pl nx so va pn tn aw me sp kf sf wf p2 t2 a2 m2 s2 kg sg wg ip it2 ia im is2 ik iq iw kn af bl bf ++ wB cs ad lf fg f len kn bl bf (decide (0 < pn)) mpl mtk0 mva0 mbe mwr laf szf itf tf mvf d mf zf qf, ⟨_, _, [0, 39, 40, 20, 21, 22, 23], hc, rfl, by decide, rfl, rfl⟩, ⟨_, _, [41, 45], hm, rfl, by decide, rfl, rfl⟩, Inv.mk ⟨hg, hgi⟩ (hRw) ⟨hlen, hbl, hkn, hSg⟩ ⟨hT, hz⟩ (hA) (hIm), _, rfl⟩
  · have hin : inB (nI tn) (nI q) = true := (inB_in (by have := hT.tnl; omega) hq)
    by_cases hy : zo y = true
    · have hc := (c_ask l D cs (xo := ad 0) (xr := ad 1) (xd := ad 18) (ta := ad 20) (tb := ad 24) (xi := ad 28) (aa := ad 37) (sa := ad 39) (lf := lf) (fg := fg) (tk := ad 21) (tq := ad 22) (tw := ad 23) (kf := kf) (sf := sf) (wf := wf) (pn := pn) (aw := aw) (me := me) (sp := sp) (tn := tn) (sb := ad 40) (bf := bf) (af := nI bl) (x := nI q) (y := y) hT.S hT.tnl hT.pnl)
      try simp only [hin, hy, Bool.and_self, Bool.true_and, hT.k hq, hT.s hq, hT.w hq, ↓reduceIte] at hc
      have hm := (c_maskIn l D cs (mo := ad 41) (ml := ad 42) (mz := ad 43) (mi := ad 44) (mt := ad 45) (mv := ad 46) (mp := ad 47) (md := ad 48) (mc := ad 49) (mk := ad 50) (mq := ad 51) (mr := ad 52) (su := fg) (it := decide (0 < pn)) (nby := nI len) (lt := lf) (pl := mpl) (tok := mtk0) (va := mva0) (be := mbe) (wr := mwr) (am := nI kn) (td := nI bl) (tf := tf) (bf := bf) (tn := tn) (t := q) (y := y) hT.t1 hT.tnl hq (hT.M hz) (hT.K q hq))
      try simp only [hy, hT.t0, hT.t4, ↓reduceIte] at hm
      exact ⟨_, wA cs ad g gi lf fg sd la an rf f len pl nx so va pn tn aw me sp kf sf wf p2 t2 a2 m2 s2 kg sg wg ip it2 ia im is2 ik iq iw kn af ((askT (tf (5 + q)) y).length) (putL bf 0 (askT (tf (5 + q)) y)) ++ wB cs ad lf fg f len kn bl bf (decide (0 < pn)) mpl mtk0 mva0 mbe mwr laf szf itf tf mvf d mf zf qf, wA cs ad g gi lf fg sd la an rf f len pl nx so va pn tn aw me sp kf sf wf p2 t2 a2 m2 s2 kg sg wg ip it2 ia im is2 ik iq iw kn af ((askT (tf (5 + q)) y).length) (putL bf 0 (askT (tf (5 + q)) y)) ++ wB cs ad lf fg f len kn ((askT (tf (5 + q)) y).length) (putL bf 0 (askT (tf (5 + q)) y)) (decide (0 < pn)) mpl mtk0 mva0 mbe mwr laf szf itf tf mvf d mf zf qf, ⟨_, _, [0, 39, 40, 20, 21, 22, 23], hc, rfl, by decide, rfl, rfl⟩, ⟨_, _, [41, 45, 52], hm, rfl, by decide, rfl, rfl⟩, Inv.mk ⟨hg, hgi⟩ (hRw) ⟨hlen, askT_len _ _, hkn, hSg⟩ ⟨hT, hz⟩ (hA) (hIm), _, rfl⟩
    · have hc := (c_ask l D cs (xo := ad 0) (xr := ad 1) (xd := ad 18) (ta := ad 20) (tb := ad 24) (xi := ad 28) (aa := ad 37) (sa := ad 39) (lf := lf) (fg := fg) (tk := ad 21) (tq := ad 22) (tw := ad 23) (kf := kf) (sf := sf) (wf := wf) (pn := pn) (aw := aw) (me := me) (sp := sp) (tn := tn) (sb := ad 40) (bf := bf) (af := nI bl) (x := nI q) (y := y) hT.S hT.tnl hT.pnl)
      try simp only [hin, hy, Bool.true_and, Bool.false_eq_true, ↓reduceIte] at hc
      have hm := (c_maskIn l D cs (mo := ad 41) (ml := ad 42) (mz := ad 43) (mi := ad 44) (mt := ad 45) (mv := ad 46) (mp := ad 47) (md := ad 48) (mc := ad 49) (mk := ad 50) (mq := ad 51) (mr := ad 52) (su := fg) (it := decide (0 < pn)) (nby := nI len) (lt := lf) (pl := mpl) (tok := mtk0) (va := mva0) (be := mbe) (wr := mwr) (am := nI kn) (td := nI bl) (tf := tf) (bf := bf) (tn := tn) (t := q) (y := y) hT.t1 hT.tnl hq (hT.M hz) (hT.K q hq))
      try simp only [hy, Bool.false_eq_true, ↓reduceIte] at hm
      exact ⟨_, wA cs ad g gi lf fg sd la an rf f len pl nx so va pn tn aw me sp kf sf wf p2 t2 a2 m2 s2 kg sg wg ip it2 ia im is2 ik iq iw kn af bl bf ++ wB cs ad lf fg f len kn bl bf (decide (0 < pn)) mpl mtk0 mva0 mbe mwr laf szf itf tf mvf d mf zf qf, wA cs ad g gi lf fg sd la an rf f len pl nx so va pn tn aw me sp kf sf wf p2 t2 a2 m2 s2 kg sg wg ip it2 ia im is2 ik iq iw kn af bl bf ++ wB cs ad lf fg f len kn bl bf (decide (0 < pn)) mpl mtk0 mva0 mbe mwr laf szf itf tf mvf d mf zf qf, ⟨_, _, [0, 39, 40, 20, 21, 22, 23], hc, rfl, by decide, rfl, rfl⟩, ⟨_, _, [41, 45, 52], hm, rfl, by decide, rfl, rfl⟩, Inv.mk ⟨hg, hgi⟩ (hRw) ⟨hlen, hbl, hkn, hSg⟩ ⟨hT, hz⟩ (hA) (hIm), _, rfl⟩

