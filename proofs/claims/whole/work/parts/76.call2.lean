/-! the calls with rows -/
section RWS
variable {cs : Nat → ClassId} {ad : Nat → Nat} {g : Nat → Option Nat} {gi : Nat → Option Nat} {lf : Int32} {fg : Int32} {sd : Nat → Bool} {la : Nat → Int32} {an : Nat → Nat} {rf : Nat → Nat → Int32} {f : Nat → Int32} {len : Nat} {pl : Int32} {nx : Int32} {so : Int32} {va : Int32} {pn : Nat} {tn : Nat} {aw : Int32} {me : Int32} {sp : Int32} {kf : Nat → Int32} {sf : Nat → Int32} {wf : Nat → Int32} {p2 : Int32} {t2 : Int32} {a2 : Int32} {m2 : Int32} {s2 : Int32} {kg : Nat → Int32} {sg : Nat → Int32} {wg : Nat → Int32} {ip : Nat → Int32} {it2 : Nat → Int32} {ia : Nat → Int32} {im : Nat → Int32} {is2 : Nat → Int32} {ik : Nat → Nat → Int32} {iq : Nat → Nat → Int32} {iw : Nat → Nat → Int32} {kn : Nat} {af : Nat → Int32} {bl : Nat} {bf : Nat → Int32} {W2 : va_W}
set_option maxHeartbeats 4000000 in
set_option maxRecDepth 100000 in
theorem rowAt {j : Nat} (hj : j < 8) : (wA cs ad g gi lf fg sd la an rf f len pl nx so va pn tn aw me sp kf sf wf p2 t2 a2 m2 s2 kg sg wg ip it2 ia im is2 ik iq iw kn af bl bf ++ W2)[2 + 2 * j]? = some (ad (2 + 2 * j), .inr (3, [.ref (ad (3 + 2 * j)), .int (b2 (sd j)), .int (la j), .int (nI (an j))])) ∧ (wA cs ad g gi lf fg sd la an rf f len pl nx so va pn tn aw me sp kf sf wf p2 t2 a2 m2 s2 kg sg wg ip it2 ia im is2 ik iq iw kn af bl bf ++ W2)[3 + 2 * j]? = some (ad (3 + 2 * j), .inl (cs 0, 40, .inl (rf j))) := by
  rcases (show j = 0 ∨ j = 1 ∨ j = 2 ∨ j = 3 ∨ j = 4 ∨ j = 5 ∨ j = 6 ∨ j = 7 by omega) with h | h | h | h | h | h | h | h <;> subst h <;> exact ⟨rfl, rfl⟩
set_option maxHeartbeats 4000000 in
set_option maxRecDepth 100000 in
theorem rowSet {j : Nat} (hj : j < 8) (b : Bool) (x : Int32) (y : Nat) : (wA cs ad g gi lf fg sd la an rf f len pl nx so va pn tn aw me sp kf sf wf p2 t2 a2 m2 s2 kg sg wg ip it2 ia im is2 ik iq iw kn af bl bf ++ W2).set (2 + 2 * j) (ad (2 + 2 * j), .inr (3, [.ref (ad (3 + 2 * j)), .int (b2 b), .int x, .int (nI y)])) = wA cs ad g gi lf fg (updB sd j b) (upd la j x) (updN an j y) rf f len pl nx so va pn tn aw me sp kf sf wf p2 t2 a2 m2 s2 kg sg wg ip it2 ia im is2 ik iq iw kn af bl bf ++ W2 := by
  rcases (show j = 0 ∨ j = 1 ∨ j = 2 ∨ j = 3 ∨ j = 4 ∨ j = 5 ∨ j = 6 ∨ j = 7 by omega) with h | h | h | h | h | h | h | h <;> subst h <;> rfl
set_option maxHeartbeats 4000000 in
set_option maxRecDepth 100000 in
theorem rowSeti {j : Nat} (hj : j < 8) (h0 : Nat → Int32) : (wA cs ad g gi lf fg sd la an rf f len pl nx so va pn tn aw me sp kf sf wf p2 t2 a2 m2 s2 kg sg wg ip it2 ia im is2 ik iq iw kn af bl bf ++ W2).set (3 + 2 * j) (ad (3 + 2 * j), .inl (cs 0, 40, .inl h0)) = wA cs ad g gi lf fg sd la an (updF rf j h0) f len pl nx so va pn tn aw me sp kf sf wf p2 t2 a2 m2 s2 kg sg wg ip it2 ia im is2 ik iq iw kn af bl bf ++ W2 := by
  rcases (show j = 0 ∨ j = 1 ∨ j = 2 ∨ j = 3 ∨ j = 4 ∨ j = 5 ∨ j = 6 ∨ j = 7 by omega) with h | h | h | h | h | h | h | h <;> subst h <;> rfl
set_option maxHeartbeats 4000000 in
set_option maxRecDepth 100000 in
theorem fgSet (x : Int32) : (wA cs ad g gi lf fg sd la an rf f len pl nx so va pn tn aw me sp kf sf wf p2 t2 a2 m2 s2 kg sg wg ip it2 ia im is2 ik iq iw kn af bl bf ++ W2).set 0 (ad 0, .inr (5, [.ref (ad 1), .ref (ad 18), .ref (ad 20), .ref (ad 24), .ref (ad 28), .ref (ad 37), .ref (ad 39), .int (lf), .int (x)])) = (wA cs ad g gi lf x sd la an rf f len pl nx so va pn tn aw me sp kf sf wf p2 t2 a2 m2 s2 kg sg wg ip it2 ia im is2 ik iq iw kn af bl bf ++ W2) := by
  rfl
theorem set_at {ws : va_W} {i : Nat} {q : Nat × va_E} (h : ws[i]? = some q) : ws.set i q = ws := by
  apply List.ext_getElem?
  intro k
  rw [List.getElem?_set]
  split
  · rename_i z
    subst z
    rw [h]
    split
    · rfl
    · rename_i hl
      exact absurd (List.getElem?_eq_some_iff.mp h).1 hl
  · rfl
set_option maxHeartbeats 4000000 in
set_option maxRecDepth 100000 in
theorem rowN {j : Nat} (hj : j < 8) : va_nd [0, 1, 2 + 2 * j, 3 + 2 * j] = true := by
  rcases (show j = 0 ∨ j = 1 ∨ j = 2 ∨ j = 3 ∨ j = 4 ∨ j = 5 ∨ j = 6 ∨ j = 7 by omega) with h | h | h | h | h | h | h | h <;> subst h <;> decide
set_option maxHeartbeats 4000000 in
set_option maxRecDepth 100000 in
theorem rowC {j : Nat} (hj : j < 8) : [0, 1, 2 + 2 * j, 3 + 2 * j].map (fun i => (wA cs ad g gi lf fg sd la an rf f len pl nx so va pn tn aw me sp kf sf wf p2 t2 a2 m2 s2 kg sg wg ip it2 ia im is2 ik iq iw kn af bl bf ++ W2)[i]?) = [(ad 0, .inr (5, [.ref (ad 1), .ref (ad 18), .ref (ad 20), .ref (ad 24), .ref (ad 28), .ref (ad 37), .ref (ad 39), .int (lf), .int (fg)])), (ad 1, .inl (cs 2, 8, .inr (.inr (.inr (.inr (g)))))), (ad (2 + 2 * j), .inr (3, [.ref (ad (3 + 2 * j)), .int (b2 (sd j)), .int (la j), .int (nI (an j))])), (ad (3 + 2 * j), .inl (cs 0, 40, .inl (rf j)))].map some := by
  simp only [List.map_cons, List.map_nil]
  rw [(rowAt hj).1, (rowAt hj).2]
  rfl
set_option maxHeartbeats 4000000 in
set_option maxRecDepth 100000 in
theorem rowU {j : Nat} (hj : j < 8) (z : Int32) (b : Bool) (x : Int32) (y : Nat) (h0 : Nat → Int32) : putAll (wA cs ad g gi lf fg sd la an rf f len pl nx so va pn tn aw me sp kf sf wf p2 t2 a2 m2 s2 kg sg wg ip it2 ia im is2 ik iq iw kn af bl bf ++ W2) [0, 1, 2 + 2 * j, 3 + 2 * j] [(ad 0, .inr (5, [.ref (ad 1), .ref (ad 18), .ref (ad 20), .ref (ad 24), .ref (ad 28), .ref (ad 37), .ref (ad 39), .int (lf), .int (z)])), (ad 1, .inl (cs 2, 8, .inr (.inr (.inr (.inr (g)))))), (ad (2 + 2 * j), .inr (3, [.ref (ad (3 + 2 * j)), .int (b2 b), .int x, .int (nI y)])), (ad (3 + 2 * j), .inl (cs 0, 40, .inl h0))] = wA cs ad g gi lf z (updB sd j b) (upd la j x) (updN an j y) (updF rf j h0) f len pl nx so va pn tn aw me sp kf sf wf p2 t2 a2 m2 s2 kg sg wg ip it2 ia im is2 ik iq iw kn af bl bf ++ W2 := by
  rcases (show j = 0 ∨ j = 1 ∨ j = 2 ∨ j = 3 ∨ j = 4 ∨ j = 5 ∨ j = 6 ∨ j = 7 by omega) with h | h | h | h | h | h | h | h <;> subst h <;> rfl
set_option maxHeartbeats 4000000 in
set_option maxRecDepth 100000 in
theorem rowF {j : Nat} (hj : j < 8) (z : Int32) : putAll (wA cs ad g gi lf fg sd la an rf f len pl nx so va pn tn aw me sp kf sf wf p2 t2 a2 m2 s2 kg sg wg ip it2 ia im is2 ik iq iw kn af bl bf ++ W2) [0, 1, 2 + 2 * j, 3 + 2 * j] [(ad 0, .inr (5, [.ref (ad 1), .ref (ad 18), .ref (ad 20), .ref (ad 24), .ref (ad 28), .ref (ad 37), .ref (ad 39), .int (lf), .int (z)])), (ad 1, .inl (cs 2, 8, .inr (.inr (.inr (.inr (g)))))), (ad (2 + 2 * j), .inr (3, [.ref (ad (3 + 2 * j)), .int (b2 (sd j)), .int (la j), .int (nI (an j))])), (ad (3 + 2 * j), .inl (cs 0, 40, .inl (rf j)))] = wA cs ad g gi lf z sd la an rf f len pl nx so va pn tn aw me sp kf sf wf p2 t2 a2 m2 s2 kg sg wg ip it2 ia im is2 ik iq iw kn af bl bf ++ W2 := by
  rcases (show j = 0 ∨ j = 1 ∨ j = 2 ∨ j = 3 ∨ j = 4 ∨ j = 5 ∨ j = 6 ∨ j = 7 by omega) with h | h | h | h | h | h | h | h <;> subst h <;> rfl
set_option maxHeartbeats 4000000 in
set_option maxRecDepth 100000 in
theorem rtN {j : Nat} (hj : j < 8) : va_nd [0, 1, 20, 21, 22, 23, 2 + 2 * j, 3 + 2 * j] = true := by
  rcases (show j = 0 ∨ j = 1 ∨ j = 2 ∨ j = 3 ∨ j = 4 ∨ j = 5 ∨ j = 6 ∨ j = 7 by omega) with h | h | h | h | h | h | h | h <;> subst h <;> decide
set_option maxHeartbeats 4000000 in
set_option maxRecDepth 100000 in
theorem rtC {j : Nat} (hj : j < 8) : [0, 1, 20, 21, 22, 23, 2 + 2 * j, 3 + 2 * j].map (fun i => (wA cs ad g gi lf fg sd la an rf f len pl nx so va pn tn aw me sp kf sf wf p2 t2 a2 m2 s2 kg sg wg ip it2 ia im is2 ik iq iw kn af bl bf ++ W2)[i]?) = [(ad 0, .inr (5, [.ref (ad 1), .ref (ad 18), .ref (ad 20), .ref (ad 24), .ref (ad 28), .ref (ad 37), .ref (ad 39), .int (lf), .int (fg)])), (ad 1, .inl (cs 2, 8, .inr (.inr (.inr (.inr (g)))))), (ad 20, .inr (4, [.ref (ad 21), .ref (ad 22), .ref (ad 23), .int (nI pn), .int (nI tn), .int (aw), .int (me), .int (sp)])), (ad 21, .inl (cs 0, 8, .inl (kf))), (ad 22, .inl (cs 0, 8, .inl (sf))), (ad 23, .inl (cs 0, 8, .inl (wf))), (ad (2 + 2 * j), .inr (3, [.ref (ad (3 + 2 * j)), .int (b2 (sd j)), .int (la j), .int (nI (an j))])), (ad (3 + 2 * j), .inl (cs 0, 40, .inl (rf j)))].map some := by
  simp only [List.map_cons, List.map_nil]
  rw [(rowAt hj).1, (rowAt hj).2]
  rfl
set_option maxHeartbeats 4000000 in
set_option maxRecDepth 100000 in
theorem rtF {j : Nat} (hj : j < 8) (z : Int32) : putAll (wA cs ad g gi lf fg sd la an rf f len pl nx so va pn tn aw me sp kf sf wf p2 t2 a2 m2 s2 kg sg wg ip it2 ia im is2 ik iq iw kn af bl bf ++ W2) [0, 1, 20, 21, 22, 23, 2 + 2 * j, 3 + 2 * j] [(ad 0, .inr (5, [.ref (ad 1), .ref (ad 18), .ref (ad 20), .ref (ad 24), .ref (ad 28), .ref (ad 37), .ref (ad 39), .int (lf), .int (z)])), (ad 1, .inl (cs 2, 8, .inr (.inr (.inr (.inr (g)))))), (ad 20, .inr (4, [.ref (ad 21), .ref (ad 22), .ref (ad 23), .int (nI pn), .int (nI tn), .int (aw), .int (me), .int (sp)])), (ad 21, .inl (cs 0, 8, .inl (kf))), (ad 22, .inl (cs 0, 8, .inl (sf))), (ad 23, .inl (cs 0, 8, .inl (wf))), (ad (2 + 2 * j), .inr (3, [.ref (ad (3 + 2 * j)), .int (b2 (sd j)), .int (la j), .int (nI (an j))])), (ad (3 + 2 * j), .inl (cs 0, 40, .inl (rf j)))] = wA cs ad g gi lf z sd la an rf f len pl nx so va pn tn aw me sp kf sf wf p2 t2 a2 m2 s2 kg sg wg ip it2 ia im is2 ik iq iw kn af bl bf ++ W2 := by
  rcases (show j = 0 ∨ j = 1 ∨ j = 2 ∨ j = 3 ∨ j = 4 ∨ j = 5 ∨ j = 6 ∨ j = 7 by omega) with h | h | h | h | h | h | h | h <;> subst h <;> rfl
theorem twoN {u v : Nat} (hne : ¬ u = v) : va_nd [0, 1, 2 + 2 * u, 3 + 2 * u, 2 + 2 * v, 3 + 2 * v] = true := by
  simp only [va_nd, Bool.and_eq_true, decide_eq_true_eq, List.mem_cons, List.not_mem_nil, or_false, not_or]
  refine ⟨?_, ?_, ?_, ?_, ?_, ?_, ?_⟩
  all_goals first | trivial | omega | (refine ⟨?_, ?_, ?_, ?_, ?_⟩ <;> omega) | (refine ⟨?_, ?_, ?_, ?_⟩ <;> omega) | (refine ⟨?_, ?_, ?_⟩ <;> omega) | (refine ⟨?_, ?_⟩ <;> omega)
set_option maxHeartbeats 4000000 in
set_option maxRecDepth 100000 in
theorem twoC {u v : Nat} (hu : u < 8) (hv : v < 8) : [0, 1, 2 + 2 * u, 3 + 2 * u, 2 + 2 * v, 3 + 2 * v].map (fun i => (wA cs ad g gi lf fg sd la an rf f len pl nx so va pn tn aw me sp kf sf wf p2 t2 a2 m2 s2 kg sg wg ip it2 ia im is2 ik iq iw kn af bl bf ++ W2)[i]?) = [(ad 0, .inr (5, [.ref (ad 1), .ref (ad 18), .ref (ad 20), .ref (ad 24), .ref (ad 28), .ref (ad 37), .ref (ad 39), .int (lf), .int (fg)])), (ad 1, .inl (cs 2, 8, .inr (.inr (.inr (.inr (g)))))), (ad (2 + 2 * u), .inr (3, [.ref (ad (3 + 2 * u)), .int (b2 (sd u)), .int (la u), .int (nI (an u))])), (ad (3 + 2 * u), .inl (cs 0, 40, .inl (rf u))), (ad (2 + 2 * v), .inr (3, [.ref (ad (3 + 2 * v)), .int (b2 (sd v)), .int (la v), .int (nI (an v))])), (ad (3 + 2 * v), .inl (cs 0, 40, .inl (rf v)))].map some := by
  simp only [List.map_cons, List.map_nil]
  rw [(rowAt hu).1, (rowAt hu).2, (rowAt hv).1, (rowAt hv).2]
  rfl
set_option maxHeartbeats 4000000 in
set_option maxRecDepth 100000 in
theorem twoU {u v : Nat} (hu : u < 8) (hv : v < 8) (z : Int32) (h0 : Nat → Int32) : putAll (wA cs ad g gi lf fg sd la an rf f len pl nx so va pn tn aw me sp kf sf wf p2 t2 a2 m2 s2 kg sg wg ip it2 ia im is2 ik iq iw kn af bl bf ++ W2) [0, 1, 2 + 2 * u, 3 + 2 * u, 2 + 2 * v, 3 + 2 * v] [(ad 0, .inr (5, [.ref (ad 1), .ref (ad 18), .ref (ad 20), .ref (ad 24), .ref (ad 28), .ref (ad 37), .ref (ad 39), .int (lf), .int (z)])), (ad 1, .inl (cs 2, 8, .inr (.inr (.inr (.inr (g)))))), (ad (2 + 2 * u), .inr (3, [.ref (ad (3 + 2 * u)), .int (b2 (sd u)), .int (la u), .int (nI (an u))])), (ad (3 + 2 * u), .inl (cs 0, 40, .inl (rf u))), (ad (2 + 2 * v), .inr (3, [.ref (ad (3 + 2 * v)), .int (b2 (sd v)), .int (la v), .int (nI (an v))])), (ad (3 + 2 * v), .inl (cs 0, 40, .inl h0))] = wA cs ad g gi lf z sd la an (updF rf v h0) f len pl nx so va pn tn aw me sp kf sf wf p2 t2 a2 m2 s2 kg sg wg ip it2 ia im is2 ik iq iw kn af bl bf ++ W2 := by
  simp only [putAll]
  rw [fgSet, set_at (i := 1) rfl, set_at (rowAt hu).1, set_at (rowAt hu).2, set_at (rowAt hv).1, rowSeti hv]
set_option maxHeartbeats 4000000 in
set_option maxRecDepth 100000 in
theorem twoF {u v : Nat} (hu : u < 8) (hv : v < 8) (z : Int32) : putAll (wA cs ad g gi lf fg sd la an rf f len pl nx so va pn tn aw me sp kf sf wf p2 t2 a2 m2 s2 kg sg wg ip it2 ia im is2 ik iq iw kn af bl bf ++ W2) [0, 1, 2 + 2 * u, 3 + 2 * u, 2 + 2 * v, 3 + 2 * v] [(ad 0, .inr (5, [.ref (ad 1), .ref (ad 18), .ref (ad 20), .ref (ad 24), .ref (ad 28), .ref (ad 37), .ref (ad 39), .int (lf), .int (z)])), (ad 1, .inl (cs 2, 8, .inr (.inr (.inr (.inr (g)))))), (ad (2 + 2 * u), .inr (3, [.ref (ad (3 + 2 * u)), .int (b2 (sd u)), .int (la u), .int (nI (an u))])), (ad (3 + 2 * u), .inl (cs 0, 40, .inl (rf u))), (ad (2 + 2 * v), .inr (3, [.ref (ad (3 + 2 * v)), .int (b2 (sd v)), .int (la v), .int (nI (an v))])), (ad (3 + 2 * v), .inl (cs 0, 40, .inl (rf v)))] = wA cs ad g gi lf z sd la an rf f len pl nx so va pn tn aw me sp kf sf wf p2 t2 a2 m2 s2 kg sg wg ip it2 ia im is2 ik iq iw kn af bl bf ++ W2 := by
  simp only [putAll]
  rw [fgSet, set_at (i := 1) rfl, set_at (rowAt hu).1, set_at (rowAt hu).2, set_at (rowAt hv).1, set_at (rowAt hv).2]
end RWS
theorem RWs.put {sd : Nat → Bool} {la : Nat → Int32} {an : Nat → Nat} {rf : Nat → Nat → Int32} {laf szf itf lag szg itg : Nat → Int32} {j y : Nat} {b : Bool} {x : Int32} {h0 : Nat → Int32} (h : ∀ i, i < 8 → RW (sd i) (la i) (an i) (rf i) (laf i) (szf i) itf i) (hj : RW b x y h0 (lag j) (szg j) itg j) (hl : ∀ i, i ≠ j → lag i = laf i) (hs : ∀ i, i ≠ j → szg i = szf i) (hi : ∀ i q, i ≠ j → q < 40 → itg (40 * i + q) = itf (40 * i + q)) : ∀ i, i < 8 → RW (updB sd j b i) (upd la j x i) (updN an j y i) (updF rf j h0 i) (lag i) (szg i) itg i := by
  intro i hi8
  simp only [updB, upd, updN, updF]
  by_cases e : i = j
  · simp only [if_pos e]; rw [e]; exact hj
  · simp only [if_neg e]
    obtain ⟨a, b, c⟩ := h i hi8
    rw [hl i e, hs i e]
    exact ⟨a, b, fun z => ⟨(c z).1, (c z).2.1, fun q hq => (hi i q e hq).trans ((c z).2.2 q hq)⟩⟩
theorem RWs.updi {sd : Nat → Bool} {la : Nat → Int32} {an : Nat → Nat} {rf : Nat → Nat → Int32} {laf szf itf itg : Nat → Int32} {j : Nat} {h0 : Nat → Int32} (h : ∀ i, i < 8 → RW (sd i) (la i) (an i) (rf i) (laf i) (szf i) itf i) (hj : sd j = true → ∀ q, q < 40 → itg (40 * j + q) = h0 q) (hi : ∀ i q, i ≠ j → q < 40 → itg (40 * i + q) = itf (40 * i + q)) : ∀ i, i < 8 → RW (sd i) (la i) (an i) (updF rf j h0 i) (laf i) (szf i) itg i := by
  intro i hi8
  obtain ⟨a, b, c⟩ := h i hi8
  refine ⟨a, b, fun z => ⟨(c z).1, (c z).2.1, fun q hq => ?_⟩⟩
  simp only [updF]
  by_cases e : i = j
  · simp only [if_pos e]
    subst e
    exact hj z q hq
  · simp only [if_neg e]
    exact (hi i q e hq).trans ((c z).2.2 q hq)
theorem rowB_t {x y : Int32} (h : inI x 0 2 = false ∨ 40 < y) : rowB x y = true := by
  rw [rowB_in]
  rcases h with h | h
  · rw [h]; rfl
  · rw [decide_eq_true h]; simp
theorem rowB_f {x y : Int32} (h : inI x 0 2 = true) (h2 : ¬ 40 < y) : ¬ rowB x y = true := by
  rw [rowB_in, h, decide_eq_false h2]; decide
set_option maxHeartbeats 4000000 in
set_option maxRecDepth 100000 in
theorem tk_row {l : Launch} {D : va_G} {cs : Nat → ClassId} {ad : Nat → Nat} {ws : va_W} (hI : Inv cs ad ws) (x0 x y : Int32) : Goes2 l D cs ad yX5_row wsX5_row ({ frames := 1, cells := 0, slots := 0, locals := 23 }) yX6_row wsX6_row ({ frames := 2, cells := 0, slots := 0, locals := 45 }) [.int x0, .int x, .int y] ws := by
  refine hI.opn (G := fun ws => Goes2 l D cs ad yX5_row wsX5_row ({ frames := 1, cells := 0, slots := 0, locals := 23 }) yX6_row wsX6_row ({ frames := 2, cells := 0, slots := 0, locals := 45 }) [.int x0, .int x, .int y] ws) ?_
  clear hI
  intro g gi lf fg sd la an rf f len pl nx so va pn tn aw me sp kf sf wf p2 t2 a2 m2 s2 kg sg wg ip it2 ia im is2 ik iq iw kn af bl bf mpl mtk0 mva0 mbe mwr laf szf itf tf mvf d mf zf qf h1 h2 h3 h4 hA hIm hI
  obtain ⟨hg, hgi⟩ := h1
  obtain ⟨hlen, hbl, hkn, hSg⟩ := h3
  obtain ⟨hT, hz⟩ := h4
  have hRw := h2
  clear h2
  show Goes2 l D cs ad yX5_row wsX5_row ({ frames := 1, cells := 0, slots := 0, locals := 23 }) yX6_row wsX6_row ({ frames := 2, cells := 0, slots := 0, locals := 45 }) [.int x0, .int x, .int y] (wA cs ad g gi lf fg sd la an rf f len pl nx so va pn tn aw me sp kf sf wf p2 t2 a2 m2 s2 kg sg wg ip it2 ia im is2 ik iq iw kn af bl bf ++ wB cs ad lf fg f len kn bl bf (decide (0 < pn)) mpl mtk0 mva0 mbe mwr laf szf itf tf mvf d mf zf qf)
  rcases in8_c x0 with h | ⟨j, hj, rfl⟩
  · refine ⟨_, _, _, WC.same [0, 1] (c_rowOut l D cs (xo := ad 0) (xr := ad 1) (xd := ad 18) (ta := ad 20) (tb := ad 24) (xi := ad 28) (aa := ad 37) (sa := ad 39) (lf := lf) (fg := fg) (g := g) (x0 := x0) (x := x) (y := y) (in8_out h)) rfl (by decide) rfl, WC.same [41] (c_mrowOut l D cs (mo := ad 41) (ml := ad 42) (mz := ad 43) (mi := ad 44) (mt := ad 45) (mv := ad 46) (mp := ad 47) (md := ad 48) (mc := ad 49) (mk := ad 50) (mq := ad 51) (mr := ad 52) (su := fg) (it := decide (0 < pn)) (nby := nI len) (lt := lf) (pl := mpl) (tok := mtk0) (va := mva0) (be := mbe) (wr := mwr) (am := nI kn) (td := nI bl) (x0 := x0) (x := x) (y := y) h) rfl (by decide) ?_, hI, _, rfl⟩
    rfl
  · by_cases hx : inI x 0 2 = true
    · by_cases hy : 40 < y
      · have hc := (c_rowIn l D cs (xo := ad 0) (xr := ad 1) (xd := ad 18) (ta := ad 20) (tb := ad 24) (xi := ad 28) (aa := ad 37) (sa := ad 39) (lf := lf) (fg := fg) (g := g) (j := j) (ra := ad (2 + 2 * j)) (rp := ad (3 + 2 * j)) (rf := rf j) (sd := sd j) (la := la j) (ln := nI (an j)) (x := x) (y := y) hj (hg j hj))
        simp only [if_pos (rowB_t (x := x) (Or.inr hy))] at hc
        have hm := (c_mrowIn l D cs (mo := ad 41) (ml := ad 42) (mz := ad 43) (mi := ad 44) (mt := ad 45) (mv := ad 46) (mp := ad 47) (md := ad 48) (mc := ad 49) (mk := ad 50) (mq := ad 51) (mr := ad 52) (su := fg) (it := decide (0 < pn)) (nby := nI len) (lt := lf) (pl := mpl) (tok := mtk0) (va := mva0) (be := mbe) (wr := mwr) (am := nI kn) (td := nI bl) (laf := laf) (szf := szf) (itf := itf) (j := j) (x := x) (y := y) hj)
        simp only [if_pos hx, if_neg (show ¬ y ≤ 40 from Int32.not_le.mpr hy)] at hm
        exact ⟨_, wA cs ad g gi lf fg sd la an rf f len pl nx so va pn tn aw me sp kf sf wf p2 t2 a2 m2 s2 kg sg wg ip it2 ia im is2 ik iq iw kn af bl bf ++ wB cs ad lf fg f len kn bl bf (decide (0 < pn)) mpl mtk0 mva0 mbe mwr laf szf itf tf mvf d mf zf qf, wA cs ad g gi lf fg sd la an rf f len pl nx so va pn tn aw me sp kf sf wf p2 t2 a2 m2 s2 kg sg wg ip it2 ia im is2 ik iq iw kn af bl bf ++ wB cs ad lf fg f len kn bl bf (decide (0 < pn)) mpl mtk0 mva0 mbe mwr laf szf itf tf mvf d mf zf qf, ⟨_, _, [0, 1, 2 + 2 * j, 3 + 2 * j], hc, rowC hj, rowN hj, rfl, put_id (rowC hj)⟩, ⟨_, _, [41, 42, 43, 44], hm, rfl, by decide, rfl, rfl⟩, Inv.mk ⟨hg, hgi⟩ (hRw) ⟨hlen, hbl, hkn, hSg⟩ ⟨hT, hz⟩ (hA) (hIm), _, rfl⟩
      · by_cases hn : y < 0
        · have hc := (c_rowIn l D cs (xo := ad 0) (xr := ad 1) (xd := ad 18) (ta := ad 20) (tb := ad 24) (xi := ad 28) (aa := ad 37) (sa := ad 39) (lf := lf) (fg := fg) (g := g) (j := j) (ra := ad (2 + 2 * j)) (rp := ad (3 + 2 * j)) (rf := rf j) (sd := sd j) (la := la j) (ln := nI (an j)) (x := x) (y := y) hj (hg j hj))
          simp only [if_neg (rowB_f hx hy), if_pos hn] at hc
          have hm := (c_mrowIn l D cs (mo := ad 41) (ml := ad 42) (mz := ad 43) (mi := ad 44) (mt := ad 45) (mv := ad 46) (mp := ad 47) (md := ad 48) (mc := ad 49) (mk := ad 50) (mq := ad 51) (mr := ad 52) (su := fg) (it := decide (0 < pn)) (nby := nI len) (lt := lf) (pl := mpl) (tok := mtk0) (va := mva0) (be := mbe) (wr := mwr) (am := nI kn) (td := nI bl) (laf := laf) (szf := szf) (itf := itf) (j := j) (x := x) (y := y) hj)
          simp only [if_pos hx, if_pos (show y ≤ 40 from Int32.not_lt.mp hy), if_neg (show ¬ 0 ≤ y from Int32.not_le.mpr hn)] at hm
          exact ⟨_, wA cs ad g gi lf 4 sd la an rf f len pl nx so va pn tn aw me sp kf sf wf p2 t2 a2 m2 s2 kg sg wg ip it2 ia im is2 ik iq iw kn af bl bf ++ wB cs ad lf fg f len kn bl bf (decide (0 < pn)) mpl mtk0 mva0 mbe mwr laf szf itf tf mvf d mf zf qf, wA cs ad g gi lf 4 sd la an rf f len pl nx so va pn tn aw me sp kf sf wf p2 t2 a2 m2 s2 kg sg wg ip it2 ia im is2 ik iq iw kn af bl bf ++ wB cs ad lf 4 f len kn bl bf (decide (0 < pn)) mpl mtk0 mva0 mbe mwr laf szf itf tf mvf d mf zf qf, ⟨_, _, [0, 1, 2 + 2 * j, 3 + 2 * j], hc, rowC hj, rowN hj, rfl, rowF hj 4⟩, ⟨_, _, [41, 42, 43, 44], hm, rfl, by decide, rfl, rfl⟩, Inv.mk ⟨hg, hgi⟩ (hRw) ⟨hlen, hbl, hkn, hSg⟩ ⟨hT, hz⟩ (hA) (hIm), _, rfl⟩
        · obtain ⟨n, hn31, rfl⟩ := nI_of hn
          have hn40 : n ≤ 40 := nlt_nI (a := 40) hy (by decide) hn31
          have hc := (c_rowIn l D cs (xo := ad 0) (xr := ad 1) (xd := ad 18) (ta := ad 20) (tb := ad 24) (xi := ad 28) (aa := ad 37) (sa := ad 39) (lf := lf) (fg := fg) (g := g) (j := j) (ra := ad (2 + 2 * j)) (rp := ad (3 + 2 * j)) (rf := rf j) (sd := sd j) (la := la j) (ln := nI (an j)) (x := x) (y := nI n) hj (hg j hj))
          simp only [if_neg (rowB_f hx hy), if_neg hn] at hc
          have hm := (c_mrowIn l D cs (mo := ad 41) (ml := ad 42) (mz := ad 43) (mi := ad 44) (mt := ad 45) (mv := ad 46) (mp := ad 47) (md := ad 48) (mc := ad 49) (mk := ad 50) (mq := ad 51) (mr := ad 52) (su := fg) (it := decide (0 < pn)) (nby := nI len) (lt := lf) (pl := mpl) (tok := mtk0) (va := mva0) (be := mbe) (wr := mwr) (am := nI kn) (td := nI bl) (laf := laf) (szf := szf) (itf := itf) (j := j) (x := x) (y := nI n) hj)
          simp only [if_pos hx, if_pos (show nI n ≤ 40 from Int32.not_lt.mp hy), if_pos (show 0 ≤ nI n from Int32.not_lt.mp hn)] at hm
          exact ⟨_, wA cs ad g gi lf 0 (updB sd j true) (upd la j x) (updN an j n) (updF rf j (zrF (rf j) 40)) f len pl nx so va pn tn aw me sp kf sf wf p2 t2 a2 m2 s2 kg sg wg ip it2 ia im is2 ik iq iw kn af bl bf ++ wB cs ad lf fg f len kn bl bf (decide (0 < pn)) mpl mtk0 mva0 mbe mwr laf szf itf tf mvf d mf zf qf, wA cs ad g gi lf 0 (updB sd j true) (upd la j x) (updN an j n) (updF rf j (zrF (rf j) 40)) f len pl nx so va pn tn aw me sp kf sf wf p2 t2 a2 m2 s2 kg sg wg ip it2 ia im is2 ik iq iw kn af bl bf ++ wB cs ad lf 0 f len kn bl bf (decide (0 < pn)) mpl mtk0 mva0 mbe mwr (upd laf j x) (upd szf j (nI n)) (zr2 itf (40 * j) 40) tf mvf d mf zf qf, ⟨_, _, [0, 1, 2 + 2 * j, 3 + 2 * j], hc, rowC hj, rowN hj, rfl, rowU hj 0 true x n (zrF (rf j) 40)⟩, ⟨_, _, [41, 42, 43, 44], hm, rfl, by decide, rfl, rfl⟩, Inv.mk ⟨hg, hgi⟩ (RWs.put hRw ⟨hn40, fun z => (by cases z), fun _ => ⟨pk_us, pk_us, fun q hq => by unfold zr2 zrF; rw [if_pos (by omega), if_pos hq]⟩⟩ (fun i e => pk_un e) (fun i e => pk_un e) (fun i q e hq => by unfold zr2; rw [if_neg (by omega)])) ⟨hlen, hbl, hkn, hSg⟩ ⟨hT, hz⟩ (hA) (hIm), _, rfl⟩
    · have hc := (c_rowIn l D cs (xo := ad 0) (xr := ad 1) (xd := ad 18) (ta := ad 20) (tb := ad 24) (xi := ad 28) (aa := ad 37) (sa := ad 39) (lf := lf) (fg := fg) (g := g) (j := j) (ra := ad (2 + 2 * j)) (rp := ad (3 + 2 * j)) (rf := rf j) (sd := sd j) (la := la j) (ln := nI (an j)) (x := x) (y := y) hj (hg j hj))
      simp only [if_pos (rowB_t (y := y) (Or.inl (by simpa using hx)))] at hc
      have hm := (c_mrowIn l D cs (mo := ad 41) (ml := ad 42) (mz := ad 43) (mi := ad 44) (mt := ad 45) (mv := ad 46) (mp := ad 47) (md := ad 48) (mc := ad 49) (mk := ad 50) (mq := ad 51) (mr := ad 52) (su := fg) (it := decide (0 < pn)) (nby := nI len) (lt := lf) (pl := mpl) (tok := mtk0) (va := mva0) (be := mbe) (wr := mwr) (am := nI kn) (td := nI bl) (laf := laf) (szf := szf) (itf := itf) (j := j) (x := x) (y := y) hj)
      simp only [if_neg hx] at hm
      exact ⟨_, wA cs ad g gi lf fg sd la an rf f len pl nx so va pn tn aw me sp kf sf wf p2 t2 a2 m2 s2 kg sg wg ip it2 ia im is2 ik iq iw kn af bl bf ++ wB cs ad lf fg f len kn bl bf (decide (0 < pn)) mpl mtk0 mva0 mbe mwr laf szf itf tf mvf d mf zf qf, wA cs ad g gi lf fg sd la an rf f len pl nx so va pn tn aw me sp kf sf wf p2 t2 a2 m2 s2 kg sg wg ip it2 ia im is2 ik iq iw kn af bl bf ++ wB cs ad lf fg f len kn bl bf (decide (0 < pn)) mpl mtk0 mva0 mbe mwr laf szf itf tf mvf d mf zf qf, ⟨_, _, [0, 1, 2 + 2 * j, 3 + 2 * j], hc, rowC hj, rowN hj, rfl, put_id (rowC hj)⟩, ⟨_, _, [41, 42, 43, 44], hm, rfl, by decide, rfl, rfl⟩, Inv.mk ⟨hg, hgi⟩ (hRw) ⟨hlen, hbl, hkn, hSg⟩ ⟨hT, hz⟩ (hA) (hIm), _, rfl⟩

set_option maxHeartbeats 4000000 in
set_option maxRecDepth 100000 in
theorem tk_set {l : Launch} {D : va_G} {cs : Nat → ClassId} {ad : Nat → Nat} {ws : va_W} (hI : Inv cs ad ws) (x0 x y : Int32) : Goes2 l D cs ad yX5_set wsX5_set ({ frames := 2, cells := 0, slots := 0, locals := 44 }) yX6_set wsX6_set ({ frames := 2, cells := 0, slots := 0, locals := 45 }) [.int x0, .int x, .int y] ws := by
  refine hI.opn (G := fun ws => Goes2 l D cs ad yX5_set wsX5_set ({ frames := 2, cells := 0, slots := 0, locals := 44 }) yX6_set wsX6_set ({ frames := 2, cells := 0, slots := 0, locals := 45 }) [.int x0, .int x, .int y] ws) ?_
  clear hI
  intro g gi lf fg sd la an rf f len pl nx so va pn tn aw me sp kf sf wf p2 t2 a2 m2 s2 kg sg wg ip it2 ia im is2 ik iq iw kn af bl bf mpl mtk0 mva0 mbe mwr laf szf itf tf mvf d mf zf qf h1 h2 h3 h4 hA hIm hI
  obtain ⟨hg, hgi⟩ := h1
  obtain ⟨hlen, hbl, hkn, hSg⟩ := h3
  obtain ⟨hT, hz⟩ := h4
  have hRw := h2
  clear h2
  show Goes2 l D cs ad yX5_set wsX5_set ({ frames := 2, cells := 0, slots := 0, locals := 44 }) yX6_set wsX6_set ({ frames := 2, cells := 0, slots := 0, locals := 45 }) [.int x0, .int x, .int y] (wA cs ad g gi lf fg sd la an rf f len pl nx so va pn tn aw me sp kf sf wf p2 t2 a2 m2 s2 kg sg wg ip it2 ia im is2 ik iq iw kn af bl bf ++ wB cs ad lf fg f len kn bl bf (decide (0 < pn)) mpl mtk0 mva0 mbe mwr laf szf itf tf mvf d mf zf qf)
  rcases in8_c x0 with h | ⟨j, hj, rfl⟩
  · refine ⟨_, _, _, WC.same [0, 1] (c_setOut l D cs (xo := ad 0) (xr := ad 1) (xd := ad 18) (ta := ad 20) (tb := ad 24) (xi := ad 28) (aa := ad 37) (sa := ad 39) (lf := lf) (fg := fg) (g := g) (x0 := x0) (x := x) (y := y) (in8_out h)) rfl (by decide) rfl, WC.same [41] (c_msetOut l D cs (mo := ad 41) (ml := ad 42) (mz := ad 43) (mi := ad 44) (mt := ad 45) (mv := ad 46) (mp := ad 47) (md := ad 48) (mc := ad 49) (mk := ad 50) (mq := ad 51) (mr := ad 52) (su := fg) (it := decide (0 < pn)) (nby := nI len) (lt := lf) (pl := mpl) (tok := mtk0) (va := mva0) (be := mbe) (wr := mwr) (am := nI kn) (td := nI bl) (x0 := x0) (x := x) (y := y) h) rfl (by decide) ?_, hI, _, rfl⟩
    rfl
  · by_cases hsd : sd j = false
    · have hs := (hRw j hj).2.1 hsd
      have hc := (c_setIn l D cs (xo := ad 0) (xr := ad 1) (xd := ad 18) (ta := ad 20) (tb := ad 24) (xi := ad 28) (aa := ad 37) (sa := ad 39) (lf := lf) (fg := fg) (g := g) (j := j) (ra := ad (2 + 2 * j)) (rp := ad (3 + 2 * j)) (rf := rf j) (sd := sd j) (la := la j) (ln := nI (an j)) (x := x) (y := y) hj (hg j hj))
      simp only [if_pos hsd] at hc
      have hm := (c_msetNo l D cs (mo := ad 41) (ml := ad 42) (mz := ad 43) (mi := ad 44) (mt := ad 45) (mv := ad 46) (mp := ad 47) (md := ad 48) (mc := ad 49) (mk := ad 50) (mq := ad 51) (mr := ad 52) (su := fg) (it := decide (0 < pn)) (nby := nI len) (lt := lf) (pl := mpl) (tok := mtk0) (va := mva0) (be := mbe) (wr := mwr) (am := nI kn) (td := nI bl) (laf := laf) (szf := szf) (itf := itf) (j := j) (x := x) (y := y) hj (Or.inl (by rw [hs]; exact neg1)))
      simp only [hs, if_pos neg1] at hm
      exact ⟨_, wA cs ad g gi lf 1 sd la an rf f len pl nx so va pn tn aw me sp kf sf wf p2 t2 a2 m2 s2 kg sg wg ip it2 ia im is2 ik iq iw kn af bl bf ++ wB cs ad lf fg f len kn bl bf (decide (0 < pn)) mpl mtk0 mva0 mbe mwr laf szf itf tf mvf d mf zf qf, wA cs ad g gi lf 1 sd la an rf f len pl nx so va pn tn aw me sp kf sf wf p2 t2 a2 m2 s2 kg sg wg ip it2 ia im is2 ik iq iw kn af bl bf ++ wB cs ad lf 1 f len kn bl bf (decide (0 < pn)) mpl mtk0 mva0 mbe mwr laf szf itf tf mvf d mf zf qf, ⟨_, _, [0, 1, 2 + 2 * j, 3 + 2 * j], hc, rowC hj, rowN hj, rfl, rowF hj 1⟩, ⟨_, _, [41, 42, 43, 44], hm, rfl, by decide, rfl, rfl⟩, Inv.mk ⟨hg, hgi⟩ (hRw) ⟨hlen, hbl, hkn, hSg⟩ ⟨hT, hz⟩ (hA) (hIm), _, rfl⟩
    · have hs : ¬ sd j = false := hsd
      have hst : sd j = true := by simpa using hsd
      obtain ⟨ha, _, hc3⟩ := hRw j hj
      obtain ⟨hsz, hla, hit⟩ := hc3 hst
      have hnn : ¬ nI (an j) < 0 := nI_pos (by omega)
      rcases inB_c (n := an j) (by omega) x with hq | ⟨q, hq, rfl⟩
      · rw [← inI_0 (by omega)] at hq
        have hc := (c_setIn l D cs (xo := ad 0) (xr := ad 1) (xd := ad 18) (ta := ad 20) (tb := ad 24) (xi := ad 28) (aa := ad 37) (sa := ad 39) (lf := lf) (fg := fg) (g := g) (j := j) (ra := ad (2 + 2 * j)) (rp := ad (3 + 2 * j)) (rf := rf j) (sd := sd j) (la := la j) (ln := nI (an j)) (x := x) (y := y) hj (hg j hj))
        simp only [if_neg hs, if_pos (show hold (nI (an j)) x 1 = false from (hold_in0 (m := 1) (by decide)).trans hq)] at hc
        have hm := (c_msetNo l D cs (mo := ad 41) (ml := ad 42) (mz := ad 43) (mi := ad 44) (mt := ad 45) (mv := ad 46) (mp := ad 47) (md := ad 48) (mc := ad 49) (mk := ad 50) (mq := ad 51) (mr := ad 52) (su := fg) (it := decide (0 < pn)) (nby := nI len) (lt := lf) (pl := mpl) (tok := mtk0) (va := mva0) (be := mbe) (wr := mwr) (am := nI kn) (td := nI bl) (laf := laf) (szf := szf) (itf := itf) (j := j) (x := x) (y := y) hj (Or.inr (by rw [hsz]; exact hq)))
        simp only [hsz, if_neg hnn] at hm
        exact ⟨_, wA cs ad g gi lf 2 sd la an rf f len pl nx so va pn tn aw me sp kf sf wf p2 t2 a2 m2 s2 kg sg wg ip it2 ia im is2 ik iq iw kn af bl bf ++ wB cs ad lf fg f len kn bl bf (decide (0 < pn)) mpl mtk0 mva0 mbe mwr laf szf itf tf mvf d mf zf qf, wA cs ad g gi lf 2 sd la an rf f len pl nx so va pn tn aw me sp kf sf wf p2 t2 a2 m2 s2 kg sg wg ip it2 ia im is2 ik iq iw kn af bl bf ++ wB cs ad lf 2 f len kn bl bf (decide (0 < pn)) mpl mtk0 mva0 mbe mwr laf szf itf tf mvf d mf zf qf, ⟨_, _, [0, 1, 2 + 2 * j, 3 + 2 * j], hc, rowC hj, rowN hj, rfl, rowF hj 2⟩, ⟨_, _, [41, 42, 43, 44], hm, rfl, by decide, rfl, rfl⟩, Inv.mk ⟨hg, hgi⟩ (hRw) ⟨hlen, hbl, hkn, hSg⟩ ⟨hT, hz⟩ (hA) (hIm), _, rfl⟩
      · have hho : ¬ hold (nI (an j)) (nI q) 1 = false := by rw [show (1 : Int32) = nI 1 from rfl, hold_in (by omega) (by omega)]; decide
        have e1 : pA (rf j) 40 (nI q) (asL (la j) y) = upd (rf j) q (asL (la j) y) := pA_in (by omega) (by decide)
        have e2 : gA (upd (rf j) q (asL (la j) y)) 40 (nI q) = asL (la j) y := by rw [gA_in (by omega) (by decide), pk_us]
        have hc := (c_setIn l D cs (xo := ad 0) (xr := ad 1) (xd := ad 18) (ta := ad 20) (tb := ad 24) (xi := ad 28) (aa := ad 37) (sa := ad 39) (lf := lf) (fg := fg) (g := g) (j := j) (ra := ad (2 + 2 * j)) (rp := ad (3 + 2 * j)) (rf := rf j) (sd := sd j) (la := la j) (ln := nI (an j)) (x := nI q) (y := y) hj (hg j hj))
        simp only [if_neg hs, if_neg hho, e1, e2] at hc
        have hm := (c_msetOk l D cs (mo := ad 41) (ml := ad 42) (mz := ad 43) (mi := ad 44) (mt := ad 45) (mv := ad 46) (mp := ad 47) (md := ad 48) (mc := ad 49) (mk := ad 50) (mq := ad 51) (mr := ad 52) (su := fg) (it := decide (0 < pn)) (nby := nI len) (lt := lf) (pl := mpl) (tok := mtk0) (va := mva0) (be := mbe) (wr := mwr) (am := nI kn) (td := nI bl) (laf := laf) (szf := szf) (itf := itf) (j := j) (sn := an j) (q := q) (y := y) hj hsz ha hq)
        simp only [hla] at hm
        exact ⟨_, wA cs ad g gi lf 0 (updB sd j (sd j)) (upd la j (la j)) (updN an j (an j)) (updF rf j (upd (rf j) q (asL (la j) y))) f len pl nx so va pn tn aw me sp kf sf wf p2 t2 a2 m2 s2 kg sg wg ip it2 ia im is2 ik iq iw kn af bl bf ++ wB cs ad lf fg f len kn bl bf (decide (0 < pn)) mpl mtk0 mva0 mbe mwr laf szf itf tf mvf d mf zf qf, wA cs ad g gi lf 0 (updB sd j (sd j)) (upd la j (la j)) (updN an j (an j)) (updF rf j (upd (rf j) q (asL (la j) y))) f len pl nx so va pn tn aw me sp kf sf wf p2 t2 a2 m2 s2 kg sg wg ip it2 ia im is2 ik iq iw kn af bl bf ++ wB cs ad lf 0 f len kn bl bf (decide (0 < pn)) mpl mtk0 mva0 mbe mwr laf szf (upd itf (40 * j + q) (asL (la j) y)) tf mvf d mf zf qf, ⟨_, _, [0, 1, 2 + 2 * j, 3 + 2 * j], hc, rowC hj, rowN hj, rfl, rowU hj 0 (sd j) (la j) (an j) (upd (rf j) q (asL (la j) y))⟩, ⟨_, _, [41, 42, 43, 44], hm, rfl, by decide, rfl, rfl⟩, Inv.mk ⟨hg, hgi⟩ (RWs.put hRw ⟨ha, fun z => absurd z hs, fun _ => ⟨hsz, hla, fun p hp => by
              by_cases e : p = q
              · subst e; rw [pk_us, pk_us]
              · rw [pk_un e, pk_un (by omega)]; exact hit p hp⟩⟩ (fun i e => rfl) (fun i e => rfl) (fun i p e hp => pk_un (by omega))) ⟨hlen, hbl, hkn, hSg⟩ ⟨hT, hz⟩ (hA) (hIm), _, rfl⟩

set_option maxHeartbeats 4000000 in
set_option maxRecDepth 100000 in
theorem tk_drop {l : Launch} {D : va_G} {cs : Nat → ClassId} {ad : Nat → Nat} {ws : va_W} (hI : Inv cs ad ws) (x0 : Int32) : Goes2 l D cs ad yX5_drop wsX5_drop ({ frames := 1, cells := 0, slots := 0, locals := 21 }) yX6_drop wsX6_drop ({ frames := 2, cells := 0, slots := 0, locals := 45 }) [.int x0] ws := by
  refine hI.opn (G := fun ws => Goes2 l D cs ad yX5_drop wsX5_drop ({ frames := 1, cells := 0, slots := 0, locals := 21 }) yX6_drop wsX6_drop ({ frames := 2, cells := 0, slots := 0, locals := 45 }) [.int x0] ws) ?_
  clear hI
  intro g gi lf fg sd la an rf f len pl nx so va pn tn aw me sp kf sf wf p2 t2 a2 m2 s2 kg sg wg ip it2 ia im is2 ik iq iw kn af bl bf mpl mtk0 mva0 mbe mwr laf szf itf tf mvf d mf zf qf h1 h2 h3 h4 hA hIm hI
  obtain ⟨hg, hgi⟩ := h1
  obtain ⟨hlen, hbl, hkn, hSg⟩ := h3
  obtain ⟨hT, hz⟩ := h4
  have hRw := h2
  clear h2
  show Goes2 l D cs ad yX5_drop wsX5_drop ({ frames := 1, cells := 0, slots := 0, locals := 21 }) yX6_drop wsX6_drop ({ frames := 2, cells := 0, slots := 0, locals := 45 }) [.int x0] (wA cs ad g gi lf fg sd la an rf f len pl nx so va pn tn aw me sp kf sf wf p2 t2 a2 m2 s2 kg sg wg ip it2 ia im is2 ik iq iw kn af bl bf ++ wB cs ad lf fg f len kn bl bf (decide (0 < pn)) mpl mtk0 mva0 mbe mwr laf szf itf tf mvf d mf zf qf)
  rcases in8_c x0 with h | ⟨j, hj, rfl⟩
  · refine ⟨_, _, _, WC.same [0, 1] (c_dropOut l D cs (xo := ad 0) (xr := ad 1) (xd := ad 18) (ta := ad 20) (tb := ad 24) (xi := ad 28) (aa := ad 37) (sa := ad 39) (lf := lf) (fg := fg) (g := g) (x0 := x0) (in8_out h)) rfl (by decide) rfl, WC.same [41] (c_mdropOut l D cs (mo := ad 41) (ml := ad 42) (mz := ad 43) (mi := ad 44) (mt := ad 45) (mv := ad 46) (mp := ad 47) (md := ad 48) (mc := ad 49) (mk := ad 50) (mq := ad 51) (mr := ad 52) (su := fg) (it := decide (0 < pn)) (nby := nI len) (lt := lf) (pl := mpl) (tok := mtk0) (va := mva0) (be := mbe) (wr := mwr) (am := nI kn) (td := nI bl) (x0 := x0) h) rfl (by decide) ?_, hI, _, rfl⟩
    rfl
  · by_cases hsd : sd j = false
    · have hs := (hRw j hj).2.1 hsd
      have hc := (c_dropIn l D cs (xo := ad 0) (xr := ad 1) (xd := ad 18) (ta := ad 20) (tb := ad 24) (xi := ad 28) (aa := ad 37) (sa := ad 39) (lf := lf) (fg := fg) (g := g) (j := j) (ra := ad (2 + 2 * j)) (rp := ad (3 + 2 * j)) (rf := rf j) (sd := sd j) (la := la j) (ln := nI (an j)) hj (hg j hj))
      simp only [if_pos hsd] at hc
      have hm := (c_mdropIn l D cs (mo := ad 41) (ml := ad 42) (mz := ad 43) (mi := ad 44) (mt := ad 45) (mv := ad 46) (mp := ad 47) (md := ad 48) (mc := ad 49) (mk := ad 50) (mq := ad 51) (mr := ad 52) (su := fg) (it := decide (0 < pn)) (nby := nI len) (lt := lf) (pl := mpl) (tok := mtk0) (va := mva0) (be := mbe) (wr := mwr) (am := nI kn) (td := nI bl) (laf := laf) (szf := szf) (itf := itf) (j := j) hj)
      simp only [hs, if_pos neg1] at hm
      exact ⟨_, wA cs ad g gi lf 1 (updB sd j false) (upd la j (la j)) (updN an j (an j)) (updF rf j (rf j)) f len pl nx so va pn tn aw me sp kf sf wf p2 t2 a2 m2 s2 kg sg wg ip it2 ia im is2 ik iq iw kn af bl bf ++ wB cs ad lf fg f len kn bl bf (decide (0 < pn)) mpl mtk0 mva0 mbe mwr laf szf itf tf mvf d mf zf qf, wA cs ad g gi lf 1 (updB sd j false) (upd la j (la j)) (updN an j (an j)) (updF rf j (rf j)) f len pl nx so va pn tn aw me sp kf sf wf p2 t2 a2 m2 s2 kg sg wg ip it2 ia im is2 ik iq iw kn af bl bf ++ wB cs ad lf 1 f len kn bl bf (decide (0 < pn)) mpl mtk0 mva0 mbe mwr laf szf itf tf mvf d mf zf qf, ⟨_, _, [0, 1, 2 + 2 * j, 3 + 2 * j], hc, rowC hj, rowN hj, rfl, rowU hj 1 false (la j) (an j) (rf j)⟩, ⟨_, _, [41, 42, 43, 44], hm, rfl, by decide, rfl, rfl⟩, Inv.mk ⟨hg, hgi⟩ (RWs.put hRw ⟨(hRw j hj).1, fun _ => hs, fun z => (by cases z)⟩ (fun i e => rfl) (fun i e => rfl) (fun i p e hp => rfl)) ⟨hlen, hbl, hkn, hSg⟩ ⟨hT, hz⟩ (hA) (hIm), _, rfl⟩
    · have hs : ¬ sd j = false := hsd
      have hst : sd j = true := by simpa using hsd
      obtain ⟨ha, _, hc3⟩ := hRw j hj
      obtain ⟨hsz, hla, hit⟩ := hc3 hst
      have hnn : ¬ nI (an j) < 0 := nI_pos (by omega)
      have hc := (c_dropIn l D cs (xo := ad 0) (xr := ad 1) (xd := ad 18) (ta := ad 20) (tb := ad 24) (xi := ad 28) (aa := ad 37) (sa := ad 39) (lf := lf) (fg := fg) (g := g) (j := j) (ra := ad (2 + 2 * j)) (rp := ad (3 + 2 * j)) (rf := rf j) (sd := sd j) (la := la j) (ln := nI (an j)) hj (hg j hj))
      simp only [if_neg hs] at hc
      have hm := (c_mdropIn l D cs (mo := ad 41) (ml := ad 42) (mz := ad 43) (mi := ad 44) (mt := ad 45) (mv := ad 46) (mp := ad 47) (md := ad 48) (mc := ad 49) (mk := ad 50) (mq := ad 51) (mr := ad 52) (su := fg) (it := decide (0 < pn)) (nby := nI len) (lt := lf) (pl := mpl) (tok := mtk0) (va := mva0) (be := mbe) (wr := mwr) (am := nI kn) (td := nI bl) (laf := laf) (szf := szf) (itf := itf) (j := j) hj)
      simp only [hsz, if_neg hnn] at hm
      exact ⟨_, wA cs ad g gi lf 0 (updB sd j false) (upd la j (la j)) (updN an j (an j)) (updF rf j (rf j)) f len pl nx so va pn tn aw me sp kf sf wf p2 t2 a2 m2 s2 kg sg wg ip it2 ia im is2 ik iq iw kn af bl bf ++ wB cs ad lf fg f len kn bl bf (decide (0 < pn)) mpl mtk0 mva0 mbe mwr laf szf itf tf mvf d mf zf qf, wA cs ad g gi lf 0 (updB sd j false) (upd la j (la j)) (updN an j (an j)) (updF rf j (rf j)) f len pl nx so va pn tn aw me sp kf sf wf p2 t2 a2 m2 s2 kg sg wg ip it2 ia im is2 ik iq iw kn af bl bf ++ wB cs ad lf 0 f len kn bl bf (decide (0 < pn)) mpl mtk0 mva0 mbe mwr laf (upd szf j (-1)) itf tf mvf d mf zf qf, ⟨_, _, [0, 1, 2 + 2 * j, 3 + 2 * j], hc, rowC hj, rowN hj, rfl, rowU hj 0 false (la j) (an j) (rf j)⟩, ⟨_, _, [41, 42, 43, 44], hm, rfl, by decide, rfl, rfl⟩, Inv.mk ⟨hg, hgi⟩ (RWs.put hRw ⟨ha, fun _ => pk_us, fun z => (by cases z)⟩ (fun i e => rfl) (fun i e => pk_un e) (fun i p e hp => rfl)) ⟨hlen, hbl, hkn, hSg⟩ ⟨hT, hz⟩ (hA) (hIm), _, rfl⟩

set_option maxHeartbeats 4000000 in
set_option maxRecDepth 100000 in
theorem tk_copy {l : Launch} {D : va_G} {cs : Nat → ClassId} {ad : Nat → Nat} {ws : va_W} (hI : Inv cs ad ws) (x0 i x1 j q : Int32) : Goes2 l D cs ad yX5_copy wsX5_copy ({ frames := 2, cells := 0, slots := 0, locals := 64 }) yX6_copy wsX6_copy ({ frames := 2, cells := 0, slots := 0, locals := 45 }) [.int x0, .int i, .int x1, .int j, .int q] ws := by
  refine hI.opn (G := fun ws => Goes2 l D cs ad yX5_copy wsX5_copy ({ frames := 2, cells := 0, slots := 0, locals := 64 }) yX6_copy wsX6_copy ({ frames := 2, cells := 0, slots := 0, locals := 45 }) [.int x0, .int i, .int x1, .int j, .int q] ws) ?_
  clear hI
  intro g gi lf fg sd la an rf f len pl nx so va pn tn aw me sp kf sf wf p2 t2 a2 m2 s2 kg sg wg ip it2 ia im is2 ik iq iw kn af bl bf mpl mtk0 mva0 mbe mwr laf szf itf tf mvf d mf zf qf h1 h2 h3 h4 hA hIm hI
  obtain ⟨hg, hgi⟩ := h1
  obtain ⟨hlen, hbl, hkn, hSg⟩ := h3
  obtain ⟨hT, hz⟩ := h4
  have hRw := h2
  clear h2
  show Goes2 l D cs ad yX5_copy wsX5_copy ({ frames := 2, cells := 0, slots := 0, locals := 64 }) yX6_copy wsX6_copy ({ frames := 2, cells := 0, slots := 0, locals := 45 }) [.int x0, .int i, .int x1, .int j, .int q] (wA cs ad g gi lf fg sd la an rf f len pl nx so va pn tn aw me sp kf sf wf p2 t2 a2 m2 s2 kg sg wg ip it2 ia im is2 ik iq iw kn af bl bf ++ wB cs ad lf fg f len kn bl bf (decide (0 < pn)) mpl mtk0 mva0 mbe mwr laf szf itf tf mvf d mf zf qf)
  rcases in8_c x0 with h | ⟨u, hu, rfl⟩
  · rcases in8_c x1 with h2 | ⟨v, hv, rfl⟩
    · refine ⟨_, _, _, WC.same [0, 1] (c_copyOut1 l D cs (xo := ad 0) (xr := ad 1) (xd := ad 18) (ta := ad 20) (tb := ad 24) (xi := ad 28) (aa := ad 37) (sa := ad 39) (lf := lf) (fg := fg) (g := g) (x0 := x0) (x1 := x1) (i := i) (j := j) (q := q) (in8_out h) (in8_out h2)) rfl (by decide) rfl, WC.same [41] (c_mcopyOut l D cs (mo := ad 41) (ml := ad 42) (mz := ad 43) (mi := ad 44) (mt := ad 45) (mv := ad 46) (mp := ad 47) (md := ad 48) (mc := ad 49) (mk := ad 50) (mq := ad 51) (mr := ad 52) (su := fg) (it := decide (0 < pn)) (nby := nI len) (lt := lf) (pl := mpl) (tok := mtk0) (va := mva0) (be := mbe) (wr := mwr) (am := nI kn) (td := nI bl) (x0 := x0) (x1 := x1) (i := i) (j := j) (q := q) (Or.inl h)) rfl (by decide) ?_, hI, _, rfl⟩
      rfl
    · refine ⟨_, _, _, WC.same [0, 1] (c_copyOut3 l D cs (xo := ad 0) (xr := ad 1) (xd := ad 18) (ta := ad 20) (tb := ad 24) (xi := ad 28) (aa := ad 37) (sa := ad 39) (lf := lf) (fg := fg) (g := g) (x0 := x0) (i := i) (j := j) (q := q) (v := v) (rb := ad (2 + 2 * v)) hv (hg v hv) (in8_out h)) rfl (by decide) rfl, WC.same [41] (c_mcopyOut l D cs (mo := ad 41) (ml := ad 42) (mz := ad 43) (mi := ad 44) (mt := ad 45) (mv := ad 46) (mp := ad 47) (md := ad 48) (mc := ad 49) (mk := ad 50) (mq := ad 51) (mr := ad 52) (su := fg) (it := decide (0 < pn)) (nby := nI len) (lt := lf) (pl := mpl) (tok := mtk0) (va := mva0) (be := mbe) (wr := mwr) (am := nI kn) (td := nI bl) (x0 := x0) (x1 := nI v) (i := i) (j := j) (q := q) (Or.inl h)) rfl (by decide) ?_, hI, _, rfl⟩
      rfl
  · rcases in8_c x1 with h2 | ⟨v, hv, rfl⟩
    · refine ⟨_, _, _, WC.same [0, 1] (c_copyOut2 l D cs (xo := ad 0) (xr := ad 1) (xd := ad 18) (ta := ad 20) (tb := ad 24) (xi := ad 28) (aa := ad 37) (sa := ad 39) (lf := lf) (fg := fg) (g := g) (x1 := x1) (i := i) (j := j) (q := q) (u := u) (ra := ad (2 + 2 * u)) hu (hg u hu) (in8_out h2)) rfl (by decide) rfl, WC.same [41] (c_mcopyOut l D cs (mo := ad 41) (ml := ad 42) (mz := ad 43) (mi := ad 44) (mt := ad 45) (mv := ad 46) (mp := ad 47) (md := ad 48) (mc := ad 49) (mk := ad 50) (mq := ad 51) (mr := ad 52) (su := fg) (it := decide (0 < pn)) (nby := nI len) (lt := lf) (pl := mpl) (tok := mtk0) (va := mva0) (be := mbe) (wr := mwr) (am := nI kn) (td := nI bl) (x0 := nI u) (x1 := x1) (i := i) (j := j) (q := q) (Or.inr h2)) rfl (by decide) ?_, hI, _, rfl⟩
      rfl
    · by_cases hne : u = v
      · subst hne
        by_cases hsd : sd u = false
        · have hs := (hRw u hu).2.1 hsd
          have hc := (c_copySame l D cs (xo := ad 0) (xr := ad 1) (xd := ad 18) (ta := ad 20) (tb := ad 24) (xi := ad 28) (aa := ad 37) (sa := ad 39) (lf := lf) (fg := fg) (g := g) (u := u) (ra := ad (2 + 2 * u)) (rp := ad (3 + 2 * u)) (rf := rf u) (sd := sd u) (la := la u) (an := an u) (i := i) (j := j) (q := q) hu (hg u hu) (hRw u hu).1)
          simp only [if_pos hsd] at hc
          have hm := (c_mcopyNo l D cs (mo := ad 41) (ml := ad 42) (mz := ad 43) (mi := ad 44) (mt := ad 45) (mv := ad 46) (mp := ad 47) (md := ad 48) (mc := ad 49) (mk := ad 50) (mq := ad 51) (mr := ad 52) (su := fg) (it := decide (0 < pn)) (nby := nI len) (lt := lf) (pl := mpl) (tok := mtk0) (va := mva0) (be := mbe) (wr := mwr) (am := nI kn) (td := nI bl) (laf := laf) (szf := szf) (itf := itf) (u := u) (v := u) (i := i) (j := j) (q := q) hu hu (Or.inl (by rw [hs]; exact neg1)))
          simp only [hs, if_pos neg1] at hm
          exact ⟨_, wA cs ad g gi lf 1 sd la an rf f len pl nx so va pn tn aw me sp kf sf wf p2 t2 a2 m2 s2 kg sg wg ip it2 ia im is2 ik iq iw kn af bl bf ++ wB cs ad lf fg f len kn bl bf (decide (0 < pn)) mpl mtk0 mva0 mbe mwr laf szf itf tf mvf d mf zf qf, wA cs ad g gi lf 1 sd la an rf f len pl nx so va pn tn aw me sp kf sf wf p2 t2 a2 m2 s2 kg sg wg ip it2 ia im is2 ik iq iw kn af bl bf ++ wB cs ad lf 1 f len kn bl bf (decide (0 < pn)) mpl mtk0 mva0 mbe mwr laf szf itf tf mvf d mf zf qf, ⟨_, _, [0, 1, 2 + 2 * u, 3 + 2 * u], hc, rowC hu, rowN hu, rfl, rowF hu 1⟩, ⟨_, _, [41, 42, 43, 44], hm, rfl, by decide, rfl, rfl⟩, Inv.mk ⟨hg, hgi⟩ (hRw) ⟨hlen, hbl, hkn, hSg⟩ ⟨hT, hz⟩ (hA) (hIm), _, rfl⟩
        · have hst : sd u = true := by simpa using hsd
          obtain ⟨ha, _, hc3⟩ := hRw u hu
          obtain ⟨hsz, hla, hit⟩ := hc3 hst
          have hnn : ¬ nI (an u) < 0 := nI_pos (by omega)
          by_cases hh : (hold (nI (an u)) i q && hold (nI (an u)) j q) = true
          · obtain ⟨h1, h2⟩ : hold (nI (an u)) i q = true ∧ hold (nI (an u)) j q = true := by rw [Bool.and_eq_true] at hh; exact hh
            obtain ⟨x, z, rfl, rfl, hxz⟩ := hold_t ha h1
            obtain ⟨y, z2, rfl, ez, hyz⟩ := hold_t ha h2
            have hz2 : z = z2 := by
              have b1 := hold_le ha h2
              exact eq_nI ez (by omega) (by omega)
            subst hz2
            have cx : Int32.toNatClampNeg (nI x) = x := nI_clamp (by omega)
            have cy : Int32.toNatClampNeg (nI y) = y := nI_clamp (by omega)
            have cz : Int32.toNatClampNeg (nI z) = z := nI_clamp (by omega)
            have hc := (c_copySame l D cs (xo := ad 0) (xr := ad 1) (xd := ad 18) (ta := ad 20) (tb := ad 24) (xi := ad 28) (aa := ad 37) (sa := ad 39) (lf := lf) (fg := fg) (g := g) (u := u) (ra := ad (2 + 2 * u)) (rp := ad (3 + 2 * u)) (rf := rf u) (sd := sd u) (la := la u) (an := an u) (i := nI x) (j := nI y) (q := nI z) hu (hg u hu) (hRw u hu).1)
            simp only [if_neg hsd, if_pos hh, cx, cy, cz] at hc
            have hm := (c_mcopyOk l D cs (mo := ad 41) (ml := ad 42) (mz := ad 43) (mi := ad 44) (mt := ad 45) (mv := ad 46) (mp := ad 47) (md := ad 48) (mc := ad 49) (mk := ad 50) (mq := ad 51) (mr := ad 52) (su := fg) (it := decide (0 < pn)) (nby := nI len) (lt := lf) (pl := mpl) (tok := mtk0) (va := mva0) (be := mbe) (wr := mwr) (am := nI kn) (td := nI bl) (laf := laf) (szf := szf) (itf := itf) (mvf := mvf) (u := u) (v := u) (an := an u) (bn := an u) (x := x) (y := y) (z := z) hu hu rfl hsz hsz ha ha hxz hyz)
            exact ⟨_, wA cs ad g gi lf 0 (updB sd u (sd u)) (upd la u (la u)) (updN an u (an u)) (updF rf u (va_cpy (rf u) (rf u) x y z)) f len pl nx so va pn tn aw me sp kf sf wf p2 t2 a2 m2 s2 kg sg wg ip it2 ia im is2 ik iq iw kn af bl bf ++ wB cs ad lf fg f len kn bl bf (decide (0 < pn)) mpl mtk0 mva0 mbe mwr laf szf itf tf mvf d mf zf qf, wA cs ad g gi lf 0 (updB sd u (sd u)) (upd la u (la u)) (updN an u (an u)) (updF rf u (va_cpy (rf u) (rf u) x y z)) f len pl nx so va pn tn aw me sp kf sf wf p2 t2 a2 m2 s2 kg sg wg ip it2 ia im is2 ik iq iw kn af bl bf ++ wB cs ad lf 0 f len kn bl bf (decide (0 < pn)) mpl mtk0 mva0 mbe mwr laf szf (mvF itf itf (40 * u + y) (40 * u + x) z) tf (mvF mvf itf 0 (40 * u + x) z) d mf zf qf, ⟨_, _, [0, 1, 2 + 2 * u, 3 + 2 * u], hc, rowC hu, rowN hu, rfl, rowU hu 0 (sd u) (la u) (an u) _⟩, ⟨_, _, [41, 42, 43, 44, 46], hm, rfl, by decide, rfl, rfl⟩, Inv.mk ⟨hg, hgi⟩ (RWs.put hRw ⟨ha, fun z => absurd z hsd, fun _ => ⟨hsz, hla, fun p hp => by
                  unfold mvF
                  by_cases e : y ≤ p ∧ p < y + z
                  · rw [if_pos (by omega), pk_cpy_in e.1 e.2, ← hit (x + (p - y)) (by omega)]
                    exact congrArg itf (by omega)
                  · rw [if_neg (by omega), pk_cpy_out (by omega)]
                    exact hit p hp⟩⟩ (fun i e => rfl) (fun i e => rfl) (fun i p e hp => by unfold mvF; rw [if_neg (by omega)])) ⟨hlen, hbl, hkn, hSg⟩ ⟨hT, hz⟩ (hA) (hIm), _, rfl⟩
          · have hc := (c_copySame l D cs (xo := ad 0) (xr := ad 1) (xd := ad 18) (ta := ad 20) (tb := ad 24) (xi := ad 28) (aa := ad 37) (sa := ad 39) (lf := lf) (fg := fg) (g := g) (u := u) (ra := ad (2 + 2 * u)) (rp := ad (3 + 2 * u)) (rf := rf u) (sd := sd u) (la := la u) (an := an u) (i := i) (j := j) (q := q) hu (hg u hu) (hRw u hu).1)
            simp only [if_neg hsd, if_neg hh] at hc
            have hm := (c_mcopyNo l D cs (mo := ad 41) (ml := ad 42) (mz := ad 43) (mi := ad 44) (mt := ad 45) (mv := ad 46) (mp := ad 47) (md := ad 48) (mc := ad 49) (mk := ad 50) (mq := ad 51) (mr := ad 52) (su := fg) (it := decide (0 < pn)) (nby := nI len) (lt := lf) (pl := mpl) (tok := mtk0) (va := mva0) (be := mbe) (wr := mwr) (am := nI kn) (td := nI bl) (laf := laf) (szf := szf) (itf := itf) (u := u) (v := u) (i := i) (j := j) (q := q) hu hu (Or.inr (Or.inr (Or.inr (by
              by_cases hq0 : q < 0
              · exact Or.inl hq0
              · refine Or.inr ?_
                rw [hsz, hold_inL ha hq0, hold_inL ha hq0]
                by_cases z : hold (nI (an u)) i q = true
                · exact Or.inr (by rw [z, Bool.true_and] at hh; simpa using hh)
                · exact Or.inl (by simpa using z))))))
            simp only [hsz, if_neg hnn, if_pos True.intro, ↓reduceIte] at hm
            exact ⟨_, wA cs ad g gi lf 2 sd la an rf f len pl nx so va pn tn aw me sp kf sf wf p2 t2 a2 m2 s2 kg sg wg ip it2 ia im is2 ik iq iw kn af bl bf ++ wB cs ad lf fg f len kn bl bf (decide (0 < pn)) mpl mtk0 mva0 mbe mwr laf szf itf tf mvf d mf zf qf, wA cs ad g gi lf 2 sd la an rf f len pl nx so va pn tn aw me sp kf sf wf p2 t2 a2 m2 s2 kg sg wg ip it2 ia im is2 ik iq iw kn af bl bf ++ wB cs ad lf 2 f len kn bl bf (decide (0 < pn)) mpl mtk0 mva0 mbe mwr laf szf itf tf mvf d mf zf qf, ⟨_, _, [0, 1, 2 + 2 * u, 3 + 2 * u], hc, rowC hu, rowN hu, rfl, rowF hu 2⟩, ⟨_, _, [41, 42, 43, 44], hm, rfl, by decide, rfl, rfl⟩, Inv.mk ⟨hg, hgi⟩ (hRw) ⟨hlen, hbl, hkn, hSg⟩ ⟨hT, hz⟩ (hA) (hIm), _, rfl⟩
      · by_cases hsd : sd u = false
        · have hs := (hRw u hu).2.1 hsd
          have hb : (sd u && sd v) = false := by rw [hsd]; rfl
          have hc := (c_copyTwo l D cs (xo := ad 0) (xr := ad 1) (xd := ad 18) (ta := ad 20) (tb := ad 24) (xi := ad 28) (aa := ad 37) (sa := ad 39) (lf := lf) (fg := fg) (g := g) (u := u) (v := v) (ra := ad (2 + 2 * u)) (rp := ad (3 + 2 * u)) (rb := ad (2 + 2 * v)) (rq := ad (3 + 2 * v)) (rf := rf u) (rg := rf v) (sd := sd u) (sd2 := sd v) (la := la u) (la2 := la v) (an := an u) (bn := an v) (i := i) (j := j) (q := q) hu hv (hg u hu) (hg v hv) (hRw u hu).1 (hRw v hv).1)
          simp only [if_pos hb] at hc
          have hm := (c_mcopyNo l D cs (mo := ad 41) (ml := ad 42) (mz := ad 43) (mi := ad 44) (mt := ad 45) (mv := ad 46) (mp := ad 47) (md := ad 48) (mc := ad 49) (mk := ad 50) (mq := ad 51) (mr := ad 52) (su := fg) (it := decide (0 < pn)) (nby := nI len) (lt := lf) (pl := mpl) (tok := mtk0) (va := mva0) (be := mbe) (wr := mwr) (am := nI kn) (td := nI bl) (laf := laf) (szf := szf) (itf := itf) (u := u) (v := v) (i := i) (j := j) (q := q) hu hv (Or.inl (by rw [hs]; exact neg1)))
          simp only [hs, if_pos neg1] at hm
          exact ⟨_, wA cs ad g gi lf 1 sd la an rf f len pl nx so va pn tn aw me sp kf sf wf p2 t2 a2 m2 s2 kg sg wg ip it2 ia im is2 ik iq iw kn af bl bf ++ wB cs ad lf fg f len kn bl bf (decide (0 < pn)) mpl mtk0 mva0 mbe mwr laf szf itf tf mvf d mf zf qf, wA cs ad g gi lf 1 sd la an rf f len pl nx so va pn tn aw me sp kf sf wf p2 t2 a2 m2 s2 kg sg wg ip it2 ia im is2 ik iq iw kn af bl bf ++ wB cs ad lf 1 f len kn bl bf (decide (0 < pn)) mpl mtk0 mva0 mbe mwr laf szf itf tf mvf d mf zf qf, ⟨_, _, [0, 1, 2 + 2 * u, 3 + 2 * u, 2 + 2 * v, 3 + 2 * v], hc, twoC hu hv, twoN hne, rfl, twoF hu hv 1⟩, ⟨_, _, [41, 42, 43, 44], hm, rfl, by decide, rfl, rfl⟩, Inv.mk ⟨hg, hgi⟩ (hRw) ⟨hlen, hbl, hkn, hSg⟩ ⟨hT, hz⟩ (hA) (hIm), _, rfl⟩
        · have hst : sd u = true := by simpa using hsd
          obtain ⟨ha, _, hc3⟩ := hRw u hu
          obtain ⟨hsz, hla, hit⟩ := hc3 hst
          have hnn : ¬ nI (an u) < 0 := nI_pos (by omega)
          by_cases hsd2 : sd v = false
          · have hs := (hRw v hv).2.1 hsd2
            have hb : (sd u && sd v) = false := by rw [hsd2]; simp
            have hc := (c_copyTwo l D cs (xo := ad 0) (xr := ad 1) (xd := ad 18) (ta := ad 20) (tb := ad 24) (xi := ad 28) (aa := ad 37) (sa := ad 39) (lf := lf) (fg := fg) (g := g) (u := u) (v := v) (ra := ad (2 + 2 * u)) (rp := ad (3 + 2 * u)) (rb := ad (2 + 2 * v)) (rq := ad (3 + 2 * v)) (rf := rf u) (rg := rf v) (sd := sd u) (sd2 := sd v) (la := la u) (la2 := la v) (an := an u) (bn := an v) (i := i) (j := j) (q := q) hu hv (hg u hu) (hg v hv) (hRw u hu).1 (hRw v hv).1)
            simp only [if_pos hb] at hc
            have hm := (c_mcopyNo l D cs (mo := ad 41) (ml := ad 42) (mz := ad 43) (mi := ad 44) (mt := ad 45) (mv := ad 46) (mp := ad 47) (md := ad 48) (mc := ad 49) (mk := ad 50) (mq := ad 51) (mr := ad 52) (su := fg) (it := decide (0 < pn)) (nby := nI len) (lt := lf) (pl := mpl) (tok := mtk0) (va := mva0) (be := mbe) (wr := mwr) (am := nI kn) (td := nI bl) (laf := laf) (szf := szf) (itf := itf) (u := u) (v := v) (i := i) (j := j) (q := q) hu hv (Or.inr (Or.inl (by rw [hs]; exact neg1))))
            simp only [hsz, hs, if_neg hnn, if_pos neg1] at hm
            exact ⟨_, wA cs ad g gi lf 1 sd la an rf f len pl nx so va pn tn aw me sp kf sf wf p2 t2 a2 m2 s2 kg sg wg ip it2 ia im is2 ik iq iw kn af bl bf ++ wB cs ad lf fg f len kn bl bf (decide (0 < pn)) mpl mtk0 mva0 mbe mwr laf szf itf tf mvf d mf zf qf, wA cs ad g gi lf 1 sd la an rf f len pl nx so va pn tn aw me sp kf sf wf p2 t2 a2 m2 s2 kg sg wg ip it2 ia im is2 ik iq iw kn af bl bf ++ wB cs ad lf 1 f len kn bl bf (decide (0 < pn)) mpl mtk0 mva0 mbe mwr laf szf itf tf mvf d mf zf qf, ⟨_, _, [0, 1, 2 + 2 * u, 3 + 2 * u, 2 + 2 * v, 3 + 2 * v], hc, twoC hu hv, twoN hne, rfl, twoF hu hv 1⟩, ⟨_, _, [41, 42, 43, 44], hm, rfl, by decide, rfl, rfl⟩, Inv.mk ⟨hg, hgi⟩ (hRw) ⟨hlen, hbl, hkn, hSg⟩ ⟨hT, hz⟩ (hA) (hIm), _, rfl⟩
          · have hst2 : sd v = true := by simpa using hsd2
            obtain ⟨ha2, _, hc4⟩ := hRw v hv
            obtain ⟨hsz2, hla2, hit2⟩ := hc4 hst2
            have hnn2 : ¬ nI (an v) < 0 := nI_pos (by omega)
            have hb : ¬ (sd u && sd v) = false := by rw [hst, hst2]; decide
            by_cases hl : la u = la v
            · have hlm : laf u = laf v := by rw [hla, hla2]; exact hl
              by_cases hh : (hold (nI (an u)) i q && hold (nI (an v)) j q) = true
              · obtain ⟨h1, h2⟩ : hold (nI (an u)) i q = true ∧ hold (nI (an v)) j q = true := by rw [Bool.and_eq_true] at hh; exact hh
                obtain ⟨x, z, rfl, rfl, hxz⟩ := hold_t ha h1
                obtain ⟨y, z2, rfl, ez, hyz⟩ := hold_t ha2 h2
                have hz2 : z = z2 := by
                  have b1 := hold_le ha2 h2
                  exact eq_nI ez (by omega) (by omega)
                subst hz2
                have cx : Int32.toNatClampNeg (nI x) = x := nI_clamp (by omega)
                have cy : Int32.toNatClampNeg (nI y) = y := nI_clamp (by omega)
                have cz : Int32.toNatClampNeg (nI z) = z := nI_clamp (by omega)
                have hc := (c_copyTwo l D cs (xo := ad 0) (xr := ad 1) (xd := ad 18) (ta := ad 20) (tb := ad 24) (xi := ad 28) (aa := ad 37) (sa := ad 39) (lf := lf) (fg := fg) (g := g) (u := u) (v := v) (ra := ad (2 + 2 * u)) (rp := ad (3 + 2 * u)) (rb := ad (2 + 2 * v)) (rq := ad (3 + 2 * v)) (rf := rf u) (rg := rf v) (sd := sd u) (sd2 := sd v) (la := la u) (la2 := la v) (an := an u) (bn := an v) (i := nI x) (j := nI y) (q := nI z) hu hv (hg u hu) (hg v hv) (hRw u hu).1 (hRw v hv).1)
                simp only [if_neg hb, if_pos hl, if_pos hh, cx, cy, cz] at hc
                have hm := (c_mcopyOk l D cs (mo := ad 41) (ml := ad 42) (mz := ad 43) (mi := ad 44) (mt := ad 45) (mv := ad 46) (mp := ad 47) (md := ad 48) (mc := ad 49) (mk := ad 50) (mq := ad 51) (mr := ad 52) (su := fg) (it := decide (0 < pn)) (nby := nI len) (lt := lf) (pl := mpl) (tok := mtk0) (va := mva0) (be := mbe) (wr := mwr) (am := nI kn) (td := nI bl) (laf := laf) (szf := szf) (itf := itf) (mvf := mvf) (u := u) (v := v) (an := an u) (bn := an v) (x := x) (y := y) (z := z) hu hv hlm hsz hsz2 ha ha2 hxz hyz)
                exact ⟨_, wA cs ad g gi lf 0 sd la an (updF rf v (va_cpy (rf u) (rf v) x y z)) f len pl nx so va pn tn aw me sp kf sf wf p2 t2 a2 m2 s2 kg sg wg ip it2 ia im is2 ik iq iw kn af bl bf ++ wB cs ad lf fg f len kn bl bf (decide (0 < pn)) mpl mtk0 mva0 mbe mwr laf szf itf tf mvf d mf zf qf, wA cs ad g gi lf 0 sd la an (updF rf v (va_cpy (rf u) (rf v) x y z)) f len pl nx so va pn tn aw me sp kf sf wf p2 t2 a2 m2 s2 kg sg wg ip it2 ia im is2 ik iq iw kn af bl bf ++ wB cs ad lf 0 f len kn bl bf (decide (0 < pn)) mpl mtk0 mva0 mbe mwr laf szf (mvF itf itf (40 * v + y) (40 * u + x) z) tf (mvF mvf itf 0 (40 * u + x) z) d mf zf qf, ⟨_, _, [0, 1, 2 + 2 * u, 3 + 2 * u, 2 + 2 * v, 3 + 2 * v], hc, twoC hu hv, twoN hne, rfl, twoU hu hv 0 _⟩, ⟨_, _, [41, 42, 43, 44, 46], hm, rfl, by decide, rfl, rfl⟩, Inv.mk ⟨hg, hgi⟩ (RWs.updi hRw (fun _ p hp => by
                      unfold mvF
                      by_cases e : y ≤ p ∧ p < y + z
                      · rw [if_pos (by omega), pk_cpy_in e.1 e.2, ← hit (x + (p - y)) (by omega)]
                        exact congrArg itf (by omega)
                      · rw [if_neg (by omega), pk_cpy_out (by omega)]
                        exact hit2 p hp) (fun i p e hp => by unfold mvF; rw [if_neg (by omega)])) ⟨hlen, hbl, hkn, hSg⟩ ⟨hT, hz⟩ (hA) (hIm), _, rfl⟩
              · have hc := (c_copyTwo l D cs (xo := ad 0) (xr := ad 1) (xd := ad 18) (ta := ad 20) (tb := ad 24) (xi := ad 28) (aa := ad 37) (sa := ad 39) (lf := lf) (fg := fg) (g := g) (u := u) (v := v) (ra := ad (2 + 2 * u)) (rp := ad (3 + 2 * u)) (rb := ad (2 + 2 * v)) (rq := ad (3 + 2 * v)) (rf := rf u) (rg := rf v) (sd := sd u) (sd2 := sd v) (la := la u) (la2 := la v) (an := an u) (bn := an v) (i := i) (j := j) (q := q) hu hv (hg u hu) (hg v hv) (hRw u hu).1 (hRw v hv).1)
                simp only [if_neg hb, if_pos hl, if_neg hh] at hc
                have hm := (c_mcopyNo l D cs (mo := ad 41) (ml := ad 42) (mz := ad 43) (mi := ad 44) (mt := ad 45) (mv := ad 46) (mp := ad 47) (md := ad 48) (mc := ad 49) (mk := ad 50) (mq := ad 51) (mr := ad 52) (su := fg) (it := decide (0 < pn)) (nby := nI len) (lt := lf) (pl := mpl) (tok := mtk0) (va := mva0) (be := mbe) (wr := mwr) (am := nI kn) (td := nI bl) (laf := laf) (szf := szf) (itf := itf) (u := u) (v := v) (i := i) (j := j) (q := q) hu hv (Or.inr (Or.inr (Or.inr (by
                  by_cases hq0 : q < 0
                  · exact Or.inl hq0
                  · refine Or.inr ?_
                    rw [hsz, hsz2, hold_inL ha hq0, hold_inL ha2 hq0]
                    by_cases z : hold (nI (an u)) i q = true
                    · exact Or.inr (by rw [z, Bool.true_and] at hh; simpa using hh)
                    · exact Or.inl (by simpa using z))))))
                simp only [hsz, hsz2, if_neg hnn, if_neg hnn2, if_pos hlm] at hm
                exact ⟨_, wA cs ad g gi lf 2 sd la an rf f len pl nx so va pn tn aw me sp kf sf wf p2 t2 a2 m2 s2 kg sg wg ip it2 ia im is2 ik iq iw kn af bl bf ++ wB cs ad lf fg f len kn bl bf (decide (0 < pn)) mpl mtk0 mva0 mbe mwr laf szf itf tf mvf d mf zf qf, wA cs ad g gi lf 2 sd la an rf f len pl nx so va pn tn aw me sp kf sf wf p2 t2 a2 m2 s2 kg sg wg ip it2 ia im is2 ik iq iw kn af bl bf ++ wB cs ad lf 2 f len kn bl bf (decide (0 < pn)) mpl mtk0 mva0 mbe mwr laf szf itf tf mvf d mf zf qf, ⟨_, _, [0, 1, 2 + 2 * u, 3 + 2 * u, 2 + 2 * v, 3 + 2 * v], hc, twoC hu hv, twoN hne, rfl, twoF hu hv 2⟩, ⟨_, _, [41, 42, 43, 44], hm, rfl, by decide, rfl, rfl⟩, Inv.mk ⟨hg, hgi⟩ (hRw) ⟨hlen, hbl, hkn, hSg⟩ ⟨hT, hz⟩ (hA) (hIm), _, rfl⟩
            · have hlm : ¬ laf u = laf v := by rw [hla, hla2]; exact hl
              have hc := (c_copyTwo l D cs (xo := ad 0) (xr := ad 1) (xd := ad 18) (ta := ad 20) (tb := ad 24) (xi := ad 28) (aa := ad 37) (sa := ad 39) (lf := lf) (fg := fg) (g := g) (u := u) (v := v) (ra := ad (2 + 2 * u)) (rp := ad (3 + 2 * u)) (rb := ad (2 + 2 * v)) (rq := ad (3 + 2 * v)) (rf := rf u) (rg := rf v) (sd := sd u) (sd2 := sd v) (la := la u) (la2 := la v) (an := an u) (bn := an v) (i := i) (j := j) (q := q) hu hv (hg u hu) (hg v hv) (hRw u hu).1 (hRw v hv).1)
              simp only [if_neg hb, if_neg hl] at hc
              have hm := (c_mcopyNo l D cs (mo := ad 41) (ml := ad 42) (mz := ad 43) (mi := ad 44) (mt := ad 45) (mv := ad 46) (mp := ad 47) (md := ad 48) (mc := ad 49) (mk := ad 50) (mq := ad 51) (mr := ad 52) (su := fg) (it := decide (0 < pn)) (nby := nI len) (lt := lf) (pl := mpl) (tok := mtk0) (va := mva0) (be := mbe) (wr := mwr) (am := nI kn) (td := nI bl) (laf := laf) (szf := szf) (itf := itf) (u := u) (v := v) (i := i) (j := j) (q := q) hu hv (Or.inr (Or.inr (Or.inl hlm))))
              simp only [hsz, hsz2, if_neg hnn, if_neg hnn2, if_neg hlm] at hm
              exact ⟨_, wA cs ad g gi lf 5 sd la an rf f len pl nx so va pn tn aw me sp kf sf wf p2 t2 a2 m2 s2 kg sg wg ip it2 ia im is2 ik iq iw kn af bl bf ++ wB cs ad lf fg f len kn bl bf (decide (0 < pn)) mpl mtk0 mva0 mbe mwr laf szf itf tf mvf d mf zf qf, wA cs ad g gi lf 5 sd la an rf f len pl nx so va pn tn aw me sp kf sf wf p2 t2 a2 m2 s2 kg sg wg ip it2 ia im is2 ik iq iw kn af bl bf ++ wB cs ad lf 5 f len kn bl bf (decide (0 < pn)) mpl mtk0 mva0 mbe mwr laf szf itf tf mvf d mf zf qf, ⟨_, _, [0, 1, 2 + 2 * u, 3 + 2 * u, 2 + 2 * v, 3 + 2 * v], hc, twoC hu hv, twoN hne, rfl, twoF hu hv 5⟩, ⟨_, _, [41, 42, 43, 44], hm, rfl, by decide, rfl, rfl⟩, Inv.mk ⟨hg, hgi⟩ (hRw) ⟨hlen, hbl, hkn, hSg⟩ ⟨hT, hz⟩ (hA) (hIm), _, rfl⟩

