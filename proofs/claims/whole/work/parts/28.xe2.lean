theorem kX5_leaves : KD yX5_leaves wsX5_leaves cX5_leaves 5 (some .int) 2 := ⟨⟨_, rfl⟩, by decide, by decide +kernel, by decide +kernel, by decide +kernel⟩
theorem in_X5_leaves_X5 : ∀ w ∈ wsX50, w ∈ wsX5_leaves := by decide +kernel
theorem fl_X5_leaves_26 : FL RX5 wsX5_leaves RX5 RX5 TX5 9 5 2 26 := ⟨⟨in_X5_leaves_X5, rfl, by decide, rfl⟩, by decide +kernel⟩
theorem nq_X5_leaves_X4_stands : Cond.initialized yX4_stands.cls ∈ wsX5_leaves ∧ Cond.instanceMethod yX4_stands ∈ wsX5_leaves ∧ Cond.selects yX4_stands.cls yX4_stands yX4_stands ∈ wsX5_leaves := ⟨by decide +kernel, by decide +kernel, by decide +kernel⟩
theorem in_X5_leaves_X3 : ∀ w ∈ wsX30, w ∈ wsX5_leaves := by decide +kernel
theorem fn_X5_leaves_76 : FLN RX5 wsX5_leaves RX3 RX3 TX3 4 3 1 76 := ⟨⟨in_X5_leaves_X3, rfl, by decide, rfl⟩, "TableShares", by decide +kernel⟩
theorem in_X5_leaves_X4 : ∀ w ∈ wsX40, w ∈ wsX5_leaves := by decide +kernel
theorem fn_X5_leaves_199 : FLN RX5 wsX5_leaves RX4 RX4 TX4 8 4 3 199 := ⟨⟨in_X5_leaves_X4, rfl, by decide, rfl⟩, "TableShares", by decide +kernel⟩
theorem nq_X5_leaves_X3_holds : Cond.initialized yX3_holds.cls ∈ wsX5_leaves ∧ Cond.instanceMethod yX3_holds ∈ wsX5_leaves ∧ Cond.selects yX3_holds.cls yX3_holds yX3_holds ∈ wsX5_leaves := ⟨by decide +kernel, by decide +kernel, by decide +kernel⟩
theorem nq_X5_leaves_X4_everybody : Cond.initialized yX4_everybody.cls ∈ wsX5_leaves ∧ Cond.instanceMethod yX4_everybody ∈ wsX5_leaves ∧ Cond.selects yX4_everybody.cls yX4_everybody yX4_everybody ∈ wsX5_leaves := ⟨by decide +kernel, by decide +kernel, by decide +kernel⟩
theorem nq_X5_leaves_X4_worthOfSet : Cond.initialized yX4_worthOfSet.cls ∈ wsX5_leaves ∧ Cond.instanceMethod yX4_worthOfSet ∈ wsX5_leaves ∧ Cond.selects yX4_worthOfSet.cls yX4_worthOfSet yX4_worthOfSet ∈ wsX5_leaves := ⟨by decide +kernel, by decide +kernel, by decide +kernel⟩
theorem nq_X5_leaves_X3_sumOf : Cond.initialized yX3_sumOf.cls ∈ wsX5_leaves ∧ Cond.instanceMethod yX3_sumOf ∈ wsX5_leaves ∧ Cond.selects yX3_sumOf.cls yX3_sumOf yX3_sumOf ∈ wsX5_leaves := ⟨by decide +kernel, by decide +kernel, by decide +kernel⟩
set_option maxHeartbeats 4000000 in
set_option maxRecDepth 100000 in
theorem c_leavesIn (l : Launch) (D : va_G) (cs : Nat → ClassId) {xo : Nat} {xr : Nat} {xd : Nat} {ta : Nat} {tb : Nat} {xi : Nat} {aa : Nat} {sa : Nat} {lf : Int32} {fg : Int32} {tk : Nat} {tq : Nat} {tw : Nat} {kf : Nat → Int32} {sf : Nat → Int32} {wf : Nat → Int32} {pn : Nat} {aw : Int32} {me : Int32} {sp : Int32} {tn : Nat} {g : Nat → Option Nat} {j : Nat} {ra : Nat} {rp : Nat} {rf : Nat → Int32} {sd : Bool} {la : Int32} {an : Nat} {x : Int32} (hS : ∀ t, s64 (sf t)) (hti : tn ≤ 8) (hpn : pn ≤ 6) (hj : j < 8) (hg : g j = some ra) (han : an ≤ 40) : CT l D (tz cs) yX5_leaves wsX5_leaves ({ frames := 4, cells := 0, slots := 0, locals := 91 }) [.ref xo, .int (nI j), .int x] [(xo, .inr (5, [.ref xr, .ref xd, .ref ta, .ref tb, .ref xi, .ref aa, .ref sa, .int lf, .int fg])), (xr, .inl (cs 2, 8, .inr (.inr (.inr (.inr g))))), (ta, .inr (4, [.ref tk, .ref tq, .ref tw, .int (nI pn), .int (nI tn), .int aw, .int me, .int sp])), (tk, .inl (cs 0, 8, .inl kf)), (tq, .inl (cs 0, 8, .inl sf)), (tw, .inl (cs 0, 8, .inl wf)), (ra, .inr (3, [.ref rp, .int (b2 sd), .int la, .int (nI an)])), (rp, .inl (cs 0, 40, .inl rf))] (some (.int (if 0 < nI pn then (if sd = false then -1000010 - 1 else if hold (nI an) x (nI pn) = false then -1000010 - 2 else lvS (lvP kf sf wf tn pn rf x) (2 ^ pn - 1)) else -1000002))) [(xo, .inr (5, [.ref xr, .ref xd, .ref ta, .ref tb, .ref xi, .ref aa, .ref sa, .int lf, .int (if 0 < nI pn then (if sd = false then 1 else if hold (nI an) x (nI pn) = false then 2 else 0) else fg)])), (xr, .inl (cs 2, 8, .inr (.inr (.inr (.inr g))))), (ta, .inr (4, [.ref tk, .ref tq, .ref tw, .int (nI pn), .int (nI tn), .int aw, .int me, .int sp])), (tk, .inl (cs 0, 8, .inl kf)), (tq, .inl (cs 0, 8, .inl sf)), (tw, .inl (cs 0, 8, .inl wf)), (ra, .inr (3, [.ref rp, .int (b2 sd), .int la, .int (nI an)])), (rp, .inl (cs 0, 40, .inl rf))] := by
  refine CT.of kX5_leaves (Nat.le_of_ble_eq_true rfl) ?_
  intro p e s m below meth c A C E
  have C : VOk p s m _ c cX5_leaves 5 wsX5_leaves RX5 D (tz cs) A s.heap := C
  refine V.lvs (lv' := [(0, .ref xo), (1, .int (nI j)), (2, .int x)]) [0, 1, 2] rfl ?_
  have hpw := pw64 pn hpn
  refine v_aload_n C 0 dX5_leaves_0 rfl ?_
  refine v_get C (v := .ref ta) fl_X5_leaves_26 0 rfl rfl dX5_leaves_1 ?_
  refine v_callVN (qi := 0) C [] [] kX4_stands gX5_leaves_X4_stands_n138 (host := "TableShares") (by decide +kernel) nq_X5_leaves_X4_stands (c_stands l D cs (ta := ta) (tk := tk) (tq := tq) (tw := tw) (pe := (nI pn)) (ti := (nI tn)) (aw := aw) (me := me) (sp := sp) ) ⟨Nat.le_of_ble_eq_true rfl, Nat.le_of_ble_eq_true rfl⟩ ⟨rfl, rfl⟩ ⟨Nat.zero_le _, Nat.zero_le _⟩ rfl 2 rfl rfl rfl rfl (Nat.le_of_ble_eq_true rfl) [2] [(xo, .inr (5, [.ref xr, .ref xd, .ref ta, .ref tb, .ref xi, .ref aa, .ref sa, .int lf, .int fg])), (xr, .inl (cs 2, 8, .inr (.inr (.inr (.inr g))))), (ta, .inr (4, [.ref tk, .ref tq, .ref tw, .int (nI pn), .int (nI tn), .int aw, .int me, .int sp])), (tk, .inl (cs 0, 8, .inl kf)), (tq, .inl (cs 0, 8, .inl sf)), (tw, .inl (cs 0, 8, .inl wf)), (ra, .inr (3, [.ref rp, .int (b2 sd), .int la, .int (nI an)])), (rp, .inl (cs 0, 40, .inl rf))] rfl (by decide) (show [ta] = [ta] from rfl) (rfl) dX5_leaves_4 ?_
  refine V.sts (st' := [.int (b2 (decide (0 < (nI pn))))]) rfl ?_
  refine v_if_neB C 13 dX5_leaves_7 (by decide) (fun c1 => ?_) (fun c1 => ?_)
  · skip
    refine v_aload_n C 0 dX5_leaves_13 rfl ?_
    refine v_iload_n C 1 dX5_leaves_14 rfl ?_
    refine v_callV (qi := 0) C [.int (nI j)] [] kX5_rowAt gX5_leaves_X5_rowAt (c_rowAtIn l D cs (xo := xo) (xr := xr) (xd := xd) (ta := ta) (tb := tb) (xi := xi) (aa := aa) (sa := sa) (lf := lf) (fg := fg) (g := g) (j := j) (r := ra) (by first | assumption | omega) (by first | assumption | omega)) ⟨Nat.le_of_ble_eq_true rfl, Nat.le_of_ble_eq_true rfl⟩ ⟨rfl, rfl⟩ ⟨Nat.zero_le _, Nat.zero_le _⟩ rfl 0 rfl rfl rfl rfl (Nat.le_of_ble_eq_true rfl) [0, 1] [(xo, .inr (5, [.ref xr, .ref xd, .ref ta, .ref tb, .ref xi, .ref aa, .ref sa, .int lf, .int fg])), (xr, .inl (cs 2, 8, .inr (.inr (.inr (.inr g))))), (ta, .inr (4, [.ref tk, .ref tq, .ref tw, .int (nI pn), .int (nI tn), .int aw, .int me, .int sp])), (tk, .inl (cs 0, 8, .inl kf)), (tq, .inl (cs 0, 8, .inl sf)), (tw, .inl (cs 0, 8, .inl wf)), (ra, .inr (3, [.ref rp, .int (b2 sd), .int la, .int (nI an)])), (rp, .inl (cs 0, 40, .inl rf))] rfl (by decide) (show [xo, xr] = [xo, xr] from rfl) (rfl) dX5_leaves_15 ?_
    refine V.sts (st' := [.ref ra]) rfl ?_
    refine v_astore_n C [(0, .ref xo), (1, .int (nI j)), (2, .int x), (3, .ref ra)] [1, 2, 3, 0] dX5_leaves_18 (by decide) rfl ?_
    refine v_aload_n C 3 dX5_leaves_19 rfl ?_
    refine v_ifnonnull C 26 dX5_leaves_20 (by decide) ?_
    refine v_aload_n C 3 dX5_leaves_26 rfl ?_
    refine v_getN C (v := .int (b2 sd)) fn_X5_leaves_76 6 rfl rfl dX5_leaves_27 ?_
    refine v_if_neB C 39 dX5_leaves_30 (by decide) (fun c2 => ?_) (fun c2 => ?_)
    · skip
      refine v_aload_n C 3 dX5_leaves_39 rfl ?_
      refine v_iload_n C 2 dX5_leaves_40 rfl ?_
      refine v_aload_n C 0 dX5_leaves_41 rfl ?_
      refine v_get C (v := .ref ta) fl_X5_leaves_26 0 rfl rfl dX5_leaves_42 ?_
      refine v_getN C (v := .int (nI pn)) fn_X5_leaves_199 2 rfl rfl dX5_leaves_45 ?_
      refine v_callVN (qi := 0) C [.int x, .int (nI pn)] [] kX3_holds gX5_leaves_X3_holds_n80 (host := "TableShares") (by decide +kernel) nq_X5_leaves_X3_holds (c_holds l D cs (ra := ra) (rp := rp) (sd := sd) (la := la) (ln := (nI an)) (i := x) (q := (nI pn)) ) ⟨Nat.le_of_ble_eq_true rfl, Nat.le_of_ble_eq_true rfl⟩ ⟨rfl, rfl⟩ ⟨Nat.zero_le _, Nat.zero_le _⟩ rfl 6 rfl rfl rfl rfl (Nat.le_of_ble_eq_true rfl) [6] [(xo, .inr (5, [.ref xr, .ref xd, .ref ta, .ref tb, .ref xi, .ref aa, .ref sa, .int lf, .int fg])), (xr, .inl (cs 2, 8, .inr (.inr (.inr (.inr g))))), (ta, .inr (4, [.ref tk, .ref tq, .ref tw, .int (nI pn), .int (nI tn), .int aw, .int me, .int sp])), (tk, .inl (cs 0, 8, .inl kf)), (tq, .inl (cs 0, 8, .inl sf)), (tw, .inl (cs 0, 8, .inl wf)), (ra, .inr (3, [.ref rp, .int (b2 sd), .int la, .int (nI an)])), (rp, .inl (cs 0, 40, .inl rf))] rfl (by decide) (show [ra] = [ra] from rfl) (rfl) dX5_leaves_48 ?_
      refine V.sts (st' := [.int (b2 (hold (nI an) x (nI pn)))]) rfl ?_
      refine v_if_neB C 60 dX5_leaves_51 (by decide) (fun c3 => ?_) (fun c3 => ?_)
      · skip
        refine v_iconst C (v := 1) dX5_leaves_60 (by decide) ?_
        refine v_istore C [(0, .ref xo), (1, .int (nI j)), (2, .int x), (3, .ref ra), (4, .int 1)] [1, 2, 3, 4, 0] dX5_leaves_61 (by decide) rfl ?_
        have L63 : ∀ (n : Nat) (i : Nat) (y0 : Int32), y0 = (nI i) → (i ≤ 2 ^ pn) → (1 ≤ i) → (∀ j, 1 ≤ j → j < i → lvP kf sf wf tn pn rf x j = false) → (2 ^ pn - i) < n → V p l e ({ frames := 4, cells := 0, slots := 0, locals := 91 }) s m (List.toArray [.ref xo, .int (nI j), .int x]) below meth c 0 0 (MQ below (vq_Q (some (.int (if 0 < nI pn then (if sd = false then -1000010 - 1 else if hold (nI an) x (nI pn) = false then -1000010 - 2 else lvS (lvP kf sf wf tn pn rf x) (2 ^ pn - 1)) else -1000002))) D [(xo, .inr (5, [.ref xr, .ref xd, .ref ta, .ref tb, .ref xi, .ref aa, .ref sa, .int lf, .int (if 0 < nI pn then (if sd = false then 1 else if hold (nI an) x (nI pn) = false then 2 else 0) else fg)])), (xr, .inl (cs 2, 8, .inr (.inr (.inr (.inr g))))), (ta, .inr (4, [.ref tk, .ref tq, .ref tw, .int (nI pn), .int (nI tn), .int aw, .int me, .int sp])), (tk, .inl (cs 0, 8, .inl kf)), (tq, .inl (cs 0, 8, .inl sf)), (tw, .inl (cs 0, 8, .inl wf)), (ra, .inr (3, [.ref rp, .int (b2 sd), .int la, .int (nI an)])), (rp, .inl (cs 0, 40, .inl rf))] [(xo, .inr (5, [.ref xr, .ref xd, .ref ta, .ref tb, .ref xi, .ref aa, .ref sa, .int lf, .int fg])), (xr, .inl (cs 2, 8, .inr (.inr (.inr (.inr g))))), (ta, .inr (4, [.ref tk, .ref tq, .ref tw, .int (nI pn), .int (nI tn), .int aw, .int me, .int sp])), (tk, .inl (cs 0, 8, .inl kf)), (tq, .inl (cs 0, 8, .inl sf)), (tw, .inl (cs 0, 8, .inl wf)), (ra, .inr (3, [.ref rp, .int (b2 sd), .int la, .int (nI an)])), (rp, .inl (cs 0, 40, .inl rf))] s.heap.size) (List.toArray [.ref xo, .int (nI j), .int x]) s 0 0 (va_A [(xo, .inr (5, [.ref xr, .ref xd, .ref ta, .ref tb, .ref xi, .ref aa, .ref sa, .int lf, .int fg])), (xr, .inl (cs 2, 8, .inr (.inr (.inr (.inr g))))), (ta, .inr (4, [.ref tk, .ref tq, .ref tw, .int (nI pn), .int (nI tn), .int aw, .int me, .int sp])), (tk, .inl (cs 0, 8, .inl kf)), (tq, .inl (cs 0, 8, .inl sf)), (tw, .inl (cs 0, 8, .inl wf)), (ra, .inr (3, [.ref rp, .int (b2 sd), .int la, .int (nI an)])), (rp, .inl (cs 0, 40, .inl rf))] s.heap.size)) 5 D A s.heap 63 [(0, .ref xo), (1, .int (nI j)), (2, .int x), (3, .ref ra), (4, .int y0)] [] [(xo, .inr (5, [.ref xr, .ref xd, .ref ta, .ref tb, .ref xi, .ref aa, .ref sa, .int lf, .int fg])), (xr, .inl (cs 2, 8, .inr (.inr (.inr (.inr g))))), (ta, .inr (4, [.ref tk, .ref tq, .ref tw, .int (nI pn), .int (nI tn), .int aw, .int me, .int sp])), (tk, .inl (cs 0, 8, .inl kf)), (tq, .inl (cs 0, 8, .inl sf)), (tw, .inl (cs 0, 8, .inl wf)), (ra, .inr (3, [.ref rp, .int (b2 sd), .int la, .int (nI an)])), (rp, .inl (cs 0, 40, .inl rf))] := by
          intro n
          induction n with
          | zero =>
            intros; omega
          | succ n ih63 =>
            intro i y0 ey0 hi h1 hno hn
            subst ey0
            refine v_iload C 4 dX5_leaves_63 rfl ?_
            refine v_aload_n C 0 dX5_leaves_65 rfl ?_
            refine v_get C (v := .ref ta) fl_X5_leaves_26 0 rfl rfl dX5_leaves_66 ?_
            refine v_callVN (qi := 0) C [] [.int (nI i)] kX4_everybody gX5_leaves_X4_everybody_n189 (host := "TableShares") (by decide +kernel) nq_X5_leaves_X4_everybody (c_everybody l D cs (ta := ta) (tk := tk) (tq := tq) (tw := tw) (pe := (nI pn)) (ti := (nI tn)) (aw := aw) (me := me) (sp := sp) ) ⟨Nat.le_of_ble_eq_true rfl, Nat.le_of_ble_eq_true rfl⟩ ⟨rfl, rfl⟩ ⟨Nat.zero_le _, Nat.zero_le _⟩ rfl 2 rfl rfl rfl rfl (Nat.le_of_ble_eq_true rfl) [2] [(xo, .inr (5, [.ref xr, .ref xd, .ref ta, .ref tb, .ref xi, .ref aa, .ref sa, .int lf, .int fg])), (xr, .inl (cs 2, 8, .inr (.inr (.inr (.inr g))))), (ta, .inr (4, [.ref tk, .ref tq, .ref tw, .int (nI pn), .int (nI tn), .int aw, .int me, .int sp])), (tk, .inl (cs 0, 8, .inl kf)), (tq, .inl (cs 0, 8, .inl sf)), (tw, .inl (cs 0, 8, .inl wf)), (ra, .inr (3, [.ref rp, .int (b2 sd), .int la, .int (nI an)])), (rp, .inl (cs 0, 40, .inl rf))] rfl (by decide) (show [ta] = [ta] from rfl) (rfl) dX5_leaves_69 ?_
            refine V.sts (st' := [.int (allI (nI pn)), .int (nI i)]) rfl ?_
            refine V.topr (y := nI (2 ^ pn - 1)) (all_nI pn hpn) ?_
            refine v_icmp_gt C 116 dX5_leaves_72 (by decide) (fun c4 => ?_) (fun c4 => ?_)
            · skip
              have hge : 2 ^ pn - 1 < i := lt_nI c4 (by omega) (by omega)
              have hN : i = 2 ^ pn := by omega
              refine v_aload_n C 0 dX5_leaves_116 rfl ?_
              refine v_ldc C (v := -1000000) (by decide +kernel) dX5_leaves_117 ?_
              have hlv : lvS (lvP kf sf wf tn pn rf x) (2 ^ pn - 1) = -1000000 := lvS_none (fun j a b => hno j a (by omega))
              refine v_callV (qi := 0) C [.int (-1000000)] [] kX5_well gX5_leaves_X5_well (c_well l D cs (xo := xo) (xr := xr) (xd := xd) (ta := ta) (tb := tb) (xi := xi) (aa := aa) (sa := sa) (lf := lf) (fg := fg) (x := (-1000000)) ) ⟨Nat.le_of_ble_eq_true rfl, Nat.le_of_ble_eq_true rfl⟩ ⟨rfl, rfl⟩ ⟨Nat.zero_le _, Nat.zero_le _⟩ rfl 0 rfl rfl rfl rfl (Nat.le_of_ble_eq_true rfl) [0] [(xo, .inr (5, [.ref xr, .ref xd, .ref ta, .ref tb, .ref xi, .ref aa, .ref sa, .int lf, .int 0])), (xr, .inl (cs 2, 8, .inr (.inr (.inr (.inr g))))), (ta, .inr (4, [.ref tk, .ref tq, .ref tw, .int (nI pn), .int (nI tn), .int aw, .int me, .int sp])), (tk, .inl (cs 0, 8, .inl kf)), (tq, .inl (cs 0, 8, .inl sf)), (tw, .inl (cs 0, 8, .inl wf)), (ra, .inr (3, [.ref rp, .int (b2 sd), .int la, .int (nI an)])), (rp, .inl (cs 0, 40, .inl rf))] rfl (by decide) (show [xo] = [xo] from rfl) (rfl) dX5_leaves_119 ?_
              refine V.sts (st' := [.int (-1000000)]) rfl ?_
              exact v_iret C E (by first | rfl | (simp only [c1, of_decide_eq_true c1, c2, c3, c4, Int32.not_le.mpr c4, ↓reduceIte, Bool.false_eq_true, reduceCtorEq, Bool.and_true, Bool.true_and, Bool.and_false, Bool.false_and]; done) | (simp [c1, of_decide_eq_true c1, c2, c3, c4, Int32.not_le.mpr c4]; done) | (simp_all [b2]; done)) (by first | rfl | (simp only [c1, of_decide_eq_true c1, c2, c3, c4, Int32.not_le.mpr c4, hlv, ↓reduceIte, Bool.false_eq_true, reduceCtorEq, Bool.and_true, Bool.true_and, Bool.and_false, Bool.false_and]; done) | (simp [c1, of_decide_eq_true c1, c2, c3, c4, Int32.not_le.mpr c4, hlv]; done) | (simp_all [b2]; done)) dX5_leaves_122
            · skip
              have hlt : i < 2 ^ pn := by have h9 := nlt_nI c4 (by omega) (by omega); omega
              refine v_aload_n C 0 dX5_leaves_75 rfl ?_
              refine v_get C (v := .ref ta) fl_X5_leaves_26 0 rfl rfl dX5_leaves_76 ?_
              refine v_iload C 4 dX5_leaves_79 rfl ?_
              refine v_callVN (qi := 0) C [.int (nI i)] [] kX4_worthOfSet gX5_leaves_X4_worthOfSet_n167 (host := "TableShares") (by decide +kernel) nq_X5_leaves_X4_worthOfSet (c_worthOfSet l D cs (ta := ta) (tk := tk) (tq := tq) (tw := tw) (kf := kf) (sf := sf) (wf := wf) (pe := (nI pn)) (aw := aw) (me := me) (sp := sp) (tn := tn) (th := (nI i)) (by first | assumption | omega) (by first | assumption | omega)) ⟨Nat.le_of_ble_eq_true rfl, Nat.le_of_ble_eq_true rfl⟩ ⟨rfl, rfl⟩ ⟨Nat.zero_le _, Nat.zero_le _⟩ rfl 2 rfl rfl rfl rfl (Nat.le_of_ble_eq_true rfl) [2, 3, 4, 5] [(xo, .inr (5, [.ref xr, .ref xd, .ref ta, .ref tb, .ref xi, .ref aa, .ref sa, .int lf, .int fg])), (xr, .inl (cs 2, 8, .inr (.inr (.inr (.inr g))))), (ta, .inr (4, [.ref tk, .ref tq, .ref tw, .int (nI pn), .int (nI tn), .int aw, .int me, .int sp])), (tk, .inl (cs 0, 8, .inl kf)), (tq, .inl (cs 0, 8, .inl sf)), (tw, .inl (cs 0, 8, .inl wf)), (ra, .inr (3, [.ref rp, .int (b2 sd), .int la, .int (nI an)])), (rp, .inl (cs 0, 40, .inl rf))] rfl (by decide) (show [ta, tk, tq, tw] = [ta, tk, tq, tw] from rfl) (rfl) dX5_leaves_81 ?_
              refine V.sts (st' := [.int (wsum kf sf wf (nI i) tn)]) rfl ?_
              refine v_i2l C dX5_leaves_84 ?_
              refine v_aload_n C 3 dX5_leaves_85 rfl ?_
              refine v_iload C 4 dX5_leaves_86 rfl ?_
              refine v_iload_n C 2 dX5_leaves_88 rfl ?_
              refine v_aload_n C 0 dX5_leaves_89 rfl ?_
              refine v_get C (v := .ref ta) fl_X5_leaves_26 0 rfl rfl dX5_leaves_90 ?_
              refine v_getN C (v := .int (nI pn)) fn_X5_leaves_199 2 rfl rfl dX5_leaves_93 ?_
              refine v_callVN (qi := 0) C [.int (nI i), .int x, .int (nI pn)] [.long (Int32.toInt64 (wsum kf sf wf (nI i) tn))] kX3_sumOf gX5_leaves_X3_sumOf_n216 (host := "TableShares") (by decide +kernel) nq_X5_leaves_X3_sumOf (c_sumOf l D cs (ra := ra) (rp := rp) (rf := rf) (sd := sd) (la := la) (ln := (nI an)) (x := (nI i)) (ix := x) (pn := pn) (hpn)) ⟨Nat.le_of_ble_eq_true rfl, Nat.le_of_ble_eq_true rfl⟩ ⟨rfl, rfl⟩ ⟨Nat.zero_le _, Nat.zero_le _⟩ rfl 6 rfl rfl rfl rfl (Nat.le_of_ble_eq_true rfl) [6, 7] [(xo, .inr (5, [.ref xr, .ref xd, .ref ta, .ref tb, .ref xi, .ref aa, .ref sa, .int lf, .int fg])), (xr, .inl (cs 2, 8, .inr (.inr (.inr (.inr g))))), (ta, .inr (4, [.ref tk, .ref tq, .ref tw, .int (nI pn), .int (nI tn), .int aw, .int me, .int sp])), (tk, .inl (cs 0, 8, .inl kf)), (tq, .inl (cs 0, 8, .inl sf)), (tw, .inl (cs 0, 8, .inl wf)), (ra, .inr (3, [.ref rp, .int (b2 sd), .int la, .int (nI an)])), (rp, .inl (cs 0, 40, .inl rf))] rfl (by decide) (show [ra, rp] = [ra, rp] from rfl) (rfl) dX5_leaves_96 ?_
              refine V.sts (st' := [.long (sumL rf x (nI i) pn), .long (Int32.toInt64 (wsum kf sf wf (nI i) tn))]) rfl ?_
              refine v_lcmp C dX5_leaves_99 ?_
              refine v_if_le C 110 dX5_leaves_100 (by decide) (fun c5 => ?_) (fun c5 => ?_)
              · skip
                refine v_iinc C (k := 4) (nI (i + 1)) [(0, .ref xo), (1, .int (nI j)), (2, .int x), (3, .ref ra), (4, .int (nI (i + 1)))] [1, 2, 3, 4, 0] dX5_leaves_110 rfl (nI_inc _) (by decide) rfl ?_
                refine v_goto C 63 dX5_leaves_113 (by decide) ?_
                exact ih63 (i + 1) _ (rfl) (by omega) (by first | assumption | omega) (fun j a b => (Nat.lt_or_ge j i).elim (hno j a) (fun h8 => by rw [show j = i by omega]; exact decide_eq_false (Int64.not_lt.mpr ((lg_cmp_le _ _).mp c5)))) (by omega)
              · skip
                refine v_aload_n C 0 dX5_leaves_103 rfl ?_
                refine v_iload C 4 dX5_leaves_104 rfl ?_
                have hlv : lvS (lvP kf sf wf tn pn rf x) (2 ^ pn - 1) = nI i := lvS_first h1 (by omega) (decide_eq_true (Int64.not_le.mp (fun z => c5 ((lg_cmp_le _ _).mpr z)))) hno (by omega)
                refine v_callV (qi := 0) C [.int (nI i)] [] kX5_well gX5_leaves_X5_well (c_well l D cs (xo := xo) (xr := xr) (xd := xd) (ta := ta) (tb := tb) (xi := xi) (aa := aa) (sa := sa) (lf := lf) (fg := fg) (x := (nI i)) ) ⟨Nat.le_of_ble_eq_true rfl, Nat.le_of_ble_eq_true rfl⟩ ⟨rfl, rfl⟩ ⟨Nat.zero_le _, Nat.zero_le _⟩ rfl 0 rfl rfl rfl rfl (Nat.le_of_ble_eq_true rfl) [0] [(xo, .inr (5, [.ref xr, .ref xd, .ref ta, .ref tb, .ref xi, .ref aa, .ref sa, .int lf, .int 0])), (xr, .inl (cs 2, 8, .inr (.inr (.inr (.inr g))))), (ta, .inr (4, [.ref tk, .ref tq, .ref tw, .int (nI pn), .int (nI tn), .int aw, .int me, .int sp])), (tk, .inl (cs 0, 8, .inl kf)), (tq, .inl (cs 0, 8, .inl sf)), (tw, .inl (cs 0, 8, .inl wf)), (ra, .inr (3, [.ref rp, .int (b2 sd), .int la, .int (nI an)])), (rp, .inl (cs 0, 40, .inl rf))] rfl (by decide) (show [xo] = [xo] from rfl) (rfl) dX5_leaves_106 ?_
                refine V.sts (st' := [.int (nI i)]) rfl ?_
                exact v_iret C E (by first | rfl | (simp only [c1, of_decide_eq_true c1, c2, c3, c4, Int32.not_lt.mp c4, c5, Int32.not_le.mp c5, ↓reduceIte, Bool.false_eq_true, reduceCtorEq, Bool.and_true, Bool.true_and, Bool.and_false, Bool.false_and]; done) | (simp [c1, of_decide_eq_true c1, c2, c3, c4, Int32.not_lt.mp c4, c5, Int32.not_le.mp c5]; done) | (simp_all [b2]; done)) (by first | rfl | (simp only [c1, of_decide_eq_true c1, c2, c3, c4, Int32.not_lt.mp c4, c5, Int32.not_le.mp c5, hlv, ↓reduceIte, Bool.false_eq_true, reduceCtorEq, Bool.and_true, Bool.true_and, Bool.and_false, Bool.false_and]; done) | (simp [c1, of_decide_eq_true c1, c2, c3, c4, Int32.not_lt.mp c4, c5, Int32.not_le.mp c5, hlv]; done) | (simp_all [b2]; done)) dX5_leaves_109
        exact L63 _ 1 _ (rfl) (by omega) (by first | assumption | omega) (fun j a b => absurd b (by omega)) (Nat.lt_succ_self _)
      · skip
        refine v_aload_n C 0 dX5_leaves_54 rfl ?_
        refine v_iconst C (v := 2) dX5_leaves_55 (by decide) ?_
        refine v_callV (qi := 0) C [.int 2] [] kX5_found gX5_leaves_X5_found (c_found l D cs (xo := xo) (xr := xr) (xd := xd) (ta := ta) (tb := tb) (xi := xi) (aa := aa) (sa := sa) (lf := lf) (fg := fg) (x := 2) ) ⟨Nat.le_of_ble_eq_true rfl, Nat.le_of_ble_eq_true rfl⟩ ⟨rfl, rfl⟩ ⟨Nat.zero_le _, Nat.zero_le _⟩ rfl 0 rfl rfl rfl rfl (Nat.le_of_ble_eq_true rfl) [0] [(xo, .inr (5, [.ref xr, .ref xd, .ref ta, .ref tb, .ref xi, .ref aa, .ref sa, .int lf, .int 2])), (xr, .inl (cs 2, 8, .inr (.inr (.inr (.inr g))))), (ta, .inr (4, [.ref tk, .ref tq, .ref tw, .int (nI pn), .int (nI tn), .int aw, .int me, .int sp])), (tk, .inl (cs 0, 8, .inl kf)), (tq, .inl (cs 0, 8, .inl sf)), (tw, .inl (cs 0, 8, .inl wf)), (ra, .inr (3, [.ref rp, .int (b2 sd), .int la, .int (nI an)])), (rp, .inl (cs 0, 40, .inl rf))] rfl (by decide) (show [xo] = [xo] from rfl) (rfl) dX5_leaves_56 ?_
        refine V.sts (st' := [.int (-1000010 - 2)]) rfl ?_
        exact v_iret C E (by first | rfl | (simp only [c1, of_decide_eq_true c1, c2, c3, ↓reduceIte, Bool.false_eq_true, reduceCtorEq, Bool.and_true, Bool.true_and, Bool.and_false, Bool.false_and]; done) | (simp [c1, of_decide_eq_true c1, c2, c3]; done) | (simp_all [b2]; done)) (by first | rfl | (simp only [c1, of_decide_eq_true c1, c2, c3, ↓reduceIte, Bool.false_eq_true, reduceCtorEq, Bool.and_true, Bool.true_and, Bool.and_false, Bool.false_and]; done) | (simp [c1, of_decide_eq_true c1, c2, c3]; done) | (simp_all [b2]; done)) dX5_leaves_59
    · skip
      refine v_aload_n C 0 dX5_leaves_33 rfl ?_
      refine v_iconst C (v := 1) dX5_leaves_34 (by decide) ?_
      refine v_callV (qi := 0) C [.int 1] [] kX5_found gX5_leaves_X5_found (c_found l D cs (xo := xo) (xr := xr) (xd := xd) (ta := ta) (tb := tb) (xi := xi) (aa := aa) (sa := sa) (lf := lf) (fg := fg) (x := 1) ) ⟨Nat.le_of_ble_eq_true rfl, Nat.le_of_ble_eq_true rfl⟩ ⟨rfl, rfl⟩ ⟨Nat.zero_le _, Nat.zero_le _⟩ rfl 0 rfl rfl rfl rfl (Nat.le_of_ble_eq_true rfl) [0] [(xo, .inr (5, [.ref xr, .ref xd, .ref ta, .ref tb, .ref xi, .ref aa, .ref sa, .int lf, .int 1])), (xr, .inl (cs 2, 8, .inr (.inr (.inr (.inr g))))), (ta, .inr (4, [.ref tk, .ref tq, .ref tw, .int (nI pn), .int (nI tn), .int aw, .int me, .int sp])), (tk, .inl (cs 0, 8, .inl kf)), (tq, .inl (cs 0, 8, .inl sf)), (tw, .inl (cs 0, 8, .inl wf)), (ra, .inr (3, [.ref rp, .int (b2 sd), .int la, .int (nI an)])), (rp, .inl (cs 0, 40, .inl rf))] rfl (by decide) (show [xo] = [xo] from rfl) (rfl) dX5_leaves_35 ?_
      refine V.sts (st' := [.int (-1000010 - 1)]) rfl ?_
      exact v_iret C E (by first | rfl | (simp only [c1, of_decide_eq_true c1, c2, ↓reduceIte, Bool.false_eq_true, reduceCtorEq, Bool.and_true, Bool.true_and, Bool.and_false, Bool.false_and]; done) | (simp [c1, of_decide_eq_true c1, c2]; done) | (simp_all [b2]; done)) (by first | rfl | (simp only [c1, of_decide_eq_true c1, c2, ↓reduceIte, Bool.false_eq_true, reduceCtorEq, Bool.and_true, Bool.true_and, Bool.and_false, Bool.false_and]; done) | (simp [c1, of_decide_eq_true c1, c2]; done) | (simp_all [b2]; done)) dX5_leaves_38
  · skip
    refine v_ldc C (v := -1000002) (by decide +kernel) dX5_leaves_10 ?_
    exact v_iret C E (by first | rfl | (simp only [c1, of_decide_eq_false c1, ↓reduceIte, Bool.false_eq_true, reduceCtorEq, Bool.and_true, Bool.true_and, Bool.and_false, Bool.false_and]; done) | (simp [c1, of_decide_eq_false c1]; done) | (simp_all [b2]; done)) (by first | rfl | (simp only [c1, of_decide_eq_false c1, ↓reduceIte, Bool.false_eq_true, reduceCtorEq, Bool.and_true, Bool.true_and, Bool.and_false, Bool.false_and]; done) | (simp [c1, of_decide_eq_false c1]; done) | (simp_all [b2]; done)) dX5_leaves_12
set_option maxHeartbeats 4000000 in
set_option maxRecDepth 100000 in
theorem c_leavesOut (l : Launch) (D : va_G) (cs : Nat → ClassId) {xo : Nat} {xr : Nat} {xd : Nat} {ta : Nat} {tb : Nat} {xi : Nat} {aa : Nat} {sa : Nat} {lf : Int32} {fg : Int32} {g : Nat → Option Nat} {tk : Nat} {tq : Nat} {tw : Nat} {pe : Int32} {ti : Int32} {aw : Int32} {me : Int32} {sp : Int32} {x0 : Int32} {x : Int32} (ho : x0 < 0 ∨ 8 ≤ x0) : CT l D (tz cs) yX5_leaves wsX5_leaves ({ frames := 4, cells := 0, slots := 0, locals := 91 }) [.ref xo, .int x0, .int x] [(xo, .inr (5, [.ref xr, .ref xd, .ref ta, .ref tb, .ref xi, .ref aa, .ref sa, .int lf, .int fg])), (xr, .inl (cs 2, 8, .inr (.inr (.inr (.inr g))))), (ta, .inr (4, [.ref tk, .ref tq, .ref tw, .int pe, .int ti, .int aw, .int me, .int sp]))] (some (.int (if 0 < pe then -1000001 else -1000002))) [(xo, .inr (5, [.ref xr, .ref xd, .ref ta, .ref tb, .ref xi, .ref aa, .ref sa, .int lf, .int fg])), (xr, .inl (cs 2, 8, .inr (.inr (.inr (.inr g))))), (ta, .inr (4, [.ref tk, .ref tq, .ref tw, .int pe, .int ti, .int aw, .int me, .int sp]))] := by
  refine CT.of kX5_leaves (Nat.le_of_ble_eq_true rfl) ?_
  intro p e s m below meth c A C E
  have C : VOk p s m _ c cX5_leaves 5 wsX5_leaves RX5 D (tz cs) A s.heap := C
  refine V.lvs (lv' := [(0, .ref xo), (1, .int x0), (2, .int x)]) [0, 1, 2] rfl ?_
  refine v_aload_n C 0 dX5_leaves_0 rfl ?_
  refine v_get C (v := .ref ta) fl_X5_leaves_26 0 rfl rfl dX5_leaves_1 ?_
  refine v_callVN (qi := 0) C [] [] kX4_stands gX5_leaves_X4_stands_n138 (host := "TableShares") (by decide +kernel) nq_X5_leaves_X4_stands (c_stands l D cs (ta := ta) (tk := tk) (tq := tq) (tw := tw) (pe := pe) (ti := ti) (aw := aw) (me := me) (sp := sp) ) ⟨Nat.le_of_ble_eq_true rfl, Nat.le_of_ble_eq_true rfl⟩ ⟨rfl, rfl⟩ ⟨Nat.zero_le _, Nat.zero_le _⟩ rfl 2 rfl rfl rfl rfl (Nat.le_of_ble_eq_true rfl) [2] [(xo, .inr (5, [.ref xr, .ref xd, .ref ta, .ref tb, .ref xi, .ref aa, .ref sa, .int lf, .int fg])), (xr, .inl (cs 2, 8, .inr (.inr (.inr (.inr g))))), (ta, .inr (4, [.ref tk, .ref tq, .ref tw, .int pe, .int ti, .int aw, .int me, .int sp]))] rfl (by decide) (show [ta] = [ta] from rfl) (rfl) dX5_leaves_4 ?_
  refine V.sts (st' := [.int (b2 (decide (0 < pe)))]) rfl ?_
  refine v_if_neB C 13 dX5_leaves_7 (by decide) (fun c1 => ?_) (fun c1 => ?_)
  · skip
    refine v_aload_n C 0 dX5_leaves_13 rfl ?_
    refine v_iload_n C 1 dX5_leaves_14 rfl ?_
    refine v_callV (qi := 0) C [.int x0] [] kX5_rowAt gX5_leaves_X5_rowAt (c_rowAtOut l D cs (xo := xo) (xr := xr) (xd := xd) (ta := ta) (tb := tb) (xi := xi) (aa := aa) (sa := sa) (lf := lf) (fg := fg) (g := g) (x := x0) (by first | assumption | omega)) ⟨Nat.le_of_ble_eq_true rfl, Nat.le_of_ble_eq_true rfl⟩ ⟨rfl, rfl⟩ ⟨Nat.zero_le _, Nat.zero_le _⟩ rfl 0 rfl rfl rfl rfl (Nat.le_of_ble_eq_true rfl) [0, 1] [(xo, .inr (5, [.ref xr, .ref xd, .ref ta, .ref tb, .ref xi, .ref aa, .ref sa, .int lf, .int fg])), (xr, .inl (cs 2, 8, .inr (.inr (.inr (.inr g))))), (ta, .inr (4, [.ref tk, .ref tq, .ref tw, .int pe, .int ti, .int aw, .int me, .int sp]))] rfl (by decide) (show [xo, xr] = [xo, xr] from rfl) (rfl) dX5_leaves_15 ?_
    refine V.sts (st' := [.null]) rfl ?_
    refine v_astore_nN C [(0, .ref xo), (1, .int x0), (2, .int x), (3, .null)] [1, 2, 3, 0] dX5_leaves_18 (by decide) rfl ?_
    refine v_aload_nN C 3 dX5_leaves_19 rfl ?_
    refine v_ifnonnullN C dX5_leaves_20 ?_
    refine v_ldc C (v := -1000001) (by decide +kernel) dX5_leaves_23 ?_
    exact v_iret C E (by first | rfl | (simp only [c1, of_decide_eq_true c1, ↓reduceIte, Bool.false_eq_true, reduceCtorEq, Bool.and_true, Bool.true_and, Bool.and_false, Bool.false_and]; done) | (simp [c1, of_decide_eq_true c1]; done) | (simp_all [b2]; done)) (by first | rfl | (simp only [c1, of_decide_eq_true c1, ↓reduceIte, Bool.false_eq_true, reduceCtorEq, Bool.and_true, Bool.true_and, Bool.and_false, Bool.false_and]; done) | (simp [c1, of_decide_eq_true c1]; done) | (simp_all [b2]; done)) dX5_leaves_25
  · skip
    refine v_ldc C (v := -1000002) (by decide +kernel) dX5_leaves_10 ?_
    exact v_iret C E (by first | rfl | (simp only [c1, of_decide_eq_false c1, ↓reduceIte, Bool.false_eq_true, reduceCtorEq, Bool.and_true, Bool.true_and, Bool.and_false, Bool.false_and]; done) | (simp [c1, of_decide_eq_false c1]; done) | (simp_all [b2]; done)) (by first | rfl | (simp only [c1, of_decide_eq_false c1, ↓reduceIte, Bool.false_eq_true, reduceCtorEq, Bool.and_true, Bool.true_and, Bool.and_false, Bool.false_and]; done) | (simp [c1, of_decide_eq_false c1]; done) | (simp_all [b2]; done)) dX5_leaves_12
theorem kX5_which : KD yX5_which wsX5_which cX5_which 8 (some .int) 4 := ⟨⟨_, rfl⟩, by decide, by decide +kernel, by decide +kernel, by decide +kernel⟩
theorem in_X5_which_X5 : ∀ w ∈ wsX50, w ∈ wsX5_which := by decide +kernel
theorem fl_X5_which_26 : FL RX5 wsX5_which RX5 RX5 TX5 9 5 2 26 := ⟨⟨in_X5_which_X5, rfl, by decide, rfl⟩, by decide +kernel⟩
theorem nq_X5_which_X4_isTie : Cond.initialized yX4_isTie.cls ∈ wsX5_which ∧ Cond.instanceMethod yX4_isTie ∈ wsX5_which ∧ Cond.selects yX4_isTie.cls yX4_isTie yX4_isTie ∈ wsX5_which := ⟨by decide +kernel, by decide +kernel, by decide +kernel⟩
theorem in_X5_which_X3 : ∀ w ∈ wsX30, w ∈ wsX5_which := by decide +kernel
theorem fn_X5_which_76 : FLN RX5 wsX5_which RX3 RX3 TX3 4 3 1 76 := ⟨⟨in_X5_which_X3, rfl, by decide, rfl⟩, "TableShares", by decide +kernel⟩
theorem nq_X5_which_X3_holds : Cond.initialized yX3_holds.cls ∈ wsX5_which ∧ Cond.instanceMethod yX3_holds ∈ wsX5_which ∧ Cond.selects yX3_holds.cls yX3_holds yX3_holds ∈ wsX5_which := ⟨by decide +kernel, by decide +kernel, by decide +kernel⟩
theorem nq_X5_which_X3_item : Cond.initialized yX3_item.cls ∈ wsX5_which ∧ Cond.instanceMethod yX3_item ∈ wsX5_which ∧ Cond.selects yX3_item.cls yX3_item yX3_item ∈ wsX5_which := ⟨by decide +kernel, by decide +kernel, by decide +kernel⟩
theorem nq_X5_which_X4_isSet : Cond.initialized yX4_isSet.cls ∈ wsX5_which ∧ Cond.instanceMethod yX4_isSet ∈ wsX5_which ∧ Cond.selects yX4_isSet.cls yX4_isSet yX4_isSet ∈ wsX5_which := ⟨by decide +kernel, by decide +kernel, by decide +kernel⟩
set_option maxHeartbeats 4000000 in
set_option maxRecDepth 100000 in
theorem c_whichIn (l : Launch) (D : va_G) (cs : Nat → ClassId) {xo : Nat} {xr : Nat} {xd : Nat} {ta : Nat} {tb : Nat} {xi : Nat} {aa : Nat} {sa : Nat} {lf : Int32} {fg : Int32} {tk : Nat} {tq : Nat} {tw : Nat} {kf : Nat → Int32} {sf : Nat → Int32} {wf : Nat → Int32} {pn : Nat} {aw : Int32} {me : Int32} {sp : Int32} {tn : Nat} {g : Nat → Option Nat} {j : Nat} {ra : Nat} {rp : Nat} {rf : Nat → Int32} {sd : Bool} {la : Int32} {an : Nat} {x : Int32} {i : Int32} {nn : Nat} (hS : ∀ t, s64 (sf t)) (hti : tn ≤ 8) (hpn : pn ≤ 6) (hj : j < 8) (hg : g j = some ra) (hx : inB (nI tn) x = true) (hnn : nn ≤ 10) : CT l D (tz cs) yX5_which wsX5_which ({ frames := 6, cells := 0, slots := 0, locals := 141 }) [.ref xo, .int x, .int (nI j), .int i, .int (nI nn)] [(xo, .inr (5, [.ref xr, .ref xd, .ref ta, .ref tb, .ref xi, .ref aa, .ref sa, .int lf, .int fg])), (xr, .inl (cs 2, 8, .inr (.inr (.inr (.inr g))))), (ta, .inr (4, [.ref tk, .ref tq, .ref tw, .int (nI pn), .int (nI tn), .int aw, .int me, .int sp])), (tk, .inl (cs 0, 8, .inl kf)), (tq, .inl (cs 0, 8, .inl sf)), (tw, .inl (cs 0, 8, .inl wf)), (ra, .inr (3, [.ref rp, .int (b2 sd), .int la, .int (nI an)])), (rp, .inl (cs 0, 40, .inl rf))] (some (.int (if sd = false then -1000010 - 1 else if hold (nI an) i (2 * nI nn) = false then -1000010 - 2 else if whB pn rf i nn = true then whK (fun kd => fitB kf sf wf tn rf x (nI kd) i nn) 5 else -1000001))) [(xo, .inr (5, [.ref xr, .ref xd, .ref ta, .ref tb, .ref xi, .ref aa, .ref sa, .int lf, .int (if sd = false then 1 else if hold (nI an) i (2 * nI nn) = false then 2 else if whB pn rf i nn = true then 0 else fg)])), (xr, .inl (cs 2, 8, .inr (.inr (.inr (.inr g))))), (ta, .inr (4, [.ref tk, .ref tq, .ref tw, .int (nI pn), .int (nI tn), .int aw, .int me, .int sp])), (tk, .inl (cs 0, 8, .inl kf)), (tq, .inl (cs 0, 8, .inl sf)), (tw, .inl (cs 0, 8, .inl wf)), (ra, .inr (3, [.ref rp, .int (b2 sd), .int la, .int (nI an)])), (rp, .inl (cs 0, 40, .inl rf))] := by
  refine CT.of kX5_which (Nat.le_of_ble_eq_true rfl) ?_
  intro p e s m below meth c A C E
  have C : VOk p s m _ c cX5_which 8 wsX5_which RX5 D (tz cs) A s.heap := C
  refine V.lvs (lv' := [(0, .ref xo), (1, .int x), (2, .int (nI j)), (3, .int i), (4, .int (nI nn))]) [0, 1, 2, 3, 4] rfl ?_
  have hpw := pw64 pn hpn
  refine v_aload_n C 0 dX5_which_0 rfl ?_
  refine v_iload_n C 2 dX5_which_1 rfl ?_
  refine v_callV (qi := 0) C [.int (nI j)] [] kX5_rowAt gX5_which_X5_rowAt (c_rowAtIn l D cs (xo := xo) (xr := xr) (xd := xd) (ta := ta) (tb := tb) (xi := xi) (aa := aa) (sa := sa) (lf := lf) (fg := fg) (g := g) (j := j) (r := ra) (by first | assumption | omega) (by first | assumption | omega)) ⟨Nat.le_of_ble_eq_true rfl, Nat.le_of_ble_eq_true rfl⟩ ⟨rfl, rfl⟩ ⟨Nat.zero_le _, Nat.zero_le _⟩ rfl 0 rfl rfl rfl rfl (Nat.le_of_ble_eq_true rfl) [0, 1] [(xo, .inr (5, [.ref xr, .ref xd, .ref ta, .ref tb, .ref xi, .ref aa, .ref sa, .int lf, .int fg])), (xr, .inl (cs 2, 8, .inr (.inr (.inr (.inr g))))), (ta, .inr (4, [.ref tk, .ref tq, .ref tw, .int (nI pn), .int (nI tn), .int aw, .int me, .int sp])), (tk, .inl (cs 0, 8, .inl kf)), (tq, .inl (cs 0, 8, .inl sf)), (tw, .inl (cs 0, 8, .inl wf)), (ra, .inr (3, [.ref rp, .int (b2 sd), .int la, .int (nI an)])), (rp, .inl (cs 0, 40, .inl rf))] rfl (by decide) (show [xo, xr] = [xo, xr] from rfl) (rfl) dX5_which_2 ?_
  refine V.sts (st' := [.ref ra]) rfl ?_
  refine v_astore C [(0, .ref xo), (1, .int x), (2, .int (nI j)), (3, .int i), (4, .int (nI nn)), (5, .ref ra)] [1, 2, 3, 4, 5, 0] dX5_which_5 (by decide) rfl ?_
  refine v_aload_n C 0 dX5_which_7 rfl ?_
  refine v_get C (v := .ref ta) fl_X5_which_26 0 rfl rfl dX5_which_8 ?_
  refine v_iload_n C 1 dX5_which_11 rfl ?_
  refine v_callVN (qi := 0) C [.int x] [] kX4_isTie gX5_which_X4_isTie_n182 (host := "TableShares") (by decide +kernel) nq_X5_which_X4_isTie (c_isTie l D cs (ta := ta) (tk := tk) (tq := tq) (tw := tw) (pe := (nI pn)) (ti := (nI tn)) (aw := aw) (me := me) (sp := sp) (x := x) ) ⟨Nat.le_of_ble_eq_true rfl, Nat.le_of_ble_eq_true rfl⟩ ⟨rfl, rfl⟩ ⟨Nat.zero_le _, Nat.zero_le _⟩ rfl 2 rfl rfl rfl rfl (Nat.le_of_ble_eq_true rfl) [2] [(xo, .inr (5, [.ref xr, .ref xd, .ref ta, .ref tb, .ref xi, .ref aa, .ref sa, .int lf, .int fg])), (xr, .inl (cs 2, 8, .inr (.inr (.inr (.inr g))))), (ta, .inr (4, [.ref tk, .ref tq, .ref tw, .int (nI pn), .int (nI tn), .int aw, .int me, .int sp])), (tk, .inl (cs 0, 8, .inl kf)), (tq, .inl (cs 0, 8, .inl sf)), (tw, .inl (cs 0, 8, .inl wf)), (ra, .inr (3, [.ref rp, .int (b2 sd), .int la, .int (nI an)])), (rp, .inl (cs 0, 40, .inl rf))] rfl (by decide) (show [ta] = [ta] from rfl) (rfl) dX5_which_12 ?_
  refine V.sts (st' := [.int (b2 (inB (nI tn) x))]) rfl ?_
  refine v_if_eqB C 35 dX5_which_15 (by decide) (fun c1 => ?_) (fun c1 => ?_)
  · exact absurd (hx.symm.trans c1) (by decide)
  · skip
    refine v_aload C 5 dX5_which_18 rfl ?_
    refine v_ifnull C dX5_which_20 ?_
    refine v_iload C 4 dX5_which_23 rfl ?_
    refine v_if_lt C 35 dX5_which_25 (by decide) (fun c2 => ?_) (fun c2 => ?_)
    · exact absurd c2 (nI_pos (by omega))
    · skip
      refine v_iload C 4 dX5_which_28 rfl ?_
      refine v_bipush C (v := 10) dX5_which_30 (by decide) ?_
      refine v_icmp_le C 38 dX5_which_32 (by decide) (fun c3 => ?_) (fun c3 => ?_)
      · skip
        refine v_aload C 5 dX5_which_38 rfl ?_
        refine v_getN C (v := .int (b2 sd)) fn_X5_which_76 6 rfl rfl dX5_which_40 ?_
        refine v_if_neB C 52 dX5_which_43 (by decide) (fun c4 => ?_) (fun c4 => ?_)
        · skip
          refine v_aload C 5 dX5_which_52 rfl ?_
          refine v_iload_n C 3 dX5_which_54 rfl ?_
          refine v_iconst C (v := 2) dX5_which_55 (by decide) ?_
          refine v_iload C 4 dX5_which_56 rfl ?_
          refine v_imul C dX5_which_58 ?_
          refine v_callVN (qi := 0) C [.int i, .int (2 * (nI nn))] [] kX3_holds gX5_which_X3_holds_n80 (host := "TableShares") (by decide +kernel) nq_X5_which_X3_holds (c_holds l D cs (ra := ra) (rp := rp) (sd := sd) (la := la) (ln := (nI an)) (i := i) (q := (2 * (nI nn))) ) ⟨Nat.le_of_ble_eq_true rfl, Nat.le_of_ble_eq_true rfl⟩ ⟨rfl, rfl⟩ ⟨Nat.zero_le _, Nat.zero_le _⟩ rfl 6 rfl rfl rfl rfl (Nat.le_of_ble_eq_true rfl) [6] [(xo, .inr (5, [.ref xr, .ref xd, .ref ta, .ref tb, .ref xi, .ref aa, .ref sa, .int lf, .int fg])), (xr, .inl (cs 2, 8, .inr (.inr (.inr (.inr g))))), (ta, .inr (4, [.ref tk, .ref tq, .ref tw, .int (nI pn), .int (nI tn), .int aw, .int me, .int sp])), (tk, .inl (cs 0, 8, .inl kf)), (tq, .inl (cs 0, 8, .inl sf)), (tw, .inl (cs 0, 8, .inl wf)), (ra, .inr (3, [.ref rp, .int (b2 sd), .int la, .int (nI an)])), (rp, .inl (cs 0, 40, .inl rf))] rfl (by decide) (show [ra] = [ra] from rfl) (rfl) dX5_which_59 ?_
          refine V.sts (st' := [.int (b2 (hold (nI an) i (2 * (nI nn))))]) rfl ?_
          refine v_if_neB C 71 dX5_which_62 (by decide) (fun c5 => ?_) (fun c5 => ?_)
          · skip
            refine v_iconst C (v := 0) dX5_which_71 (by decide) ?_
            refine v_istore C [(0, .ref xo), (1, .int x), (2, .int (nI j)), (3, .int i), (4, .int (nI nn)), (5, .ref ra), (6, .int 0)] [1, 2, 3, 4, 5, 6, 0] dX5_which_72 (by decide) rfl ?_
            have L74 : ∀ (n : Nat) (j2 : Nat) (y0 : Int32), y0 = (nI j2) → (j2 ≤ nn) → (whB pn rf i j2 = true) → (nn - j2) < n → V p l e ({ frames := 6, cells := 0, slots := 0, locals := 141 }) s m (List.toArray [.ref xo, .int x, .int (nI j), .int i, .int (nI nn)]) below meth c 0 0 (MQ below (vq_Q (some (.int (if sd = false then -1000010 - 1 else if hold (nI an) i (2 * nI nn) = false then -1000010 - 2 else if whB pn rf i nn = true then whK (fun kd => fitB kf sf wf tn rf x (nI kd) i nn) 5 else -1000001))) D [(xo, .inr (5, [.ref xr, .ref xd, .ref ta, .ref tb, .ref xi, .ref aa, .ref sa, .int lf, .int (if sd = false then 1 else if hold (nI an) i (2 * nI nn) = false then 2 else if whB pn rf i nn = true then 0 else fg)])), (xr, .inl (cs 2, 8, .inr (.inr (.inr (.inr g))))), (ta, .inr (4, [.ref tk, .ref tq, .ref tw, .int (nI pn), .int (nI tn), .int aw, .int me, .int sp])), (tk, .inl (cs 0, 8, .inl kf)), (tq, .inl (cs 0, 8, .inl sf)), (tw, .inl (cs 0, 8, .inl wf)), (ra, .inr (3, [.ref rp, .int (b2 sd), .int la, .int (nI an)])), (rp, .inl (cs 0, 40, .inl rf))] [(xo, .inr (5, [.ref xr, .ref xd, .ref ta, .ref tb, .ref xi, .ref aa, .ref sa, .int lf, .int fg])), (xr, .inl (cs 2, 8, .inr (.inr (.inr (.inr g))))), (ta, .inr (4, [.ref tk, .ref tq, .ref tw, .int (nI pn), .int (nI tn), .int aw, .int me, .int sp])), (tk, .inl (cs 0, 8, .inl kf)), (tq, .inl (cs 0, 8, .inl sf)), (tw, .inl (cs 0, 8, .inl wf)), (ra, .inr (3, [.ref rp, .int (b2 sd), .int la, .int (nI an)])), (rp, .inl (cs 0, 40, .inl rf))] s.heap.size) (List.toArray [.ref xo, .int x, .int (nI j), .int i, .int (nI nn)]) s 0 0 (va_A [(xo, .inr (5, [.ref xr, .ref xd, .ref ta, .ref tb, .ref xi, .ref aa, .ref sa, .int lf, .int fg])), (xr, .inl (cs 2, 8, .inr (.inr (.inr (.inr g))))), (ta, .inr (4, [.ref tk, .ref tq, .ref tw, .int (nI pn), .int (nI tn), .int aw, .int me, .int sp])), (tk, .inl (cs 0, 8, .inl kf)), (tq, .inl (cs 0, 8, .inl sf)), (tw, .inl (cs 0, 8, .inl wf)), (ra, .inr (3, [.ref rp, .int (b2 sd), .int la, .int (nI an)])), (rp, .inl (cs 0, 40, .inl rf))] s.heap.size)) 8 D A s.heap 74 [(0, .ref xo), (1, .int x), (2, .int (nI j)), (3, .int i), (4, .int (nI nn)), (5, .ref ra), (6, .int y0)] [] [(xo, .inr (5, [.ref xr, .ref xd, .ref ta, .ref tb, .ref xi, .ref aa, .ref sa, .int lf, .int fg])), (xr, .inl (cs 2, 8, .inr (.inr (.inr (.inr g))))), (ta, .inr (4, [.ref tk, .ref tq, .ref tw, .int (nI pn), .int (nI tn), .int aw, .int me, .int sp])), (tk, .inl (cs 0, 8, .inl kf)), (tq, .inl (cs 0, 8, .inl sf)), (tw, .inl (cs 0, 8, .inl wf)), (ra, .inr (3, [.ref rp, .int (b2 sd), .int la, .int (nI an)])), (rp, .inl (cs 0, 40, .inl rf))] := by
              intro n
              induction n with
              | zero =>
                intros; omega
              | succ n ih74 =>
                intro j2 y0 ey0 hj2 hf hn
                subst ey0
                refine v_iload C 6 dX5_which_74 rfl ?_
                refine v_iload C 4 dX5_which_76 rfl ?_
                refine v_icmp_ge C 111 dX5_which_78 (by decide) (fun c6 => ?_) (fun c6 => ?_)
                · skip
                  have hge : nn ≤ j2 := le_nI c6 (by omega) (by omega)
                  have hwb : whB pn rf i nn = true := by rw [show nn = j2 by omega]; exact hf
                  refine v_iconst C (v := 0) dX5_which_111 (by decide) ?_
                  refine v_istore C [(0, .ref xo), (1, .int x), (2, .int (nI j)), (3, .int i), (4, .int (nI nn)), (5, .ref ra), (6, .int 0)] [1, 2, 3, 4, 5, 6, 0] dX5_which_112 (by decide) rfl ?_
                  refine v_iconst C (v := 1) dX5_which_114 (by decide) ?_
                  refine v_istore C [(0, .ref xo), (1, .int x), (2, .int (nI j)), (3, .int i), (4, .int (nI nn)), (5, .ref ra), (6, .int 0), (7, .int 1)] [1, 2, 3, 4, 5, 6, 7, 0] dX5_which_115 (by decide) rfl ?_
                  have L117 : ∀ (n : Nat) (k : Nat) (y0 : Int32) (y1 : Int32), y0 = (whK (fun kd => fitB kf sf wf tn rf x (nI kd) i nn) k) → y1 = (nI (k + 1)) → (k ≤ 5) → (5 - k) < n → V p l e ({ frames := 6, cells := 0, slots := 0, locals := 141 }) s m (List.toArray [.ref xo, .int x, .int (nI j), .int i, .int (nI nn)]) below meth c 0 0 (MQ below (vq_Q (some (.int (if sd = false then -1000010 - 1 else if hold (nI an) i (2 * nI nn) = false then -1000010 - 2 else if whB pn rf i nn = true then whK (fun kd => fitB kf sf wf tn rf x (nI kd) i nn) 5 else -1000001))) D [(xo, .inr (5, [.ref xr, .ref xd, .ref ta, .ref tb, .ref xi, .ref aa, .ref sa, .int lf, .int (if sd = false then 1 else if hold (nI an) i (2 * nI nn) = false then 2 else if whB pn rf i nn = true then 0 else fg)])), (xr, .inl (cs 2, 8, .inr (.inr (.inr (.inr g))))), (ta, .inr (4, [.ref tk, .ref tq, .ref tw, .int (nI pn), .int (nI tn), .int aw, .int me, .int sp])), (tk, .inl (cs 0, 8, .inl kf)), (tq, .inl (cs 0, 8, .inl sf)), (tw, .inl (cs 0, 8, .inl wf)), (ra, .inr (3, [.ref rp, .int (b2 sd), .int la, .int (nI an)])), (rp, .inl (cs 0, 40, .inl rf))] [(xo, .inr (5, [.ref xr, .ref xd, .ref ta, .ref tb, .ref xi, .ref aa, .ref sa, .int lf, .int fg])), (xr, .inl (cs 2, 8, .inr (.inr (.inr (.inr g))))), (ta, .inr (4, [.ref tk, .ref tq, .ref tw, .int (nI pn), .int (nI tn), .int aw, .int me, .int sp])), (tk, .inl (cs 0, 8, .inl kf)), (tq, .inl (cs 0, 8, .inl sf)), (tw, .inl (cs 0, 8, .inl wf)), (ra, .inr (3, [.ref rp, .int (b2 sd), .int la, .int (nI an)])), (rp, .inl (cs 0, 40, .inl rf))] s.heap.size) (List.toArray [.ref xo, .int x, .int (nI j), .int i, .int (nI nn)]) s 0 0 (va_A [(xo, .inr (5, [.ref xr, .ref xd, .ref ta, .ref tb, .ref xi, .ref aa, .ref sa, .int lf, .int fg])), (xr, .inl (cs 2, 8, .inr (.inr (.inr (.inr g))))), (ta, .inr (4, [.ref tk, .ref tq, .ref tw, .int (nI pn), .int (nI tn), .int aw, .int me, .int sp])), (tk, .inl (cs 0, 8, .inl kf)), (tq, .inl (cs 0, 8, .inl sf)), (tw, .inl (cs 0, 8, .inl wf)), (ra, .inr (3, [.ref rp, .int (b2 sd), .int la, .int (nI an)])), (rp, .inl (cs 0, 40, .inl rf))] s.heap.size)) 8 D A s.heap 117 [(0, .ref xo), (1, .int x), (2, .int (nI j)), (3, .int i), (4, .int (nI nn)), (5, .ref ra), (6, .int y0), (7, .int y1)] [] [(xo, .inr (5, [.ref xr, .ref xd, .ref ta, .ref tb, .ref xi, .ref aa, .ref sa, .int lf, .int fg])), (xr, .inl (cs 2, 8, .inr (.inr (.inr (.inr g))))), (ta, .inr (4, [.ref tk, .ref tq, .ref tw, .int (nI pn), .int (nI tn), .int aw, .int me, .int sp])), (tk, .inl (cs 0, 8, .inl kf)), (tq, .inl (cs 0, 8, .inl sf)), (tw, .inl (cs 0, 8, .inl wf)), (ra, .inr (3, [.ref rp, .int (b2 sd), .int la, .int (nI an)])), (rp, .inl (cs 0, 40, .inl rf))] := by
                    intro n
                    induction n with
                    | zero =>
                      intros; omega
                    | succ n ih117 =>
                      intro k y0 y1 ey0 ey1 hk5 hn
                      subst ey0
                      subst ey1
                      refine v_iload C 7 dX5_which_117 rfl ?_
                      refine v_iconst C (v := 5) dX5_which_119 (by decide) ?_
                      refine v_icmp_gt C 153 dX5_which_120 (by decide) (fun c7 => ?_) (fun c7 => ?_)
                      · skip
                        have hge5 : 5 < k + 1 := lt_nI (a := 5) (b := k + 1) c7 (by omega) (by omega)
                        refine v_aload_n C 0 dX5_which_153 rfl ?_
                        refine v_iload C 6 dX5_which_154 rfl ?_
                        refine v_callV (qi := 0) C [.int (whK (fun kd => fitB kf sf wf tn rf x (nI kd) i nn) k)] [] kX5_well gX5_which_X5_well (c_well l D cs (xo := xo) (xr := xr) (xd := xd) (ta := ta) (tb := tb) (xi := xi) (aa := aa) (sa := sa) (lf := lf) (fg := fg) (x := (whK (fun kd => fitB kf sf wf tn rf x (nI kd) i nn) k)) ) ⟨Nat.le_of_ble_eq_true rfl, Nat.le_of_ble_eq_true rfl⟩ ⟨rfl, rfl⟩ ⟨Nat.zero_le _, Nat.zero_le _⟩ rfl 0 rfl rfl rfl rfl (Nat.le_of_ble_eq_true rfl) [0] [(xo, .inr (5, [.ref xr, .ref xd, .ref ta, .ref tb, .ref xi, .ref aa, .ref sa, .int lf, .int 0])), (xr, .inl (cs 2, 8, .inr (.inr (.inr (.inr g))))), (ta, .inr (4, [.ref tk, .ref tq, .ref tw, .int (nI pn), .int (nI tn), .int aw, .int me, .int sp])), (tk, .inl (cs 0, 8, .inl kf)), (tq, .inl (cs 0, 8, .inl sf)), (tw, .inl (cs 0, 8, .inl wf)), (ra, .inr (3, [.ref rp, .int (b2 sd), .int la, .int (nI an)])), (rp, .inl (cs 0, 40, .inl rf))] rfl (by decide) (show [xo] = [xo] from rfl) (rfl) dX5_which_156 ?_
                        refine V.sts (st' := [.int (whK (fun kd => fitB kf sf wf tn rf x (nI kd) i nn) k)]) rfl ?_
                        exact v_iret C E (by first | rfl | (simp only [c1, c2, Int32.not_lt.mp c2, c3, Int32.not_lt.mpr c3, c4, c5, c6, Int32.not_lt.mpr c6, c7, Int32.not_le.mpr c7, hwb, ↓reduceIte, Bool.false_eq_true, reduceCtorEq, Bool.and_true, Bool.true_and, Bool.and_false, Bool.false_and]; done) | (simp [c1, c2, Int32.not_lt.mp c2, c3, Int32.not_lt.mpr c3, c4, c5, c6, Int32.not_lt.mpr c6, c7, Int32.not_le.mpr c7, hwb]; done) | (simp_all [b2]; done)) (by rw [show k = 5 by omega]; first | rfl | (simp only [c1, c2, Int32.not_lt.mp c2, c3, Int32.not_lt.mpr c3, c4, c5, c6, Int32.not_lt.mpr c6, c7, Int32.not_le.mpr c7, hwb, ↓reduceIte, Bool.false_eq_true, reduceCtorEq, Bool.and_true, Bool.true_and, Bool.and_false, Bool.false_and]; done) | (simp [c1, c2, Int32.not_lt.mp c2, c3, Int32.not_lt.mpr c3, c4, c5, c6, Int32.not_lt.mpr c6, c7, Int32.not_le.mpr c7, hwb]; done) | (simp_all [b2]; done)) dX5_which_159
                      · skip
                        have hlt5 : k + 1 ≤ 5 := nlt_nI (a := 5) (b := k + 1) c7 (by omega) (by omega)
                        refine v_aload_n C 0 dX5_which_123 rfl ?_
                        refine v_iload_n C 1 dX5_which_124 rfl ?_
                        refine v_iload C 7 dX5_which_125 rfl ?_
                        refine v_aload C 5 dX5_which_127 rfl ?_
                        refine v_iload_n C 3 dX5_which_129 rfl ?_
                        refine v_iload C 4 dX5_which_130 rfl ?_
                        refine v_callV (qi := 0) C [.int x, .int (nI (k + 1)), .ref ra, .int i, .int (nI nn)] [] kX5_fits gX5_which_X5_fits (c_fits l D cs (xo := xo) (xr := xr) (xd := xd) (ta := ta) (tb := tb) (xi := xi) (aa := aa) (sa := sa) (lf := lf) (fg := fg) (tk := tk) (tq := tq) (tw := tw) (kf := kf) (sf := sf) (wf := wf) (pe := (nI pn)) (aw := aw) (me := me) (sp := sp) (tn := tn) (ra := ra) (rp := rp) (rf := rf) (sd := sd) (la := la) (ln := (nI an)) (x := x) (kd := (nI (k + 1))) (i := i) (mn := nn) (by first | assumption | omega) (by first | assumption | omega) (hnn)) ⟨Nat.le_of_ble_eq_true rfl, Nat.le_of_ble_eq_true rfl⟩ ⟨rfl, rfl⟩ ⟨Nat.zero_le _, Nat.zero_le _⟩ rfl 0 rfl rfl rfl rfl (Nat.le_of_ble_eq_true rfl) [0, 2, 3, 4, 5, 6, 7] [(xo, .inr (5, [.ref xr, .ref xd, .ref ta, .ref tb, .ref xi, .ref aa, .ref sa, .int lf, .int fg])), (xr, .inl (cs 2, 8, .inr (.inr (.inr (.inr g))))), (ta, .inr (4, [.ref tk, .ref tq, .ref tw, .int (nI pn), .int (nI tn), .int aw, .int me, .int sp])), (tk, .inl (cs 0, 8, .inl kf)), (tq, .inl (cs 0, 8, .inl sf)), (tw, .inl (cs 0, 8, .inl wf)), (ra, .inr (3, [.ref rp, .int (b2 sd), .int la, .int (nI an)])), (rp, .inl (cs 0, 40, .inl rf))] rfl (by decide) (show [xo, ta, tk, tq, tw, ra, rp] = [xo, ta, tk, tq, tw, ra, rp] from rfl) (rfl) dX5_which_132 ?_
                        refine V.sts (st' := [.int (b2 (fitB kf sf wf tn rf x (nI (k + 1)) i nn))]) rfl ?_
                        refine v_if_eqB C 147 dX5_which_135 (by decide) (fun c8 => ?_) (fun c8 => ?_)
                        · skip
                          refine v_iinc C (k := 7) (nI ((k + 1) + 1)) [(0, .ref xo), (1, .int x), (2, .int (nI j)), (3, .int i), (4, .int (nI nn)), (5, .ref ra), (6, .int (whK (fun kd => fitB kf sf wf tn rf x (nI kd) i nn) k)), (7, .int (nI ((k + 1) + 1)))] [1, 2, 3, 4, 5, 6, 7, 0] dX5_which_147 rfl (nI_inc _) (by decide) rfl ?_
                          refine v_goto C 117 dX5_which_150 (by decide) ?_
                          exact ih117 (k + 1) _ _ (by simp only [whK, c1, c2, Int32.not_lt.mp c2, c3, Int32.not_lt.mpr c3, c4, c5, c6, Int32.not_lt.mpr c6, c7, Int32.not_lt.mp c7, c8, decide_true, decide_false, ↓reduceIte, Bool.false_eq_true]) (rfl) (by first | assumption | omega) (by omega)
                        · skip
                          refine v_iload C 6 dX5_which_138 rfl ?_
                          refine v_iconst C (v := 1) dX5_which_140 (by decide) ?_
                          refine v_iload C 7 dX5_which_141 rfl ?_
                          refine v_ishl C dX5_which_143 ?_
                          refine v_ior C dX5_which_144 ?_
                          refine v_istore C [(0, .ref xo), (1, .int x), (2, .int (nI j)), (3, .int i), (4, .int (nI nn)), (5, .ref ra), (6, .int ((whK (fun kd => fitB kf sf wf tn rf x (nI kd) i nn) k) ||| (1 <<< ((nI (k + 1)) &&& 31)))), (7, .int (nI (k + 1)))] [1, 2, 3, 4, 5, 6, 0, 7] dX5_which_145 (by decide) rfl ?_
                          refine v_iinc C (k := 7) (nI ((k + 1) + 1)) [(0, .ref xo), (1, .int x), (2, .int (nI j)), (3, .int i), (4, .int (nI nn)), (5, .ref ra), (6, .int ((whK (fun kd => fitB kf sf wf tn rf x (nI kd) i nn) k) ||| (1 <<< ((nI (k + 1)) &&& 31)))), (7, .int (nI ((k + 1) + 1)))] [1, 2, 3, 4, 5, 6, 7, 0] dX5_which_147 rfl (nI_inc _) (by decide) rfl ?_
                          refine v_goto C 117 dX5_which_150 (by decide) ?_
                          exact ih117 (k + 1) _ _ (by simp only [whK, c1, c2, Int32.not_lt.mp c2, c3, Int32.not_lt.mpr c3, c4, c5, c6, Int32.not_lt.mpr c6, c7, Int32.not_lt.mp c7, c8, decide_true, decide_false, ↓reduceIte, Bool.false_eq_true]) (rfl) (by first | assumption | omega) (by omega)
                  exact L117 _ 0 _ _ (rfl) (rfl) (by first | assumption | omega) (Nat.lt_succ_self _)
                · skip
                  have hlt : j2 < nn := nle_nI c6 (by omega) (by omega)
                  refine v_aload_n C 0 dX5_which_81 rfl ?_
                  refine v_get C (v := .ref ta) fl_X5_which_26 0 rfl rfl dX5_which_82 ?_
                  refine v_aload C 5 dX5_which_85 rfl ?_
                  refine v_iload_n C 3 dX5_which_87 rfl ?_
                  refine v_iconst C (v := 2) dX5_which_88 (by decide) ?_
                  refine v_iload C 6 dX5_which_89 rfl ?_
                  refine v_imul C dX5_which_91 ?_
                  refine v_iadd C dX5_which_92 ?_
                  refine v_callVN (qi := 0) C [.int (i + (2 * (nI j2)))] [.ref ta] kX3_item gX5_which_X3_item_n87 (host := "TableShares") (by decide +kernel) nq_X5_which_X3_item (c_item l D cs (ra := ra) (rp := rp) (rf := rf) (sd := sd) (la := la) (ln := (nI an)) (i := (i + (2 * (nI j2)))) ) ⟨Nat.le_of_ble_eq_true rfl, Nat.le_of_ble_eq_true rfl⟩ ⟨rfl, rfl⟩ ⟨Nat.zero_le _, Nat.zero_le _⟩ rfl 6 rfl rfl rfl rfl (Nat.le_of_ble_eq_true rfl) [6, 7] [(xo, .inr (5, [.ref xr, .ref xd, .ref ta, .ref tb, .ref xi, .ref aa, .ref sa, .int lf, .int fg])), (xr, .inl (cs 2, 8, .inr (.inr (.inr (.inr g))))), (ta, .inr (4, [.ref tk, .ref tq, .ref tw, .int (nI pn), .int (nI tn), .int aw, .int me, .int sp])), (tk, .inl (cs 0, 8, .inl kf)), (tq, .inl (cs 0, 8, .inl sf)), (tw, .inl (cs 0, 8, .inl wf)), (ra, .inr (3, [.ref rp, .int (b2 sd), .int la, .int (nI an)])), (rp, .inl (cs 0, 40, .inl rf))] rfl (by decide) (show [ra, rp] = [ra, rp] from rfl) (rfl) dX5_which_93 ?_
                  refine V.sts (st' := [.int (gA rf 40 (i + (2 * (nI j2)))), .ref ta]) rfl ?_
                  refine v_callVN (qi := 0) C [.int (gA rf 40 (i + (2 * (nI j2))))] [] kX4_isSet gX5_which_X4_isSet_n141 (host := "TableShares") (by decide +kernel) nq_X5_which_X4_isSet (c_isSet l D cs (ta := ta) (tk := tk) (tq := tq) (tw := tw) (pe := (nI pn)) (ti := (nI tn)) (aw := aw) (me := me) (sp := sp) (x := (gA rf 40 (i + (2 * (nI j2))))) ) ⟨Nat.le_of_ble_eq_true rfl, Nat.le_of_ble_eq_true rfl⟩ ⟨rfl, rfl⟩ ⟨Nat.zero_le _, Nat.zero_le _⟩ rfl 2 rfl rfl rfl rfl (Nat.le_of_ble_eq_true rfl) [2] [(xo, .inr (5, [.ref xr, .ref xd, .ref ta, .ref tb, .ref xi, .ref aa, .ref sa, .int lf, .int fg])), (xr, .inl (cs 2, 8, .inr (.inr (.inr (.inr g))))), (ta, .inr (4, [.ref tk, .ref tq, .ref tw, .int (nI pn), .int (nI tn), .int aw, .int me, .int sp])), (tk, .inl (cs 0, 8, .inl kf)), (tq, .inl (cs 0, 8, .inl sf)), (tw, .inl (cs 0, 8, .inl wf)), (ra, .inr (3, [.ref rp, .int (b2 sd), .int la, .int (nI an)])), (rp, .inl (cs 0, 40, .inl rf))] rfl (by decide) (show [ta] = [ta] from rfl) (rfl) dX5_which_96 ?_
                  refine V.sts (st' := [.int (b2 (setB (nI pn) (gA rf 40 (i + (2 * (nI j2))))))]) rfl ?_
                  refine v_if_neB C 105 dX5_which_99 (by decide) (fun c9 => ?_) (fun c9 => ?_)
                  · skip
                    refine v_iinc C (k := 6) (nI (j2 + 1)) [(0, .ref xo), (1, .int x), (2, .int (nI j)), (3, .int i), (4, .int (nI nn)), (5, .ref ra), (6, .int (nI (j2 + 1)))] [1, 2, 3, 4, 5, 6, 0] dX5_which_105 rfl (nI_inc _) (by decide) rfl ?_
                    refine v_goto C 74 dX5_which_108 (by decide) ?_
                    exact ih74 (j2 + 1) _ (rfl) (by first | assumption | omega) (by rw [whB, hf, Bool.true_and]; exact c9) (by omega)
                  · skip
                    have hwb : whB pn rf i nn = false := Bool.eq_false_iff.mpr (fun hz => by have h9 := whB_le hlt hz; rw [whB, hf, Bool.true_and, c9] at h9; cases h9)
                    refine v_ldc C (v := -1000001) (by decide +kernel) dX5_which_102 ?_
                    exact v_iret C E (by first | rfl | (simp only [c1, c2, Int32.not_lt.mp c2, c3, Int32.not_lt.mpr c3, c4, c5, c6, Int32.not_le.mp c6, c9, hwb, ↓reduceIte, Bool.false_eq_true, reduceCtorEq, Bool.and_true, Bool.true_and, Bool.and_false, Bool.false_and]; done) | (simp [c1, c2, Int32.not_lt.mp c2, c3, Int32.not_lt.mpr c3, c4, c5, c6, Int32.not_le.mp c6, c9, hwb]; done) | (simp_all [b2]; done)) (by first | rfl | (simp only [c1, c2, Int32.not_lt.mp c2, c3, Int32.not_lt.mpr c3, c4, c5, c6, Int32.not_le.mp c6, c9, hwb, ↓reduceIte, Bool.false_eq_true, reduceCtorEq, Bool.and_true, Bool.true_and, Bool.and_false, Bool.false_and]; done) | (simp [c1, c2, Int32.not_lt.mp c2, c3, Int32.not_lt.mpr c3, c4, c5, c6, Int32.not_le.mp c6, c9, hwb]; done) | (simp_all [b2]; done)) dX5_which_104
            exact L74 _ 0 _ (rfl) (by first | assumption | omega) (rfl) (Nat.lt_succ_self _)
          · skip
            refine v_aload_n C 0 dX5_which_65 rfl ?_
            refine v_iconst C (v := 2) dX5_which_66 (by decide) ?_
            refine v_callV (qi := 0) C [.int 2] [] kX5_found gX5_which_X5_found (c_found l D cs (xo := xo) (xr := xr) (xd := xd) (ta := ta) (tb := tb) (xi := xi) (aa := aa) (sa := sa) (lf := lf) (fg := fg) (x := 2) ) ⟨Nat.le_of_ble_eq_true rfl, Nat.le_of_ble_eq_true rfl⟩ ⟨rfl, rfl⟩ ⟨Nat.zero_le _, Nat.zero_le _⟩ rfl 0 rfl rfl rfl rfl (Nat.le_of_ble_eq_true rfl) [0] [(xo, .inr (5, [.ref xr, .ref xd, .ref ta, .ref tb, .ref xi, .ref aa, .ref sa, .int lf, .int 2])), (xr, .inl (cs 2, 8, .inr (.inr (.inr (.inr g))))), (ta, .inr (4, [.ref tk, .ref tq, .ref tw, .int (nI pn), .int (nI tn), .int aw, .int me, .int sp])), (tk, .inl (cs 0, 8, .inl kf)), (tq, .inl (cs 0, 8, .inl sf)), (tw, .inl (cs 0, 8, .inl wf)), (ra, .inr (3, [.ref rp, .int (b2 sd), .int la, .int (nI an)])), (rp, .inl (cs 0, 40, .inl rf))] rfl (by decide) (show [xo] = [xo] from rfl) (rfl) dX5_which_67 ?_
            refine V.sts (st' := [.int (-1000010 - 2)]) rfl ?_
            exact v_iret C E (by first | rfl | (simp only [c1, c2, Int32.not_lt.mp c2, c3, Int32.not_lt.mpr c3, c4, c5, ↓reduceIte, Bool.false_eq_true, reduceCtorEq, Bool.and_true, Bool.true_and, Bool.and_false, Bool.false_and]; done) | (simp [c1, c2, Int32.not_lt.mp c2, c3, Int32.not_lt.mpr c3, c4, c5]; done) | (simp_all [b2]; done)) (by first | rfl | (simp only [c1, c2, Int32.not_lt.mp c2, c3, Int32.not_lt.mpr c3, c4, c5, ↓reduceIte, Bool.false_eq_true, reduceCtorEq, Bool.and_true, Bool.true_and, Bool.and_false, Bool.false_and]; done) | (simp [c1, c2, Int32.not_lt.mp c2, c3, Int32.not_lt.mpr c3, c4, c5]; done) | (simp_all [b2]; done)) dX5_which_70
        · skip
          refine v_aload_n C 0 dX5_which_46 rfl ?_
          refine v_iconst C (v := 1) dX5_which_47 (by decide) ?_
          refine v_callV (qi := 0) C [.int 1] [] kX5_found gX5_which_X5_found (c_found l D cs (xo := xo) (xr := xr) (xd := xd) (ta := ta) (tb := tb) (xi := xi) (aa := aa) (sa := sa) (lf := lf) (fg := fg) (x := 1) ) ⟨Nat.le_of_ble_eq_true rfl, Nat.le_of_ble_eq_true rfl⟩ ⟨rfl, rfl⟩ ⟨Nat.zero_le _, Nat.zero_le _⟩ rfl 0 rfl rfl rfl rfl (Nat.le_of_ble_eq_true rfl) [0] [(xo, .inr (5, [.ref xr, .ref xd, .ref ta, .ref tb, .ref xi, .ref aa, .ref sa, .int lf, .int 1])), (xr, .inl (cs 2, 8, .inr (.inr (.inr (.inr g))))), (ta, .inr (4, [.ref tk, .ref tq, .ref tw, .int (nI pn), .int (nI tn), .int aw, .int me, .int sp])), (tk, .inl (cs 0, 8, .inl kf)), (tq, .inl (cs 0, 8, .inl sf)), (tw, .inl (cs 0, 8, .inl wf)), (ra, .inr (3, [.ref rp, .int (b2 sd), .int la, .int (nI an)])), (rp, .inl (cs 0, 40, .inl rf))] rfl (by decide) (show [xo] = [xo] from rfl) (rfl) dX5_which_48 ?_
          refine V.sts (st' := [.int (-1000010 - 1)]) rfl ?_
          exact v_iret C E (by first | rfl | (simp only [c1, c2, Int32.not_lt.mp c2, c3, Int32.not_lt.mpr c3, c4, ↓reduceIte, Bool.false_eq_true, reduceCtorEq, Bool.and_true, Bool.true_and, Bool.and_false, Bool.false_and]; done) | (simp [c1, c2, Int32.not_lt.mp c2, c3, Int32.not_lt.mpr c3, c4]; done) | (simp_all [b2]; done)) (by first | rfl | (simp only [c1, c2, Int32.not_lt.mp c2, c3, Int32.not_lt.mpr c3, c4, ↓reduceIte, Bool.false_eq_true, reduceCtorEq, Bool.and_true, Bool.true_and, Bool.and_false, Bool.false_and]; done) | (simp [c1, c2, Int32.not_lt.mp c2, c3, Int32.not_lt.mpr c3, c4]; done) | (simp_all [b2]; done)) dX5_which_51
      · exact absurd (nI_le (a := nn) (b := 10) hnn (by decide)) c3
set_option maxHeartbeats 4000000 in
set_option maxRecDepth 100000 in
theorem c_whichBad (l : Launch) (D : va_G) (cs : Nat → ClassId) {xo : Nat} {xr : Nat} {xd : Nat} {ta : Nat} {tb : Nat} {xi : Nat} {aa : Nat} {sa : Nat} {lf : Int32} {fg : Int32} {tk : Nat} {tq : Nat} {tw : Nat} {kf : Nat → Int32} {sf : Nat → Int32} {wf : Nat → Int32} {pn : Nat} {aw : Int32} {me : Int32} {sp : Int32} {tn : Nat} {g : Nat → Option Nat} {j : Nat} {ra : Nat} {rp : Nat} {rf : Nat → Int32} {sd : Bool} {la : Int32} {an : Nat} {x : Int32} {i : Int32} {y : Int32} (hS : ∀ t, s64 (sf t)) (hti : tn ≤ 8) (hpn : pn ≤ 6) (hj : j < 8) (hg : g j = some ra) (hb : inB (nI tn) x = false ∨ y < 0 ∨ 10 < y) : CT l D (tz cs) yX5_which wsX5_which ({ frames := 6, cells := 0, slots := 0, locals := 141 }) [.ref xo, .int x, .int (nI j), .int i, .int y] [(xo, .inr (5, [.ref xr, .ref xd, .ref ta, .ref tb, .ref xi, .ref aa, .ref sa, .int lf, .int fg])), (xr, .inl (cs 2, 8, .inr (.inr (.inr (.inr g))))), (ta, .inr (4, [.ref tk, .ref tq, .ref tw, .int (nI pn), .int (nI tn), .int aw, .int me, .int sp])), (tk, .inl (cs 0, 8, .inl kf)), (tq, .inl (cs 0, 8, .inl sf)), (tw, .inl (cs 0, 8, .inl wf)), (ra, .inr (3, [.ref rp, .int (b2 sd), .int la, .int (nI an)])), (rp, .inl (cs 0, 40, .inl rf))] (some (.int (-1000001))) [(xo, .inr (5, [.ref xr, .ref xd, .ref ta, .ref tb, .ref xi, .ref aa, .ref sa, .int lf, .int fg])), (xr, .inl (cs 2, 8, .inr (.inr (.inr (.inr g))))), (ta, .inr (4, [.ref tk, .ref tq, .ref tw, .int (nI pn), .int (nI tn), .int aw, .int me, .int sp])), (tk, .inl (cs 0, 8, .inl kf)), (tq, .inl (cs 0, 8, .inl sf)), (tw, .inl (cs 0, 8, .inl wf)), (ra, .inr (3, [.ref rp, .int (b2 sd), .int la, .int (nI an)])), (rp, .inl (cs 0, 40, .inl rf))] := by
  refine CT.of kX5_which (Nat.le_of_ble_eq_true rfl) ?_
  intro p e s m below meth c A C E
  have C : VOk p s m _ c cX5_which 8 wsX5_which RX5 D (tz cs) A s.heap := C
  refine V.lvs (lv' := [(0, .ref xo), (1, .int x), (2, .int (nI j)), (3, .int i), (4, .int y)]) [0, 1, 2, 3, 4] rfl ?_
  have hpw := pw64 pn hpn
  refine v_aload_n C 0 dX5_which_0 rfl ?_
  refine v_iload_n C 2 dX5_which_1 rfl ?_
  refine v_callV (qi := 0) C [.int (nI j)] [] kX5_rowAt gX5_which_X5_rowAt (c_rowAtIn l D cs (xo := xo) (xr := xr) (xd := xd) (ta := ta) (tb := tb) (xi := xi) (aa := aa) (sa := sa) (lf := lf) (fg := fg) (g := g) (j := j) (r := ra) (by first | assumption | omega) (by first | assumption | omega)) ⟨Nat.le_of_ble_eq_true rfl, Nat.le_of_ble_eq_true rfl⟩ ⟨rfl, rfl⟩ ⟨Nat.zero_le _, Nat.zero_le _⟩ rfl 0 rfl rfl rfl rfl (Nat.le_of_ble_eq_true rfl) [0, 1] [(xo, .inr (5, [.ref xr, .ref xd, .ref ta, .ref tb, .ref xi, .ref aa, .ref sa, .int lf, .int fg])), (xr, .inl (cs 2, 8, .inr (.inr (.inr (.inr g))))), (ta, .inr (4, [.ref tk, .ref tq, .ref tw, .int (nI pn), .int (nI tn), .int aw, .int me, .int sp])), (tk, .inl (cs 0, 8, .inl kf)), (tq, .inl (cs 0, 8, .inl sf)), (tw, .inl (cs 0, 8, .inl wf)), (ra, .inr (3, [.ref rp, .int (b2 sd), .int la, .int (nI an)])), (rp, .inl (cs 0, 40, .inl rf))] rfl (by decide) (show [xo, xr] = [xo, xr] from rfl) (rfl) dX5_which_2 ?_
  refine V.sts (st' := [.ref ra]) rfl ?_
  refine v_astore C [(0, .ref xo), (1, .int x), (2, .int (nI j)), (3, .int i), (4, .int y), (5, .ref ra)] [1, 2, 3, 4, 5, 0] dX5_which_5 (by decide) rfl ?_
  refine v_aload_n C 0 dX5_which_7 rfl ?_
  refine v_get C (v := .ref ta) fl_X5_which_26 0 rfl rfl dX5_which_8 ?_
  refine v_iload_n C 1 dX5_which_11 rfl ?_
  refine v_callVN (qi := 0) C [.int x] [] kX4_isTie gX5_which_X4_isTie_n182 (host := "TableShares") (by decide +kernel) nq_X5_which_X4_isTie (c_isTie l D cs (ta := ta) (tk := tk) (tq := tq) (tw := tw) (pe := (nI pn)) (ti := (nI tn)) (aw := aw) (me := me) (sp := sp) (x := x) ) ⟨Nat.le_of_ble_eq_true rfl, Nat.le_of_ble_eq_true rfl⟩ ⟨rfl, rfl⟩ ⟨Nat.zero_le _, Nat.zero_le _⟩ rfl 2 rfl rfl rfl rfl (Nat.le_of_ble_eq_true rfl) [2] [(xo, .inr (5, [.ref xr, .ref xd, .ref ta, .ref tb, .ref xi, .ref aa, .ref sa, .int lf, .int fg])), (xr, .inl (cs 2, 8, .inr (.inr (.inr (.inr g))))), (ta, .inr (4, [.ref tk, .ref tq, .ref tw, .int (nI pn), .int (nI tn), .int aw, .int me, .int sp])), (tk, .inl (cs 0, 8, .inl kf)), (tq, .inl (cs 0, 8, .inl sf)), (tw, .inl (cs 0, 8, .inl wf)), (ra, .inr (3, [.ref rp, .int (b2 sd), .int la, .int (nI an)])), (rp, .inl (cs 0, 40, .inl rf))] rfl (by decide) (show [ta] = [ta] from rfl) (rfl) dX5_which_12 ?_
  refine V.sts (st' := [.int (b2 (inB (nI tn) x))]) rfl ?_
  refine v_if_eqB C 35 dX5_which_15 (by decide) (fun c1 => ?_) (fun c1 => ?_)
  · skip
    refine v_ldc C (v := -1000001) (by decide +kernel) dX5_which_35 ?_
    exact v_iret C E (rfl) (by first | rfl | (simp only [c1, ↓reduceIte, Bool.false_eq_true, reduceCtorEq, Bool.and_true, Bool.true_and, Bool.and_false, Bool.false_and]; done) | (simp [c1]; done) | (simp_all [b2]; done)) dX5_which_37
  · skip
    refine v_aload C 5 dX5_which_18 rfl ?_
    refine v_ifnull C dX5_which_20 ?_
    refine v_iload C 4 dX5_which_23 rfl ?_
    refine v_if_lt C 35 dX5_which_25 (by decide) (fun c2 => ?_) (fun c2 => ?_)
    · skip
      refine v_ldc C (v := -1000001) (by decide +kernel) dX5_which_35 ?_
      exact v_iret C E (rfl) (by first | rfl | (simp only [c1, c2, Int32.not_le.mpr c2, ↓reduceIte, Bool.false_eq_true, reduceCtorEq, Bool.and_true, Bool.true_and, Bool.and_false, Bool.false_and]; done) | (simp [c1, c2, Int32.not_le.mpr c2]; done) | (simp_all [b2]; done)) dX5_which_37
    · skip
      refine v_iload C 4 dX5_which_28 rfl ?_
      refine v_bipush C (v := 10) dX5_which_30 (by decide) ?_
      refine v_icmp_le C 38 dX5_which_32 (by decide) (fun c3 => ?_) (fun c3 => ?_)
      · exact hb.elim (fun q => absurd (q.symm.trans c1) (by decide)) (fun q => q.elim (fun q => absurd q c2) (fun q => absurd c3 (Int32.not_le.mpr q)))
      · skip
        refine v_ldc C (v := -1000001) (by decide +kernel) dX5_which_35 ?_
        exact v_iret C E (rfl) (by first | rfl | (simp only [c1, c2, Int32.not_lt.mp c2, c3, Int32.not_le.mp c3, ↓reduceIte, Bool.false_eq_true, reduceCtorEq, Bool.and_true, Bool.true_and, Bool.and_false, Bool.false_and]; done) | (simp [c1, c2, Int32.not_lt.mp c2, c3, Int32.not_le.mp c3]; done) | (simp_all [b2]; done)) dX5_which_37
set_option maxHeartbeats 4000000 in
set_option maxRecDepth 100000 in
theorem c_whichOut (l : Launch) (D : va_G) (cs : Nat → ClassId) {xo : Nat} {xr : Nat} {xd : Nat} {ta : Nat} {tb : Nat} {xi : Nat} {aa : Nat} {sa : Nat} {lf : Int32} {fg : Int32} {tk : Nat} {tq : Nat} {tw : Nat} {kf : Nat → Int32} {sf : Nat → Int32} {wf : Nat → Int32} {pn : Nat} {aw : Int32} {me : Int32} {sp : Int32} {tn : Nat} {g : Nat → Option Nat} {x : Int32} {x0 : Int32} {i : Int32} {y : Int32} (hS : ∀ t, s64 (sf t)) (hti : tn ≤ 8) (hpn : pn ≤ 6) (ho : x0 < 0 ∨ 8 ≤ x0) : CT l D (tz cs) yX5_which wsX5_which ({ frames := 6, cells := 0, slots := 0, locals := 141 }) [.ref xo, .int x, .int x0, .int i, .int y] [(xo, .inr (5, [.ref xr, .ref xd, .ref ta, .ref tb, .ref xi, .ref aa, .ref sa, .int lf, .int fg])), (xr, .inl (cs 2, 8, .inr (.inr (.inr (.inr g))))), (ta, .inr (4, [.ref tk, .ref tq, .ref tw, .int (nI pn), .int (nI tn), .int aw, .int me, .int sp])), (tk, .inl (cs 0, 8, .inl kf)), (tq, .inl (cs 0, 8, .inl sf)), (tw, .inl (cs 0, 8, .inl wf))] (some (.int (-1000001))) [(xo, .inr (5, [.ref xr, .ref xd, .ref ta, .ref tb, .ref xi, .ref aa, .ref sa, .int lf, .int fg])), (xr, .inl (cs 2, 8, .inr (.inr (.inr (.inr g))))), (ta, .inr (4, [.ref tk, .ref tq, .ref tw, .int (nI pn), .int (nI tn), .int aw, .int me, .int sp])), (tk, .inl (cs 0, 8, .inl kf)), (tq, .inl (cs 0, 8, .inl sf)), (tw, .inl (cs 0, 8, .inl wf))] := by
  refine CT.of kX5_which (Nat.le_of_ble_eq_true rfl) ?_
  intro p e s m below meth c A C E
  have C : VOk p s m _ c cX5_which 8 wsX5_which RX5 D (tz cs) A s.heap := C
  refine V.lvs (lv' := [(0, .ref xo), (1, .int x), (2, .int x0), (3, .int i), (4, .int y)]) [0, 1, 2, 3, 4] rfl ?_
  have hpw := pw64 pn hpn
  refine v_aload_n C 0 dX5_which_0 rfl ?_
  refine v_iload_n C 2 dX5_which_1 rfl ?_
  refine v_callV (qi := 0) C [.int x0] [] kX5_rowAt gX5_which_X5_rowAt (c_rowAtOut l D cs (xo := xo) (xr := xr) (xd := xd) (ta := ta) (tb := tb) (xi := xi) (aa := aa) (sa := sa) (lf := lf) (fg := fg) (g := g) (x := x0) (by first | assumption | omega)) ⟨Nat.le_of_ble_eq_true rfl, Nat.le_of_ble_eq_true rfl⟩ ⟨rfl, rfl⟩ ⟨Nat.zero_le _, Nat.zero_le _⟩ rfl 0 rfl rfl rfl rfl (Nat.le_of_ble_eq_true rfl) [0, 1] [(xo, .inr (5, [.ref xr, .ref xd, .ref ta, .ref tb, .ref xi, .ref aa, .ref sa, .int lf, .int fg])), (xr, .inl (cs 2, 8, .inr (.inr (.inr (.inr g))))), (ta, .inr (4, [.ref tk, .ref tq, .ref tw, .int (nI pn), .int (nI tn), .int aw, .int me, .int sp])), (tk, .inl (cs 0, 8, .inl kf)), (tq, .inl (cs 0, 8, .inl sf)), (tw, .inl (cs 0, 8, .inl wf))] rfl (by decide) (show [xo, xr] = [xo, xr] from rfl) (rfl) dX5_which_2 ?_
  refine V.sts (st' := [.null]) rfl ?_
  refine v_astoreN C [(0, .ref xo), (1, .int x), (2, .int x0), (3, .int i), (4, .int y), (5, .null)] [1, 2, 3, 4, 5, 0] dX5_which_5 (by decide) rfl ?_
  refine v_aload_n C 0 dX5_which_7 rfl ?_
  refine v_get C (v := .ref ta) fl_X5_which_26 0 rfl rfl dX5_which_8 ?_
  refine v_iload_n C 1 dX5_which_11 rfl ?_
  refine v_callVN (qi := 0) C [.int x] [] kX4_isTie gX5_which_X4_isTie_n182 (host := "TableShares") (by decide +kernel) nq_X5_which_X4_isTie (c_isTie l D cs (ta := ta) (tk := tk) (tq := tq) (tw := tw) (pe := (nI pn)) (ti := (nI tn)) (aw := aw) (me := me) (sp := sp) (x := x) ) ⟨Nat.le_of_ble_eq_true rfl, Nat.le_of_ble_eq_true rfl⟩ ⟨rfl, rfl⟩ ⟨Nat.zero_le _, Nat.zero_le _⟩ rfl 2 rfl rfl rfl rfl (Nat.le_of_ble_eq_true rfl) [2] [(xo, .inr (5, [.ref xr, .ref xd, .ref ta, .ref tb, .ref xi, .ref aa, .ref sa, .int lf, .int fg])), (xr, .inl (cs 2, 8, .inr (.inr (.inr (.inr g))))), (ta, .inr (4, [.ref tk, .ref tq, .ref tw, .int (nI pn), .int (nI tn), .int aw, .int me, .int sp])), (tk, .inl (cs 0, 8, .inl kf)), (tq, .inl (cs 0, 8, .inl sf)), (tw, .inl (cs 0, 8, .inl wf))] rfl (by decide) (show [ta] = [ta] from rfl) (rfl) dX5_which_12 ?_
  refine V.sts (st' := [.int (b2 (inB (nI tn) x))]) rfl ?_
  refine v_if_eqB C 35 dX5_which_15 (by decide) (fun c1 => ?_) (fun c1 => ?_)
  · skip
    refine v_ldc C (v := -1000001) (by decide +kernel) dX5_which_35 ?_
    exact v_iret C E (rfl) (by first | rfl | (simp only [c1, ↓reduceIte, Bool.false_eq_true, reduceCtorEq, Bool.and_true, Bool.true_and, Bool.and_false, Bool.false_and]; done) | (simp [c1]; done) | (simp_all [b2]; done)) dX5_which_37
  · skip
    refine v_aloadN C 5 dX5_which_18 rfl ?_
    refine v_ifnullN C 35 dX5_which_20 (by decide) ?_
    refine v_ldc C (v := -1000001) (by decide +kernel) dX5_which_35 ?_
    exact v_iret C E (rfl) (by first | rfl | (simp only [c1, ↓reduceIte, Bool.false_eq_true, reduceCtorEq, Bool.and_true, Bool.true_and, Bool.and_false, Bool.false_and]; done) | (simp [c1]; done) | (simp_all [b2]; done)) dX5_which_37
theorem kX5_colds : KD yX5_colds wsX5_colds cX5_colds 9 (some .int) 3 := ⟨⟨_, rfl⟩, by decide, by decide +kernel, by decide +kernel, by decide +kernel⟩
theorem in_X5_colds_X5 : ∀ w ∈ wsX50, w ∈ wsX5_colds := by decide +kernel
theorem fl_X5_colds_26 : FL RX5 wsX5_colds RX5 RX5 TX5 9 5 2 26 := ⟨⟨in_X5_colds_X5, rfl, by decide, rfl⟩, by decide +kernel⟩
theorem nq_X5_colds_X4_stands : Cond.initialized yX4_stands.cls ∈ wsX5_colds ∧ Cond.instanceMethod yX4_stands ∈ wsX5_colds ∧ Cond.selects yX4_stands.cls yX4_stands yX4_stands ∈ wsX5_colds := ⟨by decide +kernel, by decide +kernel, by decide +kernel⟩
theorem nq_X5_colds_X4_there : Cond.initialized yX4_there.cls ∈ wsX5_colds ∧ Cond.instanceMethod yX4_there ∈ wsX5_colds ∧ Cond.selects yX4_there.cls yX4_there yX4_there ∈ wsX5_colds := ⟨by decide +kernel, by decide +kernel, by decide +kernel⟩
theorem nq_X5_colds_X4_everybody : Cond.initialized yX4_everybody.cls ∈ wsX5_colds ∧ Cond.instanceMethod yX4_everybody ∈ wsX5_colds ∧ Cond.selects yX4_everybody.cls yX4_everybody yX4_everybody ∈ wsX5_colds := ⟨by decide +kernel, by decide +kernel, by decide +kernel⟩
theorem nq_X5_colds_X4_worthOfSet : Cond.initialized yX4_worthOfSet.cls ∈ wsX5_colds ∧ Cond.instanceMethod yX4_worthOfSet ∈ wsX5_colds ∧ Cond.selects yX4_worthOfSet.cls yX4_worthOfSet yX4_worthOfSet ∈ wsX5_colds := ⟨by decide +kernel, by decide +kernel, by decide +kernel⟩
set_option maxHeartbeats 4000000 in
set_option maxRecDepth 100000 in
theorem c_colds (l : Launch) (D : va_G) (cs : Nat → ClassId) {xo : Nat} {xr : Nat} {xd : Nat} {ta : Nat} {tb : Nat} {xi : Nat} {aa : Nat} {sa : Nat} {lf : Int32} {fg : Int32} {tk : Nat} {tq : Nat} {tw : Nat} {kf : Nat → Int32} {sf : Nat → Int32} {wf : Nat → Int32} {pn : Nat} {aw : Int32} {me : Int32} {sp : Int32} {tn : Nat} {x : Int32} {y : Int32} {z : Int32} {thn : Nat} (hS : ∀ t, s64 (sf t)) (hti : tn ≤ 8) (hpn : pn ≤ 6) (hth : thI (nI pn) aw = nI thn) (ht64 : thn < 64) : CT l D (tz cs) yX5_colds wsX5_colds ({ frames := 4, cells := 0, slots := 0, locals := 91 }) [.ref xo, .int x, .int y, .int z] [(xo, .inr (5, [.ref xr, .ref xd, .ref ta, .ref tb, .ref xi, .ref aa, .ref sa, .int lf, .int fg])), (ta, .inr (4, [.ref tk, .ref tq, .ref tw, .int (nI pn), .int (nI tn), .int aw, .int me, .int sp])), (tk, .inl (cs 0, 8, .inl kf)), (tq, .inl (cs 0, 8, .inl sf)), (tw, .inl (cs 0, 8, .inl wf))] (some (.int (if 0 < nI pn then (if lkF x = true then (if y < 0 then -1000001 else if 10 < y then -1000001 else if zo z = true then frI (coS (wN kf sf wf tn) x y thn (2 ^ pn)) (powI 10 (pop thn)) z else -1000001) else -1000001) else -1000002))) [(xo, .inr (5, [.ref xr, .ref xd, .ref ta, .ref tb, .ref xi, .ref aa, .ref sa, .int lf, .int fg])), (ta, .inr (4, [.ref tk, .ref tq, .ref tw, .int (nI pn), .int (nI tn), .int aw, .int me, .int sp])), (tk, .inl (cs 0, 8, .inl kf)), (tq, .inl (cs 0, 8, .inl sf)), (tw, .inl (cs 0, 8, .inl wf))] := by
  refine CT.of kX5_colds (Nat.le_of_ble_eq_true rfl) ?_
  intro p e s m below meth c A C E
  have C : VOk p s m _ c cX5_colds 9 wsX5_colds RX5 D (tz cs) A s.heap := C
  refine V.lvs (lv' := [(0, .ref xo), (1, .int x), (2, .int y), (3, .int z)]) [0, 1, 2, 3] rfl ?_
  have hpw := pw64 pn hpn
  refine v_aload_n C 0 dX5_colds_0 rfl ?_
  refine v_get C (v := .ref ta) fl_X5_colds_26 0 rfl rfl dX5_colds_1 ?_
  refine v_callVN (qi := 0) C [] [] kX4_stands gX5_colds_X4_stands_n138 (host := "TableShares") (by decide +kernel) nq_X5_colds_X4_stands (c_stands l D cs (ta := ta) (tk := tk) (tq := tq) (tw := tw) (pe := (nI pn)) (ti := (nI tn)) (aw := aw) (me := me) (sp := sp) ) ⟨Nat.le_of_ble_eq_true rfl, Nat.le_of_ble_eq_true rfl⟩ ⟨rfl, rfl⟩ ⟨Nat.zero_le _, Nat.zero_le _⟩ rfl 1 rfl rfl rfl rfl (Nat.le_of_ble_eq_true rfl) [1] [(xo, .inr (5, [.ref xr, .ref xd, .ref ta, .ref tb, .ref xi, .ref aa, .ref sa, .int lf, .int fg])), (ta, .inr (4, [.ref tk, .ref tq, .ref tw, .int (nI pn), .int (nI tn), .int aw, .int me, .int sp])), (tk, .inl (cs 0, 8, .inl kf)), (tq, .inl (cs 0, 8, .inl sf)), (tw, .inl (cs 0, 8, .inl wf))] rfl (by decide) (show [ta] = [ta] from rfl) (rfl) dX5_colds_4 ?_
  refine V.sts (st' := [.int (b2 (decide (0 < (nI pn))))]) rfl ?_
  refine v_if_neB C 13 dX5_colds_7 (by decide) (fun c1 => ?_) (fun c1 => ?_)
  · skip
    refine v_iload_n C 1 dX5_colds_13 rfl ?_
    refine v_callS C [.int x] [] kX5_isLookedFor gX5_colds_X5_isLookedFor (c_lkF l D cs (x := x) ) ⟨Nat.le_of_ble_eq_true rfl, Nat.le_of_ble_eq_true rfl⟩ ⟨rfl, rfl⟩ ⟨Nat.zero_le _, Nat.zero_le _⟩ rfl rfl (Nat.le_of_ble_eq_true rfl) [] [(xo, .inr (5, [.ref xr, .ref xd, .ref ta, .ref tb, .ref xi, .ref aa, .ref sa, .int lf, .int fg])), (ta, .inr (4, [.ref tk, .ref tq, .ref tw, .int (nI pn), .int (nI tn), .int aw, .int me, .int sp])), (tk, .inl (cs 0, 8, .inl kf)), (tq, .inl (cs 0, 8, .inl sf)), (tw, .inl (cs 0, 8, .inl wf))] rfl (by decide) rfl (rfl) dX5_colds_14 ?_
    refine V.sts (st' := [.int (b2 (lkF x))]) rfl ?_
    refine v_if_eqB C 37 dX5_colds_17 (by decide) (fun c2 => ?_) (fun c2 => ?_)
    · skip
      refine v_ldc C (v := -1000001) (by decide +kernel) dX5_colds_37 ?_
      exact v_iret C E (rfl) (by first | rfl | (simp only [c1, of_decide_eq_true c1, c2, ↓reduceIte, Bool.false_eq_true, reduceCtorEq, Bool.and_true, Bool.true_and, Bool.and_false, Bool.false_and]; done) | (simp [c1, of_decide_eq_true c1, c2]; done) | (simp_all [b2]; done)) dX5_colds_39
    · skip
      refine v_iload_n C 2 dX5_colds_20 rfl ?_
      refine v_if_lt C 37 dX5_colds_21 (by decide) (fun c3 => ?_) (fun c3 => ?_)
      · skip
        refine v_ldc C (v := -1000001) (by decide +kernel) dX5_colds_37 ?_
        exact v_iret C E (rfl) (by first | rfl | (simp only [c1, of_decide_eq_true c1, c2, c3, Int32.not_le.mpr c3, ↓reduceIte, Bool.false_eq_true, reduceCtorEq, Bool.and_true, Bool.true_and, Bool.and_false, Bool.false_and]; done) | (simp [c1, of_decide_eq_true c1, c2, c3, Int32.not_le.mpr c3]; done) | (simp_all [b2]; done)) dX5_colds_39
      · skip
        refine v_iload_n C 2 dX5_colds_24 rfl ?_
        refine v_bipush C (v := 10) dX5_colds_25 (by decide) ?_
        refine v_icmp_gt C 37 dX5_colds_27 (by decide) (fun c4 => ?_) (fun c4 => ?_)
        · skip
          refine v_ldc C (v := -1000001) (by decide +kernel) dX5_colds_37 ?_
          exact v_iret C E (rfl) (by first | rfl | (simp only [c1, of_decide_eq_true c1, c2, c3, Int32.not_lt.mp c3, c4, Int32.not_le.mpr c4, ↓reduceIte, Bool.false_eq_true, reduceCtorEq, Bool.and_true, Bool.true_and, Bool.and_false, Bool.false_and]; done) | (simp [c1, of_decide_eq_true c1, c2, c3, Int32.not_lt.mp c3, c4, Int32.not_le.mpr c4]; done) | (simp_all [b2]; done)) dX5_colds_39
        · skip
          refine v_iload_n C 3 dX5_colds_30 rfl ?_
          refine v_callS C [.int z] [] kX5_isZeroOrOne gX5_colds_X5_isZeroOrOne (c_zo l D cs (x := z) ) ⟨Nat.le_of_ble_eq_true rfl, Nat.le_of_ble_eq_true rfl⟩ ⟨rfl, rfl⟩ ⟨Nat.zero_le _, Nat.zero_le _⟩ rfl rfl (Nat.le_of_ble_eq_true rfl) [] [(xo, .inr (5, [.ref xr, .ref xd, .ref ta, .ref tb, .ref xi, .ref aa, .ref sa, .int lf, .int fg])), (ta, .inr (4, [.ref tk, .ref tq, .ref tw, .int (nI pn), .int (nI tn), .int aw, .int me, .int sp])), (tk, .inl (cs 0, 8, .inl kf)), (tq, .inl (cs 0, 8, .inl sf)), (tw, .inl (cs 0, 8, .inl wf))] rfl (by decide) rfl (rfl) dX5_colds_31 ?_
          refine V.sts (st' := [.int (b2 (zo z))]) rfl ?_
          refine v_if_neB C 40 dX5_colds_34 (by decide) (fun c5 => ?_) (fun c5 => ?_)
          · skip
            refine v_aload_n C 0 dX5_colds_40 rfl ?_
            refine v_get C (v := .ref ta) fl_X5_colds_26 0 rfl rfl dX5_colds_41 ?_
            refine v_callVN (qi := 0) C [] [] kX4_there gX5_colds_X4_there_n163 (host := "TableShares") (by decide +kernel) nq_X5_colds_X4_there (c_there l D cs (ta := ta) (tk := tk) (tq := tq) (tw := tw) (pe := (nI pn)) (ti := (nI tn)) (aw := aw) (me := me) (sp := sp) ) ⟨Nat.le_of_ble_eq_true rfl, Nat.le_of_ble_eq_true rfl⟩ ⟨rfl, rfl⟩ ⟨Nat.zero_le _, Nat.zero_le _⟩ rfl 1 rfl rfl rfl rfl (Nat.le_of_ble_eq_true rfl) [1] [(xo, .inr (5, [.ref xr, .ref xd, .ref ta, .ref tb, .ref xi, .ref aa, .ref sa, .int lf, .int fg])), (ta, .inr (4, [.ref tk, .ref tq, .ref tw, .int (nI pn), .int (nI tn), .int aw, .int me, .int sp])), (tk, .inl (cs 0, 8, .inl kf)), (tq, .inl (cs 0, 8, .inl sf)), (tw, .inl (cs 0, 8, .inl wf))] rfl (by decide) (show [ta] = [ta] from rfl) (rfl) dX5_colds_44 ?_
            refine V.sts (st' := [.int (thI (nI pn) aw)]) rfl ?_
            refine V.topr (y := nI thn) (hth) ?_
            refine v_istore C [(0, .ref xo), (1, .int x), (2, .int y), (3, .int z), (4, .int (nI thn))] [1, 2, 3, 4, 0] dX5_colds_47 (by decide) rfl ?_
            refine v_iload C 4 dX5_colds_49 rfl ?_
            refine v_callS C [.int (nI thn)] [] kJ6_bitCount_0f7a4 gX5_colds_J6_bitCount_0f7a4 (c_bc l D cs (x := nI thn) (by first | exact ⟨i, by omega, rfl⟩ | exact ⟨thn, ht64, rfl⟩)) ⟨Nat.le_of_ble_eq_true rfl, Nat.le_of_ble_eq_true rfl⟩ ⟨rfl, rfl⟩ ⟨Nat.zero_le _, Nat.zero_le _⟩ rfl rfl (Nat.le_of_ble_eq_true rfl) [] [(xo, .inr (5, [.ref xr, .ref xd, .ref ta, .ref tb, .ref xi, .ref aa, .ref sa, .int lf, .int fg])), (ta, .inr (4, [.ref tk, .ref tq, .ref tw, .int (nI pn), .int (nI tn), .int aw, .int me, .int sp])), (tk, .inl (cs 0, 8, .inl kf)), (tq, .inl (cs 0, 8, .inl sf)), (tw, .inl (cs 0, 8, .inl wf))] rfl (by decide) rfl (rfl) dX5_colds_51 ?_
            refine V.sts (st' := [.int (pcI (nI thn))]) rfl ?_
            refine V.topr (y := nI (pop thn)) (pc_nI (by omega)) ?_
            refine v_istore C [(0, .ref xo), (1, .int x), (2, .int y), (3, .int z), (4, .int (nI thn)), (5, .int (nI (pop thn)))] [1, 2, 3, 4, 5, 0] dX5_colds_54 (by decide) rfl ?_
            refine v_iconst C (v := 0) dX5_colds_56 (by decide) ?_
            refine v_istore C [(0, .ref xo), (1, .int x), (2, .int y), (3, .int z), (4, .int (nI thn)), (5, .int (nI (pop thn))), (6, .int 0)] [1, 2, 3, 4, 5, 6, 0] dX5_colds_57 (by decide) rfl ?_
            refine v_iconst C (v := 0) dX5_colds_59 (by decide) ?_
            refine v_istore C [(0, .ref xo), (1, .int x), (2, .int y), (3, .int z), (4, .int (nI thn)), (5, .int (nI (pop thn))), (6, .int 0), (7, .int 0)] [1, 2, 3, 4, 5, 6, 7, 0] dX5_colds_60 (by decide) rfl ?_
            have L62 : ∀ (n : Nat) (i : Nat) (y0 : Int32) (y1 : Int32), y0 = (coS (wN kf sf wf tn) x y thn i) → y1 = (nI i) → (i ≤ 2 ^ pn) → (2 ^ pn - i) < n → V p l e ({ frames := 4, cells := 0, slots := 0, locals := 91 }) s m (List.toArray [.ref xo, .int x, .int y, .int z]) below meth c 0 0 (MQ below (vq_Q (some (.int (if 0 < nI pn then (if lkF x = true then (if y < 0 then -1000001 else if 10 < y then -1000001 else if zo z = true then frI (coS (wN kf sf wf tn) x y thn (2 ^ pn)) (powI 10 (pop thn)) z else -1000001) else -1000001) else -1000002))) D [(xo, .inr (5, [.ref xr, .ref xd, .ref ta, .ref tb, .ref xi, .ref aa, .ref sa, .int lf, .int fg])), (ta, .inr (4, [.ref tk, .ref tq, .ref tw, .int (nI pn), .int (nI tn), .int aw, .int me, .int sp])), (tk, .inl (cs 0, 8, .inl kf)), (tq, .inl (cs 0, 8, .inl sf)), (tw, .inl (cs 0, 8, .inl wf))] [(xo, .inr (5, [.ref xr, .ref xd, .ref ta, .ref tb, .ref xi, .ref aa, .ref sa, .int lf, .int fg])), (ta, .inr (4, [.ref tk, .ref tq, .ref tw, .int (nI pn), .int (nI tn), .int aw, .int me, .int sp])), (tk, .inl (cs 0, 8, .inl kf)), (tq, .inl (cs 0, 8, .inl sf)), (tw, .inl (cs 0, 8, .inl wf))] s.heap.size) (List.toArray [.ref xo, .int x, .int y, .int z]) s 0 0 (va_A [(xo, .inr (5, [.ref xr, .ref xd, .ref ta, .ref tb, .ref xi, .ref aa, .ref sa, .int lf, .int fg])), (ta, .inr (4, [.ref tk, .ref tq, .ref tw, .int (nI pn), .int (nI tn), .int aw, .int me, .int sp])), (tk, .inl (cs 0, 8, .inl kf)), (tq, .inl (cs 0, 8, .inl sf)), (tw, .inl (cs 0, 8, .inl wf))] s.heap.size)) 9 D A s.heap 62 [(0, .ref xo), (1, .int x), (2, .int y), (3, .int z), (4, .int (nI thn)), (5, .int (nI (pop thn))), (6, .int y0), (7, .int y1)] [] [(xo, .inr (5, [.ref xr, .ref xd, .ref ta, .ref tb, .ref xi, .ref aa, .ref sa, .int lf, .int fg])), (ta, .inr (4, [.ref tk, .ref tq, .ref tw, .int (nI pn), .int (nI tn), .int aw, .int me, .int sp])), (tk, .inl (cs 0, 8, .inl kf)), (tq, .inl (cs 0, 8, .inl sf)), (tw, .inl (cs 0, 8, .inl wf))] := by
              intro n
              induction n with
              | zero =>
                intros; omega
              | succ n ih62 =>
                intro i y0 y1 ey0 ey1 hi hn
                subst ey0
                subst ey1
                refine v_iload C 7 dX5_colds_62 rfl ?_
                refine v_aload_n C 0 dX5_colds_64 rfl ?_
                refine v_get C (v := .ref ta) fl_X5_colds_26 0 rfl rfl dX5_colds_65 ?_
                refine v_callVN (qi := 0) C [] [.int (nI i)] kX4_everybody gX5_colds_X4_everybody_n189 (host := "TableShares") (by decide +kernel) nq_X5_colds_X4_everybody (c_everybody l D cs (ta := ta) (tk := tk) (tq := tq) (tw := tw) (pe := (nI pn)) (ti := (nI tn)) (aw := aw) (me := me) (sp := sp) ) ⟨Nat.le_of_ble_eq_true rfl, Nat.le_of_ble_eq_true rfl⟩ ⟨rfl, rfl⟩ ⟨Nat.zero_le _, Nat.zero_le _⟩ rfl 1 rfl rfl rfl rfl (Nat.le_of_ble_eq_true rfl) [1] [(xo, .inr (5, [.ref xr, .ref xd, .ref ta, .ref tb, .ref xi, .ref aa, .ref sa, .int lf, .int fg])), (ta, .inr (4, [.ref tk, .ref tq, .ref tw, .int (nI pn), .int (nI tn), .int aw, .int me, .int sp])), (tk, .inl (cs 0, 8, .inl kf)), (tq, .inl (cs 0, 8, .inl sf)), (tw, .inl (cs 0, 8, .inl wf))] rfl (by decide) (show [ta] = [ta] from rfl) (rfl) dX5_colds_68 ?_
                refine V.sts (st' := [.int (allI (nI pn)), .int (nI i)]) rfl ?_
                refine V.topr (y := nI (2 ^ pn - 1)) (all_nI pn hpn) ?_
                refine v_icmp_gt C 134 dX5_colds_71 (by decide) (fun c6 => ?_) (fun c6 => ?_)
                · skip
                  have hge : 2 ^ pn - 1 < i := lt_nI c6 (by omega) (by omega)
                  have hsub : i = 2 ^ pn := by omega
                  subst hsub
                  refine v_iload C 6 dX5_colds_134 rfl ?_
                  refine v_bipush C (v := 10) dX5_colds_136 (by decide) ?_
                  refine v_iload C 5 dX5_colds_138 rfl ?_
                  refine v_callS C [.int 10, .int (nI (pop thn))] [.int (coS (wN kf sf wf tn) x y thn (2 ^ pn))] kX5_power gX5_colds_X5_power (c_power l D cs (b := 10) (tn := (pop thn)) (by first | exact Nat.le_trans (pop_le _) (by decide) | exact Nat.le_trans (Nat.sub_le _ _) (Nat.le_trans (pop_le _) (by decide)))) ⟨Nat.le_of_ble_eq_true rfl, Nat.le_of_ble_eq_true rfl⟩ ⟨rfl, rfl⟩ ⟨Nat.zero_le _, Nat.zero_le _⟩ rfl rfl (Nat.le_of_ble_eq_true rfl) [] [(xo, .inr (5, [.ref xr, .ref xd, .ref ta, .ref tb, .ref xi, .ref aa, .ref sa, .int lf, .int fg])), (ta, .inr (4, [.ref tk, .ref tq, .ref tw, .int (nI pn), .int (nI tn), .int aw, .int me, .int sp])), (tk, .inl (cs 0, 8, .inl kf)), (tq, .inl (cs 0, 8, .inl sf)), (tw, .inl (cs 0, 8, .inl wf))] rfl (by decide) rfl (rfl) dX5_colds_140 ?_
                  refine V.sts (st' := [.int (powI 10 (pop thn)), .int (coS (wN kf sf wf tn) x y thn (2 ^ pn))]) rfl ?_
                  refine v_iload_n C 3 dX5_colds_143 rfl ?_
                  refine v_callS C [.int (coS (wN kf sf wf tn) x y thn (2 ^ pn)), .int (powI 10 (pop thn)), .int z] [] kX5_fraction gX5_colds_X5_fraction (c_fraction l D cs (a := (coS (wN kf sf wf tn) x y thn (2 ^ pn))) (b := (powI 10 (pop thn))) (w := z) ) ⟨Nat.le_of_ble_eq_true rfl, Nat.le_of_ble_eq_true rfl⟩ ⟨rfl, rfl⟩ ⟨Nat.zero_le _, Nat.zero_le _⟩ rfl rfl (Nat.le_of_ble_eq_true rfl) [] [(xo, .inr (5, [.ref xr, .ref xd, .ref ta, .ref tb, .ref xi, .ref aa, .ref sa, .int lf, .int fg])), (ta, .inr (4, [.ref tk, .ref tq, .ref tw, .int (nI pn), .int (nI tn), .int aw, .int me, .int sp])), (tk, .inl (cs 0, 8, .inl kf)), (tq, .inl (cs 0, 8, .inl sf)), (tw, .inl (cs 0, 8, .inl wf))] rfl (by decide) rfl (rfl) dX5_colds_144 ?_
                  refine V.sts (st' := [.int (frI (coS (wN kf sf wf tn) x y thn (2 ^ pn)) (powI 10 (pop thn)) z)]) rfl ?_
                  exact v_iret C E (rfl) (by first | rfl | (simp only [c1, of_decide_eq_true c1, c2, c3, Int32.not_lt.mp c3, c4, Int32.not_lt.mp c4, c5, c6, Int32.not_le.mpr c6, ↓reduceIte, Bool.false_eq_true, reduceCtorEq, Bool.and_true, Bool.true_and, Bool.and_false, Bool.false_and]; done) | (simp [c1, of_decide_eq_true c1, c2, c3, Int32.not_lt.mp c3, c4, Int32.not_lt.mp c4, c5, c6, Int32.not_le.mpr c6]; done) | (simp_all [b2]; done)) dX5_colds_147
                · skip
                  have hlt : i < 2 ^ pn := by have h9 := nlt_nI c6 (by omega) (by omega); omega
                  refine v_iload C 7 dX5_colds_74 rfl ?_
                  refine v_iload C 4 dX5_colds_76 rfl ?_
                  refine v_iconst C (v := -1) dX5_colds_78 (by decide) ?_
                  refine v_ixor C dX5_colds_79 ?_
                  refine v_iand C dX5_colds_80 ?_
                  refine v_if_ne C 128 dX5_colds_81 (by decide) (fun c7 => ?_) (fun c7 => ?_)
                  · skip
                    refine v_iinc C (k := 7) (nI (i + 1)) [(0, .ref xo), (1, .int x), (2, .int y), (3, .int z), (4, .int (nI thn)), (5, .int (nI (pop thn))), (6, .int (coS (wN kf sf wf tn) x y thn i)), (7, .int (nI (i + 1)))] [1, 2, 3, 4, 5, 6, 7, 0] dX5_colds_128 rfl (nI_inc _) (by decide) rfl ?_
                    refine v_goto C 62 dX5_colds_131 (by decide) ?_
                    exact ih62 (i + 1) _ _ (by simp only [coS, wN, c1, of_decide_eq_true c1, c2, c3, Int32.not_lt.mp c3, c4, Int32.not_lt.mp c4, c5, c6, Int32.not_lt.mp c6, c7, decide_true, decide_false, ↓reduceIte, Bool.false_eq_true]) (rfl) (by omega) (by omega)
                  · skip
                    refine v_aload_n C 0 dX5_colds_84 rfl ?_
                    refine v_get C (v := .ref ta) fl_X5_colds_26 0 rfl rfl dX5_colds_85 ?_
                    refine v_iload C 7 dX5_colds_88 rfl ?_
                    refine v_callVN (qi := 0) C [.int (nI i)] [] kX4_worthOfSet gX5_colds_X4_worthOfSet_n167 (host := "TableShares") (by decide +kernel) nq_X5_colds_X4_worthOfSet (c_worthOfSet l D cs (ta := ta) (tk := tk) (tq := tq) (tw := tw) (kf := kf) (sf := sf) (wf := wf) (pe := (nI pn)) (aw := aw) (me := me) (sp := sp) (tn := tn) (th := (nI i)) (by first | assumption | omega) (by first | assumption | omega)) ⟨Nat.le_of_ble_eq_true rfl, Nat.le_of_ble_eq_true rfl⟩ ⟨rfl, rfl⟩ ⟨Nat.zero_le _, Nat.zero_le _⟩ rfl 1 rfl rfl rfl rfl (Nat.le_of_ble_eq_true rfl) [1, 2, 3, 4] [(xo, .inr (5, [.ref xr, .ref xd, .ref ta, .ref tb, .ref xi, .ref aa, .ref sa, .int lf, .int fg])), (ta, .inr (4, [.ref tk, .ref tq, .ref tw, .int (nI pn), .int (nI tn), .int aw, .int me, .int sp])), (tk, .inl (cs 0, 8, .inl kf)), (tq, .inl (cs 0, 8, .inl sf)), (tw, .inl (cs 0, 8, .inl wf))] rfl (by decide) (show [ta, tk, tq, tw] = [ta, tk, tq, tw] from rfl) (rfl) dX5_colds_90 ?_
                    refine V.sts (st' := [.int (wsum kf sf wf (nI i) tn)]) rfl ?_
                    refine v_iload_n C 1 dX5_colds_93 rfl ?_
                    refine v_icmp_lt C 128 dX5_colds_94 (by decide) (fun c8 => ?_) (fun c8 => ?_)
                    · skip
                      refine v_iinc C (k := 7) (nI (i + 1)) [(0, .ref xo), (1, .int x), (2, .int y), (3, .int z), (4, .int (nI thn)), (5, .int (nI (pop thn))), (6, .int (coS (wN kf sf wf tn) x y thn i)), (7, .int (nI (i + 1)))] [1, 2, 3, 4, 5, 6, 7, 0] dX5_colds_128 rfl (nI_inc _) (by decide) rfl ?_
                      refine v_goto C 62 dX5_colds_131 (by decide) ?_
                      exact ih62 (i + 1) _ _ (by simp only [coS, wN, c1, of_decide_eq_true c1, c2, c3, Int32.not_lt.mp c3, c4, Int32.not_lt.mp c4, c5, c6, Int32.not_lt.mp c6, c7, c8, Int32.not_le.mpr c8, decide_true, decide_false, ↓reduceIte, Bool.false_eq_true]) (rfl) (by omega) (by omega)
                    · skip
                      refine v_iload C 7 dX5_colds_97 rfl ?_
                      refine v_callS C [.int (nI i)] [] kJ6_bitCount_0f7a4 gX5_colds_J6_bitCount_0f7a4 (c_bc l D cs (x := (nI i)) (by first | exact ⟨i, by omega, rfl⟩ | exact ⟨thn, ht64, rfl⟩)) ⟨Nat.le_of_ble_eq_true rfl, Nat.le_of_ble_eq_true rfl⟩ ⟨rfl, rfl⟩ ⟨Nat.zero_le _, Nat.zero_le _⟩ rfl rfl (Nat.le_of_ble_eq_true rfl) [] [(xo, .inr (5, [.ref xr, .ref xd, .ref ta, .ref tb, .ref xi, .ref aa, .ref sa, .int lf, .int fg])), (ta, .inr (4, [.ref tk, .ref tq, .ref tw, .int (nI pn), .int (nI tn), .int aw, .int me, .int sp])), (tk, .inl (cs 0, 8, .inl kf)), (tq, .inl (cs 0, 8, .inl sf)), (tw, .inl (cs 0, 8, .inl wf))] rfl (by decide) rfl (rfl) dX5_colds_99 ?_
                      refine V.sts (st' := [.int (pcI (nI i))]) rfl ?_
                      refine V.topr (y := nI (pop i)) (pc_nI (by omega)) ?_
                      refine v_istore C [(0, .ref xo), (1, .int x), (2, .int y), (3, .int z), (4, .int (nI thn)), (5, .int (nI (pop thn))), (6, .int (coS (wN kf sf wf tn) x y thn i)), (7, .int (nI i)), (8, .int (nI (pop i)))] [1, 2, 3, 4, 5, 6, 7, 8, 0] dX5_colds_102 (by decide) rfl ?_
                      refine v_iload C 6 dX5_colds_104 rfl ?_
                      refine v_bipush C (v := 10) dX5_colds_106 (by decide) ?_
                      refine v_iload_n C 2 dX5_colds_108 rfl ?_
                      refine v_isub C dX5_colds_109 ?_
                      refine v_iload C 8 dX5_colds_110 rfl ?_
                      refine v_callS C [.int (10 - y), .int (nI (pop i))] [.int (coS (wN kf sf wf tn) x y thn i)] kX5_power gX5_colds_X5_power (c_power l D cs (b := (10 - y)) (tn := (pop i)) (by first | exact Nat.le_trans (pop_le _) (by decide) | exact Nat.le_trans (Nat.sub_le _ _) (Nat.le_trans (pop_le _) (by decide)))) ⟨Nat.le_of_ble_eq_true rfl, Nat.le_of_ble_eq_true rfl⟩ ⟨rfl, rfl⟩ ⟨Nat.zero_le _, Nat.zero_le _⟩ rfl rfl (Nat.le_of_ble_eq_true rfl) [] [(xo, .inr (5, [.ref xr, .ref xd, .ref ta, .ref tb, .ref xi, .ref aa, .ref sa, .int lf, .int fg])), (ta, .inr (4, [.ref tk, .ref tq, .ref tw, .int (nI pn), .int (nI tn), .int aw, .int me, .int sp])), (tk, .inl (cs 0, 8, .inl kf)), (tq, .inl (cs 0, 8, .inl sf)), (tw, .inl (cs 0, 8, .inl wf))] rfl (by decide) rfl (rfl) dX5_colds_112 ?_
                      refine V.sts (st' := [.int (powI (10 - y) (pop i)), .int (coS (wN kf sf wf tn) x y thn i)]) rfl ?_
                      refine v_iload_n C 2 dX5_colds_115 rfl ?_
                      refine v_iload C 5 dX5_colds_116 rfl ?_
                      refine v_iload C 8 dX5_colds_118 rfl ?_
                      refine v_isub C dX5_colds_120 ?_
                      refine V.topr (y := nI (pop thn - pop i)) (pk_sub (pop_sub i (by omega) thn ht64 (by assumption))) ?_
                      refine v_callS C [.int y, .int (nI (pop thn - pop i))] [.int (powI (10 - y) (pop i)), .int (coS (wN kf sf wf tn) x y thn i)] kX5_power gX5_colds_X5_power (c_power l D cs (b := y) (tn := (pop thn - pop i)) (by first | exact Nat.le_trans (pop_le _) (by decide) | exact Nat.le_trans (Nat.sub_le _ _) (Nat.le_trans (pop_le _) (by decide)))) ⟨Nat.le_of_ble_eq_true rfl, Nat.le_of_ble_eq_true rfl⟩ ⟨rfl, rfl⟩ ⟨Nat.zero_le _, Nat.zero_le _⟩ rfl rfl (Nat.le_of_ble_eq_true rfl) [] [(xo, .inr (5, [.ref xr, .ref xd, .ref ta, .ref tb, .ref xi, .ref aa, .ref sa, .int lf, .int fg])), (ta, .inr (4, [.ref tk, .ref tq, .ref tw, .int (nI pn), .int (nI tn), .int aw, .int me, .int sp])), (tk, .inl (cs 0, 8, .inl kf)), (tq, .inl (cs 0, 8, .inl sf)), (tw, .inl (cs 0, 8, .inl wf))] rfl (by decide) rfl (rfl) dX5_colds_121 ?_
                      refine V.sts (st' := [.int (powI y (pop thn - pop i)), .int (powI (10 - y) (pop i)), .int (coS (wN kf sf wf tn) x y thn i)]) rfl ?_
                      refine v_imul C dX5_colds_124 ?_
                      refine v_iadd C dX5_colds_125 ?_
                      refine v_istore C [(0, .ref xo), (1, .int x), (2, .int y), (3, .int z), (4, .int (nI thn)), (5, .int (nI (pop thn))), (6, .int ((coS (wN kf sf wf tn) x y thn i) + ((powI (10 - y) (pop i)) * (powI y (pop thn - pop i))))), (7, .int (nI i)), (8, .int (nI (pop i)))] [1, 2, 3, 4, 5, 6, 0, 7, 8] dX5_colds_126 (by decide) rfl ?_
                      refine v_iinc C (k := 7) (nI (i + 1)) [(0, .ref xo), (1, .int x), (2, .int y), (3, .int z), (4, .int (nI thn)), (5, .int (nI (pop thn))), (6, .int ((coS (wN kf sf wf tn) x y thn i) + ((powI (10 - y) (pop i)) * (powI y (pop thn - pop i))))), (7, .int (nI (i + 1))), (8, .int (nI (pop i)))] [1, 2, 3, 4, 5, 6, 7, 0, 8] dX5_colds_128 rfl (nI_inc _) (by decide) rfl ?_
                      refine v_goto C 62 dX5_colds_131 (by decide) ?_
                      refine V.lvs (lv' := [(0, .ref xo), (1, .int x), (2, .int y), (3, .int z), (4, .int (nI thn)), (5, .int (nI (pop thn))), (6, .int ((coS (wN kf sf wf tn) x y thn i) + ((powI (10 - y) (pop i)) * (powI y (pop thn - pop i))))), (7, .int (nI (i + 1)))]) [0, 1, 2, 3, 4, 5, 6, 7] rfl ?_
                      exact ih62 (i + 1) _ _ (by simp only [coS, wN, c1, of_decide_eq_true c1, c2, c3, Int32.not_lt.mp c3, c4, Int32.not_lt.mp c4, c5, c6, Int32.not_lt.mp c6, c7, c8, Int32.not_lt.mp c8, decide_true, decide_false, ↓reduceIte, Bool.false_eq_true]) (rfl) (by omega) (by omega)
            exact L62 _ 0 _ _ (rfl) (rfl) (by omega) (Nat.lt_succ_self _)
          · skip
            refine v_ldc C (v := -1000001) (by decide +kernel) dX5_colds_37 ?_
            exact v_iret C E (rfl) (by first | rfl | (simp only [c1, of_decide_eq_true c1, c2, c3, Int32.not_lt.mp c3, c4, Int32.not_lt.mp c4, c5, ↓reduceIte, Bool.false_eq_true, reduceCtorEq, Bool.and_true, Bool.true_and, Bool.and_false, Bool.false_and]; done) | (simp [c1, of_decide_eq_true c1, c2, c3, Int32.not_lt.mp c3, c4, Int32.not_lt.mp c4, c5]; done) | (simp_all [b2]; done)) dX5_colds_39
  · skip
    refine v_ldc C (v := -1000002) (by decide +kernel) dX5_colds_10 ?_
    exact v_iret C E (rfl) (by first | rfl | (simp only [c1, of_decide_eq_false c1, ↓reduceIte, Bool.false_eq_true, reduceCtorEq, Bool.and_true, Bool.true_and, Bool.and_false, Bool.false_and]; done) | (simp [c1, of_decide_eq_false c1]; done) | (simp_all [b2]; done)) dX5_colds_12
theorem kX5_together : KD yX5_together wsX5_together cX5_together 6 (some .int) 1 := ⟨⟨_, rfl⟩, by decide, by decide +kernel, by decide +kernel, by decide +kernel⟩
theorem in_X5_together_X5 : ∀ w ∈ wsX50, w ∈ wsX5_together := by decide +kernel
theorem fl_X5_together_26 : FL RX5 wsX5_together RX5 RX5 TX5 9 5 2 26 := ⟨⟨in_X5_together_X5, rfl, by decide, rfl⟩, by decide +kernel⟩
theorem nq_X5_together_X4_stands : Cond.initialized yX4_stands.cls ∈ wsX5_together ∧ Cond.instanceMethod yX4_stands ∈ wsX5_together ∧ Cond.selects yX4_stands.cls yX4_stands yX4_stands ∈ wsX5_together := ⟨by decide +kernel, by decide +kernel, by decide +kernel⟩
theorem in_X5_together_X4 : ∀ w ∈ wsX40, w ∈ wsX5_together := by decide +kernel
theorem fn_X5_together_199 : FLN RX5 wsX5_together RX4 RX4 TX4 8 4 3 199 := ⟨⟨in_X5_together_X4, rfl, by decide, rfl⟩, "TableShares", by decide +kernel⟩
theorem nq_X5_together_X4_areMissedOnlyTogether : Cond.initialized yX4_areMissedOnlyTogether.cls ∈ wsX5_together ∧ Cond.instanceMethod yX4_areMissedOnlyTogether ∈ wsX5_together ∧ Cond.selects yX4_areMissedOnlyTogether.cls yX4_areMissedOnlyTogether yX4_areMissedOnlyTogether ∈ wsX5_together := ⟨by decide +kernel, by decide +kernel, by decide +kernel⟩
set_option maxHeartbeats 4000000 in
set_option maxRecDepth 100000 in
theorem c_together (l : Launch) (D : va_G) (cs : Nat → ClassId) {xo : Nat} {xr : Nat} {xd : Nat} {ta : Nat} {tb : Nat} {xi : Nat} {aa : Nat} {sa : Nat} {lf : Int32} {fg : Int32} {tk : Nat} {tq : Nat} {tw : Nat} {kf : Nat → Int32} {sf : Nat → Int32} {wf : Nat → Int32} {pn : Nat} {aw : Int32} {me : Int32} {sp : Int32} {tn : Nat} {x : Int32} (hS : ∀ t, s64 (sf t)) (hti : tn ≤ 8) (hpn : pn ≤ 6) : CT l D (tz cs) yX5_together wsX5_together ({ frames := 6, cells := 0, slots := 0, locals := 134 }) [.ref xo, .int x] [(xo, .inr (5, [.ref xr, .ref xd, .ref ta, .ref tb, .ref xi, .ref aa, .ref sa, .int lf, .int fg])), (ta, .inr (4, [.ref tk, .ref tq, .ref tw, .int (nI pn), .int (nI tn), .int aw, .int me, .int sp])), (tk, .inl (cs 0, 8, .inl kf)), (tq, .inl (cs 0, 8, .inl sf)), (tw, .inl (cs 0, 8, .inl wf))] (some (.int (if 0 < nI pn then (if zo x = true then (if x = 0 then nI (toO (toP kf sf wf tn pn) pn pn).1 else (toO (toP kf sf wf tn pn) pn pn).2) else -1000001) else -1000002))) [(xo, .inr (5, [.ref xr, .ref xd, .ref ta, .ref tb, .ref xi, .ref aa, .ref sa, .int lf, .int fg])), (ta, .inr (4, [.ref tk, .ref tq, .ref tw, .int (nI pn), .int (nI tn), .int aw, .int me, .int sp])), (tk, .inl (cs 0, 8, .inl kf)), (tq, .inl (cs 0, 8, .inl sf)), (tw, .inl (cs 0, 8, .inl wf))] := by
  refine CT.of kX5_together (Nat.le_of_ble_eq_true rfl) ?_
  intro p e s m below meth c A C E
  have C : VOk p s m _ c cX5_together 6 wsX5_together RX5 D (tz cs) A s.heap := C
  refine V.lvs (lv' := [(0, .ref xo), (1, .int x)]) [0, 1] rfl ?_
  have hpw := pw64 pn hpn
  refine v_aload_n C 0 dX5_together_0 rfl ?_
  refine v_get C (v := .ref ta) fl_X5_together_26 0 rfl rfl dX5_together_1 ?_
  refine v_callVN (qi := 0) C [] [] kX4_stands gX5_together_X4_stands_n138 (host := "TableShares") (by decide +kernel) nq_X5_together_X4_stands (c_stands l D cs (ta := ta) (tk := tk) (tq := tq) (tw := tw) (pe := (nI pn)) (ti := (nI tn)) (aw := aw) (me := me) (sp := sp) ) ⟨Nat.le_of_ble_eq_true rfl, Nat.le_of_ble_eq_true rfl⟩ ⟨rfl, rfl⟩ ⟨Nat.zero_le _, Nat.zero_le _⟩ rfl 1 rfl rfl rfl rfl (Nat.le_of_ble_eq_true rfl) [1] [(xo, .inr (5, [.ref xr, .ref xd, .ref ta, .ref tb, .ref xi, .ref aa, .ref sa, .int lf, .int fg])), (ta, .inr (4, [.ref tk, .ref tq, .ref tw, .int (nI pn), .int (nI tn), .int aw, .int me, .int sp])), (tk, .inl (cs 0, 8, .inl kf)), (tq, .inl (cs 0, 8, .inl sf)), (tw, .inl (cs 0, 8, .inl wf))] rfl (by decide) (show [ta] = [ta] from rfl) (rfl) dX5_together_4 ?_
  refine V.sts (st' := [.int (b2 (decide (0 < (nI pn))))]) rfl ?_
  refine v_if_neB C 13 dX5_together_7 (by decide) (fun c1 => ?_) (fun c1 => ?_)
  · skip
    refine v_iload_n C 1 dX5_together_13 rfl ?_
    refine v_callS C [.int x] [] kX5_isZeroOrOne gX5_together_X5_isZeroOrOne (c_zo l D cs (x := x) ) ⟨Nat.le_of_ble_eq_true rfl, Nat.le_of_ble_eq_true rfl⟩ ⟨rfl, rfl⟩ ⟨Nat.zero_le _, Nat.zero_le _⟩ rfl rfl (Nat.le_of_ble_eq_true rfl) [] [(xo, .inr (5, [.ref xr, .ref xd, .ref ta, .ref tb, .ref xi, .ref aa, .ref sa, .int lf, .int fg])), (ta, .inr (4, [.ref tk, .ref tq, .ref tw, .int (nI pn), .int (nI tn), .int aw, .int me, .int sp])), (tk, .inl (cs 0, 8, .inl kf)), (tq, .inl (cs 0, 8, .inl sf)), (tw, .inl (cs 0, 8, .inl wf))] rfl (by decide) rfl (rfl) dX5_together_14 ?_
    refine V.sts (st' := [.int (b2 (zo x))]) rfl ?_
    refine v_if_neB C 23 dX5_together_17 (by decide) (fun c2 => ?_) (fun c2 => ?_)
    · skip
      refine v_iconst C (v := 0) dX5_together_23 (by decide) ?_
      refine v_istore_n C [(0, .ref xo), (1, .int x), (2, .int 0)] [1, 2, 0] dX5_together_24 (by decide) rfl ?_
      refine v_ldc C (v := -1000000) (by decide +kernel) dX5_together_25 ?_
      refine v_istore_n C [(0, .ref xo), (1, .int x), (2, .int 0), (3, .int (-1000000))] [1, 2, 3, 0] dX5_together_27 (by decide) rfl ?_
      refine v_iconst C (v := 0) dX5_together_28 (by decide) ?_
      refine v_istore C [(0, .ref xo), (1, .int x), (2, .int 0), (3, .int (-1000000)), (4, .int 0)] [1, 2, 3, 4, 0] dX5_together_29 (by decide) rfl ?_
      have L31 : ∀ (n : Nat) (a : Nat) (y0 : Int32) (y1 : Int32) (y2 : Int32), y0 = (nI (toO (toP kf sf wf tn pn) pn a).1) → y1 = ((toO (toP kf sf wf tn pn) pn a).2) → y2 = (nI a) → (a ≤ pn) → (pn - a) < n → V p l e ({ frames := 6, cells := 0, slots := 0, locals := 134 }) s m (List.toArray [.ref xo, .int x]) below meth c 0 0 (MQ below (vq_Q (some (.int (if 0 < nI pn then (if zo x = true then (if x = 0 then nI (toO (toP kf sf wf tn pn) pn pn).1 else (toO (toP kf sf wf tn pn) pn pn).2) else -1000001) else -1000002))) D [(xo, .inr (5, [.ref xr, .ref xd, .ref ta, .ref tb, .ref xi, .ref aa, .ref sa, .int lf, .int fg])), (ta, .inr (4, [.ref tk, .ref tq, .ref tw, .int (nI pn), .int (nI tn), .int aw, .int me, .int sp])), (tk, .inl (cs 0, 8, .inl kf)), (tq, .inl (cs 0, 8, .inl sf)), (tw, .inl (cs 0, 8, .inl wf))] [(xo, .inr (5, [.ref xr, .ref xd, .ref ta, .ref tb, .ref xi, .ref aa, .ref sa, .int lf, .int fg])), (ta, .inr (4, [.ref tk, .ref tq, .ref tw, .int (nI pn), .int (nI tn), .int aw, .int me, .int sp])), (tk, .inl (cs 0, 8, .inl kf)), (tq, .inl (cs 0, 8, .inl sf)), (tw, .inl (cs 0, 8, .inl wf))] s.heap.size) (List.toArray [.ref xo, .int x]) s 0 0 (va_A [(xo, .inr (5, [.ref xr, .ref xd, .ref ta, .ref tb, .ref xi, .ref aa, .ref sa, .int lf, .int fg])), (ta, .inr (4, [.ref tk, .ref tq, .ref tw, .int (nI pn), .int (nI tn), .int aw, .int me, .int sp])), (tk, .inl (cs 0, 8, .inl kf)), (tq, .inl (cs 0, 8, .inl sf)), (tw, .inl (cs 0, 8, .inl wf))] s.heap.size)) 6 D A s.heap 31 [(0, .ref xo), (1, .int x), (2, .int y0), (3, .int y1), (4, .int y2)] [] [(xo, .inr (5, [.ref xr, .ref xd, .ref ta, .ref tb, .ref xi, .ref aa, .ref sa, .int lf, .int fg])), (ta, .inr (4, [.ref tk, .ref tq, .ref tw, .int (nI pn), .int (nI tn), .int aw, .int me, .int sp])), (tk, .inl (cs 0, 8, .inl kf)), (tq, .inl (cs 0, 8, .inl sf)), (tw, .inl (cs 0, 8, .inl wf))] := by
        intro n
        induction n with
        | zero =>
          intros; omega
        | succ n ih31 =>
          intro a y0 y1 y2 ey0 ey1 ey2 ha hn
          subst ey0
          subst ey1
          subst ey2
          refine v_iload C 4 dX5_together_31 rfl ?_
          refine v_aload_n C 0 dX5_together_33 rfl ?_
          refine v_get C (v := .ref ta) fl_X5_together_26 0 rfl rfl dX5_together_34 ?_
          refine v_getN C (v := .int (nI pn)) fn_X5_together_199 1 rfl rfl dX5_together_37 ?_
          refine v_icmp_ge C 107 dX5_together_40 (by decide) (fun c3 => ?_) (fun c3 => ?_)
          · skip
            have hge : pn ≤ a := le_nI c3 (by omega) (by omega)
            have hsub : a = pn := by omega
            subst hsub
            refine v_iload_n C 1 dX5_together_107 rfl ?_
            refine v_if_ne C 115 dX5_together_108 (by decide) (fun c4 => ?_) (fun c4 => ?_)
            · skip
              refine v_iload_n C 3 dX5_together_115 rfl ?_
              exact v_iret C E (rfl) (by first | rfl | (simp only [c1, of_decide_eq_true c1, c2, c3, Int32.not_lt.mpr c3, c4, ↓reduceIte, Bool.false_eq_true, reduceCtorEq, Bool.and_true, Bool.true_and, Bool.and_false, Bool.false_and]; done) | (simp [c1, of_decide_eq_true c1, c2, c3, Int32.not_lt.mpr c3, c4]; done) | (simp_all [b2]; done)) dX5_together_116
            · skip
              refine v_iload_n C 2 dX5_together_111 rfl ?_
              refine v_goto C 116 dX5_together_112 (by decide) ?_
              exact v_iret C E (rfl) (by first | rfl | (simp only [c1, of_decide_eq_true c1, c2, c3, Int32.not_lt.mpr c3, c4, ↓reduceIte, Bool.false_eq_true, reduceCtorEq, Bool.and_true, Bool.true_and, Bool.and_false, Bool.false_and]; done) | (simp [c1, of_decide_eq_true c1, c2, c3, Int32.not_lt.mpr c3, c4]; done) | (simp_all [b2]; done)) dX5_together_116
          · skip
            have hlta : a < pn := nle_nI c3 (by omega) (by omega)
            refine v_iload C 4 dX5_together_43 rfl ?_
            refine v_iconst C (v := 1) dX5_together_45 (by decide) ?_
            refine v_iadd C dX5_together_46 ?_
            refine V.topr (y := nI (a + 1)) (k4_1 _) ?_
            refine v_istore C [(0, .ref xo), (1, .int x), (2, .int (nI (toO (toP kf sf wf tn pn) pn a).1)), (3, .int ((toO (toP kf sf wf tn pn) pn a).2)), (4, .int (nI a)), (5, .int (nI (a + 1)))] [1, 2, 3, 4, 5, 0] dX5_together_47 (by decide) rfl ?_
            have L49 : ∀ (n : Nat) (k : Nat) (y0 : Int32) (y1 : Int32) (y2 : Int32), y0 = (nI (toI (toP kf sf wf tn pn) a (toO (toP kf sf wf tn pn) pn a) k).1) → y1 = ((toI (toP kf sf wf tn pn) a (toO (toP kf sf wf tn pn) pn a) k).2) → y2 = (nI (a + 1 + k)) → (a + 1 + k ≤ pn) → (pn - (a + 1 + k)) < n → V p l e ({ frames := 6, cells := 0, slots := 0, locals := 134 }) s m (List.toArray [.ref xo, .int x]) below meth c 0 0 (MQ below (vq_Q (some (.int (if 0 < nI pn then (if zo x = true then (if x = 0 then nI (toO (toP kf sf wf tn pn) pn pn).1 else (toO (toP kf sf wf tn pn) pn pn).2) else -1000001) else -1000002))) D [(xo, .inr (5, [.ref xr, .ref xd, .ref ta, .ref tb, .ref xi, .ref aa, .ref sa, .int lf, .int fg])), (ta, .inr (4, [.ref tk, .ref tq, .ref tw, .int (nI pn), .int (nI tn), .int aw, .int me, .int sp])), (tk, .inl (cs 0, 8, .inl kf)), (tq, .inl (cs 0, 8, .inl sf)), (tw, .inl (cs 0, 8, .inl wf))] [(xo, .inr (5, [.ref xr, .ref xd, .ref ta, .ref tb, .ref xi, .ref aa, .ref sa, .int lf, .int fg])), (ta, .inr (4, [.ref tk, .ref tq, .ref tw, .int (nI pn), .int (nI tn), .int aw, .int me, .int sp])), (tk, .inl (cs 0, 8, .inl kf)), (tq, .inl (cs 0, 8, .inl sf)), (tw, .inl (cs 0, 8, .inl wf))] s.heap.size) (List.toArray [.ref xo, .int x]) s 0 0 (va_A [(xo, .inr (5, [.ref xr, .ref xd, .ref ta, .ref tb, .ref xi, .ref aa, .ref sa, .int lf, .int fg])), (ta, .inr (4, [.ref tk, .ref tq, .ref tw, .int (nI pn), .int (nI tn), .int aw, .int me, .int sp])), (tk, .inl (cs 0, 8, .inl kf)), (tq, .inl (cs 0, 8, .inl sf)), (tw, .inl (cs 0, 8, .inl wf))] s.heap.size)) 6 D A s.heap 49 [(0, .ref xo), (1, .int x), (2, .int y0), (3, .int y1), (4, .int (nI a)), (5, .int y2)] [] [(xo, .inr (5, [.ref xr, .ref xd, .ref ta, .ref tb, .ref xi, .ref aa, .ref sa, .int lf, .int fg])), (ta, .inr (4, [.ref tk, .ref tq, .ref tw, .int (nI pn), .int (nI tn), .int aw, .int me, .int sp])), (tk, .inl (cs 0, 8, .inl kf)), (tq, .inl (cs 0, 8, .inl sf)), (tw, .inl (cs 0, 8, .inl wf))] := by
              intro n
              induction n with
              | zero =>
                intros; omega
              | succ n ih49 =>
                intro k y0 y1 y2 ey0 ey1 ey2 hk hn
                subst ey0
                subst ey1
                subst ey2
                refine v_iload C 5 dX5_together_49 rfl ?_
                refine v_aload_n C 0 dX5_together_51 rfl ?_
                refine v_get C (v := .ref ta) fl_X5_together_26 0 rfl rfl dX5_together_52 ?_
                refine v_getN C (v := .int (nI pn)) fn_X5_together_199 1 rfl rfl dX5_together_55 ?_
                refine v_icmp_ge C 101 dX5_together_58 (by decide) (fun c5 => ?_) (fun c5 => ?_)
                · skip
                  have hgek : pn ≤ a + 1 + k := le_nI c5 (by omega) (by omega)
                  refine v_iinc C (k := 4) (nI (a + 1)) [(0, .ref xo), (1, .int x), (2, .int (nI (toI (toP kf sf wf tn pn) a (toO (toP kf sf wf tn pn) pn a) k).1)), (3, .int ((toI (toP kf sf wf tn pn) a (toO (toP kf sf wf tn pn) pn a) k).2)), (4, .int (nI (a + 1))), (5, .int (nI (a + 1 + k)))] [1, 2, 3, 4, 0, 5] dX5_together_101 rfl (nI_inc _) (by decide) rfl ?_
                  refine v_goto C 31 dX5_together_104 (by decide) ?_
                  refine V.lvs (lv' := [(0, .ref xo), (1, .int x), (2, .int (nI (toI (toP kf sf wf tn pn) a (toO (toP kf sf wf tn pn) pn a) k).1)), (3, .int ((toI (toP kf sf wf tn pn) a (toO (toP kf sf wf tn pn) pn a) k).2)), (4, .int (nI (a + 1)))]) [0, 1, 2, 3, 4] rfl ?_
                  exact ih31 (a + 1) _ _ _ (by rw [toO_s, show k = pn - 1 - a by omega]) (by rw [toO_s, show k = pn - 1 - a by omega]) (rfl) (by omega) (by omega)
                · skip
                  have hlt : a + 1 + k < pn := nle_nI c5 (by omega) (by omega)
                  refine v_aload_n C 0 dX5_together_61 rfl ?_
                  refine v_get C (v := .ref ta) fl_X5_together_26 0 rfl rfl dX5_together_62 ?_
                  refine v_iload C 4 dX5_together_65 rfl ?_
                  refine v_iload C 5 dX5_together_67 rfl ?_
                  refine v_callVN (qi := 0) C [.int (nI a), .int (nI (a + 1 + k))] [] kX4_areMissedOnlyTogether gX5_together_X4_areMissedOnlyTogether_n221 (host := "TableShares") (by decide +kernel) nq_X5_together_X4_areMissedOnlyTogether (c_missedOnly l D cs (ta := ta) (tk := tk) (tq := tq) (tw := tw) (kf := kf) (sf := sf) (wf := wf) (pe := (nI pn)) (aw := aw) (me := me) (sp := sp) (tn := tn) (q1 := (nI a)) (q2 := (nI (a + 1 + k))) (by first | assumption | omega) (by first | assumption | omega)) ⟨Nat.le_of_ble_eq_true rfl, Nat.le_of_ble_eq_true rfl⟩ ⟨rfl, rfl⟩ ⟨Nat.zero_le _, Nat.zero_le _⟩ rfl 1 rfl rfl rfl rfl (Nat.le_of_ble_eq_true rfl) [1, 2, 3, 4] [(xo, .inr (5, [.ref xr, .ref xd, .ref ta, .ref tb, .ref xi, .ref aa, .ref sa, .int lf, .int fg])), (ta, .inr (4, [.ref tk, .ref tq, .ref tw, .int (nI pn), .int (nI tn), .int aw, .int me, .int sp])), (tk, .inl (cs 0, 8, .inl kf)), (tq, .inl (cs 0, 8, .inl sf)), (tw, .inl (cs 0, 8, .inl wf))] rfl (by decide) (show [ta, tk, tq, tw] = [ta, tk, tq, tw] from rfl) (rfl) dX5_together_69 ?_
                  refine V.sts (st' := [.int (b2 (mtB kf sf wf tn (nI pn) (nI a) (nI (a + 1 + k))))]) rfl ?_
                  refine v_if_eqB C 95 dX5_together_72 (by decide) (fun c6 => ?_) (fun c6 => ?_)
                  · skip
                    refine v_iinc C (k := 5) (nI ((a + 1 + k) + 1)) [(0, .ref xo), (1, .int x), (2, .int (nI (toI (toP kf sf wf tn pn) a (toO (toP kf sf wf tn pn) pn a) k).1)), (3, .int ((toI (toP kf sf wf tn pn) a (toO (toP kf sf wf tn pn) pn a) k).2)), (4, .int (nI a)), (5, .int (nI ((a + 1 + k) + 1)))] [1, 2, 3, 4, 5, 0] dX5_together_95 rfl (nI_inc _) (by decide) rfl ?_
                    refine v_goto C 49 dX5_together_98 (by decide) ?_
                    exact ih49 (k + 1) _ _ _ (by simp only [toI, toP, c1, of_decide_eq_true c1, c2, c3, Int32.not_le.mp c3, c5, Int32.not_le.mp c5, c6, decide_true, decide_false, ↓reduceIte, Bool.false_eq_true]) (by simp only [toI, toP, c1, of_decide_eq_true c1, c2, c3, Int32.not_le.mp c3, c5, Int32.not_le.mp c5, c6, decide_true, decide_false, ↓reduceIte, Bool.false_eq_true]) (rfl) (by omega) (by omega)
                  · skip
                    refine v_iload_n C 2 dX5_together_75 rfl ?_
                    refine v_if_ne C 90 dX5_together_76 (by decide) (fun c7 => ?_) (fun c7 => ?_)
                    · skip
                      refine v_iload_n C 3 dX5_together_90 rfl ?_
                      refine v_istore_n C [(0, .ref xo), (1, .int x), (2, .int (nI (toI (toP kf sf wf tn pn) a (toO (toP kf sf wf tn pn) pn a) k).1)), (3, .int ((toI (toP kf sf wf tn pn) a (toO (toP kf sf wf tn pn) pn a) k).2)), (4, .int (nI a)), (5, .int (nI (a + 1 + k)))] [1, 2, 3, 0, 4, 5] dX5_together_91 (by decide) rfl ?_
                      refine v_iinc C (k := 2) (nI (((toI (toP kf sf wf tn pn) a (toO (toP kf sf wf tn pn) pn a) k).1) + 1)) [(0, .ref xo), (1, .int x), (2, .int (nI (((toI (toP kf sf wf tn pn) a (toO (toP kf sf wf tn pn) pn a) k).1) + 1))), (3, .int ((toI (toP kf sf wf tn pn) a (toO (toP kf sf wf tn pn) pn a) k).2)), (4, .int (nI a)), (5, .int (nI (a + 1 + k)))] [1, 2, 0, 3, 4, 5] dX5_together_92 rfl (nI_inc _) (by decide) rfl ?_
                      refine v_iinc C (k := 5) (nI ((a + 1 + k) + 1)) [(0, .ref xo), (1, .int x), (2, .int (nI (((toI (toP kf sf wf tn pn) a (toO (toP kf sf wf tn pn) pn a) k).1) + 1))), (3, .int ((toI (toP kf sf wf tn pn) a (toO (toP kf sf wf tn pn) pn a) k).2)), (4, .int (nI a)), (5, .int (nI ((a + 1 + k) + 1)))] [1, 2, 3, 4, 5, 0] dX5_together_95 rfl (nI_inc _) (by decide) rfl ?_
                      refine v_goto C 49 dX5_together_98 (by decide) ?_
                      exact ih49 (k + 1) _ _ _ (by simp only [toI, toP, c1, of_decide_eq_true c1, c2, c3, Int32.not_le.mp c3, c5, Int32.not_le.mp c5, c6, c7, decide_true, decide_false, ↓reduceIte, Bool.false_eq_true]) (by simp only [toI, toP, c1, of_decide_eq_true c1, c2, c3, Int32.not_le.mp c3, c5, Int32.not_le.mp c5, c6, c7, decide_true, decide_false, ↓reduceIte, Bool.false_eq_true]) (rfl) (by omega) (by omega)
                    · skip
                      refine v_bipush C (v := 10) dX5_together_79 (by decide) ?_
                      refine v_iload C 4 dX5_together_81 rfl ?_
                      refine v_imul C dX5_together_83 ?_
                      refine v_iload C 5 dX5_together_84 rfl ?_
                      refine v_iadd C dX5_together_86 ?_
                      refine v_goto C 91 dX5_together_87 (by decide) ?_
                      refine v_istore_n C [(0, .ref xo), (1, .int x), (2, .int (nI (toI (toP kf sf wf tn pn) a (toO (toP kf sf wf tn pn) pn a) k).1)), (3, .int ((10 * (nI a)) + (nI (a + 1 + k)))), (4, .int (nI a)), (5, .int (nI (a + 1 + k)))] [1, 2, 3, 0, 4, 5] dX5_together_91 (by decide) rfl ?_
                      refine v_iinc C (k := 2) (nI (((toI (toP kf sf wf tn pn) a (toO (toP kf sf wf tn pn) pn a) k).1) + 1)) [(0, .ref xo), (1, .int x), (2, .int (nI (((toI (toP kf sf wf tn pn) a (toO (toP kf sf wf tn pn) pn a) k).1) + 1))), (3, .int ((10 * (nI a)) + (nI (a + 1 + k)))), (4, .int (nI a)), (5, .int (nI (a + 1 + k)))] [1, 2, 0, 3, 4, 5] dX5_together_92 rfl (nI_inc _) (by decide) rfl ?_
                      refine v_iinc C (k := 5) (nI ((a + 1 + k) + 1)) [(0, .ref xo), (1, .int x), (2, .int (nI (((toI (toP kf sf wf tn pn) a (toO (toP kf sf wf tn pn) pn a) k).1) + 1))), (3, .int ((10 * (nI a)) + (nI (a + 1 + k)))), (4, .int (nI a)), (5, .int (nI ((a + 1 + k) + 1)))] [1, 2, 3, 4, 5, 0] dX5_together_95 rfl (nI_inc _) (by decide) rfl ?_
                      refine v_goto C 49 dX5_together_98 (by decide) ?_
                      exact ih49 (k + 1) _ _ _ (by simp only [toI, toP, c1, of_decide_eq_true c1, c2, c3, Int32.not_le.mp c3, c5, Int32.not_le.mp c5, c6, c7, decide_true, decide_false, ↓reduceIte, Bool.false_eq_true]) (by simp only [toI, toP, c1, of_decide_eq_true c1, c2, c3, Int32.not_le.mp c3, c5, Int32.not_le.mp c5, c6, c7, decide_true, decide_false, ↓reduceIte, Bool.false_eq_true]) (rfl) (by omega) (by omega)
            exact L49 _ 0 _ _ _ (rfl) (rfl) (rfl) (by omega) (Nat.lt_succ_self _)
      exact L31 _ 0 _ _ _ (rfl) (rfl) (rfl) (by first | assumption | omega) (Nat.lt_succ_self _)
    · skip
      refine v_ldc C (v := -1000001) (by decide +kernel) dX5_together_20 ?_
      exact v_iret C E (rfl) (by first | rfl | (simp only [c1, of_decide_eq_true c1, c2, ↓reduceIte, Bool.false_eq_true, reduceCtorEq, Bool.and_true, Bool.true_and, Bool.and_false, Bool.false_and]; done) | (simp [c1, of_decide_eq_true c1, c2]; done) | (simp_all [b2]; done)) dX5_together_22
  · skip
    refine v_ldc C (v := -1000002) (by decide +kernel) dX5_together_10 ?_
    exact v_iret C E (rfl) (by first | rfl | (simp only [c1, of_decide_eq_false c1, ↓reduceIte, Bool.false_eq_true, reduceCtorEq, Bool.and_true, Bool.true_and, Bool.and_false, Bool.false_and]; done) | (simp [c1, of_decide_eq_false c1]; done) | (simp_all [b2]; done)) dX5_together_12
