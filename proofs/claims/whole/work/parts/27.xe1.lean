theorem kX5_tieHas : KD yX5_tieHas wsX5_tieHas cX5_tieHas 3 (some .int) 2 := ⟨⟨_, rfl⟩, by decide, by decide +kernel, by decide +kernel, by decide +kernel⟩
theorem in_X5_tieHas_X5 : ∀ w ∈ wsX50, w ∈ wsX5_tieHas := by decide +kernel
theorem fl_X5_tieHas_26 : FL RX5 wsX5_tieHas RX5 RX5 TX5 9 5 2 26 := ⟨⟨in_X5_tieHas_X5, rfl, by decide, rfl⟩, by decide +kernel⟩
theorem nq_X5_tieHas_X4_isTie : Cond.initialized yX4_isTie.cls ∈ wsX5_tieHas ∧ Cond.instanceMethod yX4_isTie ∈ wsX5_tieHas ∧ Cond.selects yX4_isTie.cls yX4_isTie yX4_isTie ∈ wsX5_tieHas := ⟨by decide +kernel, by decide +kernel, by decide +kernel⟩
theorem nq_X5_tieHas_X4_setOf : Cond.initialized yX4_setOf.cls ∈ wsX5_tieHas ∧ Cond.instanceMethod yX4_setOf ∈ wsX5_tieHas ∧ Cond.selects yX4_setOf.cls yX4_setOf yX4_setOf ∈ wsX5_tieHas := ⟨by decide +kernel, by decide +kernel, by decide +kernel⟩
theorem nq_X5_tieHas_X4_worthOf : Cond.initialized yX4_worthOf.cls ∈ wsX5_tieHas ∧ Cond.instanceMethod yX4_worthOf ∈ wsX5_tieHas ∧ Cond.selects yX4_worthOf.cls yX4_worthOf yX4_worthOf ∈ wsX5_tieHas := ⟨by decide +kernel, by decide +kernel, by decide +kernel⟩
theorem nq_X5_tieHas_X4_kindOf : Cond.initialized yX4_kindOf.cls ∈ wsX5_tieHas ∧ Cond.instanceMethod yX4_kindOf ∈ wsX5_tieHas ∧ Cond.selects yX4_kindOf.cls yX4_kindOf yX4_kindOf ∈ wsX5_tieHas := ⟨by decide +kernel, by decide +kernel, by decide +kernel⟩
theorem nq_X5_tieHas_X4_there : Cond.initialized yX4_there.cls ∈ wsX5_tieHas ∧ Cond.instanceMethod yX4_there ∈ wsX5_tieHas ∧ Cond.selects yX4_there.cls yX4_there yX4_there ∈ wsX5_tieHas := ⟨by decide +kernel, by decide +kernel, by decide +kernel⟩
theorem nq_X5_tieHas_X4_counts : Cond.initialized yX4_counts.cls ∈ wsX5_tieHas ∧ Cond.instanceMethod yX4_counts ∈ wsX5_tieHas ∧ Cond.selects yX4_counts.cls yX4_counts yX4_counts ∈ wsX5_tieHas := ⟨by decide +kernel, by decide +kernel, by decide +kernel⟩
set_option maxHeartbeats 4000000 in
set_option maxRecDepth 100000 in
theorem c_tieHas (l : Launch) (D : va_G) (cs : Nat → ClassId) {xo : Nat} {xr : Nat} {xd : Nat} {ta : Nat} {tb : Nat} {xi : Nat} {aa : Nat} {sa : Nat} {lf : Int32} {fg : Int32} {tk : Nat} {tq : Nat} {tw : Nat} {kf : Nat → Int32} {sf : Nat → Int32} {wf : Nat → Int32} {pn : Nat} {aw : Int32} {me : Int32} {sp : Int32} {tn : Nat} {x : Int32} {y : Int32} (hS : ∀ t, s64 (sf t)) (hti : tn ≤ 8) (hpn : pn ≤ 6) : CT l D (tz cs) yX5_tieHas wsX5_tieHas ({ frames := 3, cells := 0, slots := 0, locals := 68 }) [.ref xo, .int x, .int y] [(xo, .inr (5, [.ref xr, .ref xd, .ref ta, .ref tb, .ref xi, .ref aa, .ref sa, .int lf, .int fg])), (ta, .inr (4, [.ref tk, .ref tq, .ref tw, .int (nI pn), .int (nI tn), .int aw, .int me, .int sp])), (tk, .inl (cs 0, 8, .inl kf)), (tq, .inl (cs 0, 8, .inl sf)), (tw, .inl (cs 0, 8, .inl wf))] (some (.int (if inB (nI tn) x = true then (if y = 0 then gA sf 8 x else if y = 1 then gA wf 8 x else if y = 2 then cnt (gA kf 8 x) (gA sf 8 x) (gA wf 8 x) (thI (nI pn) aw) else -1000001) else -1000001))) [(xo, .inr (5, [.ref xr, .ref xd, .ref ta, .ref tb, .ref xi, .ref aa, .ref sa, .int lf, .int fg])), (ta, .inr (4, [.ref tk, .ref tq, .ref tw, .int (nI pn), .int (nI tn), .int aw, .int me, .int sp])), (tk, .inl (cs 0, 8, .inl kf)), (tq, .inl (cs 0, 8, .inl sf)), (tw, .inl (cs 0, 8, .inl wf))] := by
  refine CT.of kX5_tieHas (Nat.le_of_ble_eq_true rfl) ?_
  intro p e s m below meth c A C E
  have C : VOk p s m _ c cX5_tieHas 3 wsX5_tieHas RX5 D (tz cs) A s.heap := C
  refine V.lvs (lv' := [(0, .ref xo), (1, .int x), (2, .int y)]) [0, 1, 2] rfl ?_
  have hpw := pw64 pn hpn
  refine v_aload_n C 0 dX5_tieHas_0 rfl ?_
  refine v_get C (v := .ref ta) fl_X5_tieHas_26 0 rfl rfl dX5_tieHas_1 ?_
  refine v_iload_n C 1 dX5_tieHas_4 rfl ?_
  refine v_callVN (qi := 0) C [.int x] [] kX4_isTie gX5_tieHas_X4_isTie_n182 (host := "TableShares") (by decide +kernel) nq_X5_tieHas_X4_isTie (c_isTie l D cs (ta := ta) (tk := tk) (tq := tq) (tw := tw) (pe := (nI pn)) (ti := (nI tn)) (aw := aw) (me := me) (sp := sp) (x := x) ) ⟨Nat.le_of_ble_eq_true rfl, Nat.le_of_ble_eq_true rfl⟩ ⟨rfl, rfl⟩ ⟨Nat.zero_le _, Nat.zero_le _⟩ rfl 1 rfl rfl rfl rfl (Nat.le_of_ble_eq_true rfl) [1] [(xo, .inr (5, [.ref xr, .ref xd, .ref ta, .ref tb, .ref xi, .ref aa, .ref sa, .int lf, .int fg])), (ta, .inr (4, [.ref tk, .ref tq, .ref tw, .int (nI pn), .int (nI tn), .int aw, .int me, .int sp])), (tk, .inl (cs 0, 8, .inl kf)), (tq, .inl (cs 0, 8, .inl sf)), (tw, .inl (cs 0, 8, .inl wf))] rfl (by decide) (show [ta] = [ta] from rfl) (rfl) dX5_tieHas_5 ?_
  refine V.sts (st' := [.int (b2 (inB (nI tn) x))]) rfl ?_
  refine v_if_neB C 14 dX5_tieHas_8 (by decide) (fun c1 => ?_) (fun c1 => ?_)
  · skip
    refine v_iload_n C 2 dX5_tieHas_14 rfl ?_
    rcases Decidable.em (y = 0) with z2 | z2
    · skip
      refine v_tableIn C 40 dX5_tieHas_15 (by rw [z2]; decide) (by rw [z2]; decide) (by rw [z2]; rfl) (by decide) ?_
      refine v_aload_n C 0 dX5_tieHas_40 rfl ?_
      refine v_get C (v := .ref ta) fl_X5_tieHas_26 0 rfl rfl dX5_tieHas_41 ?_
      refine v_iload_n C 1 dX5_tieHas_44 rfl ?_
      refine v_callVN (qi := 0) C [.int x] [] kX4_setOf gX5_tieHas_X4_setOf_n151 (host := "TableShares") (by decide +kernel) nq_X5_tieHas_X4_setOf (c_setOf l D cs (ta := ta) (tk := tk) (tq := tq) (tw := tw) (pe := (nI pn)) (ti := (nI tn)) (aw := aw) (me := me) (sp := sp) (sf := sf) (x := x) ) ⟨Nat.le_of_ble_eq_true rfl, Nat.le_of_ble_eq_true rfl⟩ ⟨rfl, rfl⟩ ⟨Nat.zero_le _, Nat.zero_le _⟩ rfl 1 rfl rfl rfl rfl (Nat.le_of_ble_eq_true rfl) [1, 3] [(xo, .inr (5, [.ref xr, .ref xd, .ref ta, .ref tb, .ref xi, .ref aa, .ref sa, .int lf, .int fg])), (ta, .inr (4, [.ref tk, .ref tq, .ref tw, .int (nI pn), .int (nI tn), .int aw, .int me, .int sp])), (tk, .inl (cs 0, 8, .inl kf)), (tq, .inl (cs 0, 8, .inl sf)), (tw, .inl (cs 0, 8, .inl wf))] rfl (by decide) (show [ta, tq] = [ta, tq] from rfl) (rfl) dX5_tieHas_45 ?_
      refine V.sts (st' := [.int (gA sf 8 x)]) rfl ?_
      exact v_iret C E (rfl) (by first | rfl | (simp only [c1, z2, ↓reduceIte, Bool.false_eq_true, reduceCtorEq, Bool.and_true, Bool.true_and, Bool.and_false, Bool.false_and]; done) | (simp [c1, z2]; done) | (simp_all [b2]; done)) dX5_tieHas_48
    · skip
      rcases Decidable.em (y = 1) with z3 | z3
      · skip
        refine v_tableIn C 49 dX5_tieHas_15 (by rw [z3]; decide) (by rw [z3]; decide) (by rw [z3]; rfl) (by decide) ?_
        refine v_aload_n C 0 dX5_tieHas_49 rfl ?_
        refine v_get C (v := .ref ta) fl_X5_tieHas_26 0 rfl rfl dX5_tieHas_50 ?_
        refine v_iload_n C 1 dX5_tieHas_53 rfl ?_
        refine v_callVN (qi := 0) C [.int x] [] kX4_worthOf gX5_tieHas_X4_worthOf_n154 (host := "TableShares") (by decide +kernel) nq_X5_tieHas_X4_worthOf (c_worthOf l D cs (ta := ta) (tk := tk) (tq := tq) (tw := tw) (pe := (nI pn)) (ti := (nI tn)) (aw := aw) (me := me) (sp := sp) (wf := wf) (x := x) ) ⟨Nat.le_of_ble_eq_true rfl, Nat.le_of_ble_eq_true rfl⟩ ⟨rfl, rfl⟩ ⟨Nat.zero_le _, Nat.zero_le _⟩ rfl 1 rfl rfl rfl rfl (Nat.le_of_ble_eq_true rfl) [1, 4] [(xo, .inr (5, [.ref xr, .ref xd, .ref ta, .ref tb, .ref xi, .ref aa, .ref sa, .int lf, .int fg])), (ta, .inr (4, [.ref tk, .ref tq, .ref tw, .int (nI pn), .int (nI tn), .int aw, .int me, .int sp])), (tk, .inl (cs 0, 8, .inl kf)), (tq, .inl (cs 0, 8, .inl sf)), (tw, .inl (cs 0, 8, .inl wf))] rfl (by decide) (show [ta, tw] = [ta, tw] from rfl) (rfl) dX5_tieHas_54 ?_
        refine V.sts (st' := [.int (gA wf 8 x)]) rfl ?_
        exact v_iret C E (rfl) (by first | rfl | (simp only [c1, z2, z3, ↓reduceIte, Bool.false_eq_true, reduceCtorEq, Bool.and_true, Bool.true_and, Bool.and_false, Bool.false_and]; done) | (simp [c1, z2, z3]; done) | (simp_all [b2]; done)) dX5_tieHas_57
      · skip
        rcases Decidable.em (y = 2) with z4 | z4
        · skip
          refine v_tableIn C 58 dX5_tieHas_15 (by rw [z4]; decide) (by rw [z4]; decide) (by rw [z4]; rfl) (by decide) ?_
          refine v_aload_n C 0 dX5_tieHas_58 rfl ?_
          refine v_get C (v := .ref ta) fl_X5_tieHas_26 0 rfl rfl dX5_tieHas_59 ?_
          refine v_iload_n C 1 dX5_tieHas_62 rfl ?_
          refine v_aload_n C 0 dX5_tieHas_63 rfl ?_
          refine v_get C (v := .ref ta) fl_X5_tieHas_26 0 rfl rfl dX5_tieHas_64 ?_
          refine v_iload_n C 1 dX5_tieHas_67 rfl ?_
          refine v_callVN (qi := 0) C [.int x] [.int x, .ref ta] kX4_kindOf gX5_tieHas_X4_kindOf_n148 (host := "TableShares") (by decide +kernel) nq_X5_tieHas_X4_kindOf (c_kindOf l D cs (ta := ta) (tk := tk) (tq := tq) (tw := tw) (pe := (nI pn)) (ti := (nI tn)) (aw := aw) (me := me) (sp := sp) (kf := kf) (x := x) ) ⟨Nat.le_of_ble_eq_true rfl, Nat.le_of_ble_eq_true rfl⟩ ⟨rfl, rfl⟩ ⟨Nat.zero_le _, Nat.zero_le _⟩ rfl 1 rfl rfl rfl rfl (Nat.le_of_ble_eq_true rfl) [1, 2] [(xo, .inr (5, [.ref xr, .ref xd, .ref ta, .ref tb, .ref xi, .ref aa, .ref sa, .int lf, .int fg])), (ta, .inr (4, [.ref tk, .ref tq, .ref tw, .int (nI pn), .int (nI tn), .int aw, .int me, .int sp])), (tk, .inl (cs 0, 8, .inl kf)), (tq, .inl (cs 0, 8, .inl sf)), (tw, .inl (cs 0, 8, .inl wf))] rfl (by decide) (show [ta, tk] = [ta, tk] from rfl) (rfl) dX5_tieHas_68 ?_
          refine V.sts (st' := [.int (gA kf 8 x), .int x, .ref ta]) rfl ?_
          refine v_aload_n C 0 dX5_tieHas_71 rfl ?_
          refine v_get C (v := .ref ta) fl_X5_tieHas_26 0 rfl rfl dX5_tieHas_72 ?_
          refine v_callVN (qi := 0) C [] [.int (gA kf 8 x), .int x, .ref ta] kX4_there gX5_tieHas_X4_there_n163 (host := "TableShares") (by decide +kernel) nq_X5_tieHas_X4_there (c_there l D cs (ta := ta) (tk := tk) (tq := tq) (tw := tw) (pe := (nI pn)) (ti := (nI tn)) (aw := aw) (me := me) (sp := sp) ) ⟨Nat.le_of_ble_eq_true rfl, Nat.le_of_ble_eq_true rfl⟩ ⟨rfl, rfl⟩ ⟨Nat.zero_le _, Nat.zero_le _⟩ rfl 1 rfl rfl rfl rfl (Nat.le_of_ble_eq_true rfl) [1] [(xo, .inr (5, [.ref xr, .ref xd, .ref ta, .ref tb, .ref xi, .ref aa, .ref sa, .int lf, .int fg])), (ta, .inr (4, [.ref tk, .ref tq, .ref tw, .int (nI pn), .int (nI tn), .int aw, .int me, .int sp])), (tk, .inl (cs 0, 8, .inl kf)), (tq, .inl (cs 0, 8, .inl sf)), (tw, .inl (cs 0, 8, .inl wf))] rfl (by decide) (show [ta] = [ta] from rfl) (rfl) dX5_tieHas_75 ?_
          refine V.sts (st' := [.int (thI (nI pn) aw), .int (gA kf 8 x), .int x, .ref ta]) rfl ?_
          refine v_callVN (qi := 0) C [.int x, .int (gA kf 8 x), .int (thI (nI pn) aw)] [] kX4_counts gX5_tieHas_X4_counts_n185 (host := "TableShares") (by decide +kernel) nq_X5_tieHas_X4_counts (c_counts l D cs (ta := ta) (tk := tk) (tq := tq) (tw := tw) (sf := sf) (wf := wf) (pe := (nI pn)) (ti := (nI tn)) (aw := aw) (me := me) (sp := sp) (x := x) (kd := (gA kf 8 x)) (th := (thI (nI pn) aw)) (by first | assumption | omega)) ⟨Nat.le_of_ble_eq_true rfl, Nat.le_of_ble_eq_true rfl⟩ ⟨rfl, rfl⟩ ⟨Nat.zero_le _, Nat.zero_le _⟩ rfl 1 rfl rfl rfl rfl (Nat.le_of_ble_eq_true rfl) [1, 3, 4] [(xo, .inr (5, [.ref xr, .ref xd, .ref ta, .ref tb, .ref xi, .ref aa, .ref sa, .int lf, .int fg])), (ta, .inr (4, [.ref tk, .ref tq, .ref tw, .int (nI pn), .int (nI tn), .int aw, .int me, .int sp])), (tk, .inl (cs 0, 8, .inl kf)), (tq, .inl (cs 0, 8, .inl sf)), (tw, .inl (cs 0, 8, .inl wf))] rfl (by decide) (show [ta, tq, tw] = [ta, tq, tw] from rfl) (rfl) dX5_tieHas_78 ?_
          refine V.sts (st' := [.int (cnt (gA kf 8 x) (gA sf 8 x) (gA wf 8 x) (thI (nI pn) aw))]) rfl ?_
          exact v_iret C E (rfl) (by first | rfl | (simp only [c1, z2, z3, z4, ↓reduceIte, Bool.false_eq_true, reduceCtorEq, Bool.and_true, Bool.true_and, Bool.and_false, Bool.false_and]; done) | (simp [c1, z2, z3, z4]; done) | (simp_all [b2]; done)) dX5_tieHas_81
        · skip
          have tz2 : ¬ Int32.toInt y = 0 := lv_neT z2 (by rfl)
          have tz3 : ¬ Int32.toInt y = 1 := lv_neT z3 (by rfl)
          have tz4 : ¬ Int32.toInt y = 2 := lv_neT z4 (by rfl)
          refine v_tableOut C 82 dX5_tieHas_15 (by omega) (by decide) ?_
          refine v_ldc C (v := -1000001) (by decide +kernel) dX5_tieHas_82 ?_
          exact v_iret C E (rfl) (by first | rfl | (simp only [c1, z2, z3, z4, ↓reduceIte, Bool.false_eq_true, reduceCtorEq, Bool.and_true, Bool.true_and, Bool.and_false, Bool.false_and]; done) | (simp [c1, z2, z3, z4]; done) | (simp_all [b2]; done)) dX5_tieHas_84
  · skip
    refine v_ldc C (v := -1000001) (by decide +kernel) dX5_tieHas_11 ?_
    exact v_iret C E (rfl) (by first | rfl | (simp only [c1, ↓reduceIte, Bool.false_eq_true, reduceCtorEq, Bool.and_true, Bool.true_and, Bool.and_false, Bool.false_and]; done) | (simp [c1]; done) | (simp_all [b2]; done)) dX5_tieHas_13
theorem kX5_tableHas : KD yX5_tableHas wsX5_tableHas cX5_tableHas 2 (some .int) 1 := ⟨⟨_, rfl⟩, by decide, by decide +kernel, by decide +kernel, by decide +kernel⟩
theorem in_X5_tableHas_X5 : ∀ w ∈ wsX50, w ∈ wsX5_tableHas := by decide +kernel
theorem fl_X5_tableHas_26 : FL RX5 wsX5_tableHas RX5 RX5 TX5 9 5 2 26 := ⟨⟨in_X5_tableHas_X5, rfl, by decide, rfl⟩, by decide +kernel⟩
theorem nq_X5_tableHas_X4_stands : Cond.initialized yX4_stands.cls ∈ wsX5_tableHas ∧ Cond.instanceMethod yX4_stands ∈ wsX5_tableHas ∧ Cond.selects yX4_stands.cls yX4_stands yX4_stands ∈ wsX5_tableHas := ⟨by decide +kernel, by decide +kernel, by decide +kernel⟩
theorem nq_X5_tableHas_X4_there : Cond.initialized yX4_there.cls ∈ wsX5_tableHas ∧ Cond.instanceMethod yX4_there ∈ wsX5_tableHas ∧ Cond.selects yX4_there.cls yX4_there yX4_there ∈ wsX5_tableHas := ⟨by decide +kernel, by decide +kernel, by decide +kernel⟩
theorem nq_X5_tableHas_X4_worthOfSet : Cond.initialized yX4_worthOfSet.cls ∈ wsX5_tableHas ∧ Cond.instanceMethod yX4_worthOfSet ∈ wsX5_tableHas ∧ Cond.selects yX4_worthOfSet.cls yX4_worthOfSet yX4_worthOfSet ∈ wsX5_tableHas := ⟨by decide +kernel, by decide +kernel, by decide +kernel⟩
theorem nq_X5_tableHas_X4_everybody : Cond.initialized yX4_everybody.cls ∈ wsX5_tableHas ∧ Cond.instanceMethod yX4_everybody ∈ wsX5_tableHas ∧ Cond.selects yX4_everybody.cls yX4_everybody yX4_everybody ∈ wsX5_tableHas := ⟨by decide +kernel, by decide +kernel, by decide +kernel⟩
theorem in_X5_tableHas_X4 : ∀ w ∈ wsX40, w ∈ wsX5_tableHas := by decide +kernel
theorem fn_X5_tableHas_160 : FLN RX5 wsX5_tableHas RX4 RX4 TX4 8 4 6 160 := ⟨⟨in_X5_tableHas_X4, rfl, by decide, rfl⟩, "TableShares", by decide +kernel⟩
theorem fn_X5_tableHas_170 : FLN RX5 wsX5_tableHas RX4 RX4 TX4 8 4 7 170 := ⟨⟨in_X5_tableHas_X4, rfl, by decide, rfl⟩, "TableShares", by decide +kernel⟩
set_option maxHeartbeats 4000000 in
set_option maxRecDepth 100000 in
theorem c_tableHas (l : Launch) (D : va_G) (cs : Nat → ClassId) {xo : Nat} {xr : Nat} {xd : Nat} {ta : Nat} {tb : Nat} {xi : Nat} {aa : Nat} {sa : Nat} {lf : Int32} {fg : Int32} {tk : Nat} {tq : Nat} {tw : Nat} {kf : Nat → Int32} {sf : Nat → Int32} {wf : Nat → Int32} {pn : Nat} {aw : Int32} {me : Int32} {sp : Int32} {tn : Nat} {x : Int32} (hS : ∀ t, s64 (sf t)) (hti : tn ≤ 8) (hpn : pn ≤ 6) : CT l D (tz cs) yX5_tableHas wsX5_tableHas ({ frames := 4, cells := 0, slots := 0, locals := 91 }) [.ref xo, .int x] [(xo, .inr (5, [.ref xr, .ref xd, .ref ta, .ref tb, .ref xi, .ref aa, .ref sa, .int lf, .int fg])), (ta, .inr (4, [.ref tk, .ref tq, .ref tw, .int (nI pn), .int (nI tn), .int aw, .int me, .int sp])), (tk, .inl (cs 0, 8, .inl kf)), (tq, .inl (cs 0, 8, .inl sf)), (tw, .inl (cs 0, 8, .inl wf))] (some (.int (if 0 < nI pn then (if x = 0 then thI (nI pn) aw else if x = 1 then wsum kf sf wf (thI (nI pn) aw) tn else if x = 2 then wsum kf sf wf (allI (nI pn)) tn else if x = 3 then me else if x = 4 then sp else -1000001) else -1000002))) [(xo, .inr (5, [.ref xr, .ref xd, .ref ta, .ref tb, .ref xi, .ref aa, .ref sa, .int lf, .int fg])), (ta, .inr (4, [.ref tk, .ref tq, .ref tw, .int (nI pn), .int (nI tn), .int aw, .int me, .int sp])), (tk, .inl (cs 0, 8, .inl kf)), (tq, .inl (cs 0, 8, .inl sf)), (tw, .inl (cs 0, 8, .inl wf))] := by
  refine CT.of kX5_tableHas (Nat.le_of_ble_eq_true rfl) ?_
  intro p e s m below meth c A C E
  have C : VOk p s m _ c cX5_tableHas 2 wsX5_tableHas RX5 D (tz cs) A s.heap := C
  refine V.lvs (lv' := [(0, .ref xo), (1, .int x)]) [0, 1] rfl ?_
  have hpw := pw64 pn hpn
  refine v_aload_n C 0 dX5_tableHas_0 rfl ?_
  refine v_get C (v := .ref ta) fl_X5_tableHas_26 0 rfl rfl dX5_tableHas_1 ?_
  refine v_callVN (qi := 0) C [] [] kX4_stands gX5_tableHas_X4_stands_n138 (host := "TableShares") (by decide +kernel) nq_X5_tableHas_X4_stands (c_stands l D cs (ta := ta) (tk := tk) (tq := tq) (tw := tw) (pe := (nI pn)) (ti := (nI tn)) (aw := aw) (me := me) (sp := sp) ) ⟨Nat.le_of_ble_eq_true rfl, Nat.le_of_ble_eq_true rfl⟩ ⟨rfl, rfl⟩ ⟨Nat.zero_le _, Nat.zero_le _⟩ rfl 1 rfl rfl rfl rfl (Nat.le_of_ble_eq_true rfl) [1] [(xo, .inr (5, [.ref xr, .ref xd, .ref ta, .ref tb, .ref xi, .ref aa, .ref sa, .int lf, .int fg])), (ta, .inr (4, [.ref tk, .ref tq, .ref tw, .int (nI pn), .int (nI tn), .int aw, .int me, .int sp])), (tk, .inl (cs 0, 8, .inl kf)), (tq, .inl (cs 0, 8, .inl sf)), (tw, .inl (cs 0, 8, .inl wf))] rfl (by decide) (show [ta] = [ta] from rfl) (rfl) dX5_tableHas_4 ?_
  refine V.sts (st' := [.int (b2 (decide (0 < (nI pn))))]) rfl ?_
  refine v_if_neB C 13 dX5_tableHas_7 (by decide) (fun c1 => ?_) (fun c1 => ?_)
  · skip
    refine v_iload_n C 1 dX5_tableHas_13 rfl ?_
    rcases Decidable.em (x = 0) with z2 | z2
    · skip
      refine v_tableIn C 48 dX5_tableHas_14 (by rw [z2]; decide) (by rw [z2]; decide) (by rw [z2]; rfl) (by decide) ?_
      refine v_aload_n C 0 dX5_tableHas_48 rfl ?_
      refine v_get C (v := .ref ta) fl_X5_tableHas_26 0 rfl rfl dX5_tableHas_49 ?_
      refine v_callVN (qi := 0) C [] [] kX4_there gX5_tableHas_X4_there_n163 (host := "TableShares") (by decide +kernel) nq_X5_tableHas_X4_there (c_there l D cs (ta := ta) (tk := tk) (tq := tq) (tw := tw) (pe := (nI pn)) (ti := (nI tn)) (aw := aw) (me := me) (sp := sp) ) ⟨Nat.le_of_ble_eq_true rfl, Nat.le_of_ble_eq_true rfl⟩ ⟨rfl, rfl⟩ ⟨Nat.zero_le _, Nat.zero_le _⟩ rfl 1 rfl rfl rfl rfl (Nat.le_of_ble_eq_true rfl) [1] [(xo, .inr (5, [.ref xr, .ref xd, .ref ta, .ref tb, .ref xi, .ref aa, .ref sa, .int lf, .int fg])), (ta, .inr (4, [.ref tk, .ref tq, .ref tw, .int (nI pn), .int (nI tn), .int aw, .int me, .int sp])), (tk, .inl (cs 0, 8, .inl kf)), (tq, .inl (cs 0, 8, .inl sf)), (tw, .inl (cs 0, 8, .inl wf))] rfl (by decide) (show [ta] = [ta] from rfl) (rfl) dX5_tableHas_52 ?_
      refine V.sts (st' := [.int (thI (nI pn) aw)]) rfl ?_
      exact v_iret C E (rfl) (by first | rfl | (simp only [c1, of_decide_eq_true c1, z2, ↓reduceIte, Bool.false_eq_true, reduceCtorEq, Bool.and_true, Bool.true_and, Bool.and_false, Bool.false_and]; done) | (simp [c1, of_decide_eq_true c1, z2]; done) | (simp_all [b2]; done)) dX5_tableHas_55
    · skip
      rcases Decidable.em (x = 1) with z3 | z3
      · skip
        refine v_tableIn C 56 dX5_tableHas_14 (by rw [z3]; decide) (by rw [z3]; decide) (by rw [z3]; rfl) (by decide) ?_
        refine v_aload_n C 0 dX5_tableHas_56 rfl ?_
        refine v_get C (v := .ref ta) fl_X5_tableHas_26 0 rfl rfl dX5_tableHas_57 ?_
        refine v_aload_n C 0 dX5_tableHas_60 rfl ?_
        refine v_get C (v := .ref ta) fl_X5_tableHas_26 0 rfl rfl dX5_tableHas_61 ?_
        refine v_callVN (qi := 0) C [] [.ref ta] kX4_there gX5_tableHas_X4_there_n163 (host := "TableShares") (by decide +kernel) nq_X5_tableHas_X4_there (c_there l D cs (ta := ta) (tk := tk) (tq := tq) (tw := tw) (pe := (nI pn)) (ti := (nI tn)) (aw := aw) (me := me) (sp := sp) ) ⟨Nat.le_of_ble_eq_true rfl, Nat.le_of_ble_eq_true rfl⟩ ⟨rfl, rfl⟩ ⟨Nat.zero_le _, Nat.zero_le _⟩ rfl 1 rfl rfl rfl rfl (Nat.le_of_ble_eq_true rfl) [1] [(xo, .inr (5, [.ref xr, .ref xd, .ref ta, .ref tb, .ref xi, .ref aa, .ref sa, .int lf, .int fg])), (ta, .inr (4, [.ref tk, .ref tq, .ref tw, .int (nI pn), .int (nI tn), .int aw, .int me, .int sp])), (tk, .inl (cs 0, 8, .inl kf)), (tq, .inl (cs 0, 8, .inl sf)), (tw, .inl (cs 0, 8, .inl wf))] rfl (by decide) (show [ta] = [ta] from rfl) (rfl) dX5_tableHas_64 ?_
        refine V.sts (st' := [.int (thI (nI pn) aw), .ref ta]) rfl ?_
        refine v_callVN (qi := 0) C [.int (thI (nI pn) aw)] [] kX4_worthOfSet gX5_tableHas_X4_worthOfSet_n167 (host := "TableShares") (by decide +kernel) nq_X5_tableHas_X4_worthOfSet (c_worthOfSet l D cs (ta := ta) (tk := tk) (tq := tq) (tw := tw) (kf := kf) (sf := sf) (wf := wf) (pe := (nI pn)) (aw := aw) (me := me) (sp := sp) (tn := tn) (th := (thI (nI pn) aw)) (by first | assumption | omega) (by first | assumption | omega)) ⟨Nat.le_of_ble_eq_true rfl, Nat.le_of_ble_eq_true rfl⟩ ⟨rfl, rfl⟩ ⟨Nat.zero_le _, Nat.zero_le _⟩ rfl 1 rfl rfl rfl rfl (Nat.le_of_ble_eq_true rfl) [1, 2, 3, 4] [(xo, .inr (5, [.ref xr, .ref xd, .ref ta, .ref tb, .ref xi, .ref aa, .ref sa, .int lf, .int fg])), (ta, .inr (4, [.ref tk, .ref tq, .ref tw, .int (nI pn), .int (nI tn), .int aw, .int me, .int sp])), (tk, .inl (cs 0, 8, .inl kf)), (tq, .inl (cs 0, 8, .inl sf)), (tw, .inl (cs 0, 8, .inl wf))] rfl (by decide) (show [ta, tk, tq, tw] = [ta, tk, tq, tw] from rfl) (rfl) dX5_tableHas_67 ?_
        refine V.sts (st' := [.int (wsum kf sf wf (thI (nI pn) aw) tn)]) rfl ?_
        exact v_iret C E (rfl) (by first | rfl | (simp only [c1, of_decide_eq_true c1, z2, z3, ↓reduceIte, Bool.false_eq_true, reduceCtorEq, Bool.and_true, Bool.true_and, Bool.and_false, Bool.false_and]; done) | (simp [c1, of_decide_eq_true c1, z2, z3]; done) | (simp_all [b2]; done)) dX5_tableHas_70
      · skip
        rcases Decidable.em (x = 2) with z4 | z4
        · skip
          refine v_tableIn C 71 dX5_tableHas_14 (by rw [z4]; decide) (by rw [z4]; decide) (by rw [z4]; rfl) (by decide) ?_
          refine v_aload_n C 0 dX5_tableHas_71 rfl ?_
          refine v_get C (v := .ref ta) fl_X5_tableHas_26 0 rfl rfl dX5_tableHas_72 ?_
          refine v_aload_n C 0 dX5_tableHas_75 rfl ?_
          refine v_get C (v := .ref ta) fl_X5_tableHas_26 0 rfl rfl dX5_tableHas_76 ?_
          refine v_callVN (qi := 0) C [] [.ref ta] kX4_everybody gX5_tableHas_X4_everybody_n189 (host := "TableShares") (by decide +kernel) nq_X5_tableHas_X4_everybody (c_everybody l D cs (ta := ta) (tk := tk) (tq := tq) (tw := tw) (pe := (nI pn)) (ti := (nI tn)) (aw := aw) (me := me) (sp := sp) ) ⟨Nat.le_of_ble_eq_true rfl, Nat.le_of_ble_eq_true rfl⟩ ⟨rfl, rfl⟩ ⟨Nat.zero_le _, Nat.zero_le _⟩ rfl 1 rfl rfl rfl rfl (Nat.le_of_ble_eq_true rfl) [1] [(xo, .inr (5, [.ref xr, .ref xd, .ref ta, .ref tb, .ref xi, .ref aa, .ref sa, .int lf, .int fg])), (ta, .inr (4, [.ref tk, .ref tq, .ref tw, .int (nI pn), .int (nI tn), .int aw, .int me, .int sp])), (tk, .inl (cs 0, 8, .inl kf)), (tq, .inl (cs 0, 8, .inl sf)), (tw, .inl (cs 0, 8, .inl wf))] rfl (by decide) (show [ta] = [ta] from rfl) (rfl) dX5_tableHas_79 ?_
          refine V.sts (st' := [.int (allI (nI pn)), .ref ta]) rfl ?_
          refine v_callVN (qi := 0) C [.int (allI (nI pn))] [] kX4_worthOfSet gX5_tableHas_X4_worthOfSet_n167 (host := "TableShares") (by decide +kernel) nq_X5_tableHas_X4_worthOfSet (c_worthOfSet l D cs (ta := ta) (tk := tk) (tq := tq) (tw := tw) (kf := kf) (sf := sf) (wf := wf) (pe := (nI pn)) (aw := aw) (me := me) (sp := sp) (tn := tn) (th := (allI (nI pn))) (by first | assumption | omega) (by first | assumption | omega)) ⟨Nat.le_of_ble_eq_true rfl, Nat.le_of_ble_eq_true rfl⟩ ⟨rfl, rfl⟩ ⟨Nat.zero_le _, Nat.zero_le _⟩ rfl 1 rfl rfl rfl rfl (Nat.le_of_ble_eq_true rfl) [1, 2, 3, 4] [(xo, .inr (5, [.ref xr, .ref xd, .ref ta, .ref tb, .ref xi, .ref aa, .ref sa, .int lf, .int fg])), (ta, .inr (4, [.ref tk, .ref tq, .ref tw, .int (nI pn), .int (nI tn), .int aw, .int me, .int sp])), (tk, .inl (cs 0, 8, .inl kf)), (tq, .inl (cs 0, 8, .inl sf)), (tw, .inl (cs 0, 8, .inl wf))] rfl (by decide) (show [ta, tk, tq, tw] = [ta, tk, tq, tw] from rfl) (rfl) dX5_tableHas_82 ?_
          refine V.sts (st' := [.int (wsum kf sf wf (allI (nI pn)) tn)]) rfl ?_
          exact v_iret C E (rfl) (by first | rfl | (simp only [c1, of_decide_eq_true c1, z2, z3, z4, ↓reduceIte, Bool.false_eq_true, reduceCtorEq, Bool.and_true, Bool.true_and, Bool.and_false, Bool.false_and]; done) | (simp [c1, of_decide_eq_true c1, z2, z3, z4]; done) | (simp_all [b2]; done)) dX5_tableHas_85
        · skip
          rcases Decidable.em (x = 3) with z5 | z5
          · skip
            refine v_tableIn C 86 dX5_tableHas_14 (by rw [z5]; decide) (by rw [z5]; decide) (by rw [z5]; rfl) (by decide) ?_
            refine v_aload_n C 0 dX5_tableHas_86 rfl ?_
            refine v_get C (v := .ref ta) fl_X5_tableHas_26 0 rfl rfl dX5_tableHas_87 ?_
            refine v_getN C (v := .int me) fn_X5_tableHas_160 1 rfl rfl dX5_tableHas_90 ?_
            exact v_iret C E (rfl) (by first | rfl | (simp only [c1, of_decide_eq_true c1, z2, z3, z4, z5, ↓reduceIte, Bool.false_eq_true, reduceCtorEq, Bool.and_true, Bool.true_and, Bool.and_false, Bool.false_and]; done) | (simp [c1, of_decide_eq_true c1, z2, z3, z4, z5]; done) | (simp_all [b2]; done)) dX5_tableHas_93
          · skip
            rcases Decidable.em (x = 4) with z6 | z6
            · skip
              refine v_tableIn C 94 dX5_tableHas_14 (by rw [z6]; decide) (by rw [z6]; decide) (by rw [z6]; rfl) (by decide) ?_
              refine v_aload_n C 0 dX5_tableHas_94 rfl ?_
              refine v_get C (v := .ref ta) fl_X5_tableHas_26 0 rfl rfl dX5_tableHas_95 ?_
              refine v_getN C (v := .int sp) fn_X5_tableHas_170 1 rfl rfl dX5_tableHas_98 ?_
              exact v_iret C E (rfl) (by first | rfl | (simp only [c1, of_decide_eq_true c1, z2, z3, z4, z5, z6, ↓reduceIte, Bool.false_eq_true, reduceCtorEq, Bool.and_true, Bool.true_and, Bool.and_false, Bool.false_and]; done) | (simp [c1, of_decide_eq_true c1, z2, z3, z4, z5, z6]; done) | (simp_all [b2]; done)) dX5_tableHas_101
            · skip
              have tz2 : ¬ Int32.toInt x = 0 := lv_neT z2 (by rfl)
              have tz3 : ¬ Int32.toInt x = 1 := lv_neT z3 (by rfl)
              have tz4 : ¬ Int32.toInt x = 2 := lv_neT z4 (by rfl)
              have tz5 : ¬ Int32.toInt x = 3 := lv_neT z5 (by rfl)
              have tz6 : ¬ Int32.toInt x = 4 := lv_neT z6 (by rfl)
              refine v_tableOut C 102 dX5_tableHas_14 (by omega) (by decide) ?_
              refine v_ldc C (v := -1000001) (by decide +kernel) dX5_tableHas_102 ?_
              exact v_iret C E (rfl) (by first | rfl | (simp only [c1, of_decide_eq_true c1, z2, z3, z4, z5, z6, ↓reduceIte, Bool.false_eq_true, reduceCtorEq, Bool.and_true, Bool.true_and, Bool.and_false, Bool.false_and]; done) | (simp [c1, of_decide_eq_true c1, z2, z3, z4, z5, z6]; done) | (simp_all [b2]; done)) dX5_tableHas_104
  · skip
    refine v_ldc C (v := -1000002) (by decide +kernel) dX5_tableHas_10 ?_
    exact v_iret C E (rfl) (by first | rfl | (simp only [c1, of_decide_eq_false c1, ↓reduceIte, Bool.false_eq_true, reduceCtorEq, Bool.and_true, Bool.true_and, Bool.and_false, Bool.false_and]; done) | (simp [c1, of_decide_eq_false c1]; done) | (simp_all [b2]; done)) dX5_tableHas_12
theorem kX5_worth : KD yX5_worth wsX5_worth cX5_worth 2 (some .int) 1 := ⟨⟨_, rfl⟩, by decide, by decide +kernel, by decide +kernel, by decide +kernel⟩
theorem in_X5_worth_X5 : ∀ w ∈ wsX50, w ∈ wsX5_worth := by decide +kernel
theorem fl_X5_worth_26 : FL RX5 wsX5_worth RX5 RX5 TX5 9 5 2 26 := ⟨⟨in_X5_worth_X5, rfl, by decide, rfl⟩, by decide +kernel⟩
theorem nq_X5_worth_X4_stands : Cond.initialized yX4_stands.cls ∈ wsX5_worth ∧ Cond.instanceMethod yX4_stands ∈ wsX5_worth ∧ Cond.selects yX4_stands.cls yX4_stands yX4_stands ∈ wsX5_worth := ⟨by decide +kernel, by decide +kernel, by decide +kernel⟩
theorem nq_X5_worth_X4_isSet : Cond.initialized yX4_isSet.cls ∈ wsX5_worth ∧ Cond.instanceMethod yX4_isSet ∈ wsX5_worth ∧ Cond.selects yX4_isSet.cls yX4_isSet yX4_isSet ∈ wsX5_worth := ⟨by decide +kernel, by decide +kernel, by decide +kernel⟩
theorem nq_X5_worth_X4_worthOfSet : Cond.initialized yX4_worthOfSet.cls ∈ wsX5_worth ∧ Cond.instanceMethod yX4_worthOfSet ∈ wsX5_worth ∧ Cond.selects yX4_worthOfSet.cls yX4_worthOfSet yX4_worthOfSet ∈ wsX5_worth := ⟨by decide +kernel, by decide +kernel, by decide +kernel⟩
set_option maxHeartbeats 4000000 in
set_option maxRecDepth 100000 in
theorem c_worth (l : Launch) (D : va_G) (cs : Nat → ClassId) {xo : Nat} {xr : Nat} {xd : Nat} {ta : Nat} {tb : Nat} {xi : Nat} {aa : Nat} {sa : Nat} {lf : Int32} {fg : Int32} {tk : Nat} {tq : Nat} {tw : Nat} {kf : Nat → Int32} {sf : Nat → Int32} {wf : Nat → Int32} {pn : Nat} {aw : Int32} {me : Int32} {sp : Int32} {tn : Nat} {x : Int32} (hS : ∀ t, s64 (sf t)) (hti : tn ≤ 8) (hpn : pn ≤ 6) : CT l D (tz cs) yX5_worth wsX5_worth ({ frames := 4, cells := 0, slots := 0, locals := 91 }) [.ref xo, .int x] [(xo, .inr (5, [.ref xr, .ref xd, .ref ta, .ref tb, .ref xi, .ref aa, .ref sa, .int lf, .int fg])), (ta, .inr (4, [.ref tk, .ref tq, .ref tw, .int (nI pn), .int (nI tn), .int aw, .int me, .int sp])), (tk, .inl (cs 0, 8, .inl kf)), (tq, .inl (cs 0, 8, .inl sf)), (tw, .inl (cs 0, 8, .inl wf))] (some (.int (if 0 < nI pn then (if setB (nI pn) x = true then wsum kf sf wf x tn else -1000001) else -1000002))) [(xo, .inr (5, [.ref xr, .ref xd, .ref ta, .ref tb, .ref xi, .ref aa, .ref sa, .int lf, .int fg])), (ta, .inr (4, [.ref tk, .ref tq, .ref tw, .int (nI pn), .int (nI tn), .int aw, .int me, .int sp])), (tk, .inl (cs 0, 8, .inl kf)), (tq, .inl (cs 0, 8, .inl sf)), (tw, .inl (cs 0, 8, .inl wf))] := by
  refine CT.of kX5_worth (Nat.le_of_ble_eq_true rfl) ?_
  intro p e s m below meth c A C E
  have C : VOk p s m _ c cX5_worth 2 wsX5_worth RX5 D (tz cs) A s.heap := C
  refine V.lvs (lv' := [(0, .ref xo), (1, .int x)]) [0, 1] rfl ?_
  have hpw := pw64 pn hpn
  refine v_aload_n C 0 dX5_worth_0 rfl ?_
  refine v_get C (v := .ref ta) fl_X5_worth_26 0 rfl rfl dX5_worth_1 ?_
  refine v_callVN (qi := 0) C [] [] kX4_stands gX5_worth_X4_stands_n138 (host := "TableShares") (by decide +kernel) nq_X5_worth_X4_stands (c_stands l D cs (ta := ta) (tk := tk) (tq := tq) (tw := tw) (pe := (nI pn)) (ti := (nI tn)) (aw := aw) (me := me) (sp := sp) ) ⟨Nat.le_of_ble_eq_true rfl, Nat.le_of_ble_eq_true rfl⟩ ⟨rfl, rfl⟩ ⟨Nat.zero_le _, Nat.zero_le _⟩ rfl 1 rfl rfl rfl rfl (Nat.le_of_ble_eq_true rfl) [1] [(xo, .inr (5, [.ref xr, .ref xd, .ref ta, .ref tb, .ref xi, .ref aa, .ref sa, .int lf, .int fg])), (ta, .inr (4, [.ref tk, .ref tq, .ref tw, .int (nI pn), .int (nI tn), .int aw, .int me, .int sp])), (tk, .inl (cs 0, 8, .inl kf)), (tq, .inl (cs 0, 8, .inl sf)), (tw, .inl (cs 0, 8, .inl wf))] rfl (by decide) (show [ta] = [ta] from rfl) (rfl) dX5_worth_4 ?_
  refine V.sts (st' := [.int (b2 (decide (0 < (nI pn))))]) rfl ?_
  refine v_if_neB C 13 dX5_worth_7 (by decide) (fun c1 => ?_) (fun c1 => ?_)
  · skip
    refine v_aload_n C 0 dX5_worth_13 rfl ?_
    refine v_get C (v := .ref ta) fl_X5_worth_26 0 rfl rfl dX5_worth_14 ?_
    refine v_iload_n C 1 dX5_worth_17 rfl ?_
    refine v_callVN (qi := 0) C [.int x] [] kX4_isSet gX5_worth_X4_isSet_n141 (host := "TableShares") (by decide +kernel) nq_X5_worth_X4_isSet (c_isSet l D cs (ta := ta) (tk := tk) (tq := tq) (tw := tw) (pe := (nI pn)) (ti := (nI tn)) (aw := aw) (me := me) (sp := sp) (x := x) ) ⟨Nat.le_of_ble_eq_true rfl, Nat.le_of_ble_eq_true rfl⟩ ⟨rfl, rfl⟩ ⟨Nat.zero_le _, Nat.zero_le _⟩ rfl 1 rfl rfl rfl rfl (Nat.le_of_ble_eq_true rfl) [1] [(xo, .inr (5, [.ref xr, .ref xd, .ref ta, .ref tb, .ref xi, .ref aa, .ref sa, .int lf, .int fg])), (ta, .inr (4, [.ref tk, .ref tq, .ref tw, .int (nI pn), .int (nI tn), .int aw, .int me, .int sp])), (tk, .inl (cs 0, 8, .inl kf)), (tq, .inl (cs 0, 8, .inl sf)), (tw, .inl (cs 0, 8, .inl wf))] rfl (by decide) (show [ta] = [ta] from rfl) (rfl) dX5_worth_18 ?_
    refine V.sts (st' := [.int (b2 (setB (nI pn) x))]) rfl ?_
    refine v_if_eqB C 35 dX5_worth_21 (by decide) (fun c2 => ?_) (fun c2 => ?_)
    · skip
      refine v_ldc C (v := -1000001) (by decide +kernel) dX5_worth_35 ?_
      exact v_iret C E (rfl) (by first | rfl | (simp only [c1, of_decide_eq_true c1, c2, ↓reduceIte, Bool.false_eq_true, reduceCtorEq, Bool.and_true, Bool.true_and, Bool.and_false, Bool.false_and]; done) | (simp [c1, of_decide_eq_true c1, c2]; done) | (simp_all [b2]; done)) dX5_worth_37
    · skip
      refine v_aload_n C 0 dX5_worth_24 rfl ?_
      refine v_get C (v := .ref ta) fl_X5_worth_26 0 rfl rfl dX5_worth_25 ?_
      refine v_iload_n C 1 dX5_worth_28 rfl ?_
      refine v_callVN (qi := 0) C [.int x] [] kX4_worthOfSet gX5_worth_X4_worthOfSet_n167 (host := "TableShares") (by decide +kernel) nq_X5_worth_X4_worthOfSet (c_worthOfSet l D cs (ta := ta) (tk := tk) (tq := tq) (tw := tw) (kf := kf) (sf := sf) (wf := wf) (pe := (nI pn)) (aw := aw) (me := me) (sp := sp) (tn := tn) (th := x) (by first | assumption | omega) (by first | assumption | omega)) ⟨Nat.le_of_ble_eq_true rfl, Nat.le_of_ble_eq_true rfl⟩ ⟨rfl, rfl⟩ ⟨Nat.zero_le _, Nat.zero_le _⟩ rfl 1 rfl rfl rfl rfl (Nat.le_of_ble_eq_true rfl) [1, 2, 3, 4] [(xo, .inr (5, [.ref xr, .ref xd, .ref ta, .ref tb, .ref xi, .ref aa, .ref sa, .int lf, .int fg])), (ta, .inr (4, [.ref tk, .ref tq, .ref tw, .int (nI pn), .int (nI tn), .int aw, .int me, .int sp])), (tk, .inl (cs 0, 8, .inl kf)), (tq, .inl (cs 0, 8, .inl sf)), (tw, .inl (cs 0, 8, .inl wf))] rfl (by decide) (show [ta, tk, tq, tw] = [ta, tk, tq, tw] from rfl) (rfl) dX5_worth_29 ?_
      refine V.sts (st' := [.int (wsum kf sf wf x tn)]) rfl ?_
      refine v_goto C 37 dX5_worth_32 (by decide) ?_
      exact v_iret C E (rfl) (by first | rfl | (simp only [c1, of_decide_eq_true c1, c2, ↓reduceIte, Bool.false_eq_true, reduceCtorEq, Bool.and_true, Bool.true_and, Bool.and_false, Bool.false_and]; done) | (simp [c1, of_decide_eq_true c1, c2]; done) | (simp_all [b2]; done)) dX5_worth_37
  · skip
    refine v_ldc C (v := -1000002) (by decide +kernel) dX5_worth_10 ?_
    exact v_iret C E (rfl) (by first | rfl | (simp only [c1, of_decide_eq_false c1, ↓reduceIte, Bool.false_eq_true, reduceCtorEq, Bool.and_true, Bool.true_and, Bool.and_false, Bool.false_and]; done) | (simp [c1, of_decide_eq_false c1]; done) | (simp_all [b2]; done)) dX5_worth_12
theorem kX5_adds : KD yX5_adds wsX5_adds cX5_adds 3 (some .int) 2 := ⟨⟨_, rfl⟩, by decide, by decide +kernel, by decide +kernel, by decide +kernel⟩
theorem in_X5_adds_X5 : ∀ w ∈ wsX50, w ∈ wsX5_adds := by decide +kernel
theorem fl_X5_adds_26 : FL RX5 wsX5_adds RX5 RX5 TX5 9 5 2 26 := ⟨⟨in_X5_adds_X5, rfl, by decide, rfl⟩, by decide +kernel⟩
theorem nq_X5_adds_X4_isPerson : Cond.initialized yX4_isPerson.cls ∈ wsX5_adds ∧ Cond.instanceMethod yX4_isPerson ∈ wsX5_adds ∧ Cond.selects yX4_isPerson.cls yX4_isPerson yX4_isPerson ∈ wsX5_adds := ⟨by decide +kernel, by decide +kernel, by decide +kernel⟩
theorem nq_X5_adds_X4_isSet : Cond.initialized yX4_isSet.cls ∈ wsX5_adds ∧ Cond.instanceMethod yX4_isSet ∈ wsX5_adds ∧ Cond.selects yX4_isSet.cls yX4_isSet yX4_isSet ∈ wsX5_adds := ⟨by decide +kernel, by decide +kernel, by decide +kernel⟩
theorem nq_X5_adds_X4_addedBy : Cond.initialized yX4_addedBy.cls ∈ wsX5_adds ∧ Cond.instanceMethod yX4_addedBy ∈ wsX5_adds ∧ Cond.selects yX4_addedBy.cls yX4_addedBy yX4_addedBy ∈ wsX5_adds := ⟨by decide +kernel, by decide +kernel, by decide +kernel⟩
set_option maxHeartbeats 4000000 in
set_option maxRecDepth 100000 in
theorem c_adds (l : Launch) (D : va_G) (cs : Nat → ClassId) {xo : Nat} {xr : Nat} {xd : Nat} {ta : Nat} {tb : Nat} {xi : Nat} {aa : Nat} {sa : Nat} {lf : Int32} {fg : Int32} {tk : Nat} {tq : Nat} {tw : Nat} {kf : Nat → Int32} {sf : Nat → Int32} {wf : Nat → Int32} {pn : Nat} {aw : Int32} {me : Int32} {sp : Int32} {tn : Nat} {x : Int32} {y : Int32} (hS : ∀ t, s64 (sf t)) (hti : tn ≤ 8) (hpn : pn ≤ 6) : CT l D (tz cs) yX5_adds wsX5_adds ({ frames := 5, cells := 0, slots := 0, locals := 113 }) [.ref xo, .int x, .int y] [(xo, .inr (5, [.ref xr, .ref xd, .ref ta, .ref tb, .ref xi, .ref aa, .ref sa, .int lf, .int fg])), (ta, .inr (4, [.ref tk, .ref tq, .ref tw, .int (nI pn), .int (nI tn), .int aw, .int me, .int sp])), (tk, .inl (cs 0, 8, .inl kf)), (tq, .inl (cs 0, 8, .inl sf)), (tw, .inl (cs 0, 8, .inl wf))] (some (.int (if (inB (nI pn) x && setB (nI pn) y && !hasB y x) = true then adI kf sf wf tn y x else -1000001))) [(xo, .inr (5, [.ref xr, .ref xd, .ref ta, .ref tb, .ref xi, .ref aa, .ref sa, .int lf, .int fg])), (ta, .inr (4, [.ref tk, .ref tq, .ref tw, .int (nI pn), .int (nI tn), .int aw, .int me, .int sp])), (tk, .inl (cs 0, 8, .inl kf)), (tq, .inl (cs 0, 8, .inl sf)), (tw, .inl (cs 0, 8, .inl wf))] := by
  refine CT.of kX5_adds (Nat.le_of_ble_eq_true rfl) ?_
  intro p e s m below meth c A C E
  have C : VOk p s m _ c cX5_adds 3 wsX5_adds RX5 D (tz cs) A s.heap := C
  refine V.lvs (lv' := [(0, .ref xo), (1, .int x), (2, .int y)]) [0, 1, 2] rfl ?_
  have hpw := pw64 pn hpn
  refine v_aload_n C 0 dX5_adds_0 rfl ?_
  refine v_get C (v := .ref ta) fl_X5_adds_26 0 rfl rfl dX5_adds_1 ?_
  refine v_iload_n C 1 dX5_adds_4 rfl ?_
  refine v_callVN (qi := 0) C [.int x] [] kX4_isPerson gX5_adds_X4_isPerson_n123 (host := "TableShares") (by decide +kernel) nq_X5_adds_X4_isPerson (c_isPerson l D cs (ta := ta) (tk := tk) (tq := tq) (tw := tw) (pe := (nI pn)) (ti := (nI tn)) (aw := aw) (me := me) (sp := sp) (x := x) ) ⟨Nat.le_of_ble_eq_true rfl, Nat.le_of_ble_eq_true rfl⟩ ⟨rfl, rfl⟩ ⟨Nat.zero_le _, Nat.zero_le _⟩ rfl 1 rfl rfl rfl rfl (Nat.le_of_ble_eq_true rfl) [1] [(xo, .inr (5, [.ref xr, .ref xd, .ref ta, .ref tb, .ref xi, .ref aa, .ref sa, .int lf, .int fg])), (ta, .inr (4, [.ref tk, .ref tq, .ref tw, .int (nI pn), .int (nI tn), .int aw, .int me, .int sp])), (tk, .inl (cs 0, 8, .inl kf)), (tq, .inl (cs 0, 8, .inl sf)), (tw, .inl (cs 0, 8, .inl wf))] rfl (by decide) (show [ta] = [ta] from rfl) (rfl) dX5_adds_5 ?_
  refine V.sts (st' := [.int (b2 (inB (nI pn) x))]) rfl ?_
  refine v_if_eqB C 30 dX5_adds_8 (by decide) (fun c1 => ?_) (fun c1 => ?_)
  · skip
    refine v_ldc C (v := -1000001) (by decide +kernel) dX5_adds_30 ?_
    exact v_iret C E (rfl) (by first | rfl | (simp only [c1, ↓reduceIte, Bool.false_eq_true, reduceCtorEq, Bool.and_true, Bool.true_and, Bool.and_false, Bool.false_and]; done) | (simp [c1]; done) | (simp_all [b2]; done)) dX5_adds_32
  · skip
    refine v_aload_n C 0 dX5_adds_11 rfl ?_
    refine v_get C (v := .ref ta) fl_X5_adds_26 0 rfl rfl dX5_adds_12 ?_
    refine v_iload_n C 2 dX5_adds_15 rfl ?_
    refine v_callVN (qi := 0) C [.int y] [] kX4_isSet gX5_adds_X4_isSet_n141 (host := "TableShares") (by decide +kernel) nq_X5_adds_X4_isSet (c_isSet l D cs (ta := ta) (tk := tk) (tq := tq) (tw := tw) (pe := (nI pn)) (ti := (nI tn)) (aw := aw) (me := me) (sp := sp) (x := y) ) ⟨Nat.le_of_ble_eq_true rfl, Nat.le_of_ble_eq_true rfl⟩ ⟨rfl, rfl⟩ ⟨Nat.zero_le _, Nat.zero_le _⟩ rfl 1 rfl rfl rfl rfl (Nat.le_of_ble_eq_true rfl) [1] [(xo, .inr (5, [.ref xr, .ref xd, .ref ta, .ref tb, .ref xi, .ref aa, .ref sa, .int lf, .int fg])), (ta, .inr (4, [.ref tk, .ref tq, .ref tw, .int (nI pn), .int (nI tn), .int aw, .int me, .int sp])), (tk, .inl (cs 0, 8, .inl kf)), (tq, .inl (cs 0, 8, .inl sf)), (tw, .inl (cs 0, 8, .inl wf))] rfl (by decide) (show [ta] = [ta] from rfl) (rfl) dX5_adds_16 ?_
    refine V.sts (st' := [.int (b2 (setB (nI pn) y))]) rfl ?_
    refine v_if_eqB C 30 dX5_adds_19 (by decide) (fun c2 => ?_) (fun c2 => ?_)
    · skip
      refine v_ldc C (v := -1000001) (by decide +kernel) dX5_adds_30 ?_
      exact v_iret C E (rfl) (by first | rfl | (simp only [c1, c2, ↓reduceIte, Bool.false_eq_true, reduceCtorEq, Bool.and_true, Bool.true_and, Bool.and_false, Bool.false_and]; done) | (simp [c1, c2]; done) | (simp_all [b2]; done)) dX5_adds_32
    · skip
      refine v_iload_n C 2 dX5_adds_22 rfl ?_
      refine v_iload_n C 1 dX5_adds_23 rfl ?_
      refine v_callS C [.int y, .int x] [] kX5_has gX5_adds_X5_has (c_has l D cs (x := y) (q := x) ) ⟨Nat.le_of_ble_eq_true rfl, Nat.le_of_ble_eq_true rfl⟩ ⟨rfl, rfl⟩ ⟨Nat.zero_le _, Nat.zero_le _⟩ rfl rfl (Nat.le_of_ble_eq_true rfl) [] [(xo, .inr (5, [.ref xr, .ref xd, .ref ta, .ref tb, .ref xi, .ref aa, .ref sa, .int lf, .int fg])), (ta, .inr (4, [.ref tk, .ref tq, .ref tw, .int (nI pn), .int (nI tn), .int aw, .int me, .int sp])), (tk, .inl (cs 0, 8, .inl kf)), (tq, .inl (cs 0, 8, .inl sf)), (tw, .inl (cs 0, 8, .inl wf))] rfl (by decide) rfl (rfl) dX5_adds_24 ?_
      refine V.sts (st' := [.int (b2 (hasB y x))]) rfl ?_
      refine v_if_eqB C 33 dX5_adds_27 (by decide) (fun c3 => ?_) (fun c3 => ?_)
      · skip
        refine v_aload_n C 0 dX5_adds_33 rfl ?_
        refine v_get C (v := .ref ta) fl_X5_adds_26 0 rfl rfl dX5_adds_34 ?_
        refine v_iload_n C 1 dX5_adds_37 rfl ?_
        refine v_iload_n C 2 dX5_adds_38 rfl ?_
        refine v_callVN (qi := 0) C [.int x, .int y] [] kX4_addedBy gX5_adds_X4_addedBy_n195 (host := "TableShares") (by decide +kernel) nq_X5_adds_X4_addedBy (c_addedBy l D cs (ta := ta) (tk := tk) (tq := tq) (tw := tw) (kf := kf) (sf := sf) (wf := wf) (pe := (nI pn)) (aw := aw) (me := me) (sp := sp) (tn := tn) (q := x) (x := y) (by first | assumption | omega) (by first | assumption | omega)) ⟨Nat.le_of_ble_eq_true rfl, Nat.le_of_ble_eq_true rfl⟩ ⟨rfl, rfl⟩ ⟨Nat.zero_le _, Nat.zero_le _⟩ rfl 1 rfl rfl rfl rfl (Nat.le_of_ble_eq_true rfl) [1, 2, 3, 4] [(xo, .inr (5, [.ref xr, .ref xd, .ref ta, .ref tb, .ref xi, .ref aa, .ref sa, .int lf, .int fg])), (ta, .inr (4, [.ref tk, .ref tq, .ref tw, .int (nI pn), .int (nI tn), .int aw, .int me, .int sp])), (tk, .inl (cs 0, 8, .inl kf)), (tq, .inl (cs 0, 8, .inl sf)), (tw, .inl (cs 0, 8, .inl wf))] rfl (by decide) (show [ta, tk, tq, tw] = [ta, tk, tq, tw] from rfl) (rfl) dX5_adds_39 ?_
        refine V.sts (st' := [.int (adI kf sf wf tn y x)]) rfl ?_
        exact v_iret C E (rfl) (by first | rfl | (simp only [c1, c2, c3, ↓reduceIte, Bool.false_eq_true, reduceCtorEq, Bool.and_true, Bool.true_and, Bool.and_false, Bool.false_and]; done) | (simp [c1, c2, c3]; done) | (simp_all [b2]; done)) dX5_adds_42
      · skip
        refine v_ldc C (v := -1000001) (by decide +kernel) dX5_adds_30 ?_
        exact v_iret C E (rfl) (by first | rfl | (simp only [c1, c2, c3, ↓reduceIte, Bool.false_eq_true, reduceCtorEq, Bool.and_true, Bool.true_and, Bool.and_false, Bool.false_and]; done) | (simp [c1, c2, c3]; done) | (simp_all [b2]; done)) dX5_adds_32
theorem kX5_missed : KD yX5_missed wsX5_missed cX5_missed 2 (some .int) 1 := ⟨⟨_, rfl⟩, by decide, by decide +kernel, by decide +kernel, by decide +kernel⟩
theorem in_X5_missed_X5 : ∀ w ∈ wsX50, w ∈ wsX5_missed := by decide +kernel
theorem fl_X5_missed_26 : FL RX5 wsX5_missed RX5 RX5 TX5 9 5 2 26 := ⟨⟨in_X5_missed_X5, rfl, by decide, rfl⟩, by decide +kernel⟩
theorem nq_X5_missed_X4_isPerson : Cond.initialized yX4_isPerson.cls ∈ wsX5_missed ∧ Cond.instanceMethod yX4_isPerson ∈ wsX5_missed ∧ Cond.selects yX4_isPerson.cls yX4_isPerson yX4_isPerson ∈ wsX5_missed := ⟨by decide +kernel, by decide +kernel, by decide +kernel⟩
theorem nq_X5_missed_X4_lostWithout : Cond.initialized yX4_lostWithout.cls ∈ wsX5_missed ∧ Cond.instanceMethod yX4_lostWithout ∈ wsX5_missed ∧ Cond.selects yX4_lostWithout.cls yX4_lostWithout yX4_lostWithout ∈ wsX5_missed := ⟨by decide +kernel, by decide +kernel, by decide +kernel⟩
set_option maxHeartbeats 4000000 in
set_option maxRecDepth 100000 in
theorem c_missed (l : Launch) (D : va_G) (cs : Nat → ClassId) {xo : Nat} {xr : Nat} {xd : Nat} {ta : Nat} {tb : Nat} {xi : Nat} {aa : Nat} {sa : Nat} {lf : Int32} {fg : Int32} {tk : Nat} {tq : Nat} {tw : Nat} {kf : Nat → Int32} {sf : Nat → Int32} {wf : Nat → Int32} {pn : Nat} {aw : Int32} {me : Int32} {sp : Int32} {tn : Nat} {x : Int32} (hS : ∀ t, s64 (sf t)) (hti : tn ≤ 8) (hpn : pn ≤ 6) : CT l D (tz cs) yX5_missed wsX5_missed ({ frames := 5, cells := 0, slots := 0, locals := 112 }) [.ref xo, .int x] [(xo, .inr (5, [.ref xr, .ref xd, .ref ta, .ref tb, .ref xi, .ref aa, .ref sa, .int lf, .int fg])), (ta, .inr (4, [.ref tk, .ref tq, .ref tw, .int (nI pn), .int (nI tn), .int aw, .int me, .int sp])), (tk, .inl (cs 0, 8, .inl kf)), (tq, .inl (cs 0, 8, .inl sf)), (tw, .inl (cs 0, 8, .inl wf))] (some (.int (if inB (nI pn) x = true then loI kf sf wf tn (nI pn) (1 <<< (x &&& 31)) else -1000001))) [(xo, .inr (5, [.ref xr, .ref xd, .ref ta, .ref tb, .ref xi, .ref aa, .ref sa, .int lf, .int fg])), (ta, .inr (4, [.ref tk, .ref tq, .ref tw, .int (nI pn), .int (nI tn), .int aw, .int me, .int sp])), (tk, .inl (cs 0, 8, .inl kf)), (tq, .inl (cs 0, 8, .inl sf)), (tw, .inl (cs 0, 8, .inl wf))] := by
  refine CT.of kX5_missed (Nat.le_of_ble_eq_true rfl) ?_
  intro p e s m below meth c A C E
  have C : VOk p s m _ c cX5_missed 2 wsX5_missed RX5 D (tz cs) A s.heap := C
  refine V.lvs (lv' := [(0, .ref xo), (1, .int x)]) [0, 1] rfl ?_
  have hpw := pw64 pn hpn
  refine v_aload_n C 0 dX5_missed_0 rfl ?_
  refine v_get C (v := .ref ta) fl_X5_missed_26 0 rfl rfl dX5_missed_1 ?_
  refine v_iload_n C 1 dX5_missed_4 rfl ?_
  refine v_callVN (qi := 0) C [.int x] [] kX4_isPerson gX5_missed_X4_isPerson_n123 (host := "TableShares") (by decide +kernel) nq_X5_missed_X4_isPerson (c_isPerson l D cs (ta := ta) (tk := tk) (tq := tq) (tw := tw) (pe := (nI pn)) (ti := (nI tn)) (aw := aw) (me := me) (sp := sp) (x := x) ) ⟨Nat.le_of_ble_eq_true rfl, Nat.le_of_ble_eq_true rfl⟩ ⟨rfl, rfl⟩ ⟨Nat.zero_le _, Nat.zero_le _⟩ rfl 1 rfl rfl rfl rfl (Nat.le_of_ble_eq_true rfl) [1] [(xo, .inr (5, [.ref xr, .ref xd, .ref ta, .ref tb, .ref xi, .ref aa, .ref sa, .int lf, .int fg])), (ta, .inr (4, [.ref tk, .ref tq, .ref tw, .int (nI pn), .int (nI tn), .int aw, .int me, .int sp])), (tk, .inl (cs 0, 8, .inl kf)), (tq, .inl (cs 0, 8, .inl sf)), (tw, .inl (cs 0, 8, .inl wf))] rfl (by decide) (show [ta] = [ta] from rfl) (rfl) dX5_missed_5 ?_
  refine V.sts (st' := [.int (b2 (inB (nI pn) x))]) rfl ?_
  refine v_if_eqB C 24 dX5_missed_8 (by decide) (fun c1 => ?_) (fun c1 => ?_)
  · skip
    refine v_ldc C (v := -1000001) (by decide +kernel) dX5_missed_24 ?_
    exact v_iret C E (rfl) (by first | rfl | (simp only [c1, ↓reduceIte, Bool.false_eq_true, reduceCtorEq, Bool.and_true, Bool.true_and, Bool.and_false, Bool.false_and]; done) | (simp [c1]; done) | (simp_all [b2]; done)) dX5_missed_26
  · skip
    refine v_aload_n C 0 dX5_missed_11 rfl ?_
    refine v_get C (v := .ref ta) fl_X5_missed_26 0 rfl rfl dX5_missed_12 ?_
    refine v_iconst C (v := 1) dX5_missed_15 (by decide) ?_
    refine v_iload_n C 1 dX5_missed_16 rfl ?_
    refine v_ishl C dX5_missed_17 ?_
    refine v_callVN (qi := 0) C [.int (1 <<< (x &&& 31))] [] kX4_lostWithout gX5_missed_X4_lostWithout_n213 (host := "TableShares") (by decide +kernel) nq_X5_missed_X4_lostWithout (c_lostWithout l D cs (ta := ta) (tk := tk) (tq := tq) (tw := tw) (kf := kf) (sf := sf) (wf := wf) (pe := (nI pn)) (aw := aw) (me := me) (sp := sp) (tn := tn) (x := (1 <<< (x &&& 31))) (by first | assumption | omega) (by first | assumption | omega)) ⟨Nat.le_of_ble_eq_true rfl, Nat.le_of_ble_eq_true rfl⟩ ⟨rfl, rfl⟩ ⟨Nat.zero_le _, Nat.zero_le _⟩ rfl 1 rfl rfl rfl rfl (Nat.le_of_ble_eq_true rfl) [1, 2, 3, 4] [(xo, .inr (5, [.ref xr, .ref xd, .ref ta, .ref tb, .ref xi, .ref aa, .ref sa, .int lf, .int fg])), (ta, .inr (4, [.ref tk, .ref tq, .ref tw, .int (nI pn), .int (nI tn), .int aw, .int me, .int sp])), (tk, .inl (cs 0, 8, .inl kf)), (tq, .inl (cs 0, 8, .inl sf)), (tw, .inl (cs 0, 8, .inl wf))] rfl (by decide) (show [ta, tk, tq, tw] = [ta, tk, tq, tw] from rfl) (rfl) dX5_missed_18 ?_
    refine V.sts (st' := [.int (loI kf sf wf tn (nI pn) (1 <<< (x &&& 31)))]) rfl ?_
    refine v_goto C 26 dX5_missed_21 (by decide) ?_
    exact v_iret C E (rfl) (by first | rfl | (simp only [c1, ↓reduceIte, Bool.false_eq_true, reduceCtorEq, Bool.and_true, Bool.true_and, Bool.and_false, Bool.false_and]; done) | (simp [c1]; done) | (simp_all [b2]; done)) dX5_missed_26
theorem kX5_kind : KD yX5_kind wsX5_kind cX5_kind 2 (some .int) 1 := ⟨⟨_, rfl⟩, by decide, by decide +kernel, by decide +kernel, by decide +kernel⟩
theorem in_X5_kind_X5 : ∀ w ∈ wsX50, w ∈ wsX5_kind := by decide +kernel
theorem fl_X5_kind_26 : FL RX5 wsX5_kind RX5 RX5 TX5 9 5 2 26 := ⟨⟨in_X5_kind_X5, rfl, by decide, rfl⟩, by decide +kernel⟩
theorem nq_X5_kind_X4_isTie : Cond.initialized yX4_isTie.cls ∈ wsX5_kind ∧ Cond.instanceMethod yX4_isTie ∈ wsX5_kind ∧ Cond.selects yX4_isTie.cls yX4_isTie yX4_isTie ∈ wsX5_kind := ⟨by decide +kernel, by decide +kernel, by decide +kernel⟩
theorem nq_X5_kind_X4_kindOf : Cond.initialized yX4_kindOf.cls ∈ wsX5_kind ∧ Cond.instanceMethod yX4_kindOf ∈ wsX5_kind ∧ Cond.selects yX4_kindOf.cls yX4_kindOf yX4_kindOf ∈ wsX5_kind := ⟨by decide +kernel, by decide +kernel, by decide +kernel⟩
set_option maxHeartbeats 4000000 in
set_option maxRecDepth 100000 in
theorem c_kind (l : Launch) (D : va_G) (cs : Nat → ClassId) {xo : Nat} {xr : Nat} {xd : Nat} {ta : Nat} {tb : Nat} {xi : Nat} {aa : Nat} {sa : Nat} {lf : Int32} {fg : Int32} {tk : Nat} {tq : Nat} {tw : Nat} {kf : Nat → Int32} {sf : Nat → Int32} {wf : Nat → Int32} {pn : Nat} {aw : Int32} {me : Int32} {sp : Int32} {tn : Nat} {x : Int32} (hS : ∀ t, s64 (sf t)) (hti : tn ≤ 8) (hpn : pn ≤ 6) : CT l D (tz cs) yX5_kind wsX5_kind ({ frames := 2, cells := 0, slots := 0, locals := 42 }) [.ref xo, .int x] [(xo, .inr (5, [.ref xr, .ref xd, .ref ta, .ref tb, .ref xi, .ref aa, .ref sa, .int lf, .int fg])), (ta, .inr (4, [.ref tk, .ref tq, .ref tw, .int (nI pn), .int (nI tn), .int aw, .int me, .int sp])), (tk, .inl (cs 0, 8, .inl kf)), (tq, .inl (cs 0, 8, .inl sf)), (tw, .inl (cs 0, 8, .inl wf))] (some (.int (if inB (nI tn) x = true then gA kf 8 x else -1000001))) [(xo, .inr (5, [.ref xr, .ref xd, .ref ta, .ref tb, .ref xi, .ref aa, .ref sa, .int lf, .int fg])), (ta, .inr (4, [.ref tk, .ref tq, .ref tw, .int (nI pn), .int (nI tn), .int aw, .int me, .int sp])), (tk, .inl (cs 0, 8, .inl kf)), (tq, .inl (cs 0, 8, .inl sf)), (tw, .inl (cs 0, 8, .inl wf))] := by
  refine CT.of kX5_kind (Nat.le_of_ble_eq_true rfl) ?_
  intro p e s m below meth c A C E
  have C : VOk p s m _ c cX5_kind 2 wsX5_kind RX5 D (tz cs) A s.heap := C
  refine V.lvs (lv' := [(0, .ref xo), (1, .int x)]) [0, 1] rfl ?_
  have hpw := pw64 pn hpn
  refine v_aload_n C 0 dX5_kind_0 rfl ?_
  refine v_get C (v := .ref ta) fl_X5_kind_26 0 rfl rfl dX5_kind_1 ?_
  refine v_iload_n C 1 dX5_kind_4 rfl ?_
  refine v_callVN (qi := 0) C [.int x] [] kX4_isTie gX5_kind_X4_isTie_n182 (host := "TableShares") (by decide +kernel) nq_X5_kind_X4_isTie (c_isTie l D cs (ta := ta) (tk := tk) (tq := tq) (tw := tw) (pe := (nI pn)) (ti := (nI tn)) (aw := aw) (me := me) (sp := sp) (x := x) ) ⟨Nat.le_of_ble_eq_true rfl, Nat.le_of_ble_eq_true rfl⟩ ⟨rfl, rfl⟩ ⟨Nat.zero_le _, Nat.zero_le _⟩ rfl 1 rfl rfl rfl rfl (Nat.le_of_ble_eq_true rfl) [1] [(xo, .inr (5, [.ref xr, .ref xd, .ref ta, .ref tb, .ref xi, .ref aa, .ref sa, .int lf, .int fg])), (ta, .inr (4, [.ref tk, .ref tq, .ref tw, .int (nI pn), .int (nI tn), .int aw, .int me, .int sp])), (tk, .inl (cs 0, 8, .inl kf)), (tq, .inl (cs 0, 8, .inl sf)), (tw, .inl (cs 0, 8, .inl wf))] rfl (by decide) (show [ta] = [ta] from rfl) (rfl) dX5_kind_5 ?_
  refine V.sts (st' := [.int (b2 (inB (nI tn) x))]) rfl ?_
  refine v_if_eqB C 22 dX5_kind_8 (by decide) (fun c1 => ?_) (fun c1 => ?_)
  · skip
    refine v_ldc C (v := -1000001) (by decide +kernel) dX5_kind_22 ?_
    exact v_iret C E (rfl) (by first | rfl | (simp only [c1, ↓reduceIte, Bool.false_eq_true, reduceCtorEq, Bool.and_true, Bool.true_and, Bool.and_false, Bool.false_and]; done) | (simp [c1]; done) | (simp_all [b2]; done)) dX5_kind_24
  · skip
    refine v_aload_n C 0 dX5_kind_11 rfl ?_
    refine v_get C (v := .ref ta) fl_X5_kind_26 0 rfl rfl dX5_kind_12 ?_
    refine v_iload_n C 1 dX5_kind_15 rfl ?_
    refine v_callVN (qi := 0) C [.int x] [] kX4_kindOf gX5_kind_X4_kindOf_n148 (host := "TableShares") (by decide +kernel) nq_X5_kind_X4_kindOf (c_kindOf l D cs (ta := ta) (tk := tk) (tq := tq) (tw := tw) (pe := (nI pn)) (ti := (nI tn)) (aw := aw) (me := me) (sp := sp) (kf := kf) (x := x) ) ⟨Nat.le_of_ble_eq_true rfl, Nat.le_of_ble_eq_true rfl⟩ ⟨rfl, rfl⟩ ⟨Nat.zero_le _, Nat.zero_le _⟩ rfl 1 rfl rfl rfl rfl (Nat.le_of_ble_eq_true rfl) [1, 2] [(xo, .inr (5, [.ref xr, .ref xd, .ref ta, .ref tb, .ref xi, .ref aa, .ref sa, .int lf, .int fg])), (ta, .inr (4, [.ref tk, .ref tq, .ref tw, .int (nI pn), .int (nI tn), .int aw, .int me, .int sp])), (tk, .inl (cs 0, 8, .inl kf)), (tq, .inl (cs 0, 8, .inl sf)), (tw, .inl (cs 0, 8, .inl wf))] rfl (by decide) (show [ta, tk] = [ta, tk] from rfl) (rfl) dX5_kind_16 ?_
    refine V.sts (st' := [.int (gA kf 8 x)]) rfl ?_
    refine v_goto C 24 dX5_kind_19 (by decide) ?_
    exact v_iret C E (rfl) (by first | rfl | (simp only [c1, ↓reduceIte, Bool.false_eq_true, reduceCtorEq, Bool.and_true, Bool.true_and, Bool.and_false, Bool.false_and]; done) | (simp [c1]; done) | (simp_all [b2]; done)) dX5_kind_24
theorem kX5_as : KD yX5_as wsX5_as cX5_as 3 (some .int) 2 := ⟨⟨_, rfl⟩, by decide, by decide +kernel, by decide +kernel, by decide +kernel⟩
theorem in_X5_as_X5 : ∀ w ∈ wsX50, w ∈ wsX5_as := by decide +kernel
theorem fl_X5_as_26 : FL RX5 wsX5_as RX5 RX5 TX5 9 5 2 26 := ⟨⟨in_X5_as_X5, rfl, by decide, rfl⟩, by decide +kernel⟩
theorem nq_X5_as_X4_isTie : Cond.initialized yX4_isTie.cls ∈ wsX5_as ∧ Cond.instanceMethod yX4_isTie ∈ wsX5_as ∧ Cond.selects yX4_isTie.cls yX4_isTie yX4_isTie ∈ wsX5_as := ⟨by decide +kernel, by decide +kernel, by decide +kernel⟩
theorem nq_X5_as_X4_kindOf : Cond.initialized yX4_kindOf.cls ∈ wsX5_as ∧ Cond.instanceMethod yX4_kindOf ∈ wsX5_as ∧ Cond.selects yX4_kindOf.cls yX4_kindOf yX4_kindOf ∈ wsX5_as := ⟨by decide +kernel, by decide +kernel, by decide +kernel⟩
set_option maxHeartbeats 4000000 in
set_option maxRecDepth 100000 in
theorem c_as (l : Launch) (D : va_G) (cs : Nat → ClassId) {xo : Nat} {xr : Nat} {xd : Nat} {ta : Nat} {tb : Nat} {xi : Nat} {aa : Nat} {sa : Nat} {lf : Int32} {fg : Int32} {tk : Nat} {tq : Nat} {tw : Nat} {kf : Nat → Int32} {sf : Nat → Int32} {wf : Nat → Int32} {pn : Nat} {aw : Int32} {me : Int32} {sp : Int32} {tn : Nat} {x : Int32} {y : Int32} (hS : ∀ t, s64 (sf t)) (hti : tn ≤ 8) (hpn : pn ≤ 6) : CT l D (tz cs) yX5_as wsX5_as ({ frames := 2, cells := 0, slots := 0, locals := 42 }) [.ref xo, .int x, .int y] [(xo, .inr (5, [.ref xr, .ref xd, .ref ta, .ref tb, .ref xi, .ref aa, .ref sa, .int lf, .int fg])), (ta, .inr (4, [.ref tk, .ref tq, .ref tw, .int (nI pn), .int (nI tn), .int aw, .int me, .int sp])), (tk, .inl (cs 0, 8, .inl kf)), (tq, .inl (cs 0, 8, .inl sf)), (tw, .inl (cs 0, 8, .inl wf))] (some (.int (if inB (nI tn) x = true then (if y < 0 then -1000001 else if 5 < y then -1000001 else if isAB (gA kf 8 x) y = true then x else -1000010 - 3) else -1000001))) [(xo, .inr (5, [.ref xr, .ref xd, .ref ta, .ref tb, .ref xi, .ref aa, .ref sa, .int lf, .int (if inB (nI tn) x = true then (if y < 0 then fg else if 5 < y then fg else if isAB (gA kf 8 x) y = true then 0 else 3) else fg)])), (ta, .inr (4, [.ref tk, .ref tq, .ref tw, .int (nI pn), .int (nI tn), .int aw, .int me, .int sp])), (tk, .inl (cs 0, 8, .inl kf)), (tq, .inl (cs 0, 8, .inl sf)), (tw, .inl (cs 0, 8, .inl wf))] := by
  refine CT.of kX5_as (Nat.le_of_ble_eq_true rfl) ?_
  intro p e s m below meth c A C E
  have C : VOk p s m _ c cX5_as 3 wsX5_as RX5 D (tz cs) A s.heap := C
  refine V.lvs (lv' := [(0, .ref xo), (1, .int x), (2, .int y)]) [0, 1, 2] rfl ?_
  have hpw := pw64 pn hpn
  refine v_aload_n C 0 dX5_as_0 rfl ?_
  refine v_get C (v := .ref ta) fl_X5_as_26 0 rfl rfl dX5_as_1 ?_
  refine v_iload_n C 1 dX5_as_4 rfl ?_
  refine v_callVN (qi := 0) C [.int x] [] kX4_isTie gX5_as_X4_isTie_n182 (host := "TableShares") (by decide +kernel) nq_X5_as_X4_isTie (c_isTie l D cs (ta := ta) (tk := tk) (tq := tq) (tw := tw) (pe := (nI pn)) (ti := (nI tn)) (aw := aw) (me := me) (sp := sp) (x := x) ) ⟨Nat.le_of_ble_eq_true rfl, Nat.le_of_ble_eq_true rfl⟩ ⟨rfl, rfl⟩ ⟨Nat.zero_le _, Nat.zero_le _⟩ rfl 1 rfl rfl rfl rfl (Nat.le_of_ble_eq_true rfl) [1] [(xo, .inr (5, [.ref xr, .ref xd, .ref ta, .ref tb, .ref xi, .ref aa, .ref sa, .int lf, .int fg])), (ta, .inr (4, [.ref tk, .ref tq, .ref tw, .int (nI pn), .int (nI tn), .int aw, .int me, .int sp])), (tk, .inl (cs 0, 8, .inl kf)), (tq, .inl (cs 0, 8, .inl sf)), (tw, .inl (cs 0, 8, .inl wf))] rfl (by decide) (show [ta] = [ta] from rfl) (rfl) dX5_as_5 ?_
  refine V.sts (st' := [.int (b2 (inB (nI tn) x))]) rfl ?_
  refine v_if_eqB C 20 dX5_as_8 (by decide) (fun c1 => ?_) (fun c1 => ?_)
  · skip
    refine v_ldc C (v := -1000001) (by decide +kernel) dX5_as_20 ?_
    exact v_iret C E (by first | rfl | (simp only [c1, ↓reduceIte, Bool.false_eq_true, reduceCtorEq, Bool.and_true, Bool.true_and, Bool.and_false, Bool.false_and]; done) | (simp [c1]; done) | (simp_all [b2]; done)) (by first | rfl | (simp only [c1, ↓reduceIte, Bool.false_eq_true, reduceCtorEq, Bool.and_true, Bool.true_and, Bool.and_false, Bool.false_and]; done) | (simp [c1]; done) | (simp_all [b2]; done)) dX5_as_22
  · skip
    refine v_iload_n C 2 dX5_as_11 rfl ?_
    refine v_if_lt C 20 dX5_as_12 (by decide) (fun c2 => ?_) (fun c2 => ?_)
    · skip
      refine v_ldc C (v := -1000001) (by decide +kernel) dX5_as_20 ?_
      exact v_iret C E (by first | rfl | (simp only [c1, c2, Int32.not_le.mpr c2, ↓reduceIte, Bool.false_eq_true, reduceCtorEq, Bool.and_true, Bool.true_and, Bool.and_false, Bool.false_and]; done) | (simp [c1, c2, Int32.not_le.mpr c2]; done) | (simp_all [b2]; done)) (by first | rfl | (simp only [c1, c2, Int32.not_le.mpr c2, ↓reduceIte, Bool.false_eq_true, reduceCtorEq, Bool.and_true, Bool.true_and, Bool.and_false, Bool.false_and]; done) | (simp [c1, c2, Int32.not_le.mpr c2]; done) | (simp_all [b2]; done)) dX5_as_22
    · skip
      refine v_iload_n C 2 dX5_as_15 rfl ?_
      refine v_iconst C (v := 5) dX5_as_16 (by decide) ?_
      refine v_icmp_le C 23 dX5_as_17 (by decide) (fun c3 => ?_) (fun c3 => ?_)
      · skip
        refine v_aload_n C 0 dX5_as_23 rfl ?_
        refine v_get C (v := .ref ta) fl_X5_as_26 0 rfl rfl dX5_as_24 ?_
        refine v_iload_n C 1 dX5_as_27 rfl ?_
        refine v_callVN (qi := 0) C [.int x] [] kX4_kindOf gX5_as_X4_kindOf_n148 (host := "TableShares") (by decide +kernel) nq_X5_as_X4_kindOf (c_kindOf l D cs (ta := ta) (tk := tk) (tq := tq) (tw := tw) (pe := (nI pn)) (ti := (nI tn)) (aw := aw) (me := me) (sp := sp) (kf := kf) (x := x) ) ⟨Nat.le_of_ble_eq_true rfl, Nat.le_of_ble_eq_true rfl⟩ ⟨rfl, rfl⟩ ⟨Nat.zero_le _, Nat.zero_le _⟩ rfl 1 rfl rfl rfl rfl (Nat.le_of_ble_eq_true rfl) [1, 2] [(xo, .inr (5, [.ref xr, .ref xd, .ref ta, .ref tb, .ref xi, .ref aa, .ref sa, .int lf, .int fg])), (ta, .inr (4, [.ref tk, .ref tq, .ref tw, .int (nI pn), .int (nI tn), .int aw, .int me, .int sp])), (tk, .inl (cs 0, 8, .inl kf)), (tq, .inl (cs 0, 8, .inl sf)), (tw, .inl (cs 0, 8, .inl wf))] rfl (by decide) (show [ta, tk] = [ta, tk] from rfl) (rfl) dX5_as_28 ?_
        refine V.sts (st' := [.int (gA kf 8 x)]) rfl ?_
        refine v_iload_n C 2 dX5_as_31 rfl ?_
        refine v_callS C [.int (gA kf 8 x), .int y] [] kX5_isA gX5_as_X5_isA (c_isA l D cs (x := (gA kf 8 x)) (k := y) ) ⟨Nat.le_of_ble_eq_true rfl, Nat.le_of_ble_eq_true rfl⟩ ⟨rfl, rfl⟩ ⟨Nat.zero_le _, Nat.zero_le _⟩ rfl rfl (Nat.le_of_ble_eq_true rfl) [] [(xo, .inr (5, [.ref xr, .ref xd, .ref ta, .ref tb, .ref xi, .ref aa, .ref sa, .int lf, .int fg])), (ta, .inr (4, [.ref tk, .ref tq, .ref tw, .int (nI pn), .int (nI tn), .int aw, .int me, .int sp])), (tk, .inl (cs 0, 8, .inl kf)), (tq, .inl (cs 0, 8, .inl sf)), (tw, .inl (cs 0, 8, .inl wf))] rfl (by decide) rfl (rfl) dX5_as_32 ?_
        refine V.sts (st' := [.int (b2 (isAB (gA kf 8 x) y))]) rfl ?_
        refine v_if_eqB C 46 dX5_as_35 (by decide) (fun c4 => ?_) (fun c4 => ?_)
        · skip
          refine v_aload_n C 0 dX5_as_46 rfl ?_
          refine v_iconst C (v := 3) dX5_as_47 (by decide) ?_
          refine v_callV (qi := 0) C [.int 3] [] kX5_found gX5_as_X5_found (c_found l D cs (xo := xo) (xr := xr) (xd := xd) (ta := ta) (tb := tb) (xi := xi) (aa := aa) (sa := sa) (lf := lf) (fg := fg) (x := 3) ) ⟨Nat.le_of_ble_eq_true rfl, Nat.le_of_ble_eq_true rfl⟩ ⟨rfl, rfl⟩ ⟨Nat.zero_le _, Nat.zero_le _⟩ rfl 0 rfl rfl rfl rfl (Nat.le_of_ble_eq_true rfl) [0] [(xo, .inr (5, [.ref xr, .ref xd, .ref ta, .ref tb, .ref xi, .ref aa, .ref sa, .int lf, .int 3])), (ta, .inr (4, [.ref tk, .ref tq, .ref tw, .int (nI pn), .int (nI tn), .int aw, .int me, .int sp])), (tk, .inl (cs 0, 8, .inl kf)), (tq, .inl (cs 0, 8, .inl sf)), (tw, .inl (cs 0, 8, .inl wf))] rfl (by decide) (show [xo] = [xo] from rfl) (rfl) dX5_as_48 ?_
          refine V.sts (st' := [.int (-1000010 - 3)]) rfl ?_
          exact v_iret C E (by first | rfl | (simp only [c1, c2, Int32.not_lt.mp c2, c3, Int32.not_lt.mpr c3, c4, ↓reduceIte, Bool.false_eq_true, reduceCtorEq, Bool.and_true, Bool.true_and, Bool.and_false, Bool.false_and]; done) | (simp [c1, c2, Int32.not_lt.mp c2, c3, Int32.not_lt.mpr c3, c4]; done) | (simp_all [b2]; done)) (by first | rfl | (simp only [c1, c2, Int32.not_lt.mp c2, c3, Int32.not_lt.mpr c3, c4, ↓reduceIte, Bool.false_eq_true, reduceCtorEq, Bool.and_true, Bool.true_and, Bool.and_false, Bool.false_and]; done) | (simp [c1, c2, Int32.not_lt.mp c2, c3, Int32.not_lt.mpr c3, c4]; done) | (simp_all [b2]; done)) dX5_as_51
        · skip
          refine v_aload_n C 0 dX5_as_38 rfl ?_
          refine v_iload_n C 1 dX5_as_39 rfl ?_
          refine v_callV (qi := 0) C [.int x] [] kX5_well gX5_as_X5_well (c_well l D cs (xo := xo) (xr := xr) (xd := xd) (ta := ta) (tb := tb) (xi := xi) (aa := aa) (sa := sa) (lf := lf) (fg := fg) (x := x) ) ⟨Nat.le_of_ble_eq_true rfl, Nat.le_of_ble_eq_true rfl⟩ ⟨rfl, rfl⟩ ⟨Nat.zero_le _, Nat.zero_le _⟩ rfl 0 rfl rfl rfl rfl (Nat.le_of_ble_eq_true rfl) [0] [(xo, .inr (5, [.ref xr, .ref xd, .ref ta, .ref tb, .ref xi, .ref aa, .ref sa, .int lf, .int 0])), (ta, .inr (4, [.ref tk, .ref tq, .ref tw, .int (nI pn), .int (nI tn), .int aw, .int me, .int sp])), (tk, .inl (cs 0, 8, .inl kf)), (tq, .inl (cs 0, 8, .inl sf)), (tw, .inl (cs 0, 8, .inl wf))] rfl (by decide) (show [xo] = [xo] from rfl) (rfl) dX5_as_40 ?_
          refine V.sts (st' := [.int x]) rfl ?_
          refine v_goto C 51 dX5_as_43 (by decide) ?_
          exact v_iret C E (by first | rfl | (simp only [c1, c2, Int32.not_lt.mp c2, c3, Int32.not_lt.mpr c3, c4, ↓reduceIte, Bool.false_eq_true, reduceCtorEq, Bool.and_true, Bool.true_and, Bool.and_false, Bool.false_and]; done) | (simp [c1, c2, Int32.not_lt.mp c2, c3, Int32.not_lt.mpr c3, c4]; done) | (simp_all [b2]; done)) (by first | rfl | (simp only [c1, c2, Int32.not_lt.mp c2, c3, Int32.not_lt.mpr c3, c4, ↓reduceIte, Bool.false_eq_true, reduceCtorEq, Bool.and_true, Bool.true_and, Bool.and_false, Bool.false_and]; done) | (simp [c1, c2, Int32.not_lt.mp c2, c3, Int32.not_lt.mpr c3, c4]; done) | (simp_all [b2]; done)) dX5_as_51
      · skip
        refine v_ldc C (v := -1000001) (by decide +kernel) dX5_as_20 ?_
        exact v_iret C E (by first | rfl | (simp only [c1, c2, Int32.not_lt.mp c2, c3, Int32.not_le.mp c3, ↓reduceIte, Bool.false_eq_true, reduceCtorEq, Bool.and_true, Bool.true_and, Bool.and_false, Bool.false_and]; done) | (simp [c1, c2, Int32.not_lt.mp c2, c3, Int32.not_le.mp c3]; done) | (simp_all [b2]; done)) (by first | rfl | (simp only [c1, c2, Int32.not_lt.mp c2, c3, Int32.not_le.mp c3, ↓reduceIte, Bool.false_eq_true, reduceCtorEq, Bool.and_true, Bool.true_and, Bool.and_false, Bool.false_and]; done) | (simp [c1, c2, Int32.not_lt.mp c2, c3, Int32.not_le.mp c3]; done) | (simp_all [b2]; done)) dX5_as_22
theorem kX5_whoAway : KD yX5_whoAway wsX5_whoAway cX5_whoAway 6 (some .int) 2 := ⟨⟨_, rfl⟩, by decide, by decide +kernel, by decide +kernel, by decide +kernel⟩
theorem in_X5_whoAway_X5 : ∀ w ∈ wsX50, w ∈ wsX5_whoAway := by decide +kernel
theorem fl_X5_whoAway_26 : FL RX5 wsX5_whoAway RX5 RX5 TX5 9 5 2 26 := ⟨⟨in_X5_whoAway_X5, rfl, by decide, rfl⟩, by decide +kernel⟩
theorem nq_X5_whoAway_X4_stands : Cond.initialized yX4_stands.cls ∈ wsX5_whoAway ∧ Cond.instanceMethod yX4_stands ∈ wsX5_whoAway ∧ Cond.selects yX4_stands.cls yX4_stands yX4_stands ∈ wsX5_whoAway := ⟨by decide +kernel, by decide +kernel, by decide +kernel⟩
theorem nq_X5_whoAway_X4_everybody : Cond.initialized yX4_everybody.cls ∈ wsX5_whoAway ∧ Cond.instanceMethod yX4_everybody ∈ wsX5_whoAway ∧ Cond.selects yX4_everybody.cls yX4_everybody yX4_everybody ∈ wsX5_whoAway := ⟨by decide +kernel, by decide +kernel, by decide +kernel⟩
theorem nq_X5_whoAway_X4_worthOfSet : Cond.initialized yX4_worthOfSet.cls ∈ wsX5_whoAway ∧ Cond.instanceMethod yX4_worthOfSet ∈ wsX5_whoAway ∧ Cond.selects yX4_worthOfSet.cls yX4_worthOfSet yX4_worthOfSet ∈ wsX5_whoAway := ⟨by decide +kernel, by decide +kernel, by decide +kernel⟩
set_option maxHeartbeats 4000000 in
set_option maxRecDepth 100000 in
theorem c_whoAway (l : Launch) (D : va_G) (cs : Nat → ClassId) {xo : Nat} {xr : Nat} {xd : Nat} {ta : Nat} {tb : Nat} {xi : Nat} {aa : Nat} {sa : Nat} {lf : Int32} {fg : Int32} {tk : Nat} {tq : Nat} {tw : Nat} {kf : Nat → Int32} {sf : Nat → Int32} {wf : Nat → Int32} {pn : Nat} {aw : Int32} {me : Int32} {sp : Int32} {tn : Nat} {x : Int32} {y : Int32} (hS : ∀ t, s64 (sf t)) (hti : tn ≤ 8) (hpn : pn ≤ 6) : CT l D (tz cs) yX5_whoAway wsX5_whoAway ({ frames := 4, cells := 0, slots := 0, locals := 91 }) [.ref xo, .int x, .int y] [(xo, .inr (5, [.ref xr, .ref xd, .ref ta, .ref tb, .ref xi, .ref aa, .ref sa, .int lf, .int fg])), (ta, .inr (4, [.ref tk, .ref tq, .ref tw, .int (nI pn), .int (nI tn), .int aw, .int me, .int sp])), (tk, .inl (cs 0, 8, .inl kf)), (tq, .inl (cs 0, 8, .inl sf)), (tw, .inl (cs 0, 8, .inl wf))] (some (.int (if 0 < nI pn then (if (lkF x && zo y) = true then (if y = 0 then nI (waC (waP kf sf wf tn pn x) (2 ^ pn)) else waF (waP kf sf wf tn pn x) (2 ^ pn)) else -1000001) else -1000002))) [(xo, .inr (5, [.ref xr, .ref xd, .ref ta, .ref tb, .ref xi, .ref aa, .ref sa, .int lf, .int fg])), (ta, .inr (4, [.ref tk, .ref tq, .ref tw, .int (nI pn), .int (nI tn), .int aw, .int me, .int sp])), (tk, .inl (cs 0, 8, .inl kf)), (tq, .inl (cs 0, 8, .inl sf)), (tw, .inl (cs 0, 8, .inl wf))] := by
  refine CT.of kX5_whoAway (Nat.le_of_ble_eq_true rfl) ?_
  intro p e s m below meth c A C E
  have C : VOk p s m _ c cX5_whoAway 6 wsX5_whoAway RX5 D (tz cs) A s.heap := C
  refine V.lvs (lv' := [(0, .ref xo), (1, .int x), (2, .int y)]) [0, 1, 2] rfl ?_
  have hpw := pw64 pn hpn
  refine v_aload_n C 0 dX5_whoAway_0 rfl ?_
  refine v_get C (v := .ref ta) fl_X5_whoAway_26 0 rfl rfl dX5_whoAway_1 ?_
  refine v_callVN (qi := 0) C [] [] kX4_stands gX5_whoAway_X4_stands_n138 (host := "TableShares") (by decide +kernel) nq_X5_whoAway_X4_stands (c_stands l D cs (ta := ta) (tk := tk) (tq := tq) (tw := tw) (pe := (nI pn)) (ti := (nI tn)) (aw := aw) (me := me) (sp := sp) ) ⟨Nat.le_of_ble_eq_true rfl, Nat.le_of_ble_eq_true rfl⟩ ⟨rfl, rfl⟩ ⟨Nat.zero_le _, Nat.zero_le _⟩ rfl 1 rfl rfl rfl rfl (Nat.le_of_ble_eq_true rfl) [1] [(xo, .inr (5, [.ref xr, .ref xd, .ref ta, .ref tb, .ref xi, .ref aa, .ref sa, .int lf, .int fg])), (ta, .inr (4, [.ref tk, .ref tq, .ref tw, .int (nI pn), .int (nI tn), .int aw, .int me, .int sp])), (tk, .inl (cs 0, 8, .inl kf)), (tq, .inl (cs 0, 8, .inl sf)), (tw, .inl (cs 0, 8, .inl wf))] rfl (by decide) (show [ta] = [ta] from rfl) (rfl) dX5_whoAway_4 ?_
  refine V.sts (st' := [.int (b2 (decide (0 < (nI pn))))]) rfl ?_
  refine v_if_neB C 13 dX5_whoAway_7 (by decide) (fun c1 => ?_) (fun c1 => ?_)
  · skip
    refine v_iload_n C 1 dX5_whoAway_13 rfl ?_
    refine v_callS C [.int x] [] kX5_isLookedFor gX5_whoAway_X5_isLookedFor (c_lkF l D cs (x := x) ) ⟨Nat.le_of_ble_eq_true rfl, Nat.le_of_ble_eq_true rfl⟩ ⟨rfl, rfl⟩ ⟨Nat.zero_le _, Nat.zero_le _⟩ rfl rfl (Nat.le_of_ble_eq_true rfl) [] [(xo, .inr (5, [.ref xr, .ref xd, .ref ta, .ref tb, .ref xi, .ref aa, .ref sa, .int lf, .int fg])), (ta, .inr (4, [.ref tk, .ref tq, .ref tw, .int (nI pn), .int (nI tn), .int aw, .int me, .int sp])), (tk, .inl (cs 0, 8, .inl kf)), (tq, .inl (cs 0, 8, .inl sf)), (tw, .inl (cs 0, 8, .inl wf))] rfl (by decide) rfl (rfl) dX5_whoAway_14 ?_
    refine V.sts (st' := [.int (b2 (lkF x))]) rfl ?_
    refine v_if_eqB C 27 dX5_whoAway_17 (by decide) (fun c2 => ?_) (fun c2 => ?_)
    · skip
      refine v_ldc C (v := -1000001) (by decide +kernel) dX5_whoAway_27 ?_
      exact v_iret C E (rfl) (by first | rfl | (simp only [c1, of_decide_eq_true c1, c2, ↓reduceIte, Bool.false_eq_true, reduceCtorEq, Bool.and_true, Bool.true_and, Bool.and_false, Bool.false_and]; done) | (simp [c1, of_decide_eq_true c1, c2]; done) | (simp_all [b2]; done)) dX5_whoAway_29
    · skip
      refine v_iload_n C 2 dX5_whoAway_20 rfl ?_
      refine v_callS C [.int y] [] kX5_isZeroOrOne gX5_whoAway_X5_isZeroOrOne (c_zo l D cs (x := y) ) ⟨Nat.le_of_ble_eq_true rfl, Nat.le_of_ble_eq_true rfl⟩ ⟨rfl, rfl⟩ ⟨Nat.zero_le _, Nat.zero_le _⟩ rfl rfl (Nat.le_of_ble_eq_true rfl) [] [(xo, .inr (5, [.ref xr, .ref xd, .ref ta, .ref tb, .ref xi, .ref aa, .ref sa, .int lf, .int fg])), (ta, .inr (4, [.ref tk, .ref tq, .ref tw, .int (nI pn), .int (nI tn), .int aw, .int me, .int sp])), (tk, .inl (cs 0, 8, .inl kf)), (tq, .inl (cs 0, 8, .inl sf)), (tw, .inl (cs 0, 8, .inl wf))] rfl (by decide) rfl (rfl) dX5_whoAway_21 ?_
      refine V.sts (st' := [.int (b2 (zo y))]) rfl ?_
      refine v_if_neB C 30 dX5_whoAway_24 (by decide) (fun c3 => ?_) (fun c3 => ?_)
      · skip
        refine v_iconst C (v := 0) dX5_whoAway_30 (by decide) ?_
        refine v_istore_n C [(0, .ref xo), (1, .int x), (2, .int y), (3, .int 0)] [1, 2, 3, 0] dX5_whoAway_31 (by decide) rfl ?_
        refine v_ldc C (v := -1000000) (by decide +kernel) dX5_whoAway_32 ?_
        refine v_istore C [(0, .ref xo), (1, .int x), (2, .int y), (3, .int 0), (4, .int (-1000000))] [1, 2, 3, 4, 0] dX5_whoAway_34 (by decide) rfl ?_
        refine v_iconst C (v := 0) dX5_whoAway_36 (by decide) ?_
        refine v_istore C [(0, .ref xo), (1, .int x), (2, .int y), (3, .int 0), (4, .int (-1000000)), (5, .int 0)] [1, 2, 3, 4, 5, 0] dX5_whoAway_37 (by decide) rfl ?_
        have L39 : ∀ (n : Nat) (i : Nat) (y0 : Int32) (y1 : Int32) (y2 : Int32), y0 = (nI (waC (waP kf sf wf tn pn x) i)) → y1 = (waF (waP kf sf wf tn pn x) i) → y2 = (nI i) → (i ≤ 2 ^ pn) → (2 ^ pn - i) < n → V p l e ({ frames := 4, cells := 0, slots := 0, locals := 91 }) s m (List.toArray [.ref xo, .int x, .int y]) below meth c 0 0 (MQ below (vq_Q (some (.int (if 0 < nI pn then (if (lkF x && zo y) = true then (if y = 0 then nI (waC (waP kf sf wf tn pn x) (2 ^ pn)) else waF (waP kf sf wf tn pn x) (2 ^ pn)) else -1000001) else -1000002))) D [(xo, .inr (5, [.ref xr, .ref xd, .ref ta, .ref tb, .ref xi, .ref aa, .ref sa, .int lf, .int fg])), (ta, .inr (4, [.ref tk, .ref tq, .ref tw, .int (nI pn), .int (nI tn), .int aw, .int me, .int sp])), (tk, .inl (cs 0, 8, .inl kf)), (tq, .inl (cs 0, 8, .inl sf)), (tw, .inl (cs 0, 8, .inl wf))] [(xo, .inr (5, [.ref xr, .ref xd, .ref ta, .ref tb, .ref xi, .ref aa, .ref sa, .int lf, .int fg])), (ta, .inr (4, [.ref tk, .ref tq, .ref tw, .int (nI pn), .int (nI tn), .int aw, .int me, .int sp])), (tk, .inl (cs 0, 8, .inl kf)), (tq, .inl (cs 0, 8, .inl sf)), (tw, .inl (cs 0, 8, .inl wf))] s.heap.size) (List.toArray [.ref xo, .int x, .int y]) s 0 0 (va_A [(xo, .inr (5, [.ref xr, .ref xd, .ref ta, .ref tb, .ref xi, .ref aa, .ref sa, .int lf, .int fg])), (ta, .inr (4, [.ref tk, .ref tq, .ref tw, .int (nI pn), .int (nI tn), .int aw, .int me, .int sp])), (tk, .inl (cs 0, 8, .inl kf)), (tq, .inl (cs 0, 8, .inl sf)), (tw, .inl (cs 0, 8, .inl wf))] s.heap.size)) 6 D A s.heap 39 [(0, .ref xo), (1, .int x), (2, .int y), (3, .int y0), (4, .int y1), (5, .int y2)] [] [(xo, .inr (5, [.ref xr, .ref xd, .ref ta, .ref tb, .ref xi, .ref aa, .ref sa, .int lf, .int fg])), (ta, .inr (4, [.ref tk, .ref tq, .ref tw, .int (nI pn), .int (nI tn), .int aw, .int me, .int sp])), (tk, .inl (cs 0, 8, .inl kf)), (tq, .inl (cs 0, 8, .inl sf)), (tw, .inl (cs 0, 8, .inl wf))] := by
          intro n
          induction n with
          | zero =>
            intros; omega
          | succ n ih39 =>
            intro i y0 y1 y2 ey0 ey1 ey2 hi hn
            subst ey0
            subst ey1
            subst ey2
            refine v_iload C 5 dX5_whoAway_39 rfl ?_
            refine v_aload_n C 0 dX5_whoAway_41 rfl ?_
            refine v_get C (v := .ref ta) fl_X5_whoAway_26 0 rfl rfl dX5_whoAway_42 ?_
            refine v_callVN (qi := 0) C [] [.int (nI i)] kX4_everybody gX5_whoAway_X4_everybody_n189 (host := "TableShares") (by decide +kernel) nq_X5_whoAway_X4_everybody (c_everybody l D cs (ta := ta) (tk := tk) (tq := tq) (tw := tw) (pe := (nI pn)) (ti := (nI tn)) (aw := aw) (me := me) (sp := sp) ) ⟨Nat.le_of_ble_eq_true rfl, Nat.le_of_ble_eq_true rfl⟩ ⟨rfl, rfl⟩ ⟨Nat.zero_le _, Nat.zero_le _⟩ rfl 1 rfl rfl rfl rfl (Nat.le_of_ble_eq_true rfl) [1] [(xo, .inr (5, [.ref xr, .ref xd, .ref ta, .ref tb, .ref xi, .ref aa, .ref sa, .int lf, .int fg])), (ta, .inr (4, [.ref tk, .ref tq, .ref tw, .int (nI pn), .int (nI tn), .int aw, .int me, .int sp])), (tk, .inl (cs 0, 8, .inl kf)), (tq, .inl (cs 0, 8, .inl sf)), (tw, .inl (cs 0, 8, .inl wf))] rfl (by decide) (show [ta] = [ta] from rfl) (rfl) dX5_whoAway_45 ?_
            refine V.sts (st' := [.int (allI (nI pn)), .int (nI i)]) rfl ?_
            refine V.topr (y := nI (2 ^ pn - 1)) (all_nI pn hpn) ?_
            refine v_icmp_gt C 96 dX5_whoAway_48 (by decide) (fun c4 => ?_) (fun c4 => ?_)
            · skip
              have hge : 2 ^ pn - 1 < i := lt_nI c4 (by omega) (by omega)
              have hsub : i = 2 ^ pn := by omega
              subst hsub
              refine v_iload_n C 2 dX5_whoAway_96 rfl ?_
              refine v_if_ne C 104 dX5_whoAway_97 (by decide) (fun c5 => ?_) (fun c5 => ?_)
              · skip
                refine v_iload C 4 dX5_whoAway_104 rfl ?_
                exact v_iret C E (rfl) (by first | rfl | (simp only [c1, of_decide_eq_true c1, c2, c3, c4, Int32.not_le.mpr c4, c5, ↓reduceIte, Bool.false_eq_true, reduceCtorEq, Bool.and_true, Bool.true_and, Bool.and_false, Bool.false_and]; done) | (simp [c1, of_decide_eq_true c1, c2, c3, c4, Int32.not_le.mpr c4, c5]; done) | (simp_all [b2]; done)) dX5_whoAway_106
              · skip
                refine v_iload_n C 3 dX5_whoAway_100 rfl ?_
                refine v_goto C 106 dX5_whoAway_101 (by decide) ?_
                exact v_iret C E (rfl) (by first | rfl | (simp only [c1, of_decide_eq_true c1, c2, c3, c4, Int32.not_le.mpr c4, c5, ↓reduceIte, Bool.false_eq_true, reduceCtorEq, Bool.and_true, Bool.true_and, Bool.and_false, Bool.false_and]; done) | (simp [c1, of_decide_eq_true c1, c2, c3, c4, Int32.not_le.mpr c4, c5]; done) | (simp_all [b2]; done)) dX5_whoAway_106
            · skip
              have hlt : i < 2 ^ pn := by have h9 := nlt_nI c4 (by omega) (by omega); omega
              refine v_aload_n C 0 dX5_whoAway_51 rfl ?_
              refine v_get C (v := .ref ta) fl_X5_whoAway_26 0 rfl rfl dX5_whoAway_52 ?_
              refine v_aload_n C 0 dX5_whoAway_55 rfl ?_
              refine v_get C (v := .ref ta) fl_X5_whoAway_26 0 rfl rfl dX5_whoAway_56 ?_
              refine v_callVN (qi := 0) C [] [.ref ta] kX4_everybody gX5_whoAway_X4_everybody_n189 (host := "TableShares") (by decide +kernel) nq_X5_whoAway_X4_everybody (c_everybody l D cs (ta := ta) (tk := tk) (tq := tq) (tw := tw) (pe := (nI pn)) (ti := (nI tn)) (aw := aw) (me := me) (sp := sp) ) ⟨Nat.le_of_ble_eq_true rfl, Nat.le_of_ble_eq_true rfl⟩ ⟨rfl, rfl⟩ ⟨Nat.zero_le _, Nat.zero_le _⟩ rfl 1 rfl rfl rfl rfl (Nat.le_of_ble_eq_true rfl) [1] [(xo, .inr (5, [.ref xr, .ref xd, .ref ta, .ref tb, .ref xi, .ref aa, .ref sa, .int lf, .int fg])), (ta, .inr (4, [.ref tk, .ref tq, .ref tw, .int (nI pn), .int (nI tn), .int aw, .int me, .int sp])), (tk, .inl (cs 0, 8, .inl kf)), (tq, .inl (cs 0, 8, .inl sf)), (tw, .inl (cs 0, 8, .inl wf))] rfl (by decide) (show [ta] = [ta] from rfl) (rfl) dX5_whoAway_59 ?_
              refine V.sts (st' := [.int (allI (nI pn)), .ref ta]) rfl ?_
              refine v_iload C 5 dX5_whoAway_62 rfl ?_
              refine v_iconst C (v := -1) dX5_whoAway_64 (by decide) ?_
              refine v_ixor C dX5_whoAway_65 ?_
              refine v_iand C dX5_whoAway_66 ?_
              refine v_callVN (qi := 0) C [.int ((allI (nI pn)) &&& ((nI i) ^^^ (-1)))] [] kX4_worthOfSet gX5_whoAway_X4_worthOfSet_n167 (host := "TableShares") (by decide +kernel) nq_X5_whoAway_X4_worthOfSet (c_worthOfSet l D cs (ta := ta) (tk := tk) (tq := tq) (tw := tw) (kf := kf) (sf := sf) (wf := wf) (pe := (nI pn)) (aw := aw) (me := me) (sp := sp) (tn := tn) (th := ((allI (nI pn)) &&& ((nI i) ^^^ (-1)))) (by first | assumption | omega) (by first | assumption | omega)) ⟨Nat.le_of_ble_eq_true rfl, Nat.le_of_ble_eq_true rfl⟩ ⟨rfl, rfl⟩ ⟨Nat.zero_le _, Nat.zero_le _⟩ rfl 1 rfl rfl rfl rfl (Nat.le_of_ble_eq_true rfl) [1, 2, 3, 4] [(xo, .inr (5, [.ref xr, .ref xd, .ref ta, .ref tb, .ref xi, .ref aa, .ref sa, .int lf, .int fg])), (ta, .inr (4, [.ref tk, .ref tq, .ref tw, .int (nI pn), .int (nI tn), .int aw, .int me, .int sp])), (tk, .inl (cs 0, 8, .inl kf)), (tq, .inl (cs 0, 8, .inl sf)), (tw, .inl (cs 0, 8, .inl wf))] rfl (by decide) (show [ta, tk, tq, tw] = [ta, tk, tq, tw] from rfl) (rfl) dX5_whoAway_67 ?_
              refine V.sts (st' := [.int (wsum kf sf wf ((allI (nI pn)) &&& ((nI i) ^^^ (-1))) tn)]) rfl ?_
              refine v_iload_n C 1 dX5_whoAway_70 rfl ?_
              refine v_icmp_ne C 90 dX5_whoAway_71 (by decide) (fun c6 => ?_) (fun c6 => ?_)
              · skip
                refine v_iinc C (k := 5) (nI (i + 1)) [(0, .ref xo), (1, .int x), (2, .int y), (3, .int (nI (waC (waP kf sf wf tn pn x) i))), (4, .int (waF (waP kf sf wf tn pn x) i)), (5, .int (nI (i + 1)))] [1, 2, 3, 4, 5, 0] dX5_whoAway_90 rfl (nI_inc _) (by decide) rfl ?_
                refine v_goto C 39 dX5_whoAway_93 (by decide) ?_
                exact ih39 (i + 1) _ _ _ (by simp only [waC, waF, waP, c1, of_decide_eq_true c1, c2, c3, c4, Int32.not_lt.mp c4, c6, decide_true, decide_false, ↓reduceIte, Bool.false_eq_true]) (by simp only [waC, waF, waP, c1, of_decide_eq_true c1, c2, c3, c4, Int32.not_lt.mp c4, c6, decide_true, decide_false, ↓reduceIte, Bool.false_eq_true]) (rfl) (by omega) (by omega)
              · skip
                refine v_iload_n C 3 dX5_whoAway_74 rfl ?_
                refine v_if_ne C 83 dX5_whoAway_75 (by decide) (fun c7 => ?_) (fun c7 => ?_)
                · skip
                  refine v_iload C 4 dX5_whoAway_83 rfl ?_
                  refine v_istore C [(0, .ref xo), (1, .int x), (2, .int y), (3, .int (nI (waC (waP kf sf wf tn pn x) i))), (4, .int (waF (waP kf sf wf tn pn x) i)), (5, .int (nI i))] [1, 2, 3, 4, 0, 5] dX5_whoAway_85 (by decide) rfl ?_
                  refine v_iinc C (k := 3) (nI ((waC (waP kf sf wf tn pn x) i) + 1)) [(0, .ref xo), (1, .int x), (2, .int y), (3, .int (nI ((waC (waP kf sf wf tn pn x) i) + 1))), (4, .int (waF (waP kf sf wf tn pn x) i)), (5, .int (nI i))] [1, 2, 3, 0, 4, 5] dX5_whoAway_87 rfl (nI_inc _) (by decide) rfl ?_
                  refine v_iinc C (k := 5) (nI (i + 1)) [(0, .ref xo), (1, .int x), (2, .int y), (3, .int (nI ((waC (waP kf sf wf tn pn x) i) + 1))), (4, .int (waF (waP kf sf wf tn pn x) i)), (5, .int (nI (i + 1)))] [1, 2, 3, 4, 5, 0] dX5_whoAway_90 rfl (nI_inc _) (by decide) rfl ?_
                  refine v_goto C 39 dX5_whoAway_93 (by decide) ?_
                  exact ih39 (i + 1) _ _ _ (by simp only [waC, waF, waP, c1, of_decide_eq_true c1, c2, c3, c4, Int32.not_lt.mp c4, c6, c7, decide_true, decide_false, ↓reduceIte, Bool.false_eq_true]) (by simp only [waC, waF, waP, c1, of_decide_eq_true c1, c2, c3, c4, Int32.not_lt.mp c4, c6, c7, decide_true, decide_false, ↓reduceIte, Bool.false_eq_true]) (rfl) (by omega) (by omega)
                · skip
                  refine v_iload C 5 dX5_whoAway_78 rfl ?_
                  refine v_goto C 85 dX5_whoAway_80 (by decide) ?_
                  refine v_istore C [(0, .ref xo), (1, .int x), (2, .int y), (3, .int (nI (waC (waP kf sf wf tn pn x) i))), (4, .int (nI i)), (5, .int (nI i))] [1, 2, 3, 4, 0, 5] dX5_whoAway_85 (by decide) rfl ?_
                  refine v_iinc C (k := 3) (nI ((waC (waP kf sf wf tn pn x) i) + 1)) [(0, .ref xo), (1, .int x), (2, .int y), (3, .int (nI ((waC (waP kf sf wf tn pn x) i) + 1))), (4, .int (nI i)), (5, .int (nI i))] [1, 2, 3, 0, 4, 5] dX5_whoAway_87 rfl (nI_inc _) (by decide) rfl ?_
                  refine v_iinc C (k := 5) (nI (i + 1)) [(0, .ref xo), (1, .int x), (2, .int y), (3, .int (nI ((waC (waP kf sf wf tn pn x) i) + 1))), (4, .int (nI i)), (5, .int (nI (i + 1)))] [1, 2, 3, 4, 5, 0] dX5_whoAway_90 rfl (nI_inc _) (by decide) rfl ?_
                  refine v_goto C 39 dX5_whoAway_93 (by decide) ?_
                  exact ih39 (i + 1) _ _ _ (by simp only [waC, waF, waP, c1, of_decide_eq_true c1, c2, c3, c4, Int32.not_lt.mp c4, c6, c7, decide_true, decide_false, ↓reduceIte, Bool.false_eq_true]) (by simp only [waC, waF, waP, c1, of_decide_eq_true c1, c2, c3, c4, Int32.not_lt.mp c4, c6, c7, decide_true, decide_false, ↓reduceIte, Bool.false_eq_true]) (rfl) (by omega) (by omega)
        exact L39 _ 0 _ _ _ (rfl) (rfl) (rfl) (by omega) (Nat.lt_succ_self _)
      · skip
        refine v_ldc C (v := -1000001) (by decide +kernel) dX5_whoAway_27 ?_
        exact v_iret C E (rfl) (by first | rfl | (simp only [c1, of_decide_eq_true c1, c2, c3, ↓reduceIte, Bool.false_eq_true, reduceCtorEq, Bool.and_true, Bool.true_and, Bool.and_false, Bool.false_and]; done) | (simp [c1, of_decide_eq_true c1, c2, c3]; done) | (simp_all [b2]; done)) dX5_whoAway_29
  · skip
    refine v_ldc C (v := -1000002) (by decide +kernel) dX5_whoAway_10 ?_
    exact v_iret C E (rfl) (by first | rfl | (simp only [c1, of_decide_eq_false c1, ↓reduceIte, Bool.false_eq_true, reduceCtorEq, Bool.and_true, Bool.true_and, Bool.and_false, Bool.false_and]; done) | (simp [c1, of_decide_eq_false c1]; done) | (simp_all [b2]; done)) dX5_whoAway_12
theorem kX5_enough : KD yX5_enough wsX5_enough cX5_enough 7 (some .int) 2 := ⟨⟨_, rfl⟩, by decide, by decide +kernel, by decide +kernel, by decide +kernel⟩
theorem in_X5_enough_X5 : ∀ w ∈ wsX50, w ∈ wsX5_enough := by decide +kernel
theorem fl_X5_enough_26 : FL RX5 wsX5_enough RX5 RX5 TX5 9 5 2 26 := ⟨⟨in_X5_enough_X5, rfl, by decide, rfl⟩, by decide +kernel⟩
theorem nq_X5_enough_X4_stands : Cond.initialized yX4_stands.cls ∈ wsX5_enough ∧ Cond.instanceMethod yX4_stands ∈ wsX5_enough ∧ Cond.selects yX4_stands.cls yX4_stands yX4_stands ∈ wsX5_enough := ⟨by decide +kernel, by decide +kernel, by decide +kernel⟩
theorem nq_X5_enough_X4_everybody : Cond.initialized yX4_everybody.cls ∈ wsX5_enough ∧ Cond.instanceMethod yX4_everybody ∈ wsX5_enough ∧ Cond.selects yX4_everybody.cls yX4_everybody yX4_everybody ∈ wsX5_enough := ⟨by decide +kernel, by decide +kernel, by decide +kernel⟩
theorem nq_X5_enough_X4_worthOfSet : Cond.initialized yX4_worthOfSet.cls ∈ wsX5_enough ∧ Cond.instanceMethod yX4_worthOfSet ∈ wsX5_enough ∧ Cond.selects yX4_worthOfSet.cls yX4_worthOfSet yX4_worthOfSet ∈ wsX5_enough := ⟨by decide +kernel, by decide +kernel, by decide +kernel⟩
set_option maxHeartbeats 4000000 in
set_option maxRecDepth 100000 in
theorem c_enough (l : Launch) (D : va_G) (cs : Nat → ClassId) {xo : Nat} {xr : Nat} {xd : Nat} {ta : Nat} {tb : Nat} {xi : Nat} {aa : Nat} {sa : Nat} {lf : Int32} {fg : Int32} {tk : Nat} {tq : Nat} {tw : Nat} {kf : Nat → Int32} {sf : Nat → Int32} {wf : Nat → Int32} {pn : Nat} {aw : Int32} {me : Int32} {sp : Int32} {tn : Nat} {x : Int32} {y : Int32} (hS : ∀ t, s64 (sf t)) (hti : tn ≤ 8) (hpn : pn ≤ 6) : CT l D (tz cs) yX5_enough wsX5_enough ({ frames := 4, cells := 0, slots := 0, locals := 91 }) [.ref xo, .int x, .int y] [(xo, .inr (5, [.ref xr, .ref xd, .ref ta, .ref tb, .ref xi, .ref aa, .ref sa, .int lf, .int fg])), (ta, .inr (4, [.ref tk, .ref tq, .ref tw, .int (nI pn), .int (nI tn), .int aw, .int me, .int sp])), (tk, .inl (cs 0, 8, .inl kf)), (tq, .inl (cs 0, 8, .inl sf)), (tw, .inl (cs 0, 8, .inl wf))] (some (.int (if 0 < nI pn then (if (lkF x && zo y) = true then (if y = 0 then (enS (wN kf sf wf tn) x (2 ^ pn)).1 else (enS (wN kf sf wf tn) x (2 ^ pn)).2) else -1000001) else -1000002))) [(xo, .inr (5, [.ref xr, .ref xd, .ref ta, .ref tb, .ref xi, .ref aa, .ref sa, .int lf, .int fg])), (ta, .inr (4, [.ref tk, .ref tq, .ref tw, .int (nI pn), .int (nI tn), .int aw, .int me, .int sp])), (tk, .inl (cs 0, 8, .inl kf)), (tq, .inl (cs 0, 8, .inl sf)), (tw, .inl (cs 0, 8, .inl wf))] := by
  refine CT.of kX5_enough (Nat.le_of_ble_eq_true rfl) ?_
  intro p e s m below meth c A C E
  have C : VOk p s m _ c cX5_enough 7 wsX5_enough RX5 D (tz cs) A s.heap := C
  refine V.lvs (lv' := [(0, .ref xo), (1, .int x), (2, .int y)]) [0, 1, 2] rfl ?_
  have hpw := pw64 pn hpn
  refine v_aload_n C 0 dX5_enough_0 rfl ?_
  refine v_get C (v := .ref ta) fl_X5_enough_26 0 rfl rfl dX5_enough_1 ?_
  refine v_callVN (qi := 0) C [] [] kX4_stands gX5_enough_X4_stands_n138 (host := "TableShares") (by decide +kernel) nq_X5_enough_X4_stands (c_stands l D cs (ta := ta) (tk := tk) (tq := tq) (tw := tw) (pe := (nI pn)) (ti := (nI tn)) (aw := aw) (me := me) (sp := sp) ) ⟨Nat.le_of_ble_eq_true rfl, Nat.le_of_ble_eq_true rfl⟩ ⟨rfl, rfl⟩ ⟨Nat.zero_le _, Nat.zero_le _⟩ rfl 1 rfl rfl rfl rfl (Nat.le_of_ble_eq_true rfl) [1] [(xo, .inr (5, [.ref xr, .ref xd, .ref ta, .ref tb, .ref xi, .ref aa, .ref sa, .int lf, .int fg])), (ta, .inr (4, [.ref tk, .ref tq, .ref tw, .int (nI pn), .int (nI tn), .int aw, .int me, .int sp])), (tk, .inl (cs 0, 8, .inl kf)), (tq, .inl (cs 0, 8, .inl sf)), (tw, .inl (cs 0, 8, .inl wf))] rfl (by decide) (show [ta] = [ta] from rfl) (rfl) dX5_enough_4 ?_
  refine V.sts (st' := [.int (b2 (decide (0 < (nI pn))))]) rfl ?_
  refine v_if_neB C 13 dX5_enough_7 (by decide) (fun c1 => ?_) (fun c1 => ?_)
  · skip
    refine v_iload_n C 1 dX5_enough_13 rfl ?_
    refine v_callS C [.int x] [] kX5_isLookedFor gX5_enough_X5_isLookedFor (c_lkF l D cs (x := x) ) ⟨Nat.le_of_ble_eq_true rfl, Nat.le_of_ble_eq_true rfl⟩ ⟨rfl, rfl⟩ ⟨Nat.zero_le _, Nat.zero_le _⟩ rfl rfl (Nat.le_of_ble_eq_true rfl) [] [(xo, .inr (5, [.ref xr, .ref xd, .ref ta, .ref tb, .ref xi, .ref aa, .ref sa, .int lf, .int fg])), (ta, .inr (4, [.ref tk, .ref tq, .ref tw, .int (nI pn), .int (nI tn), .int aw, .int me, .int sp])), (tk, .inl (cs 0, 8, .inl kf)), (tq, .inl (cs 0, 8, .inl sf)), (tw, .inl (cs 0, 8, .inl wf))] rfl (by decide) rfl (rfl) dX5_enough_14 ?_
    refine V.sts (st' := [.int (b2 (lkF x))]) rfl ?_
    refine v_if_eqB C 27 dX5_enough_17 (by decide) (fun c2 => ?_) (fun c2 => ?_)
    · skip
      refine v_ldc C (v := -1000001) (by decide +kernel) dX5_enough_27 ?_
      exact v_iret C E (rfl) (by first | rfl | (simp only [c1, of_decide_eq_true c1, c2, ↓reduceIte, Bool.false_eq_true, reduceCtorEq, Bool.and_true, Bool.true_and, Bool.and_false, Bool.false_and]; done) | (simp [c1, of_decide_eq_true c1, c2]; done) | (simp_all [b2]; done)) dX5_enough_29
    · skip
      refine v_iload_n C 2 dX5_enough_20 rfl ?_
      refine v_callS C [.int y] [] kX5_isZeroOrOne gX5_enough_X5_isZeroOrOne (c_zo l D cs (x := y) ) ⟨Nat.le_of_ble_eq_true rfl, Nat.le_of_ble_eq_true rfl⟩ ⟨rfl, rfl⟩ ⟨Nat.zero_le _, Nat.zero_le _⟩ rfl rfl (Nat.le_of_ble_eq_true rfl) [] [(xo, .inr (5, [.ref xr, .ref xd, .ref ta, .ref tb, .ref xi, .ref aa, .ref sa, .int lf, .int fg])), (ta, .inr (4, [.ref tk, .ref tq, .ref tw, .int (nI pn), .int (nI tn), .int aw, .int me, .int sp])), (tk, .inl (cs 0, 8, .inl kf)), (tq, .inl (cs 0, 8, .inl sf)), (tw, .inl (cs 0, 8, .inl wf))] rfl (by decide) rfl (rfl) dX5_enough_21 ?_
      refine V.sts (st' := [.int (b2 (zo y))]) rfl ?_
      refine v_if_neB C 30 dX5_enough_24 (by decide) (fun c3 => ?_) (fun c3 => ?_)
      · skip
        refine v_ldc C (v := -1000000) (by decide +kernel) dX5_enough_30 ?_
        refine v_istore_n C [(0, .ref xo), (1, .int x), (2, .int y), (3, .int (-1000000))] [1, 2, 3, 0] dX5_enough_32 (by decide) rfl ?_
        refine v_ldc C (v := -1000000) (by decide +kernel) dX5_enough_33 ?_
        refine v_istore C [(0, .ref xo), (1, .int x), (2, .int y), (3, .int (-1000000)), (4, .int (-1000000))] [1, 2, 3, 4, 0] dX5_enough_35 (by decide) rfl ?_
        refine v_iconst C (v := 0) dX5_enough_37 (by decide) ?_
        refine v_istore C [(0, .ref xo), (1, .int x), (2, .int y), (3, .int (-1000000)), (4, .int (-1000000)), (5, .int 0)] [1, 2, 3, 4, 5, 0] dX5_enough_38 (by decide) rfl ?_
        have L40 : ∀ (n : Nat) (i : Nat) (y0 : Int32) (y1 : Int32) (y2 : Int32), y0 = ((enS (wN kf sf wf tn) x i).1) → y1 = ((enS (wN kf sf wf tn) x i).2) → y2 = (nI i) → (i ≤ 2 ^ pn) → (2 ^ pn - i) < n → V p l e ({ frames := 4, cells := 0, slots := 0, locals := 91 }) s m (List.toArray [.ref xo, .int x, .int y]) below meth c 0 0 (MQ below (vq_Q (some (.int (if 0 < nI pn then (if (lkF x && zo y) = true then (if y = 0 then (enS (wN kf sf wf tn) x (2 ^ pn)).1 else (enS (wN kf sf wf tn) x (2 ^ pn)).2) else -1000001) else -1000002))) D [(xo, .inr (5, [.ref xr, .ref xd, .ref ta, .ref tb, .ref xi, .ref aa, .ref sa, .int lf, .int fg])), (ta, .inr (4, [.ref tk, .ref tq, .ref tw, .int (nI pn), .int (nI tn), .int aw, .int me, .int sp])), (tk, .inl (cs 0, 8, .inl kf)), (tq, .inl (cs 0, 8, .inl sf)), (tw, .inl (cs 0, 8, .inl wf))] [(xo, .inr (5, [.ref xr, .ref xd, .ref ta, .ref tb, .ref xi, .ref aa, .ref sa, .int lf, .int fg])), (ta, .inr (4, [.ref tk, .ref tq, .ref tw, .int (nI pn), .int (nI tn), .int aw, .int me, .int sp])), (tk, .inl (cs 0, 8, .inl kf)), (tq, .inl (cs 0, 8, .inl sf)), (tw, .inl (cs 0, 8, .inl wf))] s.heap.size) (List.toArray [.ref xo, .int x, .int y]) s 0 0 (va_A [(xo, .inr (5, [.ref xr, .ref xd, .ref ta, .ref tb, .ref xi, .ref aa, .ref sa, .int lf, .int fg])), (ta, .inr (4, [.ref tk, .ref tq, .ref tw, .int (nI pn), .int (nI tn), .int aw, .int me, .int sp])), (tk, .inl (cs 0, 8, .inl kf)), (tq, .inl (cs 0, 8, .inl sf)), (tw, .inl (cs 0, 8, .inl wf))] s.heap.size)) 7 D A s.heap 40 [(0, .ref xo), (1, .int x), (2, .int y), (3, .int y0), (4, .int y1), (5, .int y2)] [] [(xo, .inr (5, [.ref xr, .ref xd, .ref ta, .ref tb, .ref xi, .ref aa, .ref sa, .int lf, .int fg])), (ta, .inr (4, [.ref tk, .ref tq, .ref tw, .int (nI pn), .int (nI tn), .int aw, .int me, .int sp])), (tk, .inl (cs 0, 8, .inl kf)), (tq, .inl (cs 0, 8, .inl sf)), (tw, .inl (cs 0, 8, .inl wf))] := by
          intro n
          induction n with
          | zero =>
            intros; omega
          | succ n ih40 =>
            intro i y0 y1 y2 ey0 ey1 ey2 hi hn
            subst ey0
            subst ey1
            subst ey2
            refine v_iload C 5 dX5_enough_40 rfl ?_
            refine v_aload_n C 0 dX5_enough_42 rfl ?_
            refine v_get C (v := .ref ta) fl_X5_enough_26 0 rfl rfl dX5_enough_43 ?_
            refine v_callVN (qi := 0) C [] [.int (nI i)] kX4_everybody gX5_enough_X4_everybody_n189 (host := "TableShares") (by decide +kernel) nq_X5_enough_X4_everybody (c_everybody l D cs (ta := ta) (tk := tk) (tq := tq) (tw := tw) (pe := (nI pn)) (ti := (nI tn)) (aw := aw) (me := me) (sp := sp) ) ⟨Nat.le_of_ble_eq_true rfl, Nat.le_of_ble_eq_true rfl⟩ ⟨rfl, rfl⟩ ⟨Nat.zero_le _, Nat.zero_le _⟩ rfl 1 rfl rfl rfl rfl (Nat.le_of_ble_eq_true rfl) [1] [(xo, .inr (5, [.ref xr, .ref xd, .ref ta, .ref tb, .ref xi, .ref aa, .ref sa, .int lf, .int fg])), (ta, .inr (4, [.ref tk, .ref tq, .ref tw, .int (nI pn), .int (nI tn), .int aw, .int me, .int sp])), (tk, .inl (cs 0, 8, .inl kf)), (tq, .inl (cs 0, 8, .inl sf)), (tw, .inl (cs 0, 8, .inl wf))] rfl (by decide) (show [ta] = [ta] from rfl) (rfl) dX5_enough_46 ?_
            refine V.sts (st' := [.int (allI (nI pn)), .int (nI i)]) rfl ?_
            refine V.topr (y := nI (2 ^ pn - 1)) (all_nI pn hpn) ?_
            refine v_icmp_gt C 98 dX5_enough_49 (by decide) (fun c4 => ?_) (fun c4 => ?_)
            · skip
              have hge : 2 ^ pn - 1 < i := lt_nI c4 (by omega) (by omega)
              have hsub : i = 2 ^ pn := by omega
              subst hsub
              refine v_iload_n C 2 dX5_enough_98 rfl ?_
              refine v_if_ne C 106 dX5_enough_99 (by decide) (fun c5 => ?_) (fun c5 => ?_)
              · skip
                refine v_iload C 4 dX5_enough_106 rfl ?_
                exact v_iret C E (rfl) (by first | rfl | (simp only [c1, of_decide_eq_true c1, c2, c3, c4, Int32.not_le.mpr c4, c5, ↓reduceIte, Bool.false_eq_true, reduceCtorEq, Bool.and_true, Bool.true_and, Bool.and_false, Bool.false_and]; done) | (simp [c1, of_decide_eq_true c1, c2, c3, c4, Int32.not_le.mpr c4, c5]; done) | (simp_all [b2]; done)) dX5_enough_108
              · skip
                refine v_iload_n C 3 dX5_enough_102 rfl ?_
                refine v_goto C 108 dX5_enough_103 (by decide) ?_
                exact v_iret C E (rfl) (by first | rfl | (simp only [c1, of_decide_eq_true c1, c2, c3, c4, Int32.not_le.mpr c4, c5, ↓reduceIte, Bool.false_eq_true, reduceCtorEq, Bool.and_true, Bool.true_and, Bool.and_false, Bool.false_and]; done) | (simp [c1, of_decide_eq_true c1, c2, c3, c4, Int32.not_le.mpr c4, c5]; done) | (simp_all [b2]; done)) dX5_enough_108
            · skip
              have hlt : i < 2 ^ pn := by have h9 := nlt_nI c4 (by omega) (by omega); omega
              refine v_iload C 5 dX5_enough_52 rfl ?_
              refine v_callS C [.int (nI i)] [] kJ6_bitCount_0f7a4 gX5_enough_J6_bitCount_0f7a4 (c_bc l D cs (x := (nI i)) (by first | exact ⟨i, by omega, rfl⟩ | exact beS_s64 _ _ (by omega) | assumption)) ⟨Nat.le_of_ble_eq_true rfl, Nat.le_of_ble_eq_true rfl⟩ ⟨rfl, rfl⟩ ⟨Nat.zero_le _, Nat.zero_le _⟩ rfl rfl (Nat.le_of_ble_eq_true rfl) [] [(xo, .inr (5, [.ref xr, .ref xd, .ref ta, .ref tb, .ref xi, .ref aa, .ref sa, .int lf, .int fg])), (ta, .inr (4, [.ref tk, .ref tq, .ref tw, .int (nI pn), .int (nI tn), .int aw, .int me, .int sp])), (tk, .inl (cs 0, 8, .inl kf)), (tq, .inl (cs 0, 8, .inl sf)), (tw, .inl (cs 0, 8, .inl wf))] rfl (by decide) rfl (rfl) dX5_enough_54 ?_
              refine V.sts (st' := [.int (pcI (nI i))]) rfl ?_
              refine V.topr (y := nI (pop i)) (pc_nI (by omega)) ?_
              refine v_istore C [(0, .ref xo), (1, .int x), (2, .int y), (3, .int ((enS (wN kf sf wf tn) x i).1)), (4, .int ((enS (wN kf sf wf tn) x i).2)), (5, .int (nI i)), (6, .int (nI (pop i)))] [1, 2, 3, 4, 5, 6, 0] dX5_enough_57 (by decide) rfl ?_
              refine v_aload_n C 0 dX5_enough_59 rfl ?_
              refine v_get C (v := .ref ta) fl_X5_enough_26 0 rfl rfl dX5_enough_60 ?_
              refine v_iload C 5 dX5_enough_63 rfl ?_
              refine v_callVN (qi := 0) C [.int (nI i)] [] kX4_worthOfSet gX5_enough_X4_worthOfSet_n167 (host := "TableShares") (by decide +kernel) nq_X5_enough_X4_worthOfSet (c_worthOfSet l D cs (ta := ta) (tk := tk) (tq := tq) (tw := tw) (kf := kf) (sf := sf) (wf := wf) (pe := (nI pn)) (aw := aw) (me := me) (sp := sp) (tn := tn) (th := (nI i)) (by first | assumption | omega) (by first | assumption | omega)) ⟨Nat.le_of_ble_eq_true rfl, Nat.le_of_ble_eq_true rfl⟩ ⟨rfl, rfl⟩ ⟨Nat.zero_le _, Nat.zero_le _⟩ rfl 1 rfl rfl rfl rfl (Nat.le_of_ble_eq_true rfl) [1, 2, 3, 4] [(xo, .inr (5, [.ref xr, .ref xd, .ref ta, .ref tb, .ref xi, .ref aa, .ref sa, .int lf, .int fg])), (ta, .inr (4, [.ref tk, .ref tq, .ref tw, .int (nI pn), .int (nI tn), .int aw, .int me, .int sp])), (tk, .inl (cs 0, 8, .inl kf)), (tq, .inl (cs 0, 8, .inl sf)), (tw, .inl (cs 0, 8, .inl wf))] rfl (by decide) (show [ta, tk, tq, tw] = [ta, tk, tq, tw] from rfl) (rfl) dX5_enough_65 ?_
              refine V.sts (st' := [.int (wsum kf sf wf (nI i) tn)]) rfl ?_
              refine v_iload_n C 1 dX5_enough_68 rfl ?_
              refine v_icmp_lt C 92 dX5_enough_69 (by decide) (fun c6 => ?_) (fun c6 => ?_)
              · skip
                refine v_iinc C (k := 5) (nI (i + 1)) [(0, .ref xo), (1, .int x), (2, .int y), (3, .int ((enS (wN kf sf wf tn) x i).1)), (4, .int ((enS (wN kf sf wf tn) x i).2)), (5, .int (nI (i + 1))), (6, .int (nI (pop i)))] [1, 2, 3, 4, 5, 0, 6] dX5_enough_92 rfl (nI_inc _) (by decide) rfl ?_
                refine v_goto C 40 dX5_enough_95 (by decide) ?_
                refine V.lvs (lv' := [(0, .ref xo), (1, .int x), (2, .int y), (3, .int ((enS (wN kf sf wf tn) x i).1)), (4, .int ((enS (wN kf sf wf tn) x i).2)), (5, .int (nI (i + 1)))]) [0, 1, 2, 3, 4, 5] rfl ?_
                exact ih40 (i + 1) _ _ _ (by simp only [enS, wN, c1, of_decide_eq_true c1, c2, c3, c4, Int32.not_lt.mp c4, c6, Int32.not_le.mpr c6, decide_true, decide_false, ↓reduceIte, Bool.false_eq_true]) (by simp only [enS, wN, c1, of_decide_eq_true c1, c2, c3, c4, Int32.not_lt.mp c4, c6, Int32.not_le.mpr c6, decide_true, decide_false, ↓reduceIte, Bool.false_eq_true]) (rfl) (by omega) (by omega)
              · skip
                refine v_iload C 4 dX5_enough_72 rfl ?_
                refine v_ldc C (v := -1000000) (by decide +kernel) dX5_enough_74 ?_
                refine v_icmp_eq C 85 dX5_enough_76 (by decide) (fun c7 => ?_) (fun c7 => ?_)
                · skip
                  refine v_iload C 6 dX5_enough_85 rfl ?_
                  refine v_istore_n C [(0, .ref xo), (1, .int x), (2, .int y), (3, .int (nI (pop i))), (4, .int ((enS (wN kf sf wf tn) x i).2)), (5, .int (nI i)), (6, .int (nI (pop i)))] [1, 2, 3, 0, 4, 5, 6] dX5_enough_87 (by decide) rfl ?_
                  refine v_iload C 5 dX5_enough_88 rfl ?_
                  refine v_istore C [(0, .ref xo), (1, .int x), (2, .int y), (3, .int (nI (pop i))), (4, .int (nI i)), (5, .int (nI i)), (6, .int (nI (pop i)))] [1, 2, 3, 4, 0, 5, 6] dX5_enough_90 (by decide) rfl ?_
                  refine v_iinc C (k := 5) (nI (i + 1)) [(0, .ref xo), (1, .int x), (2, .int y), (3, .int (nI (pop i))), (4, .int (nI i)), (5, .int (nI (i + 1))), (6, .int (nI (pop i)))] [1, 2, 3, 4, 5, 0, 6] dX5_enough_92 rfl (nI_inc _) (by decide) rfl ?_
                  refine v_goto C 40 dX5_enough_95 (by decide) ?_
                  refine V.lvs (lv' := [(0, .ref xo), (1, .int x), (2, .int y), (3, .int (nI (pop i))), (4, .int (nI i)), (5, .int (nI (i + 1)))]) [0, 1, 2, 3, 4, 5] rfl ?_
                  exact ih40 (i + 1) _ _ _ (by simp only [enS, wN, c1, of_decide_eq_true c1, c2, c3, c4, Int32.not_lt.mp c4, c6, Int32.not_lt.mp c6, c7, decide_true, decide_false, ↓reduceIte, Bool.false_eq_true]) (by simp only [enS, wN, c1, of_decide_eq_true c1, c2, c3, c4, Int32.not_lt.mp c4, c6, Int32.not_lt.mp c6, c7, decide_true, decide_false, ↓reduceIte, Bool.false_eq_true]) (rfl) (by omega) (by omega)
                · skip
                  refine v_iload C 6 dX5_enough_79 rfl ?_
                  refine v_iload_n C 3 dX5_enough_81 rfl ?_
                  refine v_icmp_ge C 92 dX5_enough_82 (by decide) (fun c8 => ?_) (fun c8 => ?_)
                  · skip
                    refine v_iinc C (k := 5) (nI (i + 1)) [(0, .ref xo), (1, .int x), (2, .int y), (3, .int ((enS (wN kf sf wf tn) x i).1)), (4, .int ((enS (wN kf sf wf tn) x i).2)), (5, .int (nI (i + 1))), (6, .int (nI (pop i)))] [1, 2, 3, 4, 5, 0, 6] dX5_enough_92 rfl (nI_inc _) (by decide) rfl ?_
                    refine v_goto C 40 dX5_enough_95 (by decide) ?_
                    refine V.lvs (lv' := [(0, .ref xo), (1, .int x), (2, .int y), (3, .int ((enS (wN kf sf wf tn) x i).1)), (4, .int ((enS (wN kf sf wf tn) x i).2)), (5, .int (nI (i + 1)))]) [0, 1, 2, 3, 4, 5] rfl ?_
                    exact ih40 (i + 1) _ _ _ (by simp only [enS, wN, c1, of_decide_eq_true c1, c2, c3, c4, Int32.not_lt.mp c4, c6, Int32.not_lt.mp c6, c7, c8, Int32.not_lt.mpr c8, decide_true, decide_false, ↓reduceIte, Bool.false_eq_true]) (by simp only [enS, wN, c1, of_decide_eq_true c1, c2, c3, c4, Int32.not_lt.mp c4, c6, Int32.not_lt.mp c6, c7, c8, Int32.not_lt.mpr c8, decide_true, decide_false, ↓reduceIte, Bool.false_eq_true]) (rfl) (by omega) (by omega)
                  · skip
                    refine v_iload C 6 dX5_enough_85 rfl ?_
                    refine v_istore_n C [(0, .ref xo), (1, .int x), (2, .int y), (3, .int (nI (pop i))), (4, .int ((enS (wN kf sf wf tn) x i).2)), (5, .int (nI i)), (6, .int (nI (pop i)))] [1, 2, 3, 0, 4, 5, 6] dX5_enough_87 (by decide) rfl ?_
                    refine v_iload C 5 dX5_enough_88 rfl ?_
                    refine v_istore C [(0, .ref xo), (1, .int x), (2, .int y), (3, .int (nI (pop i))), (4, .int (nI i)), (5, .int (nI i)), (6, .int (nI (pop i)))] [1, 2, 3, 4, 0, 5, 6] dX5_enough_90 (by decide) rfl ?_
                    refine v_iinc C (k := 5) (nI (i + 1)) [(0, .ref xo), (1, .int x), (2, .int y), (3, .int (nI (pop i))), (4, .int (nI i)), (5, .int (nI (i + 1))), (6, .int (nI (pop i)))] [1, 2, 3, 4, 5, 0, 6] dX5_enough_92 rfl (nI_inc _) (by decide) rfl ?_
                    refine v_goto C 40 dX5_enough_95 (by decide) ?_
                    refine V.lvs (lv' := [(0, .ref xo), (1, .int x), (2, .int y), (3, .int (nI (pop i))), (4, .int (nI i)), (5, .int (nI (i + 1)))]) [0, 1, 2, 3, 4, 5] rfl ?_
                    exact ih40 (i + 1) _ _ _ (by simp only [enS, wN, c1, of_decide_eq_true c1, c2, c3, c4, Int32.not_lt.mp c4, c6, Int32.not_lt.mp c6, c7, c8, Int32.not_le.mp c8, decide_true, decide_false, ↓reduceIte, Bool.false_eq_true]) (by simp only [enS, wN, c1, of_decide_eq_true c1, c2, c3, c4, Int32.not_lt.mp c4, c6, Int32.not_lt.mp c6, c7, c8, Int32.not_le.mp c8, decide_true, decide_false, ↓reduceIte, Bool.false_eq_true]) (rfl) (by omega) (by omega)
        exact L40 _ 0 _ _ _ (rfl) (rfl) (rfl) (by omega) (Nat.lt_succ_self _)
      · skip
        refine v_ldc C (v := -1000001) (by decide +kernel) dX5_enough_27 ?_
        exact v_iret C E (rfl) (by first | rfl | (simp only [c1, of_decide_eq_true c1, c2, c3, ↓reduceIte, Bool.false_eq_true, reduceCtorEq, Bool.and_true, Bool.true_and, Bool.and_false, Bool.false_and]; done) | (simp [c1, of_decide_eq_true c1, c2, c3]; done) | (simp_all [b2]; done)) dX5_enough_29
  · skip
    refine v_ldc C (v := -1000002) (by decide +kernel) dX5_enough_10 ?_
    exact v_iret C E (rfl) (by first | rfl | (simp only [c1, of_decide_eq_false c1, ↓reduceIte, Bool.false_eq_true, reduceCtorEq, Bool.and_true, Bool.true_and, Bool.and_false, Bool.false_and]; done) | (simp [c1, of_decide_eq_false c1]; done) | (simp_all [b2]; done)) dX5_enough_12
theorem kX5_best : KD yX5_best wsX5_best cX5_best 6 (some .int) 1 := ⟨⟨_, rfl⟩, by decide, by decide +kernel, by decide +kernel, by decide +kernel⟩
theorem in_X5_best_X5 : ∀ w ∈ wsX50, w ∈ wsX5_best := by decide +kernel
theorem fl_X5_best_26 : FL RX5 wsX5_best RX5 RX5 TX5 9 5 2 26 := ⟨⟨in_X5_best_X5, rfl, by decide, rfl⟩, by decide +kernel⟩
theorem nq_X5_best_X4_stands : Cond.initialized yX4_stands.cls ∈ wsX5_best ∧ Cond.instanceMethod yX4_stands ∈ wsX5_best ∧ Cond.selects yX4_stands.cls yX4_stands yX4_stands ∈ wsX5_best := ⟨by decide +kernel, by decide +kernel, by decide +kernel⟩
theorem nq_X5_best_X4_worthOfSet : Cond.initialized yX4_worthOfSet.cls ∈ wsX5_best ∧ Cond.instanceMethod yX4_worthOfSet ∈ wsX5_best ∧ Cond.selects yX4_worthOfSet.cls yX4_worthOfSet yX4_worthOfSet ∈ wsX5_best := ⟨by decide +kernel, by decide +kernel, by decide +kernel⟩
theorem nq_X5_best_X4_everybody : Cond.initialized yX4_everybody.cls ∈ wsX5_best ∧ Cond.instanceMethod yX4_everybody ∈ wsX5_best ∧ Cond.selects yX4_everybody.cls yX4_everybody yX4_everybody ∈ wsX5_best := ⟨by decide +kernel, by decide +kernel, by decide +kernel⟩
set_option maxHeartbeats 4000000 in
set_option maxRecDepth 100000 in
theorem c_best (l : Launch) (D : va_G) (cs : Nat → ClassId) {xo : Nat} {xr : Nat} {xd : Nat} {ta : Nat} {tb : Nat} {xi : Nat} {aa : Nat} {sa : Nat} {lf : Int32} {fg : Int32} {tk : Nat} {tq : Nat} {tw : Nat} {kf : Nat → Int32} {sf : Nat → Int32} {wf : Nat → Int32} {pn : Nat} {aw : Int32} {me : Int32} {sp : Int32} {tn : Nat} {x : Int32} (hS : ∀ t, s64 (sf t)) (hti : tn ≤ 8) (hpn : pn ≤ 6) : CT l D (tz cs) yX5_best wsX5_best ({ frames := 4, cells := 0, slots := 0, locals := 91 }) [.ref xo, .int x] [(xo, .inr (5, [.ref xr, .ref xd, .ref ta, .ref tb, .ref xi, .ref aa, .ref sa, .int lf, .int fg])), (ta, .inr (4, [.ref tk, .ref tq, .ref tw, .int (nI pn), .int (nI tn), .int aw, .int me, .int sp])), (tk, .inl (cs 0, 8, .inl kf)), (tq, .inl (cs 0, 8, .inl sf)), (tw, .inl (cs 0, 8, .inl wf))] (some (.int (if 0 < nI pn then (if zo x = true then (if x = 0 then (beS (wN kf sf wf tn) (2 ^ pn - 1)).1 else (beS (wN kf sf wf tn) (2 ^ pn - 1)).2) else -1000001) else -1000002))) [(xo, .inr (5, [.ref xr, .ref xd, .ref ta, .ref tb, .ref xi, .ref aa, .ref sa, .int lf, .int fg])), (ta, .inr (4, [.ref tk, .ref tq, .ref tw, .int (nI pn), .int (nI tn), .int aw, .int me, .int sp])), (tk, .inl (cs 0, 8, .inl kf)), (tq, .inl (cs 0, 8, .inl sf)), (tw, .inl (cs 0, 8, .inl wf))] := by
  refine CT.of kX5_best (Nat.le_of_ble_eq_true rfl) ?_
  intro p e s m below meth c A C E
  have C : VOk p s m _ c cX5_best 6 wsX5_best RX5 D (tz cs) A s.heap := C
  refine V.lvs (lv' := [(0, .ref xo), (1, .int x)]) [0, 1] rfl ?_
  have hpw := pw64 pn hpn
  refine v_aload_n C 0 dX5_best_0 rfl ?_
  refine v_get C (v := .ref ta) fl_X5_best_26 0 rfl rfl dX5_best_1 ?_
  refine v_callVN (qi := 0) C [] [] kX4_stands gX5_best_X4_stands_n138 (host := "TableShares") (by decide +kernel) nq_X5_best_X4_stands (c_stands l D cs (ta := ta) (tk := tk) (tq := tq) (tw := tw) (pe := (nI pn)) (ti := (nI tn)) (aw := aw) (me := me) (sp := sp) ) ⟨Nat.le_of_ble_eq_true rfl, Nat.le_of_ble_eq_true rfl⟩ ⟨rfl, rfl⟩ ⟨Nat.zero_le _, Nat.zero_le _⟩ rfl 1 rfl rfl rfl rfl (Nat.le_of_ble_eq_true rfl) [1] [(xo, .inr (5, [.ref xr, .ref xd, .ref ta, .ref tb, .ref xi, .ref aa, .ref sa, .int lf, .int fg])), (ta, .inr (4, [.ref tk, .ref tq, .ref tw, .int (nI pn), .int (nI tn), .int aw, .int me, .int sp])), (tk, .inl (cs 0, 8, .inl kf)), (tq, .inl (cs 0, 8, .inl sf)), (tw, .inl (cs 0, 8, .inl wf))] rfl (by decide) (show [ta] = [ta] from rfl) (rfl) dX5_best_4 ?_
  refine V.sts (st' := [.int (b2 (decide (0 < (nI pn))))]) rfl ?_
  refine v_if_neB C 13 dX5_best_7 (by decide) (fun c1 => ?_) (fun c1 => ?_)
  · skip
    refine v_iload_n C 1 dX5_best_13 rfl ?_
    refine v_callS C [.int x] [] kX5_isZeroOrOne gX5_best_X5_isZeroOrOne (c_zo l D cs (x := x) ) ⟨Nat.le_of_ble_eq_true rfl, Nat.le_of_ble_eq_true rfl⟩ ⟨rfl, rfl⟩ ⟨Nat.zero_le _, Nat.zero_le _⟩ rfl rfl (Nat.le_of_ble_eq_true rfl) [] [(xo, .inr (5, [.ref xr, .ref xd, .ref ta, .ref tb, .ref xi, .ref aa, .ref sa, .int lf, .int fg])), (ta, .inr (4, [.ref tk, .ref tq, .ref tw, .int (nI pn), .int (nI tn), .int aw, .int me, .int sp])), (tk, .inl (cs 0, 8, .inl kf)), (tq, .inl (cs 0, 8, .inl sf)), (tw, .inl (cs 0, 8, .inl wf))] rfl (by decide) rfl (rfl) dX5_best_14 ?_
    refine V.sts (st' := [.int (b2 (zo x))]) rfl ?_
    refine v_if_neB C 23 dX5_best_17 (by decide) (fun c2 => ?_) (fun c2 => ?_)
    · skip
      refine v_iconst C (v := 0) dX5_best_23 (by decide) ?_
      refine v_istore_n C [(0, .ref xo), (1, .int x), (2, .int 0)] [1, 2, 0] dX5_best_24 (by decide) rfl ?_
      refine v_aload_n C 0 dX5_best_25 rfl ?_
      refine v_get C (v := .ref ta) fl_X5_best_26 0 rfl rfl dX5_best_26 ?_
      refine v_iconst C (v := 0) dX5_best_29 (by decide) ?_
      refine v_callVN (qi := 0) C [.int 0] [] kX4_worthOfSet gX5_best_X4_worthOfSet_n167 (host := "TableShares") (by decide +kernel) nq_X5_best_X4_worthOfSet (c_worthOfSet l D cs (ta := ta) (tk := tk) (tq := tq) (tw := tw) (kf := kf) (sf := sf) (wf := wf) (pe := (nI pn)) (aw := aw) (me := me) (sp := sp) (tn := tn) (th := 0) (by first | assumption | omega) (by first | assumption | omega)) ⟨Nat.le_of_ble_eq_true rfl, Nat.le_of_ble_eq_true rfl⟩ ⟨rfl, rfl⟩ ⟨Nat.zero_le _, Nat.zero_le _⟩ rfl 1 rfl rfl rfl rfl (Nat.le_of_ble_eq_true rfl) [1, 2, 3, 4] [(xo, .inr (5, [.ref xr, .ref xd, .ref ta, .ref tb, .ref xi, .ref aa, .ref sa, .int lf, .int fg])), (ta, .inr (4, [.ref tk, .ref tq, .ref tw, .int (nI pn), .int (nI tn), .int aw, .int me, .int sp])), (tk, .inl (cs 0, 8, .inl kf)), (tq, .inl (cs 0, 8, .inl sf)), (tw, .inl (cs 0, 8, .inl wf))] rfl (by decide) (show [ta, tk, tq, tw] = [ta, tk, tq, tw] from rfl) (rfl) dX5_best_30 ?_
      refine V.sts (st' := [.int (wsum kf sf wf 0 tn)]) rfl ?_
      refine v_istore_n C [(0, .ref xo), (1, .int x), (2, .int 0), (3, .int (wsum kf sf wf 0 tn))] [1, 2, 3, 0] dX5_best_33 (by decide) rfl ?_
      refine v_iconst C (v := 1) dX5_best_34 (by decide) ?_
      refine v_istore C [(0, .ref xo), (1, .int x), (2, .int 0), (3, .int (wsum kf sf wf 0 tn)), (4, .int 1)] [1, 2, 3, 4, 0] dX5_best_35 (by decide) rfl ?_
      have L37 : ∀ (n : Nat) (i : Nat) (y0 : Int32) (y1 : Int32) (y2 : Int32), y0 = ((beS (wN kf sf wf tn) i).1) → y1 = ((beS (wN kf sf wf tn) i).2) → y2 = (nI (i + 1)) → (i + 1 ≤ 2 ^ pn) → (2 ^ pn - i) < n → V p l e ({ frames := 4, cells := 0, slots := 0, locals := 91 }) s m (List.toArray [.ref xo, .int x]) below meth c 0 0 (MQ below (vq_Q (some (.int (if 0 < nI pn then (if zo x = true then (if x = 0 then (beS (wN kf sf wf tn) (2 ^ pn - 1)).1 else (beS (wN kf sf wf tn) (2 ^ pn - 1)).2) else -1000001) else -1000002))) D [(xo, .inr (5, [.ref xr, .ref xd, .ref ta, .ref tb, .ref xi, .ref aa, .ref sa, .int lf, .int fg])), (ta, .inr (4, [.ref tk, .ref tq, .ref tw, .int (nI pn), .int (nI tn), .int aw, .int me, .int sp])), (tk, .inl (cs 0, 8, .inl kf)), (tq, .inl (cs 0, 8, .inl sf)), (tw, .inl (cs 0, 8, .inl wf))] [(xo, .inr (5, [.ref xr, .ref xd, .ref ta, .ref tb, .ref xi, .ref aa, .ref sa, .int lf, .int fg])), (ta, .inr (4, [.ref tk, .ref tq, .ref tw, .int (nI pn), .int (nI tn), .int aw, .int me, .int sp])), (tk, .inl (cs 0, 8, .inl kf)), (tq, .inl (cs 0, 8, .inl sf)), (tw, .inl (cs 0, 8, .inl wf))] s.heap.size) (List.toArray [.ref xo, .int x]) s 0 0 (va_A [(xo, .inr (5, [.ref xr, .ref xd, .ref ta, .ref tb, .ref xi, .ref aa, .ref sa, .int lf, .int fg])), (ta, .inr (4, [.ref tk, .ref tq, .ref tw, .int (nI pn), .int (nI tn), .int aw, .int me, .int sp])), (tk, .inl (cs 0, 8, .inl kf)), (tq, .inl (cs 0, 8, .inl sf)), (tw, .inl (cs 0, 8, .inl wf))] s.heap.size)) 6 D A s.heap 37 [(0, .ref xo), (1, .int x), (2, .int y0), (3, .int y1), (4, .int y2)] [] [(xo, .inr (5, [.ref xr, .ref xd, .ref ta, .ref tb, .ref xi, .ref aa, .ref sa, .int lf, .int fg])), (ta, .inr (4, [.ref tk, .ref tq, .ref tw, .int (nI pn), .int (nI tn), .int aw, .int me, .int sp])), (tk, .inl (cs 0, 8, .inl kf)), (tq, .inl (cs 0, 8, .inl sf)), (tw, .inl (cs 0, 8, .inl wf))] := by
        intro n
        induction n with
        | zero =>
          intros; omega
        | succ n ih37 =>
          intro i y0 y1 y2 ey0 ey1 ey2 hi hn
          subst ey0
          subst ey1
          subst ey2
          refine v_iload C 4 dX5_best_37 rfl ?_
          refine v_aload_n C 0 dX5_best_39 rfl ?_
          refine v_get C (v := .ref ta) fl_X5_best_26 0 rfl rfl dX5_best_40 ?_
          refine v_callVN (qi := 0) C [] [.int (nI (i + 1))] kX4_everybody gX5_best_X4_everybody_n189 (host := "TableShares") (by decide +kernel) nq_X5_best_X4_everybody (c_everybody l D cs (ta := ta) (tk := tk) (tq := tq) (tw := tw) (pe := (nI pn)) (ti := (nI tn)) (aw := aw) (me := me) (sp := sp) ) ⟨Nat.le_of_ble_eq_true rfl, Nat.le_of_ble_eq_true rfl⟩ ⟨rfl, rfl⟩ ⟨Nat.zero_le _, Nat.zero_le _⟩ rfl 1 rfl rfl rfl rfl (Nat.le_of_ble_eq_true rfl) [1] [(xo, .inr (5, [.ref xr, .ref xd, .ref ta, .ref tb, .ref xi, .ref aa, .ref sa, .int lf, .int fg])), (ta, .inr (4, [.ref tk, .ref tq, .ref tw, .int (nI pn), .int (nI tn), .int aw, .int me, .int sp])), (tk, .inl (cs 0, 8, .inl kf)), (tq, .inl (cs 0, 8, .inl sf)), (tw, .inl (cs 0, 8, .inl wf))] rfl (by decide) (show [ta] = [ta] from rfl) (rfl) dX5_best_43 ?_
          refine V.sts (st' := [.int (allI (nI pn)), .int (nI (i + 1))]) rfl ?_
          refine V.topr (y := nI (2 ^ pn - 1)) (all_nI pn hpn) ?_
          refine v_icmp_gt C 96 dX5_best_46 (by decide) (fun c3 => ?_) (fun c3 => ?_)
          · skip
            have hge : 2 ^ pn - 1 < i + 1 := lt_nI c3 (by omega) (by omega)
            have hsub : i = 2 ^ pn - 1 := by omega
            subst hsub
            refine v_iload_n C 1 dX5_best_96 rfl ?_
            refine v_if_ne C 104 dX5_best_97 (by decide) (fun c4 => ?_) (fun c4 => ?_)
            · skip
              refine v_iload_n C 3 dX5_best_104 rfl ?_
              exact v_iret C E (rfl) (by first | rfl | (simp only [c1, of_decide_eq_true c1, c2, c3, Int32.not_le.mpr c3, c4, ↓reduceIte, Bool.false_eq_true, reduceCtorEq, Bool.and_true, Bool.true_and, Bool.and_false, Bool.false_and]; done) | (simp [c1, of_decide_eq_true c1, c2, c3, Int32.not_le.mpr c3, c4]; done) | (simp_all [b2]; done)) dX5_best_105
            · skip
              refine v_iload_n C 2 dX5_best_100 rfl ?_
              refine v_goto C 105 dX5_best_101 (by decide) ?_
              exact v_iret C E (rfl) (by first | rfl | (simp only [c1, of_decide_eq_true c1, c2, c3, Int32.not_le.mpr c3, c4, ↓reduceIte, Bool.false_eq_true, reduceCtorEq, Bool.and_true, Bool.true_and, Bool.and_false, Bool.false_and]; done) | (simp [c1, of_decide_eq_true c1, c2, c3, Int32.not_le.mpr c3, c4]; done) | (simp_all [b2]; done)) dX5_best_105
          · skip
            have hlt : i + 1 < 2 ^ pn := by have h9 := nlt_nI c3 (by omega) (by omega); omega
            refine v_aload_n C 0 dX5_best_49 rfl ?_
            refine v_get C (v := .ref ta) fl_X5_best_26 0 rfl rfl dX5_best_50 ?_
            refine v_iload C 4 dX5_best_53 rfl ?_
            refine v_callVN (qi := 0) C [.int (nI (i + 1))] [] kX4_worthOfSet gX5_best_X4_worthOfSet_n167 (host := "TableShares") (by decide +kernel) nq_X5_best_X4_worthOfSet (c_worthOfSet l D cs (ta := ta) (tk := tk) (tq := tq) (tw := tw) (kf := kf) (sf := sf) (wf := wf) (pe := (nI pn)) (aw := aw) (me := me) (sp := sp) (tn := tn) (th := (nI (i + 1))) (by first | assumption | omega) (by first | assumption | omega)) ⟨Nat.le_of_ble_eq_true rfl, Nat.le_of_ble_eq_true rfl⟩ ⟨rfl, rfl⟩ ⟨Nat.zero_le _, Nat.zero_le _⟩ rfl 1 rfl rfl rfl rfl (Nat.le_of_ble_eq_true rfl) [1, 2, 3, 4] [(xo, .inr (5, [.ref xr, .ref xd, .ref ta, .ref tb, .ref xi, .ref aa, .ref sa, .int lf, .int fg])), (ta, .inr (4, [.ref tk, .ref tq, .ref tw, .int (nI pn), .int (nI tn), .int aw, .int me, .int sp])), (tk, .inl (cs 0, 8, .inl kf)), (tq, .inl (cs 0, 8, .inl sf)), (tw, .inl (cs 0, 8, .inl wf))] rfl (by decide) (show [ta, tk, tq, tw] = [ta, tk, tq, tw] from rfl) (rfl) dX5_best_55 ?_
            refine V.sts (st' := [.int (wsum kf sf wf (nI (i + 1)) tn)]) rfl ?_
            refine v_istore C [(0, .ref xo), (1, .int x), (2, .int ((beS (wN kf sf wf tn) i).1)), (3, .int ((beS (wN kf sf wf tn) i).2)), (4, .int (nI (i + 1))), (5, .int (wsum kf sf wf (nI (i + 1)) tn))] [1, 2, 3, 4, 5, 0] dX5_best_58 (by decide) rfl ?_
            refine v_iload C 5 dX5_best_60 rfl ?_
            refine v_iload_n C 3 dX5_best_62 rfl ?_
            refine v_icmp_gt C 84 dX5_best_63 (by decide) (fun c5 => ?_) (fun c5 => ?_)
            · skip
              refine v_iload C 4 dX5_best_84 rfl ?_
              refine v_istore_n C [(0, .ref xo), (1, .int x), (2, .int (nI (i + 1))), (3, .int ((beS (wN kf sf wf tn) i).2)), (4, .int (nI (i + 1))), (5, .int (wsum kf sf wf (nI (i + 1)) tn))] [1, 2, 0, 3, 4, 5] dX5_best_86 (by decide) rfl ?_
              refine v_iload C 5 dX5_best_87 rfl ?_
              refine v_istore_n C [(0, .ref xo), (1, .int x), (2, .int (nI (i + 1))), (3, .int (wsum kf sf wf (nI (i + 1)) tn)), (4, .int (nI (i + 1))), (5, .int (wsum kf sf wf (nI (i + 1)) tn))] [1, 2, 3, 0, 4, 5] dX5_best_89 (by decide) rfl ?_
              refine v_iinc C (k := 4) (nI ((i + 1) + 1)) [(0, .ref xo), (1, .int x), (2, .int (nI (i + 1))), (3, .int (wsum kf sf wf (nI (i + 1)) tn)), (4, .int (nI ((i + 1) + 1))), (5, .int (wsum kf sf wf (nI (i + 1)) tn))] [1, 2, 3, 4, 0, 5] dX5_best_90 rfl (nI_inc _) (by decide) rfl ?_
              refine v_goto C 37 dX5_best_93 (by decide) ?_
              refine V.lvs (lv' := [(0, .ref xo), (1, .int x), (2, .int (nI (i + 1))), (3, .int (wsum kf sf wf (nI (i + 1)) tn)), (4, .int (nI ((i + 1) + 1)))]) [0, 1, 2, 3, 4] rfl ?_
              exact ih37 (i + 1) _ _ _ (by simp only [beS, wN, Int32.lt_irrefl, c1, of_decide_eq_true c1, c2, c3, Int32.not_lt.mp c3, c5, Int32.not_le.mpr c5, decide_true, decide_false, ↓reduceIte, Bool.false_eq_true]) (by simp only [beS, wN, Int32.lt_irrefl, c1, of_decide_eq_true c1, c2, c3, Int32.not_lt.mp c3, c5, Int32.not_le.mpr c5, decide_true, decide_false, ↓reduceIte, Bool.false_eq_true]) (rfl) (by omega) (by omega)
            · skip
              refine v_iload C 5 dX5_best_66 rfl ?_
              refine v_iload_n C 3 dX5_best_68 rfl ?_
              refine v_icmp_ne C 90 dX5_best_69 (by decide) (fun c6 => ?_) (fun c6 => ?_)
              · skip
                refine v_iinc C (k := 4) (nI ((i + 1) + 1)) [(0, .ref xo), (1, .int x), (2, .int ((beS (wN kf sf wf tn) i).1)), (3, .int ((beS (wN kf sf wf tn) i).2)), (4, .int (nI ((i + 1) + 1))), (5, .int (wsum kf sf wf (nI (i + 1)) tn))] [1, 2, 3, 4, 0, 5] dX5_best_90 rfl (nI_inc _) (by decide) rfl ?_
                refine v_goto C 37 dX5_best_93 (by decide) ?_
                refine V.lvs (lv' := [(0, .ref xo), (1, .int x), (2, .int ((beS (wN kf sf wf tn) i).1)), (3, .int ((beS (wN kf sf wf tn) i).2)), (4, .int (nI ((i + 1) + 1)))]) [0, 1, 2, 3, 4] rfl ?_
                exact ih37 (i + 1) _ _ _ (by simp only [beS, wN, Int32.lt_irrefl, c1, of_decide_eq_true c1, c2, c3, Int32.not_lt.mp c3, c5, Int32.not_lt.mp c5, c6, decide_true, decide_false, ↓reduceIte, Bool.false_eq_true]) (by simp only [beS, wN, Int32.lt_irrefl, c1, of_decide_eq_true c1, c2, c3, Int32.not_lt.mp c3, c5, Int32.not_lt.mp c5, c6, decide_true, decide_false, ↓reduceIte, Bool.false_eq_true]) (rfl) (by omega) (by omega)
              · skip
                refine v_iload C 4 dX5_best_72 rfl ?_
                refine v_callS C [.int (nI (i + 1))] [] kJ6_bitCount_0f7a4 gX5_best_J6_bitCount_0f7a4 (c_bc l D cs (x := (nI (i + 1))) (by first | exact ⟨i + 1, by omega, rfl⟩ | exact beS_s64 _ _ (by omega))) ⟨Nat.le_of_ble_eq_true rfl, Nat.le_of_ble_eq_true rfl⟩ ⟨rfl, rfl⟩ ⟨Nat.zero_le _, Nat.zero_le _⟩ rfl rfl (Nat.le_of_ble_eq_true rfl) [] [(xo, .inr (5, [.ref xr, .ref xd, .ref ta, .ref tb, .ref xi, .ref aa, .ref sa, .int lf, .int fg])), (ta, .inr (4, [.ref tk, .ref tq, .ref tw, .int (nI pn), .int (nI tn), .int aw, .int me, .int sp])), (tk, .inl (cs 0, 8, .inl kf)), (tq, .inl (cs 0, 8, .inl sf)), (tw, .inl (cs 0, 8, .inl wf))] rfl (by decide) rfl (rfl) dX5_best_74 ?_
                refine V.sts (st' := [.int (pcI (nI (i + 1)))]) rfl ?_
                refine V.topr (y := nI (pop (i + 1))) (pc_nI (by omega)) ?_
                refine v_iload_n C 2 dX5_best_77 rfl ?_
                refine v_callS C [.int ((beS (wN kf sf wf tn) i).1)] [.int (nI (pop (i + 1)))] kJ6_bitCount_0f7a4 gX5_best_J6_bitCount_0f7a4 (c_bc l D cs (x := ((beS (wN kf sf wf tn) i).1)) (by first | exact ⟨i + 1, by omega, rfl⟩ | exact beS_s64 _ _ (by omega))) ⟨Nat.le_of_ble_eq_true rfl, Nat.le_of_ble_eq_true rfl⟩ ⟨rfl, rfl⟩ ⟨Nat.zero_le _, Nat.zero_le _⟩ rfl rfl (Nat.le_of_ble_eq_true rfl) [] [(xo, .inr (5, [.ref xr, .ref xd, .ref ta, .ref tb, .ref xi, .ref aa, .ref sa, .int lf, .int fg])), (ta, .inr (4, [.ref tk, .ref tq, .ref tw, .int (nI pn), .int (nI tn), .int aw, .int me, .int sp])), (tk, .inl (cs 0, 8, .inl kf)), (tq, .inl (cs 0, 8, .inl sf)), (tw, .inl (cs 0, 8, .inl wf))] rfl (by decide) rfl (rfl) dX5_best_78 ?_
                refine V.sts (st' := [.int (pcI ((beS (wN kf sf wf tn) i).1)), .int (nI (pop (i + 1)))]) rfl ?_
                refine v_icmp_ge C 90 dX5_best_81 (by decide) (fun c7 => ?_) (fun c7 => ?_)
                · skip
                  refine v_iinc C (k := 4) (nI ((i + 1) + 1)) [(0, .ref xo), (1, .int x), (2, .int ((beS (wN kf sf wf tn) i).1)), (3, .int ((beS (wN kf sf wf tn) i).2)), (4, .int (nI ((i + 1) + 1))), (5, .int (wsum kf sf wf (nI (i + 1)) tn))] [1, 2, 3, 4, 0, 5] dX5_best_90 rfl (nI_inc _) (by decide) rfl ?_
                  refine v_goto C 37 dX5_best_93 (by decide) ?_
                  refine V.lvs (lv' := [(0, .ref xo), (1, .int x), (2, .int ((beS (wN kf sf wf tn) i).1)), (3, .int ((beS (wN kf sf wf tn) i).2)), (4, .int (nI ((i + 1) + 1)))]) [0, 1, 2, 3, 4] rfl ?_
                  exact ih37 (i + 1) _ _ _ (by simp only [beS, wN, Int32.lt_irrefl, c1, of_decide_eq_true c1, c2, c3, Int32.not_lt.mp c3, c5, Int32.not_lt.mp c5, c6, c7, Int32.not_lt.mpr c7, decide_true, decide_false, ↓reduceIte, Bool.false_eq_true]) (by simp only [beS, wN, Int32.lt_irrefl, c1, of_decide_eq_true c1, c2, c3, Int32.not_lt.mp c3, c5, Int32.not_lt.mp c5, c6, c7, Int32.not_lt.mpr c7, decide_true, decide_false, ↓reduceIte, Bool.false_eq_true]) (rfl) (by omega) (by omega)
                · skip
                  refine v_iload C 4 dX5_best_84 rfl ?_
                  refine v_istore_n C [(0, .ref xo), (1, .int x), (2, .int (nI (i + 1))), (3, .int ((beS (wN kf sf wf tn) i).2)), (4, .int (nI (i + 1))), (5, .int (wsum kf sf wf (nI (i + 1)) tn))] [1, 2, 0, 3, 4, 5] dX5_best_86 (by decide) rfl ?_
                  refine v_iload C 5 dX5_best_87 rfl ?_
                  refine v_istore_n C [(0, .ref xo), (1, .int x), (2, .int (nI (i + 1))), (3, .int (wsum kf sf wf (nI (i + 1)) tn)), (4, .int (nI (i + 1))), (5, .int (wsum kf sf wf (nI (i + 1)) tn))] [1, 2, 3, 0, 4, 5] dX5_best_89 (by decide) rfl ?_
                  refine v_iinc C (k := 4) (nI ((i + 1) + 1)) [(0, .ref xo), (1, .int x), (2, .int (nI (i + 1))), (3, .int (wsum kf sf wf (nI (i + 1)) tn)), (4, .int (nI ((i + 1) + 1))), (5, .int (wsum kf sf wf (nI (i + 1)) tn))] [1, 2, 3, 4, 0, 5] dX5_best_90 rfl (nI_inc _) (by decide) rfl ?_
                  refine v_goto C 37 dX5_best_93 (by decide) ?_
                  refine V.lvs (lv' := [(0, .ref xo), (1, .int x), (2, .int (nI (i + 1))), (3, .int (wsum kf sf wf (nI (i + 1)) tn)), (4, .int (nI ((i + 1) + 1)))]) [0, 1, 2, 3, 4] rfl ?_
                  exact ih37 (i + 1) _ _ _ (by simp only [beS, wN, Int32.lt_irrefl, c1, of_decide_eq_true c1, c2, c3, Int32.not_lt.mp c3, c5, Int32.not_lt.mp c5, c6, c7, Int32.not_le.mp c7, decide_true, decide_false, ↓reduceIte, Bool.false_eq_true]) (by simp only [beS, wN, Int32.lt_irrefl, c1, of_decide_eq_true c1, c2, c3, Int32.not_lt.mp c3, c5, Int32.not_lt.mp c5, c6, c7, Int32.not_le.mp c7, decide_true, decide_false, ↓reduceIte, Bool.false_eq_true]) (rfl) (by omega) (by omega)
      exact L37 _ 0 _ _ _ (rfl) (rfl) (rfl) (by omega) (Nat.lt_succ_self _)
    · skip
      refine v_ldc C (v := -1000001) (by decide +kernel) dX5_best_20 ?_
      exact v_iret C E (rfl) (by first | rfl | (simp only [c1, of_decide_eq_true c1, c2, ↓reduceIte, Bool.false_eq_true, reduceCtorEq, Bool.and_true, Bool.true_and, Bool.and_false, Bool.false_and]; done) | (simp [c1, of_decide_eq_true c1, c2]; done) | (simp_all [b2]; done)) dX5_best_22
  · skip
    refine v_ldc C (v := -1000002) (by decide +kernel) dX5_best_10 ?_
    exact v_iret C E (rfl) (by first | rfl | (simp only [c1, of_decide_eq_false c1, ↓reduceIte, Bool.false_eq_true, reduceCtorEq, Bool.and_true, Bool.true_and, Bool.and_false, Bool.false_and]; done) | (simp [c1, of_decide_eq_false c1]; done) | (simp_all [b2]; done)) dX5_best_12
theorem kX5_bring : KD yX5_bring wsX5_bring cX5_bring 6 (some .int) 1 := ⟨⟨_, rfl⟩, by decide, by decide +kernel, by decide +kernel, by decide +kernel⟩
theorem in_X5_bring_X5 : ∀ w ∈ wsX50, w ∈ wsX5_bring := by decide +kernel
theorem fl_X5_bring_26 : FL RX5 wsX5_bring RX5 RX5 TX5 9 5 2 26 := ⟨⟨in_X5_bring_X5, rfl, by decide, rfl⟩, by decide +kernel⟩
theorem nq_X5_bring_X4_stands : Cond.initialized yX4_stands.cls ∈ wsX5_bring ∧ Cond.instanceMethod yX4_stands ∈ wsX5_bring ∧ Cond.selects yX4_stands.cls yX4_stands yX4_stands ∈ wsX5_bring := ⟨by decide +kernel, by decide +kernel, by decide +kernel⟩
theorem in_X5_bring_X4 : ∀ w ∈ wsX40, w ∈ wsX5_bring := by decide +kernel
theorem fn_X5_bring_199 : FLN RX5 wsX5_bring RX4 RX4 TX4 8 4 3 199 := ⟨⟨in_X5_bring_X4, rfl, by decide, rfl⟩, "TableShares", by decide +kernel⟩
theorem fn_X5_bring_130 : FLN RX5 wsX5_bring RX4 RX4 TX4 8 4 5 130 := ⟨⟨in_X5_bring_X4, rfl, by decide, rfl⟩, "TableShares", by decide +kernel⟩
theorem nq_X5_bring_X4_there : Cond.initialized yX4_there.cls ∈ wsX5_bring ∧ Cond.instanceMethod yX4_there ∈ wsX5_bring ∧ Cond.selects yX4_there.cls yX4_there yX4_there ∈ wsX5_bring := ⟨by decide +kernel, by decide +kernel, by decide +kernel⟩
theorem nq_X5_bring_X4_addedBy : Cond.initialized yX4_addedBy.cls ∈ wsX5_bring ∧ Cond.instanceMethod yX4_addedBy ∈ wsX5_bring ∧ Cond.selects yX4_addedBy.cls yX4_addedBy yX4_addedBy ∈ wsX5_bring := ⟨by decide +kernel, by decide +kernel, by decide +kernel⟩
set_option maxHeartbeats 4000000 in
set_option maxRecDepth 100000 in
theorem c_bring (l : Launch) (D : va_G) (cs : Nat → ClassId) {xo : Nat} {xr : Nat} {xd : Nat} {ta : Nat} {tb : Nat} {xi : Nat} {aa : Nat} {sa : Nat} {lf : Int32} {fg : Int32} {tk : Nat} {tq : Nat} {tw : Nat} {kf : Nat → Int32} {sf : Nat → Int32} {wf : Nat → Int32} {pn : Nat} {aw : Int32} {me : Int32} {sp : Int32} {tn : Nat} {x : Int32} (hS : ∀ t, s64 (sf t)) (hti : tn ≤ 8) (hpn : pn ≤ 6) : CT l D (tz cs) yX5_bring wsX5_bring ({ frames := 5, cells := 0, slots := 0, locals := 113 }) [.ref xo, .int x] [(xo, .inr (5, [.ref xr, .ref xd, .ref ta, .ref tb, .ref xi, .ref aa, .ref sa, .int lf, .int fg])), (ta, .inr (4, [.ref tk, .ref tq, .ref tw, .int (nI pn), .int (nI tn), .int aw, .int me, .int sp])), (tk, .inl (cs 0, 8, .inl kf)), (tq, .inl (cs 0, 8, .inl sf)), (tw, .inl (cs 0, 8, .inl wf))] (some (.int (if 0 < nI pn then (if zo x = true then (if x = 0 then (brS kf sf wf tn aw (thI (nI pn) aw) pn).1 else (brS kf sf wf tn aw (thI (nI pn) aw) pn).2) else -1000001) else -1000002))) [(xo, .inr (5, [.ref xr, .ref xd, .ref ta, .ref tb, .ref xi, .ref aa, .ref sa, .int lf, .int fg])), (ta, .inr (4, [.ref tk, .ref tq, .ref tw, .int (nI pn), .int (nI tn), .int aw, .int me, .int sp])), (tk, .inl (cs 0, 8, .inl kf)), (tq, .inl (cs 0, 8, .inl sf)), (tw, .inl (cs 0, 8, .inl wf))] := by
  refine CT.of kX5_bring (Nat.le_of_ble_eq_true rfl) ?_
  intro p e s m below meth c A C E
  have C : VOk p s m _ c cX5_bring 6 wsX5_bring RX5 D (tz cs) A s.heap := C
  refine V.lvs (lv' := [(0, .ref xo), (1, .int x)]) [0, 1] rfl ?_
  have hpw := pw64 pn hpn
  refine v_aload_n C 0 dX5_bring_0 rfl ?_
  refine v_get C (v := .ref ta) fl_X5_bring_26 0 rfl rfl dX5_bring_1 ?_
  refine v_callVN (qi := 0) C [] [] kX4_stands gX5_bring_X4_stands_n138 (host := "TableShares") (by decide +kernel) nq_X5_bring_X4_stands (c_stands l D cs (ta := ta) (tk := tk) (tq := tq) (tw := tw) (pe := (nI pn)) (ti := (nI tn)) (aw := aw) (me := me) (sp := sp) ) ⟨Nat.le_of_ble_eq_true rfl, Nat.le_of_ble_eq_true rfl⟩ ⟨rfl, rfl⟩ ⟨Nat.zero_le _, Nat.zero_le _⟩ rfl 1 rfl rfl rfl rfl (Nat.le_of_ble_eq_true rfl) [1] [(xo, .inr (5, [.ref xr, .ref xd, .ref ta, .ref tb, .ref xi, .ref aa, .ref sa, .int lf, .int fg])), (ta, .inr (4, [.ref tk, .ref tq, .ref tw, .int (nI pn), .int (nI tn), .int aw, .int me, .int sp])), (tk, .inl (cs 0, 8, .inl kf)), (tq, .inl (cs 0, 8, .inl sf)), (tw, .inl (cs 0, 8, .inl wf))] rfl (by decide) (show [ta] = [ta] from rfl) (rfl) dX5_bring_4 ?_
  refine V.sts (st' := [.int (b2 (decide (0 < (nI pn))))]) rfl ?_
  refine v_if_neB C 13 dX5_bring_7 (by decide) (fun c1 => ?_) (fun c1 => ?_)
  · skip
    refine v_iload_n C 1 dX5_bring_13 rfl ?_
    refine v_callS C [.int x] [] kX5_isZeroOrOne gX5_bring_X5_isZeroOrOne (c_zo l D cs (x := x) ) ⟨Nat.le_of_ble_eq_true rfl, Nat.le_of_ble_eq_true rfl⟩ ⟨rfl, rfl⟩ ⟨Nat.zero_le _, Nat.zero_le _⟩ rfl rfl (Nat.le_of_ble_eq_true rfl) [] [(xo, .inr (5, [.ref xr, .ref xd, .ref ta, .ref tb, .ref xi, .ref aa, .ref sa, .int lf, .int fg])), (ta, .inr (4, [.ref tk, .ref tq, .ref tw, .int (nI pn), .int (nI tn), .int aw, .int me, .int sp])), (tk, .inl (cs 0, 8, .inl kf)), (tq, .inl (cs 0, 8, .inl sf)), (tw, .inl (cs 0, 8, .inl wf))] rfl (by decide) rfl (rfl) dX5_bring_14 ?_
    refine V.sts (st' := [.int (b2 (zo x))]) rfl ?_
    refine v_if_neB C 23 dX5_bring_17 (by decide) (fun c2 => ?_) (fun c2 => ?_)
    · skip
      refine v_ldc C (v := -1000000) (by decide +kernel) dX5_bring_23 ?_
      refine v_istore_n C [(0, .ref xo), (1, .int x), (2, .int (-1000000))] [1, 2, 0] dX5_bring_25 (by decide) rfl ?_
      refine v_ldc C (v := -1000000) (by decide +kernel) dX5_bring_26 ?_
      refine v_istore_n C [(0, .ref xo), (1, .int x), (2, .int (-1000000)), (3, .int (-1000000))] [1, 2, 3, 0] dX5_bring_28 (by decide) rfl ?_
      refine v_iconst C (v := 0) dX5_bring_29 (by decide) ?_
      refine v_istore C [(0, .ref xo), (1, .int x), (2, .int (-1000000)), (3, .int (-1000000)), (4, .int 0)] [1, 2, 3, 4, 0] dX5_bring_30 (by decide) rfl ?_
      have L32 : ∀ (n : Nat) (i : Nat) (y0 : Int32) (y1 : Int32) (y2 : Int32), y0 = ((brS kf sf wf tn aw (thI (nI pn) aw) i).1) → y1 = ((brS kf sf wf tn aw (thI (nI pn) aw) i).2) → y2 = (nI i) → (i ≤ pn) → (pn - i) < n → V p l e ({ frames := 5, cells := 0, slots := 0, locals := 113 }) s m (List.toArray [.ref xo, .int x]) below meth c 0 0 (MQ below (vq_Q (some (.int (if 0 < nI pn then (if zo x = true then (if x = 0 then (brS kf sf wf tn aw (thI (nI pn) aw) pn).1 else (brS kf sf wf tn aw (thI (nI pn) aw) pn).2) else -1000001) else -1000002))) D [(xo, .inr (5, [.ref xr, .ref xd, .ref ta, .ref tb, .ref xi, .ref aa, .ref sa, .int lf, .int fg])), (ta, .inr (4, [.ref tk, .ref tq, .ref tw, .int (nI pn), .int (nI tn), .int aw, .int me, .int sp])), (tk, .inl (cs 0, 8, .inl kf)), (tq, .inl (cs 0, 8, .inl sf)), (tw, .inl (cs 0, 8, .inl wf))] [(xo, .inr (5, [.ref xr, .ref xd, .ref ta, .ref tb, .ref xi, .ref aa, .ref sa, .int lf, .int fg])), (ta, .inr (4, [.ref tk, .ref tq, .ref tw, .int (nI pn), .int (nI tn), .int aw, .int me, .int sp])), (tk, .inl (cs 0, 8, .inl kf)), (tq, .inl (cs 0, 8, .inl sf)), (tw, .inl (cs 0, 8, .inl wf))] s.heap.size) (List.toArray [.ref xo, .int x]) s 0 0 (va_A [(xo, .inr (5, [.ref xr, .ref xd, .ref ta, .ref tb, .ref xi, .ref aa, .ref sa, .int lf, .int fg])), (ta, .inr (4, [.ref tk, .ref tq, .ref tw, .int (nI pn), .int (nI tn), .int aw, .int me, .int sp])), (tk, .inl (cs 0, 8, .inl kf)), (tq, .inl (cs 0, 8, .inl sf)), (tw, .inl (cs 0, 8, .inl wf))] s.heap.size)) 6 D A s.heap 32 [(0, .ref xo), (1, .int x), (2, .int y0), (3, .int y1), (4, .int y2)] [] [(xo, .inr (5, [.ref xr, .ref xd, .ref ta, .ref tb, .ref xi, .ref aa, .ref sa, .int lf, .int fg])), (ta, .inr (4, [.ref tk, .ref tq, .ref tw, .int (nI pn), .int (nI tn), .int aw, .int me, .int sp])), (tk, .inl (cs 0, 8, .inl kf)), (tq, .inl (cs 0, 8, .inl sf)), (tw, .inl (cs 0, 8, .inl wf))] := by
        intro n
        induction n with
        | zero =>
          intros; omega
        | succ n ih32 =>
          intro i y0 y1 y2 ey0 ey1 ey2 hi hn
          subst ey0
          subst ey1
          subst ey2
          refine v_iload C 4 dX5_bring_32 rfl ?_
          refine v_aload_n C 0 dX5_bring_34 rfl ?_
          refine v_get C (v := .ref ta) fl_X5_bring_26 0 rfl rfl dX5_bring_35 ?_
          refine v_getN C (v := .int (nI pn)) fn_X5_bring_199 1 rfl rfl dX5_bring_38 ?_
          refine v_icmp_ge C 101 dX5_bring_41 (by decide) (fun c3 => ?_) (fun c3 => ?_)
          · skip
            have hge : pn ≤ i := le_nI c3 (by omega) (by omega)
            have hsub : i = pn := by omega
            subst hsub
            refine v_iload_n C 1 dX5_bring_101 rfl ?_
            refine v_if_ne C 109 dX5_bring_102 (by decide) (fun c4 => ?_) (fun c4 => ?_)
            · skip
              refine v_iload_n C 3 dX5_bring_109 rfl ?_
              exact v_iret C E (rfl) (by first | rfl | (simp only [c1, of_decide_eq_true c1, c2, c3, Int32.not_lt.mpr c3, c4, ↓reduceIte, Bool.false_eq_true, reduceCtorEq, Bool.and_true, Bool.true_and, Bool.and_false, Bool.false_and]; done) | (simp [c1, of_decide_eq_true c1, c2, c3, Int32.not_lt.mpr c3, c4]; done) | (simp_all [b2]; done)) dX5_bring_110
            · skip
              refine v_iload_n C 2 dX5_bring_105 rfl ?_
              refine v_goto C 110 dX5_bring_106 (by decide) ?_
              exact v_iret C E (rfl) (by first | rfl | (simp only [c1, of_decide_eq_true c1, c2, c3, Int32.not_lt.mpr c3, c4, ↓reduceIte, Bool.false_eq_true, reduceCtorEq, Bool.and_true, Bool.true_and, Bool.and_false, Bool.false_and]; done) | (simp [c1, of_decide_eq_true c1, c2, c3, Int32.not_lt.mpr c3, c4]; done) | (simp_all [b2]; done)) dX5_bring_110
          · skip
            have hlt : i < pn := nle_nI c3 (by omega) (by omega)
            refine v_aload_n C 0 dX5_bring_44 rfl ?_
            refine v_get C (v := .ref ta) fl_X5_bring_26 0 rfl rfl dX5_bring_45 ?_
            refine v_getN C (v := .int aw) fn_X5_bring_130 1 rfl rfl dX5_bring_48 ?_
            refine v_iload C 4 dX5_bring_51 rfl ?_
            refine v_callS C [.int aw, .int (nI i)] [] kX5_has gX5_bring_X5_has (c_has l D cs (x := aw) (q := (nI i)) ) ⟨Nat.le_of_ble_eq_true rfl, Nat.le_of_ble_eq_true rfl⟩ ⟨rfl, rfl⟩ ⟨Nat.zero_le _, Nat.zero_le _⟩ rfl rfl (Nat.le_of_ble_eq_true rfl) [] [(xo, .inr (5, [.ref xr, .ref xd, .ref ta, .ref tb, .ref xi, .ref aa, .ref sa, .int lf, .int fg])), (ta, .inr (4, [.ref tk, .ref tq, .ref tw, .int (nI pn), .int (nI tn), .int aw, .int me, .int sp])), (tk, .inl (cs 0, 8, .inl kf)), (tq, .inl (cs 0, 8, .inl sf)), (tw, .inl (cs 0, 8, .inl wf))] rfl (by decide) rfl (rfl) dX5_bring_53 ?_
            refine V.sts (st' := [.int (b2 (hasB aw (nI i)))]) rfl ?_
            refine v_if_eqB C 95 dX5_bring_56 (by decide) (fun c5 => ?_) (fun c5 => ?_)
            · skip
              refine v_iinc C (k := 4) (nI (i + 1)) [(0, .ref xo), (1, .int x), (2, .int ((brS kf sf wf tn aw (thI (nI pn) aw) i).1)), (3, .int ((brS kf sf wf tn aw (thI (nI pn) aw) i).2)), (4, .int (nI (i + 1)))] [1, 2, 3, 4, 0] dX5_bring_95 rfl (nI_inc _) (by decide) rfl ?_
              refine v_goto C 32 dX5_bring_98 (by decide) ?_
              exact ih32 (i + 1) _ _ _ (by simp only [brS, c1, of_decide_eq_true c1, c2, c3, Int32.not_le.mp c3, c5, decide_true, decide_false, ↓reduceIte, Bool.false_eq_true]) (by simp only [brS, c1, of_decide_eq_true c1, c2, c3, Int32.not_le.mp c3, c5, decide_true, decide_false, ↓reduceIte, Bool.false_eq_true]) (rfl) (by first | assumption | omega) (by omega)
            · skip
              refine v_aload_n C 0 dX5_bring_59 rfl ?_
              refine v_get C (v := .ref ta) fl_X5_bring_26 0 rfl rfl dX5_bring_60 ?_
              refine v_iload C 4 dX5_bring_63 rfl ?_
              refine v_aload_n C 0 dX5_bring_65 rfl ?_
              refine v_get C (v := .ref ta) fl_X5_bring_26 0 rfl rfl dX5_bring_66 ?_
              refine v_callVN (qi := 0) C [] [.int (nI i), .ref ta] kX4_there gX5_bring_X4_there_n163 (host := "TableShares") (by decide +kernel) nq_X5_bring_X4_there (c_there l D cs (ta := ta) (tk := tk) (tq := tq) (tw := tw) (pe := (nI pn)) (ti := (nI tn)) (aw := aw) (me := me) (sp := sp) ) ⟨Nat.le_of_ble_eq_true rfl, Nat.le_of_ble_eq_true rfl⟩ ⟨rfl, rfl⟩ ⟨Nat.zero_le _, Nat.zero_le _⟩ rfl 1 rfl rfl rfl rfl (Nat.le_of_ble_eq_true rfl) [1] [(xo, .inr (5, [.ref xr, .ref xd, .ref ta, .ref tb, .ref xi, .ref aa, .ref sa, .int lf, .int fg])), (ta, .inr (4, [.ref tk, .ref tq, .ref tw, .int (nI pn), .int (nI tn), .int aw, .int me, .int sp])), (tk, .inl (cs 0, 8, .inl kf)), (tq, .inl (cs 0, 8, .inl sf)), (tw, .inl (cs 0, 8, .inl wf))] rfl (by decide) (show [ta] = [ta] from rfl) (rfl) dX5_bring_69 ?_
              refine V.sts (st' := [.int (thI (nI pn) aw), .int (nI i), .ref ta]) rfl ?_
              refine v_callVN (qi := 0) C [.int (nI i), .int (thI (nI pn) aw)] [] kX4_addedBy gX5_bring_X4_addedBy_n195 (host := "TableShares") (by decide +kernel) nq_X5_bring_X4_addedBy (c_addedBy l D cs (ta := ta) (tk := tk) (tq := tq) (tw := tw) (kf := kf) (sf := sf) (wf := wf) (pe := (nI pn)) (aw := aw) (me := me) (sp := sp) (tn := tn) (q := (nI i)) (x := (thI (nI pn) aw)) (by first | assumption | omega) (by first | assumption | omega)) ⟨Nat.le_of_ble_eq_true rfl, Nat.le_of_ble_eq_true rfl⟩ ⟨rfl, rfl⟩ ⟨Nat.zero_le _, Nat.zero_le _⟩ rfl 1 rfl rfl rfl rfl (Nat.le_of_ble_eq_true rfl) [1, 2, 3, 4] [(xo, .inr (5, [.ref xr, .ref xd, .ref ta, .ref tb, .ref xi, .ref aa, .ref sa, .int lf, .int fg])), (ta, .inr (4, [.ref tk, .ref tq, .ref tw, .int (nI pn), .int (nI tn), .int aw, .int me, .int sp])), (tk, .inl (cs 0, 8, .inl kf)), (tq, .inl (cs 0, 8, .inl sf)), (tw, .inl (cs 0, 8, .inl wf))] rfl (by decide) (show [ta, tk, tq, tw] = [ta, tk, tq, tw] from rfl) (rfl) dX5_bring_72 ?_
              refine V.sts (st' := [.int (adI kf sf wf tn (thI (nI pn) aw) (nI i))]) rfl ?_
              refine v_istore C [(0, .ref xo), (1, .int x), (2, .int ((brS kf sf wf tn aw (thI (nI pn) aw) i).1)), (3, .int ((brS kf sf wf tn aw (thI (nI pn) aw) i).2)), (4, .int (nI i)), (5, .int (adI kf sf wf tn (thI (nI pn) aw) (nI i)))] [1, 2, 3, 4, 5, 0] dX5_bring_75 (by decide) rfl ?_
              refine v_iload_n C 2 dX5_bring_77 rfl ?_
              refine v_ldc C (v := -1000000) (by decide +kernel) dX5_bring_78 ?_
              refine v_icmp_eq C 89 dX5_bring_80 (by decide) (fun c6 => ?_) (fun c6 => ?_)
              · skip
                refine v_iload C 4 dX5_bring_89 rfl ?_
                refine v_istore_n C [(0, .ref xo), (1, .int x), (2, .int (nI i)), (3, .int ((brS kf sf wf tn aw (thI (nI pn) aw) i).2)), (4, .int (nI i)), (5, .int (adI kf sf wf tn (thI (nI pn) aw) (nI i)))] [1, 2, 0, 3, 4, 5] dX5_bring_91 (by decide) rfl ?_
                refine v_iload C 5 dX5_bring_92 rfl ?_
                refine v_istore_n C [(0, .ref xo), (1, .int x), (2, .int (nI i)), (3, .int (adI kf sf wf tn (thI (nI pn) aw) (nI i))), (4, .int (nI i)), (5, .int (adI kf sf wf tn (thI (nI pn) aw) (nI i)))] [1, 2, 3, 0, 4, 5] dX5_bring_94 (by decide) rfl ?_
                refine v_iinc C (k := 4) (nI (i + 1)) [(0, .ref xo), (1, .int x), (2, .int (nI i)), (3, .int (adI kf sf wf tn (thI (nI pn) aw) (nI i))), (4, .int (nI (i + 1))), (5, .int (adI kf sf wf tn (thI (nI pn) aw) (nI i)))] [1, 2, 3, 4, 0, 5] dX5_bring_95 rfl (nI_inc _) (by decide) rfl ?_
                refine v_goto C 32 dX5_bring_98 (by decide) ?_
                refine V.lvs (lv' := [(0, .ref xo), (1, .int x), (2, .int (nI i)), (3, .int (adI kf sf wf tn (thI (nI pn) aw) (nI i))), (4, .int (nI (i + 1)))]) [0, 1, 2, 3, 4] rfl ?_
                exact ih32 (i + 1) _ _ _ (by simp only [brS, c1, of_decide_eq_true c1, c2, c3, Int32.not_le.mp c3, c5, c6, decide_true, decide_false, ↓reduceIte, Bool.false_eq_true]) (by simp only [brS, c1, of_decide_eq_true c1, c2, c3, Int32.not_le.mp c3, c5, c6, decide_true, decide_false, ↓reduceIte, Bool.false_eq_true]) (rfl) (by first | assumption | omega) (by omega)
              · skip
                refine v_iload C 5 dX5_bring_83 rfl ?_
                refine v_iload_n C 3 dX5_bring_85 rfl ?_
                refine v_icmp_le C 95 dX5_bring_86 (by decide) (fun c7 => ?_) (fun c7 => ?_)
                · skip
                  refine v_iinc C (k := 4) (nI (i + 1)) [(0, .ref xo), (1, .int x), (2, .int ((brS kf sf wf tn aw (thI (nI pn) aw) i).1)), (3, .int ((brS kf sf wf tn aw (thI (nI pn) aw) i).2)), (4, .int (nI (i + 1))), (5, .int (adI kf sf wf tn (thI (nI pn) aw) (nI i)))] [1, 2, 3, 4, 0, 5] dX5_bring_95 rfl (nI_inc _) (by decide) rfl ?_
                  refine v_goto C 32 dX5_bring_98 (by decide) ?_
                  refine V.lvs (lv' := [(0, .ref xo), (1, .int x), (2, .int ((brS kf sf wf tn aw (thI (nI pn) aw) i).1)), (3, .int ((brS kf sf wf tn aw (thI (nI pn) aw) i).2)), (4, .int (nI (i + 1)))]) [0, 1, 2, 3, 4] rfl ?_
                  exact ih32 (i + 1) _ _ _ (by simp only [brS, c1, of_decide_eq_true c1, c2, c3, Int32.not_le.mp c3, c5, c6, c7, Int32.not_lt.mpr c7, decide_true, decide_false, ↓reduceIte, Bool.false_eq_true]) (by simp only [brS, c1, of_decide_eq_true c1, c2, c3, Int32.not_le.mp c3, c5, c6, c7, Int32.not_lt.mpr c7, decide_true, decide_false, ↓reduceIte, Bool.false_eq_true]) (rfl) (by first | assumption | omega) (by omega)
                · skip
                  refine v_iload C 4 dX5_bring_89 rfl ?_
                  refine v_istore_n C [(0, .ref xo), (1, .int x), (2, .int (nI i)), (3, .int ((brS kf sf wf tn aw (thI (nI pn) aw) i).2)), (4, .int (nI i)), (5, .int (adI kf sf wf tn (thI (nI pn) aw) (nI i)))] [1, 2, 0, 3, 4, 5] dX5_bring_91 (by decide) rfl ?_
                  refine v_iload C 5 dX5_bring_92 rfl ?_
                  refine v_istore_n C [(0, .ref xo), (1, .int x), (2, .int (nI i)), (3, .int (adI kf sf wf tn (thI (nI pn) aw) (nI i))), (4, .int (nI i)), (5, .int (adI kf sf wf tn (thI (nI pn) aw) (nI i)))] [1, 2, 3, 0, 4, 5] dX5_bring_94 (by decide) rfl ?_
                  refine v_iinc C (k := 4) (nI (i + 1)) [(0, .ref xo), (1, .int x), (2, .int (nI i)), (3, .int (adI kf sf wf tn (thI (nI pn) aw) (nI i))), (4, .int (nI (i + 1))), (5, .int (adI kf sf wf tn (thI (nI pn) aw) (nI i)))] [1, 2, 3, 4, 0, 5] dX5_bring_95 rfl (nI_inc _) (by decide) rfl ?_
                  refine v_goto C 32 dX5_bring_98 (by decide) ?_
                  refine V.lvs (lv' := [(0, .ref xo), (1, .int x), (2, .int (nI i)), (3, .int (adI kf sf wf tn (thI (nI pn) aw) (nI i))), (4, .int (nI (i + 1)))]) [0, 1, 2, 3, 4] rfl ?_
                  exact ih32 (i + 1) _ _ _ (by simp only [brS, c1, of_decide_eq_true c1, c2, c3, Int32.not_le.mp c3, c5, c6, c7, Int32.not_le.mp c7, decide_true, decide_false, ↓reduceIte, Bool.false_eq_true]) (by simp only [brS, c1, of_decide_eq_true c1, c2, c3, Int32.not_le.mp c3, c5, c6, c7, Int32.not_le.mp c7, decide_true, decide_false, ↓reduceIte, Bool.false_eq_true]) (rfl) (by first | assumption | omega) (by omega)
      exact L32 _ 0 _ _ _ (rfl) (rfl) (rfl) (by first | assumption | omega) (Nat.lt_succ_self _)
    · skip
      refine v_ldc C (v := -1000001) (by decide +kernel) dX5_bring_20 ?_
      exact v_iret C E (rfl) (by first | rfl | (simp only [c1, of_decide_eq_true c1, c2, ↓reduceIte, Bool.false_eq_true, reduceCtorEq, Bool.and_true, Bool.true_and, Bool.and_false, Bool.false_and]; done) | (simp [c1, of_decide_eq_true c1, c2]; done) | (simp_all [b2]; done)) dX5_bring_22
  · skip
    refine v_ldc C (v := -1000002) (by decide +kernel) dX5_bring_10 ?_
    exact v_iret C E (rfl) (by first | rfl | (simp only [c1, of_decide_eq_false c1, ↓reduceIte, Bool.false_eq_true, reduceCtorEq, Bool.and_true, Bool.true_and, Bool.and_false, Bool.false_and]; done) | (simp [c1, of_decide_eq_false c1]; done) | (simp_all [b2]; done)) dX5_bring_12
theorem kX5_due : KD yX5_due wsX5_due cX5_due 7 (some .int) 2 := ⟨⟨_, rfl⟩, by decide, by decide +kernel, by decide +kernel, by decide +kernel⟩
theorem in_X5_due_X5 : ∀ w ∈ wsX50, w ∈ wsX5_due := by decide +kernel
theorem fl_X5_due_26 : FL RX5 wsX5_due RX5 RX5 TX5 9 5 2 26 := ⟨⟨in_X5_due_X5, rfl, by decide, rfl⟩, by decide +kernel⟩
theorem nq_X5_due_X4_isPerson : Cond.initialized yX4_isPerson.cls ∈ wsX5_due ∧ Cond.instanceMethod yX4_isPerson ∈ wsX5_due ∧ Cond.selects yX4_isPerson.cls yX4_isPerson yX4_isPerson ∈ wsX5_due := ⟨by decide +kernel, by decide +kernel, by decide +kernel⟩
theorem in_X5_due_X4 : ∀ w ∈ wsX40, w ∈ wsX5_due := by decide +kernel
theorem fn_X5_due_199 : FLN RX5 wsX5_due RX4 RX4 TX4 8 4 3 199 := ⟨⟨in_X5_due_X4, rfl, by decide, rfl⟩, "TableShares", by decide +kernel⟩
theorem nq_X5_due_X4_everybody : Cond.initialized yX4_everybody.cls ∈ wsX5_due ∧ Cond.instanceMethod yX4_everybody ∈ wsX5_due ∧ Cond.selects yX4_everybody.cls yX4_everybody yX4_everybody ∈ wsX5_due := ⟨by decide +kernel, by decide +kernel, by decide +kernel⟩
theorem nq_X5_due_X4_addedBy : Cond.initialized yX4_addedBy.cls ∈ wsX5_due ∧ Cond.instanceMethod yX4_addedBy ∈ wsX5_due ∧ Cond.selects yX4_addedBy.cls yX4_addedBy yX4_addedBy ∈ wsX5_due := ⟨by decide +kernel, by decide +kernel, by decide +kernel⟩
set_option maxHeartbeats 4000000 in
set_option maxRecDepth 100000 in
theorem c_due (l : Launch) (D : va_G) (cs : Nat → ClassId) {xo : Nat} {xr : Nat} {xd : Nat} {ta : Nat} {tb : Nat} {xi : Nat} {aa : Nat} {sa : Nat} {lf : Int32} {fg : Int32} {tk : Nat} {tq : Nat} {tw : Nat} {kf : Nat → Int32} {sf : Nat → Int32} {wf : Nat → Int32} {pn : Nat} {aw : Int32} {me : Int32} {sp : Int32} {tn : Nat} {x : Int32} {y : Int32} (hS : ∀ t, s64 (sf t)) (hti : tn ≤ 8) (hpn : pn ≤ 6) : CT l D (tz cs) yX5_due wsX5_due ({ frames := 5, cells := 0, slots := 0, locals := 113 }) [.ref xo, .int x, .int y] [(xo, .inr (5, [.ref xr, .ref xd, .ref ta, .ref tb, .ref xi, .ref aa, .ref sa, .int lf, .int fg])), (ta, .inr (4, [.ref tk, .ref tq, .ref tw, .int (nI pn), .int (nI tn), .int aw, .int me, .int sp])), (tk, .inl (cs 0, 8, .inl kf)), (tq, .inl (cs 0, 8, .inl sf)), (tw, .inl (cs 0, 8, .inl wf))] (some (.int (if (inB (nI pn) x && zo y) = true then frI (dueS kf sf wf tn pn x (2 ^ pn)) (nI (facN pn)) y else -1000001))) [(xo, .inr (5, [.ref xr, .ref xd, .ref ta, .ref tb, .ref xi, .ref aa, .ref sa, .int lf, .int fg])), (ta, .inr (4, [.ref tk, .ref tq, .ref tw, .int (nI pn), .int (nI tn), .int aw, .int me, .int sp])), (tk, .inl (cs 0, 8, .inl kf)), (tq, .inl (cs 0, 8, .inl sf)), (tw, .inl (cs 0, 8, .inl wf))] := by
  refine CT.of kX5_due (Nat.le_of_ble_eq_true rfl) ?_
  intro p e s m below meth c A C E
  have C : VOk p s m _ c cX5_due 7 wsX5_due RX5 D (tz cs) A s.heap := C
  refine V.lvs (lv' := [(0, .ref xo), (1, .int x), (2, .int y)]) [0, 1, 2] rfl ?_
  have hpw := pw64 pn hpn
  refine v_aload_n C 0 dX5_due_0 rfl ?_
  refine v_get C (v := .ref ta) fl_X5_due_26 0 rfl rfl dX5_due_1 ?_
  refine v_iload_n C 1 dX5_due_4 rfl ?_
  refine v_callVN (qi := 0) C [.int x] [] kX4_isPerson gX5_due_X4_isPerson_n123 (host := "TableShares") (by decide +kernel) nq_X5_due_X4_isPerson (c_isPerson l D cs (ta := ta) (tk := tk) (tq := tq) (tw := tw) (pe := (nI pn)) (ti := (nI tn)) (aw := aw) (me := me) (sp := sp) (x := x) ) ⟨Nat.le_of_ble_eq_true rfl, Nat.le_of_ble_eq_true rfl⟩ ⟨rfl, rfl⟩ ⟨Nat.zero_le _, Nat.zero_le _⟩ rfl 1 rfl rfl rfl rfl (Nat.le_of_ble_eq_true rfl) [1] [(xo, .inr (5, [.ref xr, .ref xd, .ref ta, .ref tb, .ref xi, .ref aa, .ref sa, .int lf, .int fg])), (ta, .inr (4, [.ref tk, .ref tq, .ref tw, .int (nI pn), .int (nI tn), .int aw, .int me, .int sp])), (tk, .inl (cs 0, 8, .inl kf)), (tq, .inl (cs 0, 8, .inl sf)), (tw, .inl (cs 0, 8, .inl wf))] rfl (by decide) (show [ta] = [ta] from rfl) (rfl) dX5_due_5 ?_
  refine V.sts (st' := [.int (b2 (inB (nI pn) x))]) rfl ?_
  refine v_if_eqB C 18 dX5_due_8 (by decide) (fun c1 => ?_) (fun c1 => ?_)
  · skip
    refine v_ldc C (v := -1000001) (by decide +kernel) dX5_due_18 ?_
    exact v_iret C E (rfl) (by first | rfl | (simp only [c1, ↓reduceIte, Bool.false_eq_true, reduceCtorEq, Bool.and_true, Bool.true_and, Bool.and_false, Bool.false_and]; done) | (simp [c1]; done) | (simp_all [b2]; done)) dX5_due_20
  · skip
    refine v_iload_n C 2 dX5_due_11 rfl ?_
    refine v_callS C [.int y] [] kX5_isZeroOrOne gX5_due_X5_isZeroOrOne (c_zo l D cs (x := y) ) ⟨Nat.le_of_ble_eq_true rfl, Nat.le_of_ble_eq_true rfl⟩ ⟨rfl, rfl⟩ ⟨Nat.zero_le _, Nat.zero_le _⟩ rfl rfl (Nat.le_of_ble_eq_true rfl) [] [(xo, .inr (5, [.ref xr, .ref xd, .ref ta, .ref tb, .ref xi, .ref aa, .ref sa, .int lf, .int fg])), (ta, .inr (4, [.ref tk, .ref tq, .ref tw, .int (nI pn), .int (nI tn), .int aw, .int me, .int sp])), (tk, .inl (cs 0, 8, .inl kf)), (tq, .inl (cs 0, 8, .inl sf)), (tw, .inl (cs 0, 8, .inl wf))] rfl (by decide) rfl (rfl) dX5_due_12 ?_
    refine V.sts (st' := [.int (b2 (zo y))]) rfl ?_
    refine v_if_neB C 21 dX5_due_15 (by decide) (fun c2 => ?_) (fun c2 => ?_)
    · skip
      have hp1 := inB_pos (by omega) c1
      refine v_aload_n C 0 dX5_due_21 rfl ?_
      refine v_get C (v := .ref ta) fl_X5_due_26 0 rfl rfl dX5_due_22 ?_
      refine v_getN C (v := .int (nI pn)) fn_X5_due_199 1 rfl rfl dX5_due_25 ?_
      refine v_iconst C (v := 1) dX5_due_28 (by decide) ?_
      refine v_isub C dX5_due_29 ?_
      refine V.topr (y := nI (pn - 1)) (pk_sub (a := pn) (b := 1) hp1) ?_
      refine v_istore_n C [(0, .ref xo), (1, .int x), (2, .int y), (3, .int (nI (pn - 1)))] [1, 2, 3, 0] dX5_due_30 (by decide) rfl ?_
      refine v_iconst C (v := 0) dX5_due_31 (by decide) ?_
      refine v_istore C [(0, .ref xo), (1, .int x), (2, .int y), (3, .int (nI (pn - 1))), (4, .int 0)] [1, 2, 3, 4, 0] dX5_due_32 (by decide) rfl ?_
      refine v_iconst C (v := 0) dX5_due_34 (by decide) ?_
      refine v_istore C [(0, .ref xo), (1, .int x), (2, .int y), (3, .int (nI (pn - 1))), (4, .int 0), (5, .int 0)] [1, 2, 3, 4, 5, 0] dX5_due_35 (by decide) rfl ?_
      have L37 : ∀ (n : Nat) (i : Nat) (y0 : Int32) (y1 : Int32), y0 = (dueS kf sf wf tn pn x i) → y1 = (nI i) → (i ≤ 2 ^ pn) → (2 ^ pn - i) < n → V p l e ({ frames := 5, cells := 0, slots := 0, locals := 113 }) s m (List.toArray [.ref xo, .int x, .int y]) below meth c 0 0 (MQ below (vq_Q (some (.int (if (inB (nI pn) x && zo y) = true then frI (dueS kf sf wf tn pn x (2 ^ pn)) (nI (facN pn)) y else -1000001))) D [(xo, .inr (5, [.ref xr, .ref xd, .ref ta, .ref tb, .ref xi, .ref aa, .ref sa, .int lf, .int fg])), (ta, .inr (4, [.ref tk, .ref tq, .ref tw, .int (nI pn), .int (nI tn), .int aw, .int me, .int sp])), (tk, .inl (cs 0, 8, .inl kf)), (tq, .inl (cs 0, 8, .inl sf)), (tw, .inl (cs 0, 8, .inl wf))] [(xo, .inr (5, [.ref xr, .ref xd, .ref ta, .ref tb, .ref xi, .ref aa, .ref sa, .int lf, .int fg])), (ta, .inr (4, [.ref tk, .ref tq, .ref tw, .int (nI pn), .int (nI tn), .int aw, .int me, .int sp])), (tk, .inl (cs 0, 8, .inl kf)), (tq, .inl (cs 0, 8, .inl sf)), (tw, .inl (cs 0, 8, .inl wf))] s.heap.size) (List.toArray [.ref xo, .int x, .int y]) s 0 0 (va_A [(xo, .inr (5, [.ref xr, .ref xd, .ref ta, .ref tb, .ref xi, .ref aa, .ref sa, .int lf, .int fg])), (ta, .inr (4, [.ref tk, .ref tq, .ref tw, .int (nI pn), .int (nI tn), .int aw, .int me, .int sp])), (tk, .inl (cs 0, 8, .inl kf)), (tq, .inl (cs 0, 8, .inl sf)), (tw, .inl (cs 0, 8, .inl wf))] s.heap.size)) 7 D A s.heap 37 [(0, .ref xo), (1, .int x), (2, .int y), (3, .int (nI (pn - 1))), (4, .int y0), (5, .int y1)] [] [(xo, .inr (5, [.ref xr, .ref xd, .ref ta, .ref tb, .ref xi, .ref aa, .ref sa, .int lf, .int fg])), (ta, .inr (4, [.ref tk, .ref tq, .ref tw, .int (nI pn), .int (nI tn), .int aw, .int me, .int sp])), (tk, .inl (cs 0, 8, .inl kf)), (tq, .inl (cs 0, 8, .inl sf)), (tw, .inl (cs 0, 8, .inl wf))] := by
        intro n
        induction n with
        | zero =>
          intros; omega
        | succ n ih37 =>
          intro i y0 y1 ey0 ey1 hi hn
          subst ey0
          subst ey1
          refine v_iload C 5 dX5_due_37 rfl ?_
          refine v_aload_n C 0 dX5_due_39 rfl ?_
          refine v_get C (v := .ref ta) fl_X5_due_26 0 rfl rfl dX5_due_40 ?_
          refine v_callVN (qi := 0) C [] [.int (nI i)] kX4_everybody gX5_due_X4_everybody_n189 (host := "TableShares") (by decide +kernel) nq_X5_due_X4_everybody (c_everybody l D cs (ta := ta) (tk := tk) (tq := tq) (tw := tw) (pe := (nI pn)) (ti := (nI tn)) (aw := aw) (me := me) (sp := sp) ) ⟨Nat.le_of_ble_eq_true rfl, Nat.le_of_ble_eq_true rfl⟩ ⟨rfl, rfl⟩ ⟨Nat.zero_le _, Nat.zero_le _⟩ rfl 1 rfl rfl rfl rfl (Nat.le_of_ble_eq_true rfl) [1] [(xo, .inr (5, [.ref xr, .ref xd, .ref ta, .ref tb, .ref xi, .ref aa, .ref sa, .int lf, .int fg])), (ta, .inr (4, [.ref tk, .ref tq, .ref tw, .int (nI pn), .int (nI tn), .int aw, .int me, .int sp])), (tk, .inl (cs 0, 8, .inl kf)), (tq, .inl (cs 0, 8, .inl sf)), (tw, .inl (cs 0, 8, .inl wf))] rfl (by decide) (show [ta] = [ta] from rfl) (rfl) dX5_due_43 ?_
          refine V.sts (st' := [.int (allI (nI pn)), .int (nI i)]) rfl ?_
          refine V.topr (y := nI (2 ^ pn - 1)) (all_nI pn hpn) ?_
          refine v_icmp_gt C 100 dX5_due_46 (by decide) (fun c3 => ?_) (fun c3 => ?_)
          · skip
            have hge : 2 ^ pn - 1 < i := lt_nI c3 (by omega) (by omega)
            have hsub : i = 2 ^ pn := by omega
            subst hsub
            refine v_iload C 4 dX5_due_100 rfl ?_
            refine v_aload_n C 0 dX5_due_102 rfl ?_
            refine v_get C (v := .ref ta) fl_X5_due_26 0 rfl rfl dX5_due_103 ?_
            refine v_getN C (v := .int (nI pn)) fn_X5_due_199 1 rfl rfl dX5_due_106 ?_
            refine v_callS C [.int (nI pn)] [.int (dueS kf sf wf tn pn x (2 ^ pn))] kX5_factorial gX5_due_X5_factorial (c_factorial l D cs (a := pn) (by first | omega | exact Nat.le_trans (pop_le _) (by decide))) ⟨Nat.le_of_ble_eq_true rfl, Nat.le_of_ble_eq_true rfl⟩ ⟨rfl, rfl⟩ ⟨Nat.zero_le _, Nat.zero_le _⟩ rfl rfl (Nat.le_of_ble_eq_true rfl) [] [(xo, .inr (5, [.ref xr, .ref xd, .ref ta, .ref tb, .ref xi, .ref aa, .ref sa, .int lf, .int fg])), (ta, .inr (4, [.ref tk, .ref tq, .ref tw, .int (nI pn), .int (nI tn), .int aw, .int me, .int sp])), (tk, .inl (cs 0, 8, .inl kf)), (tq, .inl (cs 0, 8, .inl sf)), (tw, .inl (cs 0, 8, .inl wf))] rfl (by decide) rfl (rfl) dX5_due_109 ?_
            refine V.sts (st' := [.int (nI (facN pn)), .int (dueS kf sf wf tn pn x (2 ^ pn))]) rfl ?_
            refine v_iload_n C 2 dX5_due_112 rfl ?_
            refine v_callS C [.int (dueS kf sf wf tn pn x (2 ^ pn)), .int (nI (facN pn)), .int y] [] kX5_fraction gX5_due_X5_fraction (c_fraction l D cs (a := (dueS kf sf wf tn pn x (2 ^ pn))) (b := (nI (facN pn))) (w := y) ) ⟨Nat.le_of_ble_eq_true rfl, Nat.le_of_ble_eq_true rfl⟩ ⟨rfl, rfl⟩ ⟨Nat.zero_le _, Nat.zero_le _⟩ rfl rfl (Nat.le_of_ble_eq_true rfl) [] [(xo, .inr (5, [.ref xr, .ref xd, .ref ta, .ref tb, .ref xi, .ref aa, .ref sa, .int lf, .int fg])), (ta, .inr (4, [.ref tk, .ref tq, .ref tw, .int (nI pn), .int (nI tn), .int aw, .int me, .int sp])), (tk, .inl (cs 0, 8, .inl kf)), (tq, .inl (cs 0, 8, .inl sf)), (tw, .inl (cs 0, 8, .inl wf))] rfl (by decide) rfl (rfl) dX5_due_113 ?_
            refine V.sts (st' := [.int (frI (dueS kf sf wf tn pn x (2 ^ pn)) (nI (facN pn)) y)]) rfl ?_
            exact v_iret C E (rfl) (by first | rfl | (simp only [c1, c2, c3, Int32.not_le.mpr c3, ↓reduceIte, Bool.false_eq_true, reduceCtorEq, Bool.and_true, Bool.true_and, Bool.and_false, Bool.false_and]; done) | (simp [c1, c2, c3, Int32.not_le.mpr c3]; done) | (simp_all [b2]; done)) dX5_due_116
          · skip
            have hlt : i < 2 ^ pn := by have h9 := nlt_nI c3 (by omega) (by omega); omega
            refine v_iload C 5 dX5_due_49 rfl ?_
            refine v_iload_n C 1 dX5_due_51 rfl ?_
            refine v_callS C [.int (nI i), .int x] [] kX5_has gX5_due_X5_has (c_has l D cs (x := (nI i)) (q := x) ) ⟨Nat.le_of_ble_eq_true rfl, Nat.le_of_ble_eq_true rfl⟩ ⟨rfl, rfl⟩ ⟨Nat.zero_le _, Nat.zero_le _⟩ rfl rfl (Nat.le_of_ble_eq_true rfl) [] [(xo, .inr (5, [.ref xr, .ref xd, .ref ta, .ref tb, .ref xi, .ref aa, .ref sa, .int lf, .int fg])), (ta, .inr (4, [.ref tk, .ref tq, .ref tw, .int (nI pn), .int (nI tn), .int aw, .int me, .int sp])), (tk, .inl (cs 0, 8, .inl kf)), (tq, .inl (cs 0, 8, .inl sf)), (tw, .inl (cs 0, 8, .inl wf))] rfl (by decide) rfl (rfl) dX5_due_52 ?_
            refine V.sts (st' := [.int (b2 (hasB (nI i) x))]) rfl ?_
            refine v_if_neB C 94 dX5_due_55 (by decide) (fun c4 => ?_) (fun c4 => ?_)
            · skip
              refine v_iinc C (k := 5) (nI (i + 1)) [(0, .ref xo), (1, .int x), (2, .int y), (3, .int (nI (pn - 1))), (4, .int (dueS kf sf wf tn pn x i)), (5, .int (nI (i + 1)))] [1, 2, 3, 4, 5, 0] dX5_due_94 rfl (nI_inc _) (by decide) rfl ?_
              refine v_goto C 37 dX5_due_97 (by decide) ?_
              exact ih37 (i + 1) _ _ (by simp only [dueS, c1, c2, c3, Int32.not_lt.mp c3, c4, decide_true, decide_false, ↓reduceIte, Bool.false_eq_true]) (rfl) (by omega) (by omega)
            · skip
              refine v_iload C 5 dX5_due_58 rfl ?_
              refine v_callS C [.int (nI i)] [] kJ6_bitCount_0f7a4 gX5_due_J6_bitCount_0f7a4 (c_bc l D cs (x := (nI i)) (by first | exact ⟨i, by omega, rfl⟩ | exact beS_s64 _ _ (by omega) | assumption)) ⟨Nat.le_of_ble_eq_true rfl, Nat.le_of_ble_eq_true rfl⟩ ⟨rfl, rfl⟩ ⟨Nat.zero_le _, Nat.zero_le _⟩ rfl rfl (Nat.le_of_ble_eq_true rfl) [] [(xo, .inr (5, [.ref xr, .ref xd, .ref ta, .ref tb, .ref xi, .ref aa, .ref sa, .int lf, .int fg])), (ta, .inr (4, [.ref tk, .ref tq, .ref tw, .int (nI pn), .int (nI tn), .int aw, .int me, .int sp])), (tk, .inl (cs 0, 8, .inl kf)), (tq, .inl (cs 0, 8, .inl sf)), (tw, .inl (cs 0, 8, .inl wf))] rfl (by decide) rfl (rfl) dX5_due_60 ?_
              refine V.sts (st' := [.int (pcI (nI i))]) rfl ?_
              refine V.topr (y := nI (pop i)) (pc_nI (by omega)) ?_
              refine v_istore C [(0, .ref xo), (1, .int x), (2, .int y), (3, .int (nI (pn - 1))), (4, .int (dueS kf sf wf tn pn x i)), (5, .int (nI i)), (6, .int (nI (pop i)))] [1, 2, 3, 4, 5, 6, 0] dX5_due_63 (by decide) rfl ?_
              refine v_iload C 4 dX5_due_65 rfl ?_
              refine v_iload C 6 dX5_due_67 rfl ?_
              refine v_callS C [.int (nI (pop i))] [.int (dueS kf sf wf tn pn x i)] kX5_factorial gX5_due_X5_factorial (c_factorial l D cs (a := (pop i)) (by first | omega | exact Nat.le_trans (pop_le _) (by decide))) ⟨Nat.le_of_ble_eq_true rfl, Nat.le_of_ble_eq_true rfl⟩ ⟨rfl, rfl⟩ ⟨Nat.zero_le _, Nat.zero_le _⟩ rfl rfl (Nat.le_of_ble_eq_true rfl) [] [(xo, .inr (5, [.ref xr, .ref xd, .ref ta, .ref tb, .ref xi, .ref aa, .ref sa, .int lf, .int fg])), (ta, .inr (4, [.ref tk, .ref tq, .ref tw, .int (nI pn), .int (nI tn), .int aw, .int me, .int sp])), (tk, .inl (cs 0, 8, .inl kf)), (tq, .inl (cs 0, 8, .inl sf)), (tw, .inl (cs 0, 8, .inl wf))] rfl (by decide) rfl (rfl) dX5_due_69 ?_
              refine V.sts (st' := [.int (nI (facN (pop i))), .int (dueS kf sf wf tn pn x i)]) rfl ?_
              refine v_iload_n C 3 dX5_due_72 rfl ?_
              refine v_iload C 6 dX5_due_73 rfl ?_
              refine v_isub C dX5_due_75 ?_
              obtain ⟨qx, hqx, hqe⟩ := inB_t (by omega) c1
              have hps : pop i ≤ pn - 1 := pop_lt pn hpn i hlt qx hqx (by rw [← hqe]; assumption)
              refine V.topr (y := nI (pn - 1 - pop i)) (pk_sub hps) ?_
              refine v_callS C [.int (nI (pn - 1 - pop i))] [.int (nI (facN (pop i))), .int (dueS kf sf wf tn pn x i)] kX5_factorial gX5_due_X5_factorial (c_factorial l D cs (a := (pn - 1 - pop i)) (by first | omega | exact Nat.le_trans (pop_le _) (by decide))) ⟨Nat.le_of_ble_eq_true rfl, Nat.le_of_ble_eq_true rfl⟩ ⟨rfl, rfl⟩ ⟨Nat.zero_le _, Nat.zero_le _⟩ rfl rfl (Nat.le_of_ble_eq_true rfl) [] [(xo, .inr (5, [.ref xr, .ref xd, .ref ta, .ref tb, .ref xi, .ref aa, .ref sa, .int lf, .int fg])), (ta, .inr (4, [.ref tk, .ref tq, .ref tw, .int (nI pn), .int (nI tn), .int aw, .int me, .int sp])), (tk, .inl (cs 0, 8, .inl kf)), (tq, .inl (cs 0, 8, .inl sf)), (tw, .inl (cs 0, 8, .inl wf))] rfl (by decide) rfl (rfl) dX5_due_76 ?_
              refine V.sts (st' := [.int (nI (facN (pn - 1 - pop i))), .int (nI (facN (pop i))), .int (dueS kf sf wf tn pn x i)]) rfl ?_
              refine v_imul C dX5_due_79 ?_
              refine v_aload_n C 0 dX5_due_80 rfl ?_
              refine v_get C (v := .ref ta) fl_X5_due_26 0 rfl rfl dX5_due_81 ?_
              refine v_iload_n C 1 dX5_due_84 rfl ?_
              refine v_iload C 5 dX5_due_85 rfl ?_
              refine v_callVN (qi := 0) C [.int x, .int (nI i)] [.int ((nI (facN (pop i))) * (nI (facN (pn - 1 - pop i)))), .int (dueS kf sf wf tn pn x i)] kX4_addedBy gX5_due_X4_addedBy_n195 (host := "TableShares") (by decide +kernel) nq_X5_due_X4_addedBy (c_addedBy l D cs (ta := ta) (tk := tk) (tq := tq) (tw := tw) (kf := kf) (sf := sf) (wf := wf) (pe := (nI pn)) (aw := aw) (me := me) (sp := sp) (tn := tn) (q := x) (x := (nI i)) (by first | assumption | omega) (by first | assumption | omega)) ⟨Nat.le_of_ble_eq_true rfl, Nat.le_of_ble_eq_true rfl⟩ ⟨rfl, rfl⟩ ⟨Nat.zero_le _, Nat.zero_le _⟩ rfl 1 rfl rfl rfl rfl (Nat.le_of_ble_eq_true rfl) [1, 2, 3, 4] [(xo, .inr (5, [.ref xr, .ref xd, .ref ta, .ref tb, .ref xi, .ref aa, .ref sa, .int lf, .int fg])), (ta, .inr (4, [.ref tk, .ref tq, .ref tw, .int (nI pn), .int (nI tn), .int aw, .int me, .int sp])), (tk, .inl (cs 0, 8, .inl kf)), (tq, .inl (cs 0, 8, .inl sf)), (tw, .inl (cs 0, 8, .inl wf))] rfl (by decide) (show [ta, tk, tq, tw] = [ta, tk, tq, tw] from rfl) (rfl) dX5_due_87 ?_
              refine V.sts (st' := [.int (adI kf sf wf tn (nI i) x), .int ((nI (facN (pop i))) * (nI (facN (pn - 1 - pop i)))), .int (dueS kf sf wf tn pn x i)]) rfl ?_
              refine v_imul C dX5_due_90 ?_
              refine v_iadd C dX5_due_91 ?_
              refine v_istore C [(0, .ref xo), (1, .int x), (2, .int y), (3, .int (nI (pn - 1))), (4, .int ((dueS kf sf wf tn pn x i) + (((nI (facN (pop i))) * (nI (facN (pn - 1 - pop i)))) * (adI kf sf wf tn (nI i) x)))), (5, .int (nI i)), (6, .int (nI (pop i)))] [1, 2, 3, 4, 0, 5, 6] dX5_due_92 (by decide) rfl ?_
              refine v_iinc C (k := 5) (nI (i + 1)) [(0, .ref xo), (1, .int x), (2, .int y), (3, .int (nI (pn - 1))), (4, .int ((dueS kf sf wf tn pn x i) + (((nI (facN (pop i))) * (nI (facN (pn - 1 - pop i)))) * (adI kf sf wf tn (nI i) x)))), (5, .int (nI (i + 1))), (6, .int (nI (pop i)))] [1, 2, 3, 4, 5, 0, 6] dX5_due_94 rfl (nI_inc _) (by decide) rfl ?_
              refine v_goto C 37 dX5_due_97 (by decide) ?_
              refine V.lvs (lv' := [(0, .ref xo), (1, .int x), (2, .int y), (3, .int (nI (pn - 1))), (4, .int ((dueS kf sf wf tn pn x i) + (((nI (facN (pop i))) * (nI (facN (pn - 1 - pop i)))) * (adI kf sf wf tn (nI i) x)))), (5, .int (nI (i + 1)))]) [0, 1, 2, 3, 4, 5] rfl ?_
              exact ih37 (i + 1) _ _ (by simp only [dueS, c1, c2, c3, Int32.not_lt.mp c3, c4, decide_true, decide_false, ↓reduceIte, Bool.false_eq_true]) (rfl) (by omega) (by omega)
      exact L37 _ 0 _ _ (rfl) (rfl) (by omega) (Nat.lt_succ_self _)
    · skip
      refine v_ldc C (v := -1000001) (by decide +kernel) dX5_due_18 ?_
      exact v_iret C E (rfl) (by first | rfl | (simp only [c1, c2, ↓reduceIte, Bool.false_eq_true, reduceCtorEq, Bool.and_true, Bool.true_and, Bool.and_false, Bool.false_and]; done) | (simp [c1, c2]; done) | (simp_all [b2]; done)) dX5_due_20
