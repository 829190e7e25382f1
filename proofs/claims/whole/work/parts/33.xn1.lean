theorem kX6_note : KD yX6_note wsX6_note cX6_note 2 none 0 := ⟨⟨_, rfl⟩, by decide, by decide +kernel, by decide +kernel, by decide +kernel⟩
theorem in_X6_note_X6 : ∀ w ∈ wsX60, w ∈ wsX6_note := by decide +kernel
theorem fl_X6_note_133 : FL RX6 wsX6_note RX6 RX6 TX6 22 6 17 133 := ⟨⟨in_X6_note_X6, rfl, by decide, rfl⟩, by decide +kernel⟩
theorem fp_X6_17 : FP TX6 22 17 tyX6 .int := ⟨tyX6_ok, nmX6, rfl, by decide +kernel⟩
theorem fl_X6_note_31 : FL RX6 wsX6_note RX6 RX6 TX6 22 6 16 31 := ⟨⟨in_X6_note_X6, rfl, by decide, rfl⟩, by decide +kernel⟩
theorem fl_X6_note_19 : FL RX6 wsX6_note RX6 RX6 TX6 22 6 5 19 := ⟨⟨in_X6_note_X6, rfl, by decide, rfl⟩, by decide +kernel⟩
set_option maxHeartbeats 4000000 in
set_option maxRecDepth 100000 in
theorem c_noteL (l : Launch) (D : va_G) (cs : Nat → ClassId) {mo : Nat} {ml : Nat} {mz : Nat} {mi : Nat} {mt : Nat} {mv : Nat} {mp : Nat} {md : Nat} {mc : Nat} {mk : Nat} {mq : Nat} {mr : Nat} {su : Int32} {it : Bool} {nby : Int32} {lt : Int32} {pl : Int32} {tok : Int32} {va : Int32} {be : Int32} {wr : Int32} {td : Int32} {tf : Nat → Int32} {mf : Nat → Int32} {an : Nat} (ha : an < 24) : CT l D (tz cs) yX6_note wsX6_note ({ frames := 0, cells := 0, slots := 0, locals := 0 }) [.ref mo] [(mo, .inr (6, [.ref ml, .ref mz, .ref mi, .int su, .int (b2 it), .ref mt, .ref mv, .ref mp, .int nby, .int lt, .int pl, .int tok, .int va, .int be, .int wr, .ref md, .ref mc, .int (nI an), .ref mk, .ref mq, .ref mr, .int td])), (mt, .inl (cs 0, 29, .inl tf)), (mc, .inl (cs 0, 696, .inl mf))] none [(mo, .inr (6, [.ref ml, .ref mz, .ref mi, .int su, .int (b2 it), .ref mt, .ref mv, .ref mp, .int nby, .int lt, .int pl, .int tok, .int va, .int be, .int wr, .ref md, .ref mc, .int (nI (an + 1)), .ref mk, .ref mq, .ref mr, .int td])), (mt, .inl (cs 0, 29, .inl tf)), (mc, .inl (cs 0, 696, .inl (ntF mf tf an)))] := by
  refine CT.of kX6_note (Nat.le_of_ble_eq_true rfl) ?_
  intro p e s m below meth c A C E
  have C : VOk p s m _ c cX6_note 2 wsX6_note RX6 D (tz cs) A s.heap := C
  refine V.lvs (lv' := [(0, .ref mo)]) [0] rfl ?_
  refine v_aload_n C 0 dX6_note_0 rfl ?_
  refine v_get C (v := .int (nI an)) fl_X6_note_133 0 rfl rfl dX6_note_1 ?_
  refine v_bipush C (v := 24) dX6_note_4 (by decide) ?_
  refine v_icmp_ne C 49 dX6_note_6 (by decide) (fun c1 => ?_) (fun c1 => ?_)
  · skip
    refine v_iconst C (v := 0) dX6_note_49 (by decide) ?_
    refine v_istore_n C [(0, .ref mo), (1, .int 0)] [1, 0] dX6_note_50 (by decide) rfl ?_
    have L51 : ∀ (n : Nat) (i : Nat) (y0 : Int32) (y1 : Nat → Int32), y0 = (nI i) → y1 = mvF mf tf (29 * an) 0 i → (i ≤ 29) → (29 - i) < n → V p l e ({ frames := 0, cells := 0, slots := 0, locals := 0 }) s m (List.toArray [.ref mo]) below meth c 0 0 (MQ below (vq_Q none D [(mo, .inr (6, [.ref ml, .ref mz, .ref mi, .int su, .int (b2 it), .ref mt, .ref mv, .ref mp, .int nby, .int lt, .int pl, .int tok, .int va, .int be, .int wr, .ref md, .ref mc, .int (nI (an + 1)), .ref mk, .ref mq, .ref mr, .int td])), (mt, .inl (cs 0, 29, .inl tf)), (mc, .inl (cs 0, 696, .inl (ntF mf tf an)))] [(mo, .inr (6, [.ref ml, .ref mz, .ref mi, .int su, .int (b2 it), .ref mt, .ref mv, .ref mp, .int nby, .int lt, .int pl, .int tok, .int va, .int be, .int wr, .ref md, .ref mc, .int (nI an), .ref mk, .ref mq, .ref mr, .int td])), (mt, .inl (cs 0, 29, .inl tf)), (mc, .inl (cs 0, 696, .inl mf))] s.heap.size) (List.toArray [.ref mo]) s 0 0 (va_A [(mo, .inr (6, [.ref ml, .ref mz, .ref mi, .int su, .int (b2 it), .ref mt, .ref mv, .ref mp, .int nby, .int lt, .int pl, .int tok, .int va, .int be, .int wr, .ref md, .ref mc, .int (nI an), .ref mk, .ref mq, .ref mr, .int td])), (mt, .inl (cs 0, 29, .inl tf)), (mc, .inl (cs 0, 696, .inl mf))] s.heap.size)) 2 D A s.heap 51 [(0, .ref mo), (1, .int y0)] [] [(mo, .inr (6, [.ref ml, .ref mz, .ref mi, .int su, .int (b2 it), .ref mt, .ref mv, .ref mp, .int nby, .int lt, .int pl, .int tok, .int va, .int be, .int wr, .ref md, .ref mc, .int (nI an), .ref mk, .ref mq, .ref mr, .int td])), (mt, .inl (cs 0, 29, .inl tf)), (mc, .inl (cs 0, 696, .inl y1))] := by
      intro n
      induction n with
      | zero =>
        intros; omega
      | succ n ih51 =>
        intro i y0 y1 ey0 ey1 hi hn
        subst ey0
        subst ey1
        refine v_iload_n C 1 dX6_note_51 rfl ?_
        refine v_bipush C (v := 29) dX6_note_52 (by decide) ?_
        refine v_icmp_ge C 83 dX6_note_54 (by decide) (fun c2 => ?_) (fun c2 => ?_)
        · skip
          have hge : 29 ≤ i := le_nI (a := 29) (b := i) c2 (by omega) (by omega)
          refine v_aload_n C 0 dX6_note_83 rfl ?_
          refine v_dup C dX6_note_84 rfl ?_
          refine v_get C (v := .int (nI an)) fl_X6_note_133 0 rfl rfl dX6_note_85 ?_
          refine v_iconst C (v := 1) dX6_note_88 (by decide) ?_
          refine v_iadd C dX6_note_89 ?_
          refine v_put C fl_X6_note_133 fp_X6_17 0 rfl rfl rfl (Nat.le_of_ble_eq_true rfl) [(mo, .inr (6, [.ref ml, .ref mz, .ref mi, .int su, .int (b2 it), .ref mt, .ref mv, .ref mp, .int nby, .int lt, .int pl, .int tok, .int va, .int be, .int wr, .ref md, .ref mc, .int ((nI an) + 1), .ref mk, .ref mq, .ref mr, .int td])), (mt, .inl (cs 0, 29, .inl tf)), (mc, .inl (cs 0, 696, .inl (mvF mf tf (29 * an) 0 i)))] rfl dX6_note_90 ?_
          exact v_vret C E (by rw [show i = 29 by omega, ntF_L mf tf ha, nI_1]) dX6_note_93
        · skip
          have hlt : i < 29 := nle_nI (b := i) (a := 29) c2 (by omega) (by omega)
          refine v_aload_n C 0 dX6_note_57 rfl ?_
          refine v_get C (v := .ref mc) fl_X6_note_31 0 rfl rfl dX6_note_58 ?_
          refine v_bipush C (v := 29) dX6_note_61 (by decide) ?_
          refine v_aload_n C 0 dX6_note_63 rfl ?_
          refine v_get C (v := .int (nI an)) fl_X6_note_133 0 rfl rfl dX6_note_64 ?_
          refine v_imul C dX6_note_67 ?_
          refine v_iload_n C 1 dX6_note_68 rfl ?_
          refine v_iadd C dX6_note_69 ?_
          refine V.topr (y := nI (29 * an + i)) (ix29 _ _) ?_
          refine v_aload_n C 0 dX6_note_70 rfl ?_
          refine v_get C (v := .ref mt) fl_X6_note_19 0 rfl rfl dX6_note_71 ?_
          refine v_iload_n C 1 dX6_note_74 rfl ?_
          refine v_iald C 1 0 rfl rfl (tf i) (by rw [nI_clamp (by omega)]) (vp_in_nI (by omega) (by omega)) dX6_note_75 ?_
          refine v_iast C 2 0 rfl rfl (vp_in_nI (by omega) (by omega)) [(mo, .inr (6, [.ref ml, .ref mz, .ref mi, .int su, .int (b2 it), .ref mt, .ref mv, .ref mp, .int nby, .int lt, .int pl, .int tok, .int va, .int be, .int wr, .ref md, .ref mc, .int (nI an), .ref mk, .ref mq, .ref mr, .int td])), (mt, .inl (cs 0, 29, .inl tf)), (mc, .inl (cs 0, 696, .inl (upd (mvF mf tf (29 * an) 0 i) (29 * an + i) (tf i))))] (by rw [nI_clamp (by omega)]; rfl) dX6_note_76 ?_
          refine v_iinc C (k := 1) (nI (i + 1)) [(0, .ref mo), (1, .int (nI (i + 1)))] [1, 0] dX6_note_77 rfl (nI_inc _) (by decide) rfl ?_
          refine v_goto C 51 dX6_note_80 (by decide) ?_
          exact ih51 (i + 1) _ _ (rfl) (by have h9 := mvF_s mf tf (29 * an) 0 i; rw [Nat.zero_add] at h9; exact h9) (by first | assumption | omega) (by omega)
    exact L51 _ 0 _ _ (rfl) (mvF_0 _ _ _ _) (by first | assumption | omega) (Nat.lt_succ_self _)
  · exact absurd (eq_nI (a := an) (b := 24) c1 (by omega) (by decide)) (by omega)
set_option maxHeartbeats 4000000 in
set_option maxRecDepth 100000 in
theorem c_noteO (l : Launch) (D : va_G) (cs : Nat → ClassId) {mo : Nat} {ml : Nat} {mz : Nat} {mi : Nat} {mt : Nat} {mv : Nat} {mp : Nat} {md : Nat} {mc : Nat} {mk : Nat} {mq : Nat} {mr : Nat} {su : Int32} {it : Bool} {nby : Int32} {lt : Int32} {pl : Int32} {tok : Int32} {va : Int32} {be : Int32} {wr : Int32} {td : Int32} {tf : Nat → Int32} {mf : Nat → Int32} : CT l D (tz cs) yX6_note wsX6_note ({ frames := 0, cells := 0, slots := 0, locals := 0 }) [.ref mo] [(mo, .inr (6, [.ref ml, .ref mz, .ref mi, .int su, .int (b2 it), .ref mt, .ref mv, .ref mp, .int nby, .int lt, .int pl, .int tok, .int va, .int be, .int wr, .ref md, .ref mc, .int 24, .ref mk, .ref mq, .ref mr, .int td])), (mt, .inl (cs 0, 29, .inl tf)), (mc, .inl (cs 0, 696, .inl mf))] none [(mo, .inr (6, [.ref ml, .ref mz, .ref mi, .int su, .int (b2 it), .ref mt, .ref mv, .ref mp, .int nby, .int lt, .int pl, .int tok, .int va, .int be, .int wr, .ref md, .ref mc, .int 24, .ref mk, .ref mq, .ref mr, .int td])), (mt, .inl (cs 0, 29, .inl tf)), (mc, .inl (cs 0, 696, .inl (ntF mf tf 24)))] := by
  refine CT.of kX6_note (Nat.le_of_ble_eq_true rfl) ?_
  intro p e s m below meth c A C E
  have C : VOk p s m _ c cX6_note 2 wsX6_note RX6 D (tz cs) A s.heap := C
  refine V.lvs (lv' := [(0, .ref mo)]) [0] rfl ?_
  refine v_aload_n C 0 dX6_note_0 rfl ?_
  refine v_get C (v := .int 24) fl_X6_note_133 0 rfl rfl dX6_note_1 ?_
  refine v_bipush C (v := 24) dX6_note_4 (by decide) ?_
  refine v_icmp_ne C 49 dX6_note_6 (by decide) (fun c1 => ?_) (fun c1 => ?_)
  · exact absurd c1 (by decide)
  · skip
    refine v_iconst C (v := 0) dX6_note_9 (by decide) ?_
    refine v_istore_n C [(0, .ref mo), (1, .int 0)] [1, 0] dX6_note_10 (by decide) rfl ?_
    have L11 : ∀ (n : Nat) (i : Nat) (y0 : Int32) (y1 : Nat → Int32), y0 = (nI i) → y1 = shM mf i → (i ≤ 667) → (667 - i) < n → V p l e ({ frames := 0, cells := 0, slots := 0, locals := 0 }) s m (List.toArray [.ref mo]) below meth c 0 0 (MQ below (vq_Q none D [(mo, .inr (6, [.ref ml, .ref mz, .ref mi, .int su, .int (b2 it), .ref mt, .ref mv, .ref mp, .int nby, .int lt, .int pl, .int tok, .int va, .int be, .int wr, .ref md, .ref mc, .int 24, .ref mk, .ref mq, .ref mr, .int td])), (mt, .inl (cs 0, 29, .inl tf)), (mc, .inl (cs 0, 696, .inl (ntF mf tf 24)))] [(mo, .inr (6, [.ref ml, .ref mz, .ref mi, .int su, .int (b2 it), .ref mt, .ref mv, .ref mp, .int nby, .int lt, .int pl, .int tok, .int va, .int be, .int wr, .ref md, .ref mc, .int 24, .ref mk, .ref mq, .ref mr, .int td])), (mt, .inl (cs 0, 29, .inl tf)), (mc, .inl (cs 0, 696, .inl mf))] s.heap.size) (List.toArray [.ref mo]) s 0 0 (va_A [(mo, .inr (6, [.ref ml, .ref mz, .ref mi, .int su, .int (b2 it), .ref mt, .ref mv, .ref mp, .int nby, .int lt, .int pl, .int tok, .int va, .int be, .int wr, .ref md, .ref mc, .int 24, .ref mk, .ref mq, .ref mr, .int td])), (mt, .inl (cs 0, 29, .inl tf)), (mc, .inl (cs 0, 696, .inl mf))] s.heap.size)) 2 D A s.heap 11 [(0, .ref mo), (1, .int y0)] [] [(mo, .inr (6, [.ref ml, .ref mz, .ref mi, .int su, .int (b2 it), .ref mt, .ref mv, .ref mp, .int nby, .int lt, .int pl, .int tok, .int va, .int be, .int wr, .ref md, .ref mc, .int 24, .ref mk, .ref mq, .ref mr, .int td])), (mt, .inl (cs 0, 29, .inl tf)), (mc, .inl (cs 0, 696, .inl y1))] := by
      intro n
      induction n with
      | zero =>
        intros; omega
      | succ n ih11 =>
        intro i y0 y1 ey0 ey1 hi hn
        subst ey0
        subst ey1
        refine v_iload_n C 1 dX6_note_11 rfl ?_
        refine v_sipush C (v := 667) dX6_note_12 (by decide) ?_
        refine v_icmp_ge C 39 dX6_note_15 (by decide) (fun c2 => ?_) (fun c2 => ?_)
        · skip
          have hge : 667 ≤ i := le_nI (a := 667) (b := i) c2 (by omega) (by omega)
          refine v_aload_n C 0 dX6_note_39 rfl ?_
          refine v_dup C dX6_note_40 rfl ?_
          refine v_get C (v := .int 24) fl_X6_note_133 0 rfl rfl dX6_note_41 ?_
          refine v_iconst C (v := 1) dX6_note_44 (by decide) ?_
          refine v_isub C dX6_note_45 ?_
          refine v_put C fl_X6_note_133 fp_X6_17 0 rfl rfl rfl (Nat.le_of_ble_eq_true rfl) [(mo, .inr (6, [.ref ml, .ref mz, .ref mi, .int su, .int (b2 it), .ref mt, .ref mv, .ref mp, .int nby, .int lt, .int pl, .int tok, .int va, .int be, .int wr, .ref md, .ref mc, .int (24 - 1), .ref mk, .ref mq, .ref mr, .int td])), (mt, .inl (cs 0, 29, .inl tf)), (mc, .inl (cs 0, 696, .inl (shM mf i)))] rfl dX6_note_46 ?_
          refine v_iconst C (v := 0) dX6_note_49 (by decide) ?_
          refine v_istore_n C [(0, .ref mo), (1, .int 0)] [1, 0] dX6_note_50 (by decide) rfl ?_
          have L51 : ∀ (n : Nat) (k : Nat) (y0 : Int32) (y1 : Nat → Int32), y0 = (nI k) → y1 = mvF (shM mf 667) tf 667 0 k → (k ≤ 29) → (29 - k) < n → V p l e ({ frames := 0, cells := 0, slots := 0, locals := 0 }) s m (List.toArray [.ref mo]) below meth c 0 0 (MQ below (vq_Q none D [(mo, .inr (6, [.ref ml, .ref mz, .ref mi, .int su, .int (b2 it), .ref mt, .ref mv, .ref mp, .int nby, .int lt, .int pl, .int tok, .int va, .int be, .int wr, .ref md, .ref mc, .int 24, .ref mk, .ref mq, .ref mr, .int td])), (mt, .inl (cs 0, 29, .inl tf)), (mc, .inl (cs 0, 696, .inl (ntF mf tf 24)))] [(mo, .inr (6, [.ref ml, .ref mz, .ref mi, .int su, .int (b2 it), .ref mt, .ref mv, .ref mp, .int nby, .int lt, .int pl, .int tok, .int va, .int be, .int wr, .ref md, .ref mc, .int 24, .ref mk, .ref mq, .ref mr, .int td])), (mt, .inl (cs 0, 29, .inl tf)), (mc, .inl (cs 0, 696, .inl mf))] s.heap.size) (List.toArray [.ref mo]) s 0 0 (va_A [(mo, .inr (6, [.ref ml, .ref mz, .ref mi, .int su, .int (b2 it), .ref mt, .ref mv, .ref mp, .int nby, .int lt, .int pl, .int tok, .int va, .int be, .int wr, .ref md, .ref mc, .int 24, .ref mk, .ref mq, .ref mr, .int td])), (mt, .inl (cs 0, 29, .inl tf)), (mc, .inl (cs 0, 696, .inl mf))] s.heap.size)) 2 D A s.heap 51 [(0, .ref mo), (1, .int y0)] [] [(mo, .inr (6, [.ref ml, .ref mz, .ref mi, .int su, .int (b2 it), .ref mt, .ref mv, .ref mp, .int nby, .int lt, .int pl, .int tok, .int va, .int be, .int wr, .ref md, .ref mc, .int (24 - 1), .ref mk, .ref mq, .ref mr, .int td])), (mt, .inl (cs 0, 29, .inl tf)), (mc, .inl (cs 0, 696, .inl y1))] := by
            intro n
            induction n with
            | zero =>
              intros; omega
            | succ n ih51 =>
              intro k y0 y1 ey0 ey1 hk hn
              subst ey0
              subst ey1
              refine v_iload_n C 1 dX6_note_51 rfl ?_
              refine v_bipush C (v := 29) dX6_note_52 (by decide) ?_
              refine v_icmp_ge C 83 dX6_note_54 (by decide) (fun c3 => ?_) (fun c3 => ?_)
              · skip
                have hgek : 29 ≤ k := le_nI (a := 29) (b := k) c3 (by omega) (by omega)
                refine v_aload_n C 0 dX6_note_83 rfl ?_
                refine v_dup C dX6_note_84 rfl ?_
                refine v_get C (v := .int (24 - 1)) fl_X6_note_133 0 rfl rfl dX6_note_85 ?_
                refine v_iconst C (v := 1) dX6_note_88 (by decide) ?_
                refine v_iadd C dX6_note_89 ?_
                refine v_put C fl_X6_note_133 fp_X6_17 0 rfl rfl rfl (Nat.le_of_ble_eq_true rfl) [(mo, .inr (6, [.ref ml, .ref mz, .ref mi, .int su, .int (b2 it), .ref mt, .ref mv, .ref mp, .int nby, .int lt, .int pl, .int tok, .int va, .int be, .int wr, .ref md, .ref mc, .int ((24 - 1) + 1), .ref mk, .ref mq, .ref mr, .int td])), (mt, .inl (cs 0, 29, .inl tf)), (mc, .inl (cs 0, 696, .inl (mvF (shM mf 667) tf 667 0 k)))] rfl dX6_note_90 ?_
                exact v_vret C E (by rw [show k = 29 by omega, ntF_O]; rfl) dX6_note_93
              · skip
                have hltk : k < 29 := nle_nI (b := k) (a := 29) c3 (by omega) (by omega)
                refine v_aload_n C 0 dX6_note_57 rfl ?_
                refine v_get C (v := .ref mc) fl_X6_note_31 0 rfl rfl dX6_note_58 ?_
                refine v_bipush C (v := 29) dX6_note_61 (by decide) ?_
                refine v_aload_n C 0 dX6_note_63 rfl ?_
                refine v_get C (v := .int (24 - 1)) fl_X6_note_133 0 rfl rfl dX6_note_64 ?_
                refine v_imul C dX6_note_67 ?_
                refine v_iload_n C 1 dX6_note_68 rfl ?_
                refine v_iadd C dX6_note_69 ?_
                refine V.topr (y := nI (667 + k)) (nI_add 667 k) ?_
                refine v_aload_n C 0 dX6_note_70 rfl ?_
                refine v_get C (v := .ref mt) fl_X6_note_19 0 rfl rfl dX6_note_71 ?_
                refine v_iload_n C 1 dX6_note_74 rfl ?_
                refine v_iald C 1 0 rfl rfl (tf k) (by rw [nI_clamp (by omega)]) (vp_in_nI (by omega) (by omega)) dX6_note_75 ?_
                refine v_iast C 2 0 rfl rfl (vp_in_nI (by omega) (by omega)) [(mo, .inr (6, [.ref ml, .ref mz, .ref mi, .int su, .int (b2 it), .ref mt, .ref mv, .ref mp, .int nby, .int lt, .int pl, .int tok, .int va, .int be, .int wr, .ref md, .ref mc, .int (24 - 1), .ref mk, .ref mq, .ref mr, .int td])), (mt, .inl (cs 0, 29, .inl tf)), (mc, .inl (cs 0, 696, .inl (upd (mvF (shM mf 667) tf 667 0 k) (667 + k) (tf k))))] (by rw [nI_clamp (by omega)]; rfl) dX6_note_76 ?_
                refine v_iinc C (k := 1) (nI (k + 1)) [(0, .ref mo), (1, .int (nI (k + 1)))] [1, 0] dX6_note_77 rfl (nI_inc _) (by decide) rfl ?_
                refine v_goto C 51 dX6_note_80 (by decide) ?_
                exact ih51 (k + 1) _ _ (rfl) (by have h9 := mvF_s (shM mf 667) tf 667 0 k; rw [Nat.zero_add] at h9; exact h9) (by first | assumption | omega) (by omega)
          exact L51 _ 0 _ _ (rfl) (by rw [show i = 667 by omega]; exact mvF_0 _ _ _ _) (by first | assumption | omega) (Nat.lt_succ_self _)
        · skip
          have hlt : i < 667 := nle_nI (b := i) (a := 667) c2 (by omega) (by omega)
          refine v_aload_n C 0 dX6_note_18 rfl ?_
          refine v_get C (v := .ref mc) fl_X6_note_31 0 rfl rfl dX6_note_19 ?_
          refine v_iload_n C 1 dX6_note_22 rfl ?_
          refine v_aload_n C 0 dX6_note_23 rfl ?_
          refine v_get C (v := .ref mc) fl_X6_note_31 0 rfl rfl dX6_note_24 ?_
          refine v_iload_n C 1 dX6_note_27 rfl ?_
          refine v_bipush C (v := 29) dX6_note_28 (by decide) ?_
          refine v_iadd C dX6_note_30 ?_
          refine V.topr (y := nI (i + 29)) (nI_add i 29) ?_
          refine v_iald C 2 0 rfl rfl ((shM mf i) (i + 29)) (by rw [nI_clamp (by omega)]) (vp_in_nI (by omega) (by omega)) dX6_note_31 ?_
          refine v_iast C 2 0 rfl rfl (vp_in_nI (by omega) (by omega)) [(mo, .inr (6, [.ref ml, .ref mz, .ref mi, .int su, .int (b2 it), .ref mt, .ref mv, .ref mp, .int nby, .int lt, .int pl, .int tok, .int va, .int be, .int wr, .ref md, .ref mc, .int 24, .ref mk, .ref mq, .ref mr, .int td])), (mt, .inl (cs 0, 29, .inl tf)), (mc, .inl (cs 0, 696, .inl (upd (shM mf i) i ((shM mf i) (i + 29)))))] (by rw [nI_clamp (by omega)]; rfl) dX6_note_32 ?_
          refine v_iinc C (k := 1) (nI (i + 1)) [(0, .ref mo), (1, .int (nI (i + 1)))] [1, 0] dX6_note_33 rfl (nI_inc _) (by decide) rfl ?_
          refine v_goto C 11 dX6_note_36 (by decide) ?_
          exact ih11 (i + 1) _ _ (rfl) (by rw [shM_at]; exact shM_s _ _) (by first | assumption | omega) (by omega)
    exact L11 _ 0 _ _ (rfl) (shM_0 _) (by first | assumption | omega) (Nat.lt_succ_self _)
theorem c_note (l : Launch) (D : va_G) (cs : Nat → ClassId) {mo : Nat} {ml : Nat} {mz : Nat} {mi : Nat} {mt : Nat} {mv : Nat} {mp : Nat} {md : Nat} {mc : Nat} {mk : Nat} {mq : Nat} {mr : Nat} {su : Int32} {it : Bool} {nby : Int32} {lt : Int32} {pl : Int32} {tok : Int32} {va : Int32} {be : Int32} {wr : Int32} {td : Int32} {tf : Nat → Int32} {mf : Nat → Int32} {an : Nat} (ha : an ≤ 24) : CT l D (tz cs) yX6_note wsX6_note ({ frames := 0, cells := 0, slots := 0, locals := 0 }) [.ref mo] [(mo, .inr (6, [.ref ml, .ref mz, .ref mi, .int su, .int (b2 it), .ref mt, .ref mv, .ref mp, .int nby, .int lt, .int pl, .int tok, .int va, .int be, .int wr, .ref md, .ref mc, .int (nI an), .ref mk, .ref mq, .ref mr, .int td])), (mt, .inl (cs 0, 29, .inl tf)), (mc, .inl (cs 0, 696, .inl mf))] none [(mo, .inr (6, [.ref ml, .ref mz, .ref mi, .int su, .int (b2 it), .ref mt, .ref mv, .ref mp, .int nby, .int lt, .int pl, .int tok, .int va, .int be, .int wr, .ref md, .ref mc, .int (nI (kpN an)), .ref mk, .ref mq, .ref mr, .int td])), (mt, .inl (cs 0, 29, .inl tf)), (mc, .inl (cs 0, 696, .inl (ntF mf tf an)))] := by
  rcases Nat.lt_or_ge an 24 with h | h
  · have := c_noteL l D cs (mo := mo) (ml := ml) (mz := mz) (mi := mi) (mt := mt) (mv := mv) (mp := mp) (md := md) (mc := mc) (mk := mk) (mq := mq) (mr := mr) (su := su) (it := it) (nby := nby) (lt := lt) (pl := pl) (tok := tok) (va := va) (be := be) (wr := wr) (td := td) (tf := tf) (mf := mf) (an := an) h
    simp only [kpN, if_pos h]
    exact this
  · obtain rfl : an = 24 := by omega
    have := c_noteO l D cs (mo := mo) (ml := ml) (mz := mz) (mi := mi) (mt := mt) (mv := mv) (mp := mp) (md := md) (mc := mc) (mk := mk) (mq := mq) (mr := mr) (su := su) (it := it) (nby := nby) (lt := lt) (pl := pl) (tok := tok) (va := va) (be := be) (wr := wr) (td := td) (tf := tf) (mf := mf)
    exact this
theorem kX6_away : KD yX6_away wsX6_away cX6_away 3 (some .int) 2 := ⟨⟨_, rfl⟩, by decide, by decide +kernel, by decide +kernel, by decide +kernel⟩
theorem in_X6_away_X6 : ∀ w ∈ wsX60, w ∈ wsX6_away := by decide +kernel
theorem fl_X6_away_19 : FL RX6 wsX6_away RX6 RX6 TX6 22 6 5 19 := ⟨⟨in_X6_away_X6, rfl, by decide, rfl⟩, by decide +kernel⟩
set_option maxHeartbeats 4000000 in
set_option maxRecDepth 100000 in
theorem c_maway (l : Launch) (D : va_G) (cs : Nat → ClassId) {mo : Nat} {ml : Nat} {mz : Nat} {mi : Nat} {mt : Nat} {mv : Nat} {mp : Nat} {md : Nat} {mc : Nat} {mk : Nat} {mq : Nat} {mr : Nat} {su : Int32} {it : Bool} {nby : Int32} {lt : Int32} {pl : Int32} {tok : Int32} {va : Int32} {be : Int32} {wr : Int32} {td : Int32} {tf : Nat → Int32} {mf : Nat → Int32} {pn : Nat} {an : Nat} {x : Int32} {y : Int32} (ha : an ≤ 24) (hpe : tf 0 = nI pn) (hpn : pn ≤ 6) : CT l D (tz cs) yX6_away wsX6_away ({ frames := 2, cells := 0, slots := 0, locals := 46 }) [.ref mo, .int x, .int y] [(mo, .inr (6, [.ref ml, .ref mz, .ref mi, .int su, .int (b2 it), .ref mt, .ref mv, .ref mp, .int nby, .int lt, .int pl, .int tok, .int va, .int be, .int wr, .ref md, .ref mc, .int (nI an), .ref mk, .ref mq, .ref mr, .int td])), (mt, .inl (cs 0, 29, .inl tf)), (mc, .inl (cs 0, 696, .inl mf))] (some (.int (if (inB (nI pn) x && inI y 0 1) = true then (if (tf 4 >>> (x &&& 31)) &&& 1 = y then -1000002 else tf 4 ^^^ (1 <<< (x &&& 31))) else -1000001))) [(mo, .inr (6, [.ref ml, .ref mz, .ref mi, .int su, .int (b2 it), .ref mt, .ref mv, .ref mp, .int nby, .int lt, .int pl, .int tok, .int va, .int be, .int wr, .ref md, .ref mc, .int (nI (if (inB (nI pn) x && inI y 0 1) = true then (if (tf 4 >>> (x &&& 31)) &&& 1 = y then an else kpN an) else an)), .ref mk, .ref mq, .ref mr, .int td])), (mt, .inl (cs 0, 29, .inl (if (inB (nI pn) x && inI y 0 1) = true then (if (tf 4 >>> (x &&& 31)) &&& 1 = y then tf else upd tf 4 (tf 4 ^^^ (1 <<< (x &&& 31)))) else tf))), (mc, .inl (cs 0, 696, .inl (if (inB (nI pn) x && inI y 0 1) = true then (if (tf 4 >>> (x &&& 31)) &&& 1 = y then mf else ntF mf tf an) else mf)))] := by
  refine CT.of kX6_away (Nat.le_of_ble_eq_true rfl) ?_
  intro p e s m below meth c A C E
  have C : VOk p s m _ c cX6_away 3 wsX6_away RX6 D (tz cs) A s.heap := C
  refine V.lvs (lv' := [(0, .ref mo), (1, .int x), (2, .int y)]) [0, 1, 2] rfl ?_
  refine v_aload_n C 0 dX6_away_0 rfl ?_
  refine v_iload_n C 1 dX6_away_1 rfl ?_
  refine v_callV (qi := 0) C [.int x] [] kX6_isPerson gX6_away_X6_isPerson (c_misPerson l D cs (mo := mo) (ml := ml) (mz := mz) (mi := mi) (mt := mt) (mv := mv) (mp := mp) (md := md) (mc := mc) (mk := mk) (mq := mq) (mr := mr) (su := su) (it := it) (nby := nby) (lt := lt) (pl := pl) (tok := tok) (va := va) (be := be) (wr := wr) (am := (nI an)) (td := td) (tf := tf) (pn := pn) (x := x) (by first | assumption | omega) (by first | assumption | omega)) ⟨Nat.le_of_ble_eq_true rfl, Nat.le_of_ble_eq_true rfl⟩ ⟨rfl, rfl⟩ ⟨Nat.zero_le _, Nat.zero_le _⟩ rfl 0 rfl rfl rfl rfl (Nat.le_of_ble_eq_true rfl) [0, 1] [(mo, .inr (6, [.ref ml, .ref mz, .ref mi, .int su, .int (b2 it), .ref mt, .ref mv, .ref mp, .int nby, .int lt, .int pl, .int tok, .int va, .int be, .int wr, .ref md, .ref mc, .int (nI an), .ref mk, .ref mq, .ref mr, .int td])), (mt, .inl (cs 0, 29, .inl tf)), (mc, .inl (cs 0, 696, .inl mf))] rfl (by decide) (show [mo, mt] = [mo, mt] from rfl) (rfl) dX6_away_2 ?_
  refine V.sts (st' := [.int (b2 (inB (nI pn) x))]) rfl ?_
  refine v_if_eqB C 18 dX6_away_5 (by decide) (fun c1 => ?_) (fun c1 => ?_)
  · skip
    refine v_ldc C (v := -1000001) (by decide +kernel) dX6_away_18 ?_
    exact v_iret C E (by first | rfl | (simp only [c1, ↓reduceIte, Bool.false_eq_true, reduceCtorEq, Bool.and_true, Bool.true_and, Bool.and_false, Bool.false_and]; done) | (simp [c1]; done) | (simp_all [b2]; done)) (by first | rfl | (simp only [pk_us, c1, ↓reduceIte, Bool.false_eq_true, reduceCtorEq, Bool.and_true, Bool.true_and, Bool.and_false, Bool.false_and]; done) | (simp [pk_us, c1]; done) | (simp_all [pk_us]; done)) dX6_away_20
  · skip
    refine v_iload_n C 2 dX6_away_8 rfl ?_
    refine v_i2l C dX6_away_9 ?_
    refine v_lconst C (v := 0) dX6_away_10 (by decide) ?_
    refine v_lconst C (v := 1) dX6_away_11 (by decide) ?_
    refine v_callS C [.long (Int32.toInt64 y), .long 0, .long 1] [] kX6_in gX6_away_X6_in (c_inI l D cs (x := y) (a := 0) (b := 1) (lo := 0) (hi := 1) (by decide) (by decide)) ⟨Nat.le_of_ble_eq_true rfl, Nat.le_of_ble_eq_true rfl⟩ ⟨rfl, rfl⟩ ⟨Nat.zero_le _, Nat.zero_le _⟩ rfl rfl (Nat.le_of_ble_eq_true rfl) [] [(mo, .inr (6, [.ref ml, .ref mz, .ref mi, .int su, .int (b2 it), .ref mt, .ref mv, .ref mp, .int nby, .int lt, .int pl, .int tok, .int va, .int be, .int wr, .ref md, .ref mc, .int (nI an), .ref mk, .ref mq, .ref mr, .int td])), (mt, .inl (cs 0, 29, .inl tf)), (mc, .inl (cs 0, 696, .inl mf))] rfl (by decide) rfl (rfl) dX6_away_12 ?_
    refine V.sts (st' := [.int (b2 (inI y 0 1))]) rfl ?_
    refine v_if_neB C 21 dX6_away_15 (by decide) (fun c2 => ?_) (fun c2 => ?_)
    · skip
      refine v_aload_n C 0 dX6_away_21 rfl ?_
      refine v_get C (v := .ref mt) fl_X6_away_19 0 rfl rfl dX6_away_22 ?_
      refine v_iconst C (v := 4) dX6_away_25 (by decide) ?_
      refine v_iald C 1 0 rfl rfl (tf 4) (rfl) (vp_in_nI (n := 4) (N := 29) (by decide) (by decide)) dX6_away_26 ?_
      refine v_iload_n C 1 dX6_away_27 rfl ?_
      refine v_ishr C dX6_away_28 ?_
      refine v_iconst C (v := 1) dX6_away_29 (by decide) ?_
      refine v_iand C dX6_away_30 ?_
      refine v_iload_n C 2 dX6_away_31 rfl ?_
      refine v_icmp_ne C 38 dX6_away_32 (by decide) (fun c3 => ?_) (fun c3 => ?_)
      · skip
        refine v_aload_n C 0 dX6_away_38 rfl ?_
        refine v_callV (qi := 0) C [] [] kX6_note gX6_away_X6_note (c_note l D cs (mo := mo) (ml := ml) (mz := mz) (mi := mi) (mt := mt) (mv := mv) (mp := mp) (md := md) (mc := mc) (mk := mk) (mq := mq) (mr := mr) (su := su) (it := it) (nby := nby) (lt := lt) (pl := pl) (tok := tok) (va := va) (be := be) (wr := wr) (td := td) (tf := tf) (mf := mf) (an := an) (by first | assumption | omega)) ⟨Nat.le_of_ble_eq_true rfl, Nat.le_of_ble_eq_true rfl⟩ ⟨rfl, rfl⟩ ⟨Nat.zero_le _, Nat.zero_le _⟩ rfl 0 rfl rfl rfl rfl (Nat.le_of_ble_eq_true rfl) [0, 1, 2] [(mo, .inr (6, [.ref ml, .ref mz, .ref mi, .int su, .int (b2 it), .ref mt, .ref mv, .ref mp, .int nby, .int lt, .int pl, .int tok, .int va, .int be, .int wr, .ref md, .ref mc, .int (nI (kpN an)), .ref mk, .ref mq, .ref mr, .int td])), (mt, .inl (cs 0, 29, .inl tf)), (mc, .inl (cs 0, 696, .inl (ntF mf tf an)))] rfl (by decide) (show [mo, mt, mc] = [mo, mt, mc] from rfl) (rfl) dX6_away_39 ?_
        refine V.sts (st' := []) rfl ?_
        refine v_aload_n C 0 dX6_away_42 rfl ?_
        refine v_get C (v := .ref mt) fl_X6_away_19 0 rfl rfl dX6_away_43 ?_
        refine v_iconst C (v := 4) dX6_away_46 (by decide) ?_
        refine v_dup2 C dX6_away_47 rfl rfl ?_
        refine v_iald C 1 0 rfl rfl (tf 4) (rfl) (vp_in_nI (n := 4) (N := 29) (by decide) (by decide)) dX6_away_48 ?_
        refine v_iconst C (v := 1) dX6_away_49 (by decide) ?_
        refine v_iload_n C 1 dX6_away_50 rfl ?_
        refine v_ishl C dX6_away_51 ?_
        refine v_ixor C dX6_away_52 ?_
        refine v_iast C 1 0 rfl rfl (vp_in_nI (n := 4) (N := 29) (by decide) (by decide)) [(mo, .inr (6, [.ref ml, .ref mz, .ref mi, .int su, .int (b2 it), .ref mt, .ref mv, .ref mp, .int nby, .int lt, .int pl, .int tok, .int va, .int be, .int wr, .ref md, .ref mc, .int (nI (kpN an)), .ref mk, .ref mq, .ref mr, .int td])), (mt, .inl (cs 0, 29, .inl (upd tf 4 ((tf 4) ^^^ (1 <<< (x &&& 31)))))), (mc, .inl (cs 0, 696, .inl (ntF mf tf an)))] (rfl) dX6_away_53 ?_
        refine v_aload_n C 0 dX6_away_54 rfl ?_
        refine v_get C (v := .ref mt) fl_X6_away_19 0 rfl rfl dX6_away_55 ?_
        refine v_iconst C (v := 4) dX6_away_58 (by decide) ?_
        refine v_iald C 1 0 rfl rfl ((upd tf 4 ((tf 4) ^^^ (1 <<< (x &&& 31)))) 4) (rfl) (vp_in_nI (n := 4) (N := 29) (by decide) (by decide)) dX6_away_59 ?_
        exact v_iret C E (by first | rfl | (simp only [c1, c2, c3, ↓reduceIte, Bool.false_eq_true, reduceCtorEq, Bool.and_true, Bool.true_and, Bool.and_false, Bool.false_and]; done) | (simp [c1, c2, c3]; done) | (simp_all [b2]; done)) (by first | rfl | (simp only [pk_us, c1, c2, c3, ↓reduceIte, Bool.false_eq_true, reduceCtorEq, Bool.and_true, Bool.true_and, Bool.and_false, Bool.false_and]; done) | (simp [pk_us, c1, c2, c3]; done) | (simp_all [pk_us]; done)) dX6_away_60
      · skip
        refine v_ldc C (v := -1000002) (by decide +kernel) dX6_away_35 ?_
        exact v_iret C E (by first | rfl | (simp only [c1, c2, c3, ↓reduceIte, Bool.false_eq_true, reduceCtorEq, Bool.and_true, Bool.true_and, Bool.and_false, Bool.false_and]; done) | (simp [c1, c2, c3]; done) | (simp_all [b2]; done)) (by first | rfl | (simp only [pk_us, c1, c2, c3, ↓reduceIte, Bool.false_eq_true, reduceCtorEq, Bool.and_true, Bool.true_and, Bool.and_false, Bool.false_and]; done) | (simp [pk_us, c1, c2, c3]; done) | (simp_all [pk_us]; done)) dX6_away_37
    · skip
      refine v_ldc C (v := -1000001) (by decide +kernel) dX6_away_18 ?_
      exact v_iret C E (by first | rfl | (simp only [c1, c2, ↓reduceIte, Bool.false_eq_true, reduceCtorEq, Bool.and_true, Bool.true_and, Bool.and_false, Bool.false_and]; done) | (simp [c1, c2]; done) | (simp_all [b2]; done)) (by first | rfl | (simp only [pk_us, c1, c2, ↓reduceIte, Bool.false_eq_true, reduceCtorEq, Bool.and_true, Bool.true_and, Bool.and_false, Bool.false_and]; done) | (simp [pk_us, c1, c2]; done) | (simp_all [pk_us]; done)) dX6_away_20
theorem kX6_tie : KD yX6_tie wsX6_tie cX6_tie 5 (some .int) 3 := ⟨⟨_, rfl⟩, by decide, by decide +kernel, by decide +kernel, by decide +kernel⟩
theorem in_X6_tie_X6 : ∀ w ∈ wsX60, w ∈ wsX6_tie := by decide +kernel
theorem fl_X6_tie_129 : FL RX6 wsX6_tie RX6 RX6 TX6 22 6 4 129 := ⟨⟨in_X6_tie_X6, rfl, by decide, rfl⟩, by decide +kernel⟩
theorem fl_X6_tie_19 : FL RX6 wsX6_tie RX6 RX6 TX6 22 6 5 19 := ⟨⟨in_X6_tie_X6, rfl, by decide, rfl⟩, by decide +kernel⟩
set_option maxHeartbeats 4000000 in
set_option maxRecDepth 100000 in
theorem c_mtie (l : Launch) (D : va_G) (cs : Nat → ClassId) {mo : Nat} {ml : Nat} {mz : Nat} {mi : Nat} {mt : Nat} {mv : Nat} {mp : Nat} {md : Nat} {mc : Nat} {mk : Nat} {mq : Nat} {mr : Nat} {su : Int32} {it : Bool} {nby : Int32} {lt : Int32} {pl : Int32} {tok : Int32} {va : Int32} {be : Int32} {wr : Int32} {td : Int32} {tf : Nat → Int32} {mf : Nat → Int32} {tn : Nat} {an : Nat} {x : Int32} {y : Int32} {z : Int32} (ha : an ≤ 24) (hte : tf 1 = nI tn) (hti : tn ≤ 8) : CT l D (tz cs) yX6_tie wsX6_tie ({ frames := 1, cells := 0, slots := 0, locals := 25 }) [.ref mo, .int x, .int y, .int z] [(mo, .inr (6, [.ref ml, .ref mz, .ref mi, .int su, .int (b2 it), .ref mt, .ref mv, .ref mp, .int nby, .int lt, .int pl, .int tok, .int va, .int be, .int wr, .ref md, .ref mc, .int (nI an), .ref mk, .ref mq, .ref mr, .int td])), (mt, .inl (cs 0, 29, .inl tf)), (mc, .inl (cs 0, 696, .inl mf))] (some (.int (if it = true then (if (inI x 1 5 && inI y 1 (allI (tf 0)) && inI z 0 40) = true then (if tf 1 = 8 then -1000003 else nI tn) else -1000001) else -1000002))) [(mo, .inr (6, [.ref ml, .ref mz, .ref mi, .int su, .int (b2 it), .ref mt, .ref mv, .ref mp, .int nby, .int lt, .int pl, .int tok, .int va, .int be, .int wr, .ref md, .ref mc, .int (nI (if it = true then (if (inI x 1 5 && inI y 1 (allI (tf 0)) && inI z 0 40) = true then (if tf 1 = 8 then an else kpN an) else an) else an)), .ref mk, .ref mq, .ref mr, .int td])), (mt, .inl (cs 0, 29, .inl (if it = true then (if (inI x 1 5 && inI y 1 (allI (tf 0)) && inI z 0 40) = true then (if tf 1 = 8 then tf else upd (upd (upd (upd tf (5 + tn) x) (13 + tn) y) (21 + tn) z) 1 (nI (tn + 1))) else tf) else tf))), (mc, .inl (cs 0, 696, .inl (if it = true then (if (inI x 1 5 && inI y 1 (allI (tf 0)) && inI z 0 40) = true then (if tf 1 = 8 then mf else ntF mf tf an) else mf) else mf)))] := by
  refine CT.of kX6_tie (Nat.le_of_ble_eq_true rfl) ?_
  intro p e s m below meth c A C E
  have C : VOk p s m _ c cX6_tie 5 wsX6_tie RX6 D (tz cs) A s.heap := C
  refine V.lvs (lv' := [(0, .ref mo), (1, .int x), (2, .int y), (3, .int z)]) [0, 1, 2, 3] rfl ?_
  refine v_aload_n C 0 dX6_tie_0 rfl ?_
  refine v_get C (v := .int (b2 it)) fl_X6_tie_129 0 rfl rfl dX6_tie_1 ?_
  refine v_if_neB C 10 dX6_tie_4 (by decide) (fun c1 => ?_) (fun c1 => ?_)
  · skip
    refine v_iload_n C 1 dX6_tie_10 rfl ?_
    refine v_i2l C dX6_tie_11 ?_
    refine v_lconst C (v := 1) dX6_tie_12 (by decide) ?_
    refine v_ldc2 C (v := 5) (by decide +kernel) dX6_tie_13 ?_
    refine v_callS C [.long (Int32.toInt64 x), .long 1, .long 5] [] kX6_in gX6_tie_X6_in (c_inI l D cs (x := x) (a := 1) (b := 5) (lo := 1) (hi := 5) (by decide) (by decide)) ⟨Nat.le_of_ble_eq_true rfl, Nat.le_of_ble_eq_true rfl⟩ ⟨rfl, rfl⟩ ⟨Nat.zero_le _, Nat.zero_le _⟩ rfl rfl (Nat.le_of_ble_eq_true rfl) [] [(mo, .inr (6, [.ref ml, .ref mz, .ref mi, .int su, .int (b2 it), .ref mt, .ref mv, .ref mp, .int nby, .int lt, .int pl, .int tok, .int va, .int be, .int wr, .ref md, .ref mc, .int (nI an), .ref mk, .ref mq, .ref mr, .int td])), (mt, .inl (cs 0, 29, .inl tf)), (mc, .inl (cs 0, 696, .inl mf))] rfl (by decide) rfl (rfl) dX6_tie_16 ?_
    refine V.sts (st' := [.int (b2 (inI x 1 5))]) rfl ?_
    refine v_if_eqB C 48 dX6_tie_19 (by decide) (fun c2 => ?_) (fun c2 => ?_)
    · skip
      refine v_ldc C (v := -1000001) (by decide +kernel) dX6_tie_48 ?_
      exact v_iret C E (by first | rfl | (simp only [c1, c2, ↓reduceIte, Bool.false_eq_true, reduceCtorEq, Bool.and_true, Bool.true_and, Bool.and_false, Bool.false_and]; done) | (simp [c1, c2]; done) | (simp_all [b2]; done)) (by first | rfl | (simp only [c1, c2, ↓reduceIte, Bool.false_eq_true, reduceCtorEq, Bool.and_true, Bool.true_and, Bool.and_false, Bool.false_and]; done) | (simp [c1, c2]; done) | (simp_all [b2]; done)) dX6_tie_50
    · skip
      refine v_iload_n C 2 dX6_tie_22 rfl ?_
      refine v_i2l C dX6_tie_23 ?_
      refine v_lconst C (v := 1) dX6_tie_24 (by decide) ?_
      refine v_aload_n C 0 dX6_tie_25 rfl ?_
      refine v_callV (qi := 0) C [] [.long 1, .long (Int32.toInt64 y)] kX6_all gX6_tie_X6_all (c_mall l D cs (mo := mo) (ml := ml) (mz := mz) (mi := mi) (mt := mt) (mv := mv) (mp := mp) (md := md) (mc := mc) (mk := mk) (mq := mq) (mr := mr) (su := su) (it := it) (nby := nby) (lt := lt) (pl := pl) (tok := tok) (va := va) (be := be) (wr := wr) (am := (nI an)) (td := td) (tf := tf) ) ⟨Nat.le_of_ble_eq_true rfl, Nat.le_of_ble_eq_true rfl⟩ ⟨rfl, rfl⟩ ⟨Nat.zero_le _, Nat.zero_le _⟩ rfl 0 rfl rfl rfl rfl (Nat.le_of_ble_eq_true rfl) [0, 1] [(mo, .inr (6, [.ref ml, .ref mz, .ref mi, .int su, .int (b2 it), .ref mt, .ref mv, .ref mp, .int nby, .int lt, .int pl, .int tok, .int va, .int be, .int wr, .ref md, .ref mc, .int (nI an), .ref mk, .ref mq, .ref mr, .int td])), (mt, .inl (cs 0, 29, .inl tf)), (mc, .inl (cs 0, 696, .inl mf))] rfl (by decide) (show [mo, mt] = [mo, mt] from rfl) (rfl) dX6_tie_26 ?_
      refine V.sts (st' := [.int (allI (tf 0)), .long 1, .long (Int32.toInt64 y)]) rfl ?_
      refine v_i2l C dX6_tie_29 ?_
      refine v_callS C [.long (Int32.toInt64 y), .long 1, .long (Int32.toInt64 (allI (tf 0)))] [] kX6_in gX6_tie_X6_in (c_inI l D cs (x := y) (a := 1) (b := (allI (tf 0))) (lo := 1) (hi := (Int32.toInt64 (allI (tf 0)))) (by decide) (rfl)) ⟨Nat.le_of_ble_eq_true rfl, Nat.le_of_ble_eq_true rfl⟩ ⟨rfl, rfl⟩ ⟨Nat.zero_le _, Nat.zero_le _⟩ rfl rfl (Nat.le_of_ble_eq_true rfl) [] [(mo, .inr (6, [.ref ml, .ref mz, .ref mi, .int su, .int (b2 it), .ref mt, .ref mv, .ref mp, .int nby, .int lt, .int pl, .int tok, .int va, .int be, .int wr, .ref md, .ref mc, .int (nI an), .ref mk, .ref mq, .ref mr, .int td])), (mt, .inl (cs 0, 29, .inl tf)), (mc, .inl (cs 0, 696, .inl mf))] rfl (by decide) rfl (rfl) dX6_tie_30 ?_
      refine V.sts (st' := [.int (b2 (inI y 1 (allI (tf 0))))]) rfl ?_
      refine v_if_eqB C 48 dX6_tie_33 (by decide) (fun c3 => ?_) (fun c3 => ?_)
      · skip
        refine v_ldc C (v := -1000001) (by decide +kernel) dX6_tie_48 ?_
        exact v_iret C E (by first | rfl | (simp only [c1, c2, c3, ↓reduceIte, Bool.false_eq_true, reduceCtorEq, Bool.and_true, Bool.true_and, Bool.and_false, Bool.false_and]; done) | (simp [c1, c2, c3]; done) | (simp_all [b2]; done)) (by first | rfl | (simp only [c1, c2, c3, ↓reduceIte, Bool.false_eq_true, reduceCtorEq, Bool.and_true, Bool.true_and, Bool.and_false, Bool.false_and]; done) | (simp [c1, c2, c3]; done) | (simp_all [b2]; done)) dX6_tie_50
      · skip
        refine v_iload_n C 3 dX6_tie_36 rfl ?_
        refine v_i2l C dX6_tie_37 ?_
        refine v_lconst C (v := 0) dX6_tie_38 (by decide) ?_
        refine v_ldc2 C (v := 40) (by decide +kernel) dX6_tie_39 ?_
        refine v_callS C [.long (Int32.toInt64 z), .long 0, .long 40] [] kX6_in gX6_tie_X6_in (c_inI l D cs (x := z) (a := 0) (b := 40) (lo := 0) (hi := 40) (by decide) (by decide)) ⟨Nat.le_of_ble_eq_true rfl, Nat.le_of_ble_eq_true rfl⟩ ⟨rfl, rfl⟩ ⟨Nat.zero_le _, Nat.zero_le _⟩ rfl rfl (Nat.le_of_ble_eq_true rfl) [] [(mo, .inr (6, [.ref ml, .ref mz, .ref mi, .int su, .int (b2 it), .ref mt, .ref mv, .ref mp, .int nby, .int lt, .int pl, .int tok, .int va, .int be, .int wr, .ref md, .ref mc, .int (nI an), .ref mk, .ref mq, .ref mr, .int td])), (mt, .inl (cs 0, 29, .inl tf)), (mc, .inl (cs 0, 696, .inl mf))] rfl (by decide) rfl (rfl) dX6_tie_42 ?_
        refine V.sts (st' := [.int (b2 (inI z 0 40))]) rfl ?_
        refine v_if_neB C 51 dX6_tie_45 (by decide) (fun c4 => ?_) (fun c4 => ?_)
        · skip
          refine v_aload_n C 0 dX6_tie_51 rfl ?_
          refine v_get C (v := .ref mt) fl_X6_tie_19 0 rfl rfl dX6_tie_52 ?_
          refine v_iconst C (v := 1) dX6_tie_55 (by decide) ?_
          refine v_iald C 1 0 rfl rfl (tf 1) (rfl) (vp_in_nI (n := 1) (N := 29) (by decide) (by decide)) dX6_tie_56 ?_
          refine v_bipush C (v := 8) dX6_tie_57 (by decide) ?_
          refine v_icmp_ne C 65 dX6_tie_59 (by decide) (fun c5 => ?_) (fun c5 => ?_)
          · skip
            have hlt : tn < 8 := by rcases Nat.lt_or_ge tn 8 with h9 | h9; exact h9; exact absurd (by rw [hte, show tn = 8 by omega]; rfl) c5
            refine v_aload_n C 0 dX6_tie_65 rfl ?_
            refine v_callV (qi := 0) C [] [] kX6_note gX6_tie_X6_note (c_note l D cs (mo := mo) (ml := ml) (mz := mz) (mi := mi) (mt := mt) (mv := mv) (mp := mp) (md := md) (mc := mc) (mk := mk) (mq := mq) (mr := mr) (su := su) (it := it) (nby := nby) (lt := lt) (pl := pl) (tok := tok) (va := va) (be := be) (wr := wr) (td := td) (tf := tf) (mf := mf) (an := an) (by first | assumption | omega)) ⟨Nat.le_of_ble_eq_true rfl, Nat.le_of_ble_eq_true rfl⟩ ⟨rfl, rfl⟩ ⟨Nat.zero_le _, Nat.zero_le _⟩ rfl 0 rfl rfl rfl rfl (Nat.le_of_ble_eq_true rfl) [0, 1, 2] [(mo, .inr (6, [.ref ml, .ref mz, .ref mi, .int su, .int (b2 it), .ref mt, .ref mv, .ref mp, .int nby, .int lt, .int pl, .int tok, .int va, .int be, .int wr, .ref md, .ref mc, .int (nI (kpN an)), .ref mk, .ref mq, .ref mr, .int td])), (mt, .inl (cs 0, 29, .inl tf)), (mc, .inl (cs 0, 696, .inl (ntF mf tf an)))] rfl (by decide) (show [mo, mt, mc] = [mo, mt, mc] from rfl) (rfl) dX6_tie_66 ?_
            refine V.sts (st' := []) rfl ?_
            refine v_aload_n C 0 dX6_tie_69 rfl ?_
            refine v_get C (v := .ref mt) fl_X6_tie_19 0 rfl rfl dX6_tie_70 ?_
            refine v_iconst C (v := 1) dX6_tie_73 (by decide) ?_
            refine v_iald C 1 0 rfl rfl (tf 1) (rfl) (vp_in_nI (n := 1) (N := 29) (by decide) (by decide)) dX6_tie_74 ?_
            refine V.topr (y := nI tn) (hte) ?_
            refine v_istore C [(0, .ref mo), (1, .int x), (2, .int y), (3, .int z), (4, .int (nI tn))] [1, 2, 3, 4, 0] dX6_tie_75 (by decide) rfl ?_
            refine v_aload_n C 0 dX6_tie_77 rfl ?_
            refine v_get C (v := .ref mt) fl_X6_tie_19 0 rfl rfl dX6_tie_78 ?_
            refine v_iconst C (v := 5) dX6_tie_81 (by decide) ?_
            refine v_iload C 4 dX6_tie_82 rfl ?_
            refine v_iadd C dX6_tie_84 ?_
            refine V.topr (y := nI (5 + tn)) (nI_add 5 tn) ?_
            refine v_iload_n C 1 dX6_tie_85 rfl ?_
            refine v_iast C 1 0 rfl rfl (vp_in_nI (by omega) (by omega)) [(mo, .inr (6, [.ref ml, .ref mz, .ref mi, .int su, .int (b2 it), .ref mt, .ref mv, .ref mp, .int nby, .int lt, .int pl, .int tok, .int va, .int be, .int wr, .ref md, .ref mc, .int (nI (kpN an)), .ref mk, .ref mq, .ref mr, .int td])), (mt, .inl (cs 0, 29, .inl (upd tf (5 + tn) x))), (mc, .inl (cs 0, 696, .inl (ntF mf tf an)))] (by rw [nI_clamp (by omega)]; rfl) dX6_tie_86 ?_
            refine v_aload_n C 0 dX6_tie_87 rfl ?_
            refine v_get C (v := .ref mt) fl_X6_tie_19 0 rfl rfl dX6_tie_88 ?_
            refine v_bipush C (v := 13) dX6_tie_91 (by decide) ?_
            refine v_iload C 4 dX6_tie_93 rfl ?_
            refine v_iadd C dX6_tie_95 ?_
            refine V.topr (y := nI (13 + tn)) (nI_add 13 tn) ?_
            refine v_iload_n C 2 dX6_tie_96 rfl ?_
            refine v_iast C 1 0 rfl rfl (vp_in_nI (by omega) (by omega)) [(mo, .inr (6, [.ref ml, .ref mz, .ref mi, .int su, .int (b2 it), .ref mt, .ref mv, .ref mp, .int nby, .int lt, .int pl, .int tok, .int va, .int be, .int wr, .ref md, .ref mc, .int (nI (kpN an)), .ref mk, .ref mq, .ref mr, .int td])), (mt, .inl (cs 0, 29, .inl (upd (upd tf (5 + tn) x) (13 + tn) y))), (mc, .inl (cs 0, 696, .inl (ntF mf tf an)))] (by rw [nI_clamp (by omega)]; rfl) dX6_tie_97 ?_
            refine v_aload_n C 0 dX6_tie_98 rfl ?_
            refine v_get C (v := .ref mt) fl_X6_tie_19 0 rfl rfl dX6_tie_99 ?_
            refine v_bipush C (v := 21) dX6_tie_102 (by decide) ?_
            refine v_iload C 4 dX6_tie_104 rfl ?_
            refine v_iadd C dX6_tie_106 ?_
            refine V.topr (y := nI (21 + tn)) (nI_add 21 tn) ?_
            refine v_iload_n C 3 dX6_tie_107 rfl ?_
            refine v_iast C 1 0 rfl rfl (vp_in_nI (by omega) (by omega)) [(mo, .inr (6, [.ref ml, .ref mz, .ref mi, .int su, .int (b2 it), .ref mt, .ref mv, .ref mp, .int nby, .int lt, .int pl, .int tok, .int va, .int be, .int wr, .ref md, .ref mc, .int (nI (kpN an)), .ref mk, .ref mq, .ref mr, .int td])), (mt, .inl (cs 0, 29, .inl (upd (upd (upd tf (5 + tn) x) (13 + tn) y) (21 + tn) z))), (mc, .inl (cs 0, 696, .inl (ntF mf tf an)))] (by rw [nI_clamp (by omega)]; rfl) dX6_tie_108 ?_
            refine v_aload_n C 0 dX6_tie_109 rfl ?_
            refine v_get C (v := .ref mt) fl_X6_tie_19 0 rfl rfl dX6_tie_110 ?_
            refine v_iconst C (v := 1) dX6_tie_113 (by decide) ?_
            refine v_dup2 C dX6_tie_114 rfl rfl ?_
            refine v_iald C 1 0 rfl rfl ((upd (upd (upd tf (5 + tn) x) (13 + tn) y) (21 + tn) z) 1) (rfl) (vp_in_nI (n := 1) (N := 29) (by decide) (by decide)) dX6_tie_115 ?_
            refine V.topr (y := nI tn) (by rw [show upd (upd (upd tf (5 + tn) x) (13 + tn) y) (21 + tn) z 1 = tf 1 by (simp only [upd]; rw [if_neg (by omega), if_neg (by omega), if_neg (by omega)]), hte]) ?_
            refine v_iconst C (v := 1) dX6_tie_116 (by decide) ?_
            refine v_iadd C dX6_tie_117 ?_
            refine V.topr (y := nI (tn + 1)) (nI_1 _) ?_
            refine v_iast C 1 0 rfl rfl (vp_in_nI (n := 1) (N := 29) (by decide) (by decide)) [(mo, .inr (6, [.ref ml, .ref mz, .ref mi, .int su, .int (b2 it), .ref mt, .ref mv, .ref mp, .int nby, .int lt, .int pl, .int tok, .int va, .int be, .int wr, .ref md, .ref mc, .int (nI (kpN an)), .ref mk, .ref mq, .ref mr, .int td])), (mt, .inl (cs 0, 29, .inl (upd (upd (upd (upd tf (5 + tn) x) (13 + tn) y) (21 + tn) z) 1 (nI (tn + 1))))), (mc, .inl (cs 0, 696, .inl (ntF mf tf an)))] (rfl) dX6_tie_118 ?_
            refine v_iload C 4 dX6_tie_119 rfl ?_
            exact v_iret C E (by first | rfl | (simp only [c1, c2, c3, c4, c5, ↓reduceIte, Bool.false_eq_true, reduceCtorEq, Bool.and_true, Bool.true_and, Bool.and_false, Bool.false_and]; done) | (simp [c1, c2, c3, c4, c5]; done) | (simp_all [b2]; done)) (by first | rfl | (simp only [c1, c2, c3, c4, c5, ↓reduceIte, Bool.false_eq_true, reduceCtorEq, Bool.and_true, Bool.true_and, Bool.and_false, Bool.false_and]; done) | (simp [c1, c2, c3, c4, c5]; done) | (simp_all [b2]; done)) dX6_tie_121
          · skip
            refine v_ldc C (v := -1000003) (by decide +kernel) dX6_tie_62 ?_
            exact v_iret C E (by first | rfl | (simp only [c1, c2, c3, c4, c5, ↓reduceIte, Bool.false_eq_true, reduceCtorEq, Bool.and_true, Bool.true_and, Bool.and_false, Bool.false_and]; done) | (simp [c1, c2, c3, c4, c5]; done) | (simp_all [b2]; done)) (by first | rfl | (simp only [c1, c2, c3, c4, c5, ↓reduceIte, Bool.false_eq_true, reduceCtorEq, Bool.and_true, Bool.true_and, Bool.and_false, Bool.false_and]; done) | (simp [c1, c2, c3, c4, c5]; done) | (simp_all [b2]; done)) dX6_tie_64
        · skip
          refine v_ldc C (v := -1000001) (by decide +kernel) dX6_tie_48 ?_
          exact v_iret C E (by first | rfl | (simp only [c1, c2, c3, c4, ↓reduceIte, Bool.false_eq_true, reduceCtorEq, Bool.and_true, Bool.true_and, Bool.and_false, Bool.false_and]; done) | (simp [c1, c2, c3, c4]; done) | (simp_all [b2]; done)) (by first | rfl | (simp only [c1, c2, c3, c4, ↓reduceIte, Bool.false_eq_true, reduceCtorEq, Bool.and_true, Bool.true_and, Bool.and_false, Bool.false_and]; done) | (simp [c1, c2, c3, c4]; done) | (simp_all [b2]; done)) dX6_tie_50
  · skip
    refine v_ldc C (v := -1000002) (by decide +kernel) dX6_tie_7 ?_
    exact v_iret C E (by first | rfl | (simp only [c1, ↓reduceIte, Bool.false_eq_true, reduceCtorEq, Bool.and_true, Bool.true_and, Bool.and_false, Bool.false_and]; done) | (simp [c1]; done) | (simp_all [b2]; done)) (by first | rfl | (simp only [c1, ↓reduceIte, Bool.false_eq_true, reduceCtorEq, Bool.and_true, Bool.true_and, Bool.and_false, Bool.false_and]; done) | (simp [c1]; done) | (simp_all [b2]; done)) dX6_tie_9
theorem kX6_untie : KD yX6_untie wsX6_untie cX6_untie 1 (some .int) 0 := ⟨⟨_, rfl⟩, by decide, by decide +kernel, by decide +kernel, by decide +kernel⟩
theorem in_X6_untie_X6 : ∀ w ∈ wsX60, w ∈ wsX6_untie := by decide +kernel
theorem fl_X6_untie_19 : FL RX6 wsX6_untie RX6 RX6 TX6 22 6 5 19 := ⟨⟨in_X6_untie_X6, rfl, by decide, rfl⟩, by decide +kernel⟩
set_option maxHeartbeats 4000000 in
set_option maxRecDepth 100000 in
theorem c_muntie (l : Launch) (D : va_G) (cs : Nat → ClassId) {mo : Nat} {ml : Nat} {mz : Nat} {mi : Nat} {mt : Nat} {mv : Nat} {mp : Nat} {md : Nat} {mc : Nat} {mk : Nat} {mq : Nat} {mr : Nat} {su : Int32} {it : Bool} {nby : Int32} {lt : Int32} {pl : Int32} {tok : Int32} {va : Int32} {be : Int32} {wr : Int32} {td : Int32} {tf : Nat → Int32} {mf : Nat → Int32} {an : Nat} (ha : an ≤ 24) : CT l D (tz cs) yX6_untie wsX6_untie ({ frames := 1, cells := 0, slots := 0, locals := 21 }) [.ref mo] [(mo, .inr (6, [.ref ml, .ref mz, .ref mi, .int su, .int (b2 it), .ref mt, .ref mv, .ref mp, .int nby, .int lt, .int pl, .int tok, .int va, .int be, .int wr, .ref md, .ref mc, .int (nI an), .ref mk, .ref mq, .ref mr, .int td])), (mt, .inl (cs 0, 29, .inl tf)), (mc, .inl (cs 0, 696, .inl mf))] (some (.int (if tf 1 = 0 then -1000002 else tf 1 - 1))) [(mo, .inr (6, [.ref ml, .ref mz, .ref mi, .int su, .int (b2 it), .ref mt, .ref mv, .ref mp, .int nby, .int lt, .int pl, .int tok, .int va, .int be, .int wr, .ref md, .ref mc, .int (nI (if tf 1 = 0 then an else kpN an)), .ref mk, .ref mq, .ref mr, .int td])), (mt, .inl (cs 0, 29, .inl (if tf 1 = 0 then tf else upd tf 1 (tf 1 - 1)))), (mc, .inl (cs 0, 696, .inl (if tf 1 = 0 then mf else ntF mf tf an)))] := by
  refine CT.of kX6_untie (Nat.le_of_ble_eq_true rfl) ?_
  intro p e s m below meth c A C E
  have C : VOk p s m _ c cX6_untie 1 wsX6_untie RX6 D (tz cs) A s.heap := C
  refine V.lvs (lv' := [(0, .ref mo)]) [0] rfl ?_
  refine v_aload_n C 0 dX6_untie_0 rfl ?_
  refine v_get C (v := .ref mt) fl_X6_untie_19 0 rfl rfl dX6_untie_1 ?_
  refine v_iconst C (v := 1) dX6_untie_4 (by decide) ?_
  refine v_iald C 1 0 rfl rfl (tf 1) (rfl) (vp_in_nI (n := 1) (N := 29) (by decide) (by decide)) dX6_untie_5 ?_
  refine v_if_ne C 12 dX6_untie_6 (by decide) (fun c1 => ?_) (fun c1 => ?_)
  · skip
    refine v_aload_n C 0 dX6_untie_12 rfl ?_
    refine v_callV (qi := 0) C [] [] kX6_note gX6_untie_X6_note (c_note l D cs (mo := mo) (ml := ml) (mz := mz) (mi := mi) (mt := mt) (mv := mv) (mp := mp) (md := md) (mc := mc) (mk := mk) (mq := mq) (mr := mr) (su := su) (it := it) (nby := nby) (lt := lt) (pl := pl) (tok := tok) (va := va) (be := be) (wr := wr) (td := td) (tf := tf) (mf := mf) (an := an) (by first | assumption | omega)) ⟨Nat.le_of_ble_eq_true rfl, Nat.le_of_ble_eq_true rfl⟩ ⟨rfl, rfl⟩ ⟨Nat.zero_le _, Nat.zero_le _⟩ rfl 0 rfl rfl rfl rfl (Nat.le_of_ble_eq_true rfl) [0, 1, 2] [(mo, .inr (6, [.ref ml, .ref mz, .ref mi, .int su, .int (b2 it), .ref mt, .ref mv, .ref mp, .int nby, .int lt, .int pl, .int tok, .int va, .int be, .int wr, .ref md, .ref mc, .int (nI (kpN an)), .ref mk, .ref mq, .ref mr, .int td])), (mt, .inl (cs 0, 29, .inl tf)), (mc, .inl (cs 0, 696, .inl (ntF mf tf an)))] rfl (by decide) (show [mo, mt, mc] = [mo, mt, mc] from rfl) (rfl) dX6_untie_13 ?_
    refine V.sts (st' := []) rfl ?_
    refine v_aload_n C 0 dX6_untie_16 rfl ?_
    refine v_get C (v := .ref mt) fl_X6_untie_19 0 rfl rfl dX6_untie_17 ?_
    refine v_iconst C (v := 1) dX6_untie_20 (by decide) ?_
    refine v_dup2 C dX6_untie_21 rfl rfl ?_
    refine v_iald C 1 0 rfl rfl (tf 1) (rfl) (vp_in_nI (n := 1) (N := 29) (by decide) (by decide)) dX6_untie_22 ?_
    refine v_iconst C (v := 1) dX6_untie_23 (by decide) ?_
    refine v_isub C dX6_untie_24 ?_
    refine v_iast C 1 0 rfl rfl (vp_in_nI (n := 1) (N := 29) (by decide) (by decide)) [(mo, .inr (6, [.ref ml, .ref mz, .ref mi, .int su, .int (b2 it), .ref mt, .ref mv, .ref mp, .int nby, .int lt, .int pl, .int tok, .int va, .int be, .int wr, .ref md, .ref mc, .int (nI (kpN an)), .ref mk, .ref mq, .ref mr, .int td])), (mt, .inl (cs 0, 29, .inl (upd tf 1 ((tf 1) - 1)))), (mc, .inl (cs 0, 696, .inl (ntF mf tf an)))] (rfl) dX6_untie_25 ?_
    refine v_aload_n C 0 dX6_untie_26 rfl ?_
    refine v_get C (v := .ref mt) fl_X6_untie_19 0 rfl rfl dX6_untie_27 ?_
    refine v_iconst C (v := 1) dX6_untie_30 (by decide) ?_
    refine v_iald C 1 0 rfl rfl ((upd tf 1 ((tf 1) - 1)) 1) (rfl) (vp_in_nI (n := 1) (N := 29) (by decide) (by decide)) dX6_untie_31 ?_
    exact v_iret C E (by first | rfl | (simp only [c1, ↓reduceIte, Bool.false_eq_true, reduceCtorEq, Bool.and_true, Bool.true_and, Bool.and_false, Bool.false_and]; done) | (simp [c1]; done) | (simp_all [b2]; done)) (by first | rfl | (simp only [pk_us, c1, ↓reduceIte, Bool.false_eq_true, reduceCtorEq, Bool.and_true, Bool.true_and, Bool.and_false, Bool.false_and]; done) | (simp [pk_us, c1]; done) | (simp_all [pk_us]; done)) dX6_untie_32
  · skip
    refine v_ldc C (v := -1000002) (by decide +kernel) dX6_untie_9 ?_
    exact v_iret C E (by first | rfl | (simp only [c1, ↓reduceIte, Bool.false_eq_true, reduceCtorEq, Bool.and_true, Bool.true_and, Bool.and_false, Bool.false_and]; done) | (simp [c1]; done) | (simp_all [b2]; done)) (by first | rfl | (simp only [pk_us, c1, ↓reduceIte, Bool.false_eq_true, reduceCtorEq, Bool.and_true, Bool.true_and, Bool.and_false, Bool.false_and]; done) | (simp [pk_us, c1]; done) | (simp_all [pk_us]; done)) dX6_untie_11
theorem kX6_undo : KD yX6_undo wsX6_undo cX6_undo 2 (some .int) 0 := ⟨⟨_, rfl⟩, by decide, by decide +kernel, by decide +kernel, by decide +kernel⟩
theorem in_X6_undo_X6 : ∀ w ∈ wsX60, w ∈ wsX6_undo := by decide +kernel
theorem fl_X6_undo_133 : FL RX6 wsX6_undo RX6 RX6 TX6 22 6 17 133 := ⟨⟨in_X6_undo_X6, rfl, by decide, rfl⟩, by decide +kernel⟩
set_option maxHeartbeats 4000000 in
set_option maxRecDepth 100000 in
theorem c_mundo0 (l : Launch) (D : va_G) (cs : Nat → ClassId) {mo : Nat} {ml : Nat} {mz : Nat} {mi : Nat} {mt : Nat} {mv : Nat} {mp : Nat} {md : Nat} {mc : Nat} {mk : Nat} {mq : Nat} {mr : Nat} {su : Int32} {it : Bool} {nby : Int32} {lt : Int32} {pl : Int32} {tok : Int32} {va : Int32} {be : Int32} {wr : Int32} {td : Int32} : CT l D (tz cs) yX6_undo wsX6_undo ({ frames := 0, cells := 0, slots := 0, locals := 0 }) [.ref mo] [(mo, .inr (6, [.ref ml, .ref mz, .ref mi, .int su, .int (b2 it), .ref mt, .ref mv, .ref mp, .int nby, .int lt, .int pl, .int tok, .int va, .int be, .int wr, .ref md, .ref mc, .int 0, .ref mk, .ref mq, .ref mr, .int td]))] (some (.int (-1000002))) [(mo, .inr (6, [.ref ml, .ref mz, .ref mi, .int su, .int (b2 it), .ref mt, .ref mv, .ref mp, .int nby, .int lt, .int pl, .int tok, .int va, .int be, .int wr, .ref md, .ref mc, .int 0, .ref mk, .ref mq, .ref mr, .int td]))] := by
  refine CT.of kX6_undo (Nat.le_of_ble_eq_true rfl) ?_
  intro p e s m below meth c A C E
  have C : VOk p s m _ c cX6_undo 2 wsX6_undo RX6 D (tz cs) A s.heap := C
  refine V.lvs (lv' := [(0, .ref mo)]) [0] rfl ?_
  refine v_aload_n C 0 dX6_undo_0 rfl ?_
  refine v_get C (v := .int 0) fl_X6_undo_133 0 rfl rfl dX6_undo_1 ?_
  refine v_if_ne C 10 dX6_undo_4 (by decide) (fun c1 => ?_) (fun c1 => ?_)
  · exact absurd c1 (by decide)
  · skip
    refine v_ldc C (v := -1000002) (by decide +kernel) dX6_undo_7 ?_
    exact v_iret C E (rfl) (by first | rfl | (simp [c1, ↓reduceIte]; done) | (simp_all [b2]; done)) dX6_undo_9
theorem fl_X6_undo_19 : FL RX6 wsX6_undo RX6 RX6 TX6 22 6 5 19 := ⟨⟨in_X6_undo_X6, rfl, by decide, rfl⟩, by decide +kernel⟩
theorem fl_X6_undo_31 : FL RX6 wsX6_undo RX6 RX6 TX6 22 6 16 31 := ⟨⟨in_X6_undo_X6, rfl, by decide, rfl⟩, by decide +kernel⟩
set_option maxHeartbeats 4000000 in
set_option maxRecDepth 100000 in
theorem c_mundoS (l : Launch) (D : va_G) (cs : Nat → ClassId) {mo : Nat} {ml : Nat} {mz : Nat} {mi : Nat} {mt : Nat} {mv : Nat} {mp : Nat} {md : Nat} {mc : Nat} {mk : Nat} {mq : Nat} {mr : Nat} {su : Int32} {it : Bool} {nby : Int32} {lt : Int32} {pl : Int32} {tok : Int32} {va : Int32} {be : Int32} {wr : Int32} {td : Int32} {tf : Nat → Int32} {mf : Nat → Int32} {an : Nat} (ha : an < 24) : CT l D (tz cs) yX6_undo wsX6_undo ({ frames := 0, cells := 0, slots := 0, locals := 0 }) [.ref mo] [(mo, .inr (6, [.ref ml, .ref mz, .ref mi, .int su, .int (b2 it), .ref mt, .ref mv, .ref mp, .int nby, .int lt, .int pl, .int tok, .int va, .int be, .int wr, .ref md, .ref mc, .int (nI (an + 1)), .ref mk, .ref mq, .ref mr, .int td])), (mt, .inl (cs 0, 29, .inl tf)), (mc, .inl (cs 0, 696, .inl mf))] (some (.int (nI an))) [(mo, .inr (6, [.ref ml, .ref mz, .ref mi, .int su, .int (b2 it), .ref mt, .ref mv, .ref mp, .int nby, .int lt, .int pl, .int tok, .int va, .int be, .int wr, .ref md, .ref mc, .int (nI an), .ref mk, .ref mq, .ref mr, .int td])), (mt, .inl (cs 0, 29, .inl (mvF tf mf 0 (29 * an) 29))), (mc, .inl (cs 0, 696, .inl mf))] := by
  refine CT.of kX6_undo (Nat.le_of_ble_eq_true rfl) ?_
  intro p e s m below meth c A C E
  have C : VOk p s m _ c cX6_undo 2 wsX6_undo RX6 D (tz cs) A s.heap := C
  refine V.lvs (lv' := [(0, .ref mo)]) [0] rfl ?_
  refine v_aload_n C 0 dX6_undo_0 rfl ?_
  refine v_get C (v := .int (nI (an + 1))) fl_X6_undo_133 0 rfl rfl dX6_undo_1 ?_
  refine v_if_ne C 10 dX6_undo_4 (by decide) (fun c1 => ?_) (fun c1 => ?_)
  · skip
    refine v_aload_n C 0 dX6_undo_10 rfl ?_
    refine v_dup C dX6_undo_11 rfl ?_
    refine v_get C (v := .int (nI (an + 1))) fl_X6_undo_133 0 rfl rfl dX6_undo_12 ?_
    refine v_iconst C (v := 1) dX6_undo_15 (by decide) ?_
    refine v_isub C dX6_undo_16 ?_
    refine V.topr (y := nI an) (nI_pred _) ?_
    refine v_put C fl_X6_undo_133 fp_X6_17 0 rfl rfl rfl (Nat.le_of_ble_eq_true rfl) [(mo, .inr (6, [.ref ml, .ref mz, .ref mi, .int su, .int (b2 it), .ref mt, .ref mv, .ref mp, .int nby, .int lt, .int pl, .int tok, .int va, .int be, .int wr, .ref md, .ref mc, .int (nI an), .ref mk, .ref mq, .ref mr, .int td])), (mt, .inl (cs 0, 29, .inl tf)), (mc, .inl (cs 0, 696, .inl mf))] rfl dX6_undo_17 ?_
    refine v_iconst C (v := 0) dX6_undo_20 (by decide) ?_
    refine v_istore_n C [(0, .ref mo), (1, .int 0)] [1, 0] dX6_undo_21 (by decide) rfl ?_
    have L22 : ∀ (n : Nat) (i : Nat) (y0 : Int32) (y1 : Nat → Int32), y0 = (nI i) → y1 = mvF tf mf 0 (29 * an) i → (i ≤ 29) → (29 - i) < n → V p l e ({ frames := 0, cells := 0, slots := 0, locals := 0 }) s m (List.toArray [.ref mo]) below meth c 0 0 (MQ below (vq_Q (some (.int (nI an))) D [(mo, .inr (6, [.ref ml, .ref mz, .ref mi, .int su, .int (b2 it), .ref mt, .ref mv, .ref mp, .int nby, .int lt, .int pl, .int tok, .int va, .int be, .int wr, .ref md, .ref mc, .int (nI an), .ref mk, .ref mq, .ref mr, .int td])), (mt, .inl (cs 0, 29, .inl (mvF tf mf 0 (29 * an) 29))), (mc, .inl (cs 0, 696, .inl mf))] [(mo, .inr (6, [.ref ml, .ref mz, .ref mi, .int su, .int (b2 it), .ref mt, .ref mv, .ref mp, .int nby, .int lt, .int pl, .int tok, .int va, .int be, .int wr, .ref md, .ref mc, .int (nI (an + 1)), .ref mk, .ref mq, .ref mr, .int td])), (mt, .inl (cs 0, 29, .inl tf)), (mc, .inl (cs 0, 696, .inl mf))] s.heap.size) (List.toArray [.ref mo]) s 0 0 (va_A [(mo, .inr (6, [.ref ml, .ref mz, .ref mi, .int su, .int (b2 it), .ref mt, .ref mv, .ref mp, .int nby, .int lt, .int pl, .int tok, .int va, .int be, .int wr, .ref md, .ref mc, .int (nI (an + 1)), .ref mk, .ref mq, .ref mr, .int td])), (mt, .inl (cs 0, 29, .inl tf)), (mc, .inl (cs 0, 696, .inl mf))] s.heap.size)) 2 D A s.heap 22 [(0, .ref mo), (1, .int y0)] [] [(mo, .inr (6, [.ref ml, .ref mz, .ref mi, .int su, .int (b2 it), .ref mt, .ref mv, .ref mp, .int nby, .int lt, .int pl, .int tok, .int va, .int be, .int wr, .ref md, .ref mc, .int (nI an), .ref mk, .ref mq, .ref mr, .int td])), (mt, .inl (cs 0, 29, .inl y1)), (mc, .inl (cs 0, 696, .inl mf))] := by
      intro n
      induction n with
      | zero =>
        intros; omega
      | succ n ih22 =>
        intro i y0 y1 ey0 ey1 hi hn
        subst ey0
        subst ey1
        refine v_iload_n C 1 dX6_undo_22 rfl ?_
        refine v_bipush C (v := 29) dX6_undo_23 (by decide) ?_
        refine v_icmp_ge C 54 dX6_undo_25 (by decide) (fun c2 => ?_) (fun c2 => ?_)
        · skip
          have hge : 29 ≤ i := le_nI (a := 29) (b := i) c2 (by omega) (by omega)
          refine v_aload_n C 0 dX6_undo_54 rfl ?_
          refine v_get C (v := .int (nI an)) fl_X6_undo_133 0 rfl rfl dX6_undo_55 ?_
          exact v_iret C E (by rw [show i = 29 by omega]) (by first | rfl | (simp [ha, c1, hi, c2, ↓reduceIte]; done) | (simp_all [b2]; done)) dX6_undo_58
        · skip
          have hlt : i < 29 := nle_nI (b := i) (a := 29) c2 (by omega) (by omega)
          refine v_aload_n C 0 dX6_undo_28 rfl ?_
          refine v_get C (v := .ref mt) fl_X6_undo_19 0 rfl rfl dX6_undo_29 ?_
          refine v_iload_n C 1 dX6_undo_32 rfl ?_
          refine v_aload_n C 0 dX6_undo_33 rfl ?_
          refine v_get C (v := .ref mc) fl_X6_undo_31 0 rfl rfl dX6_undo_34 ?_
          refine v_bipush C (v := 29) dX6_undo_37 (by decide) ?_
          refine v_aload_n C 0 dX6_undo_39 rfl ?_
          refine v_get C (v := .int (nI an)) fl_X6_undo_133 0 rfl rfl dX6_undo_40 ?_
          refine v_imul C dX6_undo_43 ?_
          refine v_iload_n C 1 dX6_undo_44 rfl ?_
          refine v_iadd C dX6_undo_45 ?_
          refine V.topr (y := nI (29 * an + i)) (ix29 _ _) ?_
          refine v_iald C 2 0 rfl rfl (mf (29 * an + i)) (by rw [nI_clamp (by omega)]) (vp_in_nI (by omega) (by omega)) dX6_undo_46 ?_
          refine v_iast C 1 0 rfl rfl (vp_in_nI (by omega) (by omega)) [(mo, .inr (6, [.ref ml, .ref mz, .ref mi, .int su, .int (b2 it), .ref mt, .ref mv, .ref mp, .int nby, .int lt, .int pl, .int tok, .int va, .int be, .int wr, .ref md, .ref mc, .int (nI an), .ref mk, .ref mq, .ref mr, .int td])), (mt, .inl (cs 0, 29, .inl (upd (mvF tf mf 0 (29 * an) i) i (mf (29 * an + i))))), (mc, .inl (cs 0, 696, .inl mf))] (by rw [nI_clamp (by omega)]; rfl) dX6_undo_47 ?_
          refine v_iinc C (k := 1) (nI (i + 1)) [(0, .ref mo), (1, .int (nI (i + 1)))] [1, 0] dX6_undo_48 rfl (nI_inc _) (by decide) rfl ?_
          refine v_goto C 22 dX6_undo_51 (by decide) ?_
          exact ih22 (i + 1) _ _ (rfl) (by have h9 := mvF_s tf mf 0 (29 * an) i; rw [Nat.zero_add] at h9; exact h9) (by first | assumption | omega) (by omega)
    exact L22 _ 0 _ _ (rfl) (mvF_0 _ _ _ _) (by first | assumption | omega) (Nat.lt_succ_self _)
  · exact absurd c1 (nI_ne0 (n := an + 1) (by omega) (by omega))
theorem kX6_meals : KD yX6_meals wsX6_meals cX6_meals 3 (some .int) 1 := ⟨⟨_, rfl⟩, by decide, by decide +kernel, by decide +kernel, by decide +kernel⟩
theorem in_X6_meals_X6 : ∀ w ∈ wsX60, w ∈ wsX6_meals := by decide +kernel
theorem fl_X6_meals_129 : FL RX6 wsX6_meals RX6 RX6 TX6 22 6 4 129 := ⟨⟨in_X6_meals_X6, rfl, by decide, rfl⟩, by decide +kernel⟩
theorem fl_X6_meals_19 : FL RX6 wsX6_meals RX6 RX6 TX6 22 6 5 19 := ⟨⟨in_X6_meals_X6, rfl, by decide, rfl⟩, by decide +kernel⟩
set_option maxHeartbeats 4000000 in
set_option maxRecDepth 100000 in
theorem c_mmealsNo (l : Launch) (D : va_G) (cs : Nat → ClassId) {mo : Nat} {ml : Nat} {mz : Nat} {mi : Nat} {mt : Nat} {mv : Nat} {mp : Nat} {md : Nat} {mc : Nat} {mk : Nat} {mq : Nat} {mr : Nat} {su : Int32} {it : Bool} {nby : Int32} {lt : Int32} {pl : Int32} {tok : Int32} {va : Int32} {be : Int32} {wr : Int32} {am : Int32} {td : Int32} {tf : Nat → Int32} {x : Int32} (hno : it = false ∨ inI x 1 20 = false ∨ 999 < tf 2 + x) : CT l D (tz cs) yX6_meals wsX6_meals ({ frames := 3, cells := 0, slots := 0, locals := 72 }) [.ref mo, .int x] [(mo, .inr (6, [.ref ml, .ref mz, .ref mi, .int su, .int (b2 it), .ref mt, .ref mv, .ref mp, .int nby, .int lt, .int pl, .int tok, .int va, .int be, .int wr, .ref md, .ref mc, .int am, .ref mk, .ref mq, .ref mr, .int td])), (mt, .inl (cs 0, 29, .inl tf))] (some (.int (if it = true then (if inI x 1 20 = true then -1000003 else -1000001) else -1000002))) [(mo, .inr (6, [.ref ml, .ref mz, .ref mi, .int su, .int (b2 it), .ref mt, .ref mv, .ref mp, .int nby, .int lt, .int pl, .int tok, .int va, .int be, .int wr, .ref md, .ref mc, .int am, .ref mk, .ref mq, .ref mr, .int td])), (mt, .inl (cs 0, 29, .inl tf))] := by
  refine CT.of kX6_meals (Nat.le_of_ble_eq_true rfl) ?_
  intro p e s m below meth c A C E
  have C : VOk p s m _ c cX6_meals 3 wsX6_meals RX6 D (tz cs) A s.heap := C
  refine V.lvs (lv' := [(0, .ref mo), (1, .int x)]) [0, 1] rfl ?_
  refine v_aload_n C 0 dX6_meals_0 rfl ?_
  refine v_get C (v := .int (b2 it)) fl_X6_meals_129 0 rfl rfl dX6_meals_1 ?_
  refine v_if_neB C 10 dX6_meals_4 (by decide) (fun c1 => ?_) (fun c1 => ?_)
  · skip
    refine v_iload_n C 1 dX6_meals_10 rfl ?_
    refine v_i2l C dX6_meals_11 ?_
    refine v_lconst C (v := 1) dX6_meals_12 (by decide) ?_
    refine v_ldc2 C (v := 20) (by decide +kernel) dX6_meals_13 ?_
    refine v_callS C [.long (Int32.toInt64 x), .long 1, .long 20] [] kX6_in gX6_meals_X6_in (c_inI l D cs (x := x) (a := 1) (b := 20) (lo := 1) (hi := 20) (by decide) (by decide)) ⟨Nat.le_of_ble_eq_true rfl, Nat.le_of_ble_eq_true rfl⟩ ⟨rfl, rfl⟩ ⟨Nat.zero_le _, Nat.zero_le _⟩ rfl rfl (Nat.le_of_ble_eq_true rfl) [] [(mo, .inr (6, [.ref ml, .ref mz, .ref mi, .int su, .int (b2 it), .ref mt, .ref mv, .ref mp, .int nby, .int lt, .int pl, .int tok, .int va, .int be, .int wr, .ref md, .ref mc, .int am, .ref mk, .ref mq, .ref mr, .int td])), (mt, .inl (cs 0, 29, .inl tf))] rfl (by decide) rfl (rfl) dX6_meals_16 ?_
    refine V.sts (st' := [.int (b2 (inI x 1 20))]) rfl ?_
    refine v_if_neB C 25 dX6_meals_19 (by decide) (fun c2 => ?_) (fun c2 => ?_)
    · skip
      refine v_aload_n C 0 dX6_meals_25 rfl ?_
      refine v_get C (v := .ref mt) fl_X6_meals_19 0 rfl rfl dX6_meals_26 ?_
      refine v_iconst C (v := 2) dX6_meals_29 (by decide) ?_
      refine v_iald C 1 0 rfl rfl (tf 2) (rfl) (vp_in_nI (n := 2) (N := 29) (by decide) (by decide)) dX6_meals_30 ?_
      refine v_iload_n C 1 dX6_meals_31 rfl ?_
      refine v_iadd C dX6_meals_32 ?_
      refine v_sipush C (v := 999) dX6_meals_33 (by decide) ?_
      refine v_icmp_le C 42 dX6_meals_36 (by decide) (fun c3 => ?_) (fun c3 => ?_)
      · exact hno.elim (fun q => absurd (q.symm.trans c1) (by decide)) (fun q => q.elim (fun q => absurd (q.symm.trans c2) (by decide)) (fun q => absurd c3 (Int32.not_le.mpr q)))
      · skip
        refine v_ldc C (v := -1000003) (by decide +kernel) dX6_meals_39 ?_
        exact v_iret C E (by first | rfl | (simp only [c1, c2, c3, Int32.not_le.mp c3, ↓reduceIte, Bool.false_eq_true, reduceCtorEq, Bool.and_true, Bool.true_and, Bool.and_false, Bool.false_and]; done) | (simp [c1, c2, c3, Int32.not_le.mp c3]; done) | (simp_all [b2]; done)) (by first | rfl | (simp only [c1, c2, c3, Int32.not_le.mp c3, ↓reduceIte, Bool.false_eq_true, reduceCtorEq, Bool.and_true, Bool.true_and, Bool.and_false, Bool.false_and]; done) | (simp [c1, c2, c3, Int32.not_le.mp c3]; done) | (simp_all [b2]; done)) dX6_meals_41
    · skip
      refine v_ldc C (v := -1000001) (by decide +kernel) dX6_meals_22 ?_
      exact v_iret C E (by first | rfl | (simp only [c1, c2, ↓reduceIte, Bool.false_eq_true, reduceCtorEq, Bool.and_true, Bool.true_and, Bool.and_false, Bool.false_and]; done) | (simp [c1, c2]; done) | (simp_all [b2]; done)) (by first | rfl | (simp only [c1, c2, ↓reduceIte, Bool.false_eq_true, reduceCtorEq, Bool.and_true, Bool.true_and, Bool.and_false, Bool.false_and]; done) | (simp [c1, c2]; done) | (simp_all [b2]; done)) dX6_meals_24
  · skip
    refine v_ldc C (v := -1000002) (by decide +kernel) dX6_meals_7 ?_
    exact v_iret C E (by first | rfl | (simp only [c1, ↓reduceIte, Bool.false_eq_true, reduceCtorEq, Bool.and_true, Bool.true_and, Bool.and_false, Bool.false_and]; done) | (simp [c1]; done) | (simp_all [b2]; done)) (by first | rfl | (simp only [c1, ↓reduceIte, Bool.false_eq_true, reduceCtorEq, Bool.and_true, Bool.true_and, Bool.and_false, Bool.false_and]; done) | (simp [c1]; done) | (simp_all [b2]; done)) dX6_meals_9
set_option maxHeartbeats 4000000 in
set_option maxRecDepth 100000 in
theorem c_mmealsOk (l : Launch) (D : va_G) (cs : Nat → ClassId) {mo : Nat} {ml : Nat} {mz : Nat} {mi : Nat} {mt : Nat} {mv : Nat} {mp : Nat} {md : Nat} {mc : Nat} {mk : Nat} {mq : Nat} {mr : Nat} {su : Int32} {nby : Int32} {lt : Int32} {pl : Int32} {tok : Int32} {va : Int32} {be : Int32} {wr : Int32} {td : Int32} {tf : Nat → Int32} {mf : Nat → Int32} {pn : Nat} {tn : Nat} {an : Nat} {nn : Nat} {mn : Nat} (ha : an ≤ 24) (hte : tf 1 = nI tn) (hti : tn ≤ 8) (hS : ∀ t, s64 (tf (13 + t))) (hK : ∀ t, t < tn → kok (tf (5 + t))) (hpe : tf 0 = nI pn) (hpn : pn ≤ 6) (hm : tf 2 = nI mn) (h1 : 1 ≤ nn) (h2 : nn ≤ 20) (h3 : mn + nn ≤ 999) : CT l D (tz cs) yX6_meals wsX6_meals ({ frames := 3, cells := 0, slots := 0, locals := 72 }) [.ref mo, .int (nI nn)] [(mo, .inr (6, [.ref ml, .ref mz, .ref mi, .int su, .int (b2 true), .ref mt, .ref mv, .ref mp, .int nby, .int lt, .int pl, .int tok, .int va, .int be, .int wr, .ref md, .ref mc, .int (nI an), .ref mk, .ref mq, .ref mr, .int td])), (mt, .inl (cs 0, 29, .inl tf)), (mc, .inl (cs 0, 696, .inl mf))] (some (.int (tf 3 + nI nn * wsum (kS tf) (sS tf) (wS tf) (thI (tf 0) (tf 4)) tn))) [(mo, .inr (6, [.ref ml, .ref mz, .ref mi, .int su, .int (b2 true), .ref mt, .ref mv, .ref mp, .int nby, .int lt, .int pl, .int tok, .int va, .int be, .int wr, .ref md, .ref mc, .int (nI (kmN an nn)), .ref mk, .ref mq, .ref mr, .int td])), (mt, .inl (cs 0, 29, .inl (mlT tf (wsum (kS tf) (sS tf) (wS tf) (thI (tf 0) (tf 4)) tn) nn))), (mc, .inl (cs 0, 696, .inl (mlA mf tf (wsum (kS tf) (sS tf) (wS tf) (thI (tf 0) (tf 4)) tn) an nn)))] := by
  refine CT.of kX6_meals (Nat.le_of_ble_eq_true rfl) ?_
  intro p e s m below meth c A C E
  have C : VOk p s m _ c cX6_meals 3 wsX6_meals RX6 D (tz cs) A s.heap := C
  refine V.lvs (lv' := [(0, .ref mo), (1, .int (nI nn))]) [0, 1] rfl ?_
  refine v_aload_n C 0 dX6_meals_0 rfl ?_
  refine v_get C (v := .int (b2 true)) fl_X6_meals_129 0 rfl rfl dX6_meals_1 ?_
  refine v_if_neB C 10 dX6_meals_4 (by decide) (fun c1 => ?_) (fun c1 => ?_)
  · skip
    refine v_iload_n C 1 dX6_meals_10 rfl ?_
    refine v_i2l C dX6_meals_11 ?_
    refine v_lconst C (v := 1) dX6_meals_12 (by decide) ?_
    refine v_ldc2 C (v := 20) (by decide +kernel) dX6_meals_13 ?_
    refine v_callS C [.long (Int32.toInt64 (nI nn)), .long 1, .long 20] [] kX6_in gX6_meals_X6_in (c_inI l D cs (x := (nI nn)) (a := 1) (b := 20) (lo := 1) (hi := 20) (by decide) (by decide)) ⟨Nat.le_of_ble_eq_true rfl, Nat.le_of_ble_eq_true rfl⟩ ⟨rfl, rfl⟩ ⟨Nat.zero_le _, Nat.zero_le _⟩ rfl rfl (Nat.le_of_ble_eq_true rfl) [] [(mo, .inr (6, [.ref ml, .ref mz, .ref mi, .int su, .int (b2 true), .ref mt, .ref mv, .ref mp, .int nby, .int lt, .int pl, .int tok, .int va, .int be, .int wr, .ref md, .ref mc, .int (nI an), .ref mk, .ref mq, .ref mr, .int td])), (mt, .inl (cs 0, 29, .inl tf)), (mc, .inl (cs 0, 696, .inl mf))] rfl (by decide) rfl (rfl) dX6_meals_16 ?_
    refine V.sts (st' := [.int (b2 (inI (nI nn) 1 20))]) rfl ?_
    refine v_if_neB C 25 dX6_meals_19 (by decide) (fun c2 => ?_) (fun c2 => ?_)
    · skip
      refine v_aload_n C 0 dX6_meals_25 rfl ?_
      refine v_get C (v := .ref mt) fl_X6_meals_19 0 rfl rfl dX6_meals_26 ?_
      refine v_iconst C (v := 2) dX6_meals_29 (by decide) ?_
      refine v_iald C 1 0 rfl rfl (tf 2) (rfl) (vp_in_nI (n := 2) (N := 29) (by decide) (by decide)) dX6_meals_30 ?_
      refine v_iload_n C 1 dX6_meals_31 rfl ?_
      refine v_iadd C dX6_meals_32 ?_
      refine v_sipush C (v := 999) dX6_meals_33 (by decide) ?_
      refine v_icmp_le C 42 dX6_meals_36 (by decide) (fun c3 => ?_) (fun c3 => ?_)
      · skip
        refine v_iconst C (v := 0) dX6_meals_42 (by decide) ?_
        refine v_istore_n C [(0, .ref mo), (1, .int (nI nn)), (2, .int 0)] [1, 2, 0] dX6_meals_43 (by decide) rfl ?_
        have L44 : ∀ (n : Nat) (i : Nat) (y0 : Int32) (y1 : Int32) (y2 : Nat → Int32) (y3 : Nat → Int32), y0 = (nI i) → y1 = (nI (kmN an i)) → y2 = mlT tf (wsum (kS tf) (sS tf) (wS tf) (thI (tf 0) (tf 4)) tn) i → y3 = mlA mf tf (wsum (kS tf) (sS tf) (wS tf) (thI (tf 0) (tf 4)) tn) an i → (i ≤ nn) → (nn - i) < n → V p l e ({ frames := 3, cells := 0, slots := 0, locals := 72 }) s m (List.toArray [.ref mo, .int (nI nn)]) below meth c 0 0 (MQ below (vq_Q (some (.int (tf 3 + nI nn * wsum (kS tf) (sS tf) (wS tf) (thI (tf 0) (tf 4)) tn))) D [(mo, .inr (6, [.ref ml, .ref mz, .ref mi, .int su, .int (b2 true), .ref mt, .ref mv, .ref mp, .int nby, .int lt, .int pl, .int tok, .int va, .int be, .int wr, .ref md, .ref mc, .int (nI (kmN an nn)), .ref mk, .ref mq, .ref mr, .int td])), (mt, .inl (cs 0, 29, .inl (mlT tf (wsum (kS tf) (sS tf) (wS tf) (thI (tf 0) (tf 4)) tn) nn))), (mc, .inl (cs 0, 696, .inl (mlA mf tf (wsum (kS tf) (sS tf) (wS tf) (thI (tf 0) (tf 4)) tn) an nn)))] [(mo, .inr (6, [.ref ml, .ref mz, .ref mi, .int su, .int (b2 true), .ref mt, .ref mv, .ref mp, .int nby, .int lt, .int pl, .int tok, .int va, .int be, .int wr, .ref md, .ref mc, .int (nI an), .ref mk, .ref mq, .ref mr, .int td])), (mt, .inl (cs 0, 29, .inl tf)), (mc, .inl (cs 0, 696, .inl mf))] s.heap.size) (List.toArray [.ref mo, .int (nI nn)]) s 0 0 (va_A [(mo, .inr (6, [.ref ml, .ref mz, .ref mi, .int su, .int (b2 true), .ref mt, .ref mv, .ref mp, .int nby, .int lt, .int pl, .int tok, .int va, .int be, .int wr, .ref md, .ref mc, .int (nI an), .ref mk, .ref mq, .ref mr, .int td])), (mt, .inl (cs 0, 29, .inl tf)), (mc, .inl (cs 0, 696, .inl mf))] s.heap.size)) 3 D A s.heap 44 [(0, .ref mo), (1, .int (nI nn)), (2, .int y0)] [] [(mo, .inr (6, [.ref ml, .ref mz, .ref mi, .int su, .int (b2 true), .ref mt, .ref mv, .ref mp, .int nby, .int lt, .int pl, .int tok, .int va, .int be, .int wr, .ref md, .ref mc, .int y1, .ref mk, .ref mq, .ref mr, .int td])), (mt, .inl (cs 0, 29, .inl y2)), (mc, .inl (cs 0, 696, .inl y3))] := by
          intro n
          induction n with
          | zero =>
            intros; omega
          | succ n ih44 =>
            intro i y0 y1 y2 y3 ey0 ey1 ey2 ey3 hi hn
            subst ey0
            subst ey1
            subst ey2
            subst ey3
            refine v_iload_n C 2 dX6_meals_44 rfl ?_
            refine v_iload_n C 1 dX6_meals_45 rfl ?_
            refine v_icmp_ge C 86 dX6_meals_46 (by decide) (fun c4 => ?_) (fun c4 => ?_)
            · skip
              have hge : nn ≤ i := le_nI c4 (by omega) (by omega)
              refine v_aload_n C 0 dX6_meals_86 rfl ?_
              refine v_get C (v := .ref mt) fl_X6_meals_19 0 rfl rfl dX6_meals_87 ?_
              refine v_iconst C (v := 3) dX6_meals_90 (by decide) ?_
              refine v_iald C 1 0 rfl rfl ((mlT tf (wsum (kS tf) (sS tf) (wS tf) (thI (tf 0) (tf 4)) tn) i) 3) (rfl) (vp_in_nI (n := 3) (N := 29) (by decide) (by decide)) dX6_meals_91 ?_
              exact v_iret C E (by rw [show i = nn by omega]) (by rw [show i = nn by omega]; simp [mlT, upd]) dX6_meals_92
            · skip
              have hlt : i < nn := nle_nI c4 (by omega) (by omega)
              refine v_aload_n C 0 dX6_meals_49 rfl ?_
              refine v_callV (qi := 0) C [] [] kX6_note gX6_meals_X6_note (c_note l D cs (mo := mo) (ml := ml) (mz := mz) (mi := mi) (mt := mt) (mv := mv) (mp := mp) (md := md) (mc := mc) (mk := mk) (mq := mq) (mr := mr) (su := su) (it := true) (nby := nby) (lt := lt) (pl := pl) (tok := tok) (va := va) (be := be) (wr := wr) (td := td) (tf := mlT tf (wsum (kS tf) (sS tf) (wS tf) (thI (tf 0) (tf 4)) tn) i) (mf := mlA mf tf (wsum (kS tf) (sS tf) (wS tf) (thI (tf 0) (tf 4)) tn) an i) (an := (kmN an i)) (kmN_le ha i)) ⟨Nat.le_of_ble_eq_true rfl, Nat.le_of_ble_eq_true rfl⟩ ⟨rfl, rfl⟩ ⟨Nat.zero_le _, Nat.zero_le _⟩ rfl 0 rfl rfl rfl rfl (Nat.le_of_ble_eq_true rfl) [0, 1, 2] [(mo, .inr (6, [.ref ml, .ref mz, .ref mi, .int su, .int (b2 true), .ref mt, .ref mv, .ref mp, .int nby, .int lt, .int pl, .int tok, .int va, .int be, .int wr, .ref md, .ref mc, .int (nI (kpN (kmN an i))), .ref mk, .ref mq, .ref mr, .int td])), (mt, .inl (cs 0, 29, .inl (mlT tf (wsum (kS tf) (sS tf) (wS tf) (thI (tf 0) (tf 4)) tn) i))), (mc, .inl (cs 0, 696, .inl (ntF (mlA mf tf (wsum (kS tf) (sS tf) (wS tf) (thI (tf 0) (tf 4)) tn) an i) (mlT tf (wsum (kS tf) (sS tf) (wS tf) (thI (tf 0) (tf 4)) tn) i) (kmN an i))))] rfl (by decide) (show [mo, mt, mc] = [mo, mt, mc] from rfl) (rfl) dX6_meals_50 ?_
              refine V.sts (st' := []) rfl ?_
              refine v_aload_n C 0 dX6_meals_53 rfl ?_
              refine v_get C (v := .ref mt) fl_X6_meals_19 0 rfl rfl dX6_meals_54 ?_
              refine v_iconst C (v := 2) dX6_meals_57 (by decide) ?_
              refine v_dup2 C dX6_meals_58 rfl rfl ?_
              refine v_iald C 1 0 rfl rfl ((mlT tf (wsum (kS tf) (sS tf) (wS tf) (thI (tf 0) (tf 4)) tn) i) 2) (rfl) (vp_in_nI (n := 2) (N := 29) (by decide) (by decide)) dX6_meals_59 ?_
              refine v_iconst C (v := 1) dX6_meals_60 (by decide) ?_
              refine v_iadd C dX6_meals_61 ?_
              refine v_iast C 1 0 rfl rfl (vp_in_nI (n := 2) (N := 29) (by decide) (by decide)) [(mo, .inr (6, [.ref ml, .ref mz, .ref mi, .int su, .int (b2 true), .ref mt, .ref mv, .ref mp, .int nby, .int lt, .int pl, .int tok, .int va, .int be, .int wr, .ref md, .ref mc, .int (nI (kpN (kmN an i))), .ref mk, .ref mq, .ref mr, .int td])), (mt, .inl (cs 0, 29, .inl (upd (mlT tf (wsum (kS tf) (sS tf) (wS tf) (thI (tf 0) (tf 4)) tn) i) 2 (((mlT tf (wsum (kS tf) (sS tf) (wS tf) (thI (tf 0) (tf 4)) tn) i) 2) + 1)))), (mc, .inl (cs 0, 696, .inl (ntF (mlA mf tf (wsum (kS tf) (sS tf) (wS tf) (thI (tf 0) (tf 4)) tn) an i) (mlT tf (wsum (kS tf) (sS tf) (wS tf) (thI (tf 0) (tf 4)) tn) i) (kmN an i))))] (rfl) dX6_meals_62 ?_
              refine v_aload_n C 0 dX6_meals_63 rfl ?_
              refine v_get C (v := .ref mt) fl_X6_meals_19 0 rfl rfl dX6_meals_64 ?_
              refine v_iconst C (v := 3) dX6_meals_67 (by decide) ?_
              refine v_dup2 C dX6_meals_68 rfl rfl ?_
              refine v_iald C 1 0 rfl rfl ((upd (mlT tf (wsum (kS tf) (sS tf) (wS tf) (thI (tf 0) (tf 4)) tn) i) 2 (((mlT tf (wsum (kS tf) (sS tf) (wS tf) (thI (tf 0) (tf 4)) tn) i) 2) + 1)) 3) (rfl) (vp_in_nI (n := 3) (N := 29) (by decide) (by decide)) dX6_meals_69 ?_
              refine v_aload_n C 0 dX6_meals_70 rfl ?_
              refine v_aload_n C 0 dX6_meals_71 rfl ?_
              refine v_callV (qi := 0) C [] [.ref mo, .int ((upd (mlT tf (wsum (kS tf) (sS tf) (wS tf) (thI (tf 0) (tf 4)) tn) i) 2 (((mlT tf (wsum (kS tf) (sS tf) (wS tf) (thI (tf 0) (tf 4)) tn) i) 2) + 1)) 3), .int 3, .ref mt] kX6_here gX6_meals_X6_here (c_mhere l D cs (mo := mo) (ml := ml) (mz := mz) (mi := mi) (mt := mt) (mv := mv) (mp := mp) (md := md) (mc := mc) (mk := mk) (mq := mq) (mr := mr) (su := su) (it := true) (nby := nby) (lt := lt) (pl := pl) (tok := tok) (va := va) (be := be) (wr := wr) (am := (nI (kpN (kmN an i)))) (td := td) (tf := (upd (mlT tf (wsum (kS tf) (sS tf) (wS tf) (thI (tf 0) (tf 4)) tn) i) 2 (((mlT tf (wsum (kS tf) (sS tf) (wS tf) (thI (tf 0) (tf 4)) tn) i) 2) + 1))) ) ⟨Nat.le_of_ble_eq_true rfl, Nat.le_of_ble_eq_true rfl⟩ ⟨rfl, rfl⟩ ⟨Nat.zero_le _, Nat.zero_le _⟩ rfl 0 rfl rfl rfl rfl (Nat.le_of_ble_eq_true rfl) [0, 1] [(mo, .inr (6, [.ref ml, .ref mz, .ref mi, .int su, .int (b2 true), .ref mt, .ref mv, .ref mp, .int nby, .int lt, .int pl, .int tok, .int va, .int be, .int wr, .ref md, .ref mc, .int (nI (kpN (kmN an i))), .ref mk, .ref mq, .ref mr, .int td])), (mt, .inl (cs 0, 29, .inl (upd (mlT tf (wsum (kS tf) (sS tf) (wS tf) (thI (tf 0) (tf 4)) tn) i) 2 (((mlT tf (wsum (kS tf) (sS tf) (wS tf) (thI (tf 0) (tf 4)) tn) i) 2) + 1)))), (mc, .inl (cs 0, 696, .inl (ntF (mlA mf tf (wsum (kS tf) (sS tf) (wS tf) (thI (tf 0) (tf 4)) tn) an i) (mlT tf (wsum (kS tf) (sS tf) (wS tf) (thI (tf 0) (tf 4)) tn) i) (kmN an i))))] rfl (by decide) (show [mo, mt] = [mo, mt] from rfl) (rfl) dX6_meals_72 ?_
              refine V.sts (st' := [.int (thI ((upd (mlT tf (wsum (kS tf) (sS tf) (wS tf) (thI (tf 0) (tf 4)) tn) i) 2 (((mlT tf (wsum (kS tf) (sS tf) (wS tf) (thI (tf 0) (tf 4)) tn) i) 2) + 1)) 0) ((upd (mlT tf (wsum (kS tf) (sS tf) (wS tf) (thI (tf 0) (tf 4)) tn) i) 2 (((mlT tf (wsum (kS tf) (sS tf) (wS tf) (thI (tf 0) (tf 4)) tn) i) 2) + 1)) 4)), .ref mo, .int ((upd (mlT tf (wsum (kS tf) (sS tf) (wS tf) (thI (tf 0) (tf 4)) tn) i) 2 (((mlT tf (wsum (kS tf) (sS tf) (wS tf) (thI (tf 0) (tf 4)) tn) i) 2) + 1)) 3), .int 3, .ref mt]) rfl ?_
              refine v_callV (qi := 0) C [.int (thI ((upd (mlT tf (wsum (kS tf) (sS tf) (wS tf) (thI (tf 0) (tf 4)) tn) i) 2 (((mlT tf (wsum (kS tf) (sS tf) (wS tf) (thI (tf 0) (tf 4)) tn) i) 2) + 1)) 0) ((upd (mlT tf (wsum (kS tf) (sS tf) (wS tf) (thI (tf 0) (tf 4)) tn) i) 2 (((mlT tf (wsum (kS tf) (sS tf) (wS tf) (thI (tf 0) (tf 4)) tn) i) 2) + 1)) 4))] [.int ((upd (mlT tf (wsum (kS tf) (sS tf) (wS tf) (thI (tf 0) (tf 4)) tn) i) 2 (((mlT tf (wsum (kS tf) (sS tf) (wS tf) (thI (tf 0) (tf 4)) tn) i) 2) + 1)) 3), .int 3, .ref mt] kX6_worthOf gX6_meals_X6_worthOf (c_mworthOf l D cs (mo := mo) (ml := ml) (mz := mz) (mi := mi) (mt := mt) (mv := mv) (mp := mp) (md := md) (mc := mc) (mk := mk) (mq := mq) (mr := mr) (su := su) (it := true) (nby := nby) (lt := lt) (pl := pl) (tok := tok) (va := va) (be := be) (wr := wr) (am := (nI (kpN (kmN an i)))) (td := td) (tf := (upd (mlT tf (wsum (kS tf) (sS tf) (wS tf) (thI (tf 0) (tf 4)) tn) i) 2 (((mlT tf (wsum (kS tf) (sS tf) (wS tf) (thI (tf 0) (tf 4)) tn) i) 2) + 1))) (tn := tn) (th := (thI ((upd (mlT tf (wsum (kS tf) (sS tf) (wS tf) (thI (tf 0) (tf 4)) tn) i) 2 (((mlT tf (wsum (kS tf) (sS tf) (wS tf) (thI (tf 0) (tf 4)) tn) i) 2) + 1)) 0) ((upd (mlT tf (wsum (kS tf) (sS tf) (wS tf) (thI (tf 0) (tf 4)) tn) i) 2 (((mlT tf (wsum (kS tf) (sS tf) (wS tf) (thI (tf 0) (tf 4)) tn) i) 2) + 1)) 4))) (by rw [u2_at _ _ 1 (by decide), mlT_out _ _ _ 1 (by decide)]; exact hte) (by first | assumption | omega) (fun t => by rw [u2_at _ _ _ (by omega), mlT_out _ _ _ _ (by omega)]; exact hS t) (fun t ht => by rw [u2_at _ _ _ (by omega), mlT_out _ _ _ _ (by omega)]; exact hK t ht)) ⟨Nat.le_of_ble_eq_true rfl, Nat.le_of_ble_eq_true rfl⟩ ⟨rfl, rfl⟩ ⟨Nat.zero_le _, Nat.zero_le _⟩ rfl 0 rfl rfl rfl rfl (Nat.le_of_ble_eq_true rfl) [0, 1] [(mo, .inr (6, [.ref ml, .ref mz, .ref mi, .int su, .int (b2 true), .ref mt, .ref mv, .ref mp, .int nby, .int lt, .int pl, .int tok, .int va, .int be, .int wr, .ref md, .ref mc, .int (nI (kpN (kmN an i))), .ref mk, .ref mq, .ref mr, .int td])), (mt, .inl (cs 0, 29, .inl (upd (mlT tf (wsum (kS tf) (sS tf) (wS tf) (thI (tf 0) (tf 4)) tn) i) 2 (((mlT tf (wsum (kS tf) (sS tf) (wS tf) (thI (tf 0) (tf 4)) tn) i) 2) + 1)))), (mc, .inl (cs 0, 696, .inl (ntF (mlA mf tf (wsum (kS tf) (sS tf) (wS tf) (thI (tf 0) (tf 4)) tn) an i) (mlT tf (wsum (kS tf) (sS tf) (wS tf) (thI (tf 0) (tf 4)) tn) i) (kmN an i))))] rfl (by decide) (show [mo, mt] = [mo, mt] from rfl) (rfl) dX6_meals_75 ?_
              refine V.sts (st' := [.int (wsum (kS (upd (mlT tf (wsum (kS tf) (sS tf) (wS tf) (thI (tf 0) (tf 4)) tn) i) 2 (((mlT tf (wsum (kS tf) (sS tf) (wS tf) (thI (tf 0) (tf 4)) tn) i) 2) + 1))) (sS (upd (mlT tf (wsum (kS tf) (sS tf) (wS tf) (thI (tf 0) (tf 4)) tn) i) 2 (((mlT tf (wsum (kS tf) (sS tf) (wS tf) (thI (tf 0) (tf 4)) tn) i) 2) + 1))) (wS (upd (mlT tf (wsum (kS tf) (sS tf) (wS tf) (thI (tf 0) (tf 4)) tn) i) 2 (((mlT tf (wsum (kS tf) (sS tf) (wS tf) (thI (tf 0) (tf 4)) tn) i) 2) + 1))) (thI ((upd (mlT tf (wsum (kS tf) (sS tf) (wS tf) (thI (tf 0) (tf 4)) tn) i) 2 (((mlT tf (wsum (kS tf) (sS tf) (wS tf) (thI (tf 0) (tf 4)) tn) i) 2) + 1)) 0) ((upd (mlT tf (wsum (kS tf) (sS tf) (wS tf) (thI (tf 0) (tf 4)) tn) i) 2 (((mlT tf (wsum (kS tf) (sS tf) (wS tf) (thI (tf 0) (tf 4)) tn) i) 2) + 1)) 4)) tn), .int ((upd (mlT tf (wsum (kS tf) (sS tf) (wS tf) (thI (tf 0) (tf 4)) tn) i) 2 (((mlT tf (wsum (kS tf) (sS tf) (wS tf) (thI (tf 0) (tf 4)) tn) i) 2) + 1)) 3), .int 3, .ref mt]) rfl ?_
              refine V.topr (y := wsum (kS tf) (sS tf) (wS tf) (thI (tf 0) (tf 4)) tn) (by rw [u2_kS, u2_sS, u2_wS, mlT_kS, mlT_sS, mlT_wS, u2_at _ _ 0 (by decide), u2_at _ _ 4 (by decide), mlT_out _ _ _ 0 (by decide), mlT_out _ _ _ 4 (by decide)]) ?_
              refine v_iadd C dX6_meals_78 ?_
              refine v_iast C 1 0 rfl rfl (vp_in_nI (n := 3) (N := 29) (by decide) (by decide)) [(mo, .inr (6, [.ref ml, .ref mz, .ref mi, .int su, .int (b2 true), .ref mt, .ref mv, .ref mp, .int nby, .int lt, .int pl, .int tok, .int va, .int be, .int wr, .ref md, .ref mc, .int (nI (kpN (kmN an i))), .ref mk, .ref mq, .ref mr, .int td])), (mt, .inl (cs 0, 29, .inl (upd (upd (mlT tf (wsum (kS tf) (sS tf) (wS tf) (thI (tf 0) (tf 4)) tn) i) 2 (((mlT tf (wsum (kS tf) (sS tf) (wS tf) (thI (tf 0) (tf 4)) tn) i) 2) + 1)) 3 (((upd (mlT tf (wsum (kS tf) (sS tf) (wS tf) (thI (tf 0) (tf 4)) tn) i) 2 (((mlT tf (wsum (kS tf) (sS tf) (wS tf) (thI (tf 0) (tf 4)) tn) i) 2) + 1)) 3) + (wsum (kS tf) (sS tf) (wS tf) (thI (tf 0) (tf 4)) tn))))), (mc, .inl (cs 0, 696, .inl (ntF (mlA mf tf (wsum (kS tf) (sS tf) (wS tf) (thI (tf 0) (tf 4)) tn) an i) (mlT tf (wsum (kS tf) (sS tf) (wS tf) (thI (tf 0) (tf 4)) tn) i) (kmN an i))))] (rfl) dX6_meals_79 ?_
              refine v_iinc C (k := 2) (nI (i + 1)) [(0, .ref mo), (1, .int (nI nn)), (2, .int (nI (i + 1)))] [1, 2, 0] dX6_meals_80 rfl (nI_inc _) (by decide) rfl ?_
              refine v_goto C 44 dX6_meals_83 (by decide) ?_
              exact ih44 (i + 1) _ _ _ _ (rfl) (rfl) (mlT_s _ _ _) (rfl) (by first | assumption | omega) (by omega)
        exact L44 _ 0 _ _ _ _ (rfl) (rfl) (mlT_0 _ _) (rfl) (by first | assumption | omega) (Nat.lt_succ_self _)
      · exact absurd (by rw [hm, nI_add]; exact nI_le (a := mn + nn) (b := 999) h3 (by decide)) c3
    · exact absurd c2 (by rw [show inI (nI nn) 1 20 = true from inI_t (a := 1) (b := 20) h1 h2 (by decide)]; decide)
  · exact absurd c1 (by decide)
