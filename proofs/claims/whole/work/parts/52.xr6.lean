theorem kX6_which : KD yX6_which wsX6_which cX6_which 13 (some .int) 4 := ⟨⟨_, rfl⟩, by decide, by decide +kernel, by decide +kernel, by decide +kernel⟩
theorem in_X6_which_X6 : ∀ w ∈ wsX60, w ∈ wsX6_which := by decide +kernel
theorem fl_X6_which_16 : FL RX6 wsX6_which RX6 RX6 TX6 22 6 2 16 := ⟨⟨in_X6_which_X6, rfl, by decide, rfl⟩, by decide +kernel⟩
theorem fl_X6_which_19 : FL RX6 wsX6_which RX6 RX6 TX6 22 6 5 19 := ⟨⟨in_X6_which_X6, rfl, by decide, rfl⟩, by decide +kernel⟩
set_option maxHeartbeats 4000000 in
set_option maxRecDepth 100000 in
theorem c_mwhichOk (l : Launch) (D : va_G) (cs : Nat → ClassId) {mo : Nat} {ml : Nat} {mz : Nat} {mi : Nat} {mt : Nat} {mv : Nat} {mp : Nat} {md : Nat} {mc : Nat} {mk : Nat} {mq : Nat} {mr : Nat} {su : Int32} {it : Bool} {nby : Int32} {lt : Int32} {pl : Int32} {tok : Int32} {va : Int32} {be : Int32} {wr : Int32} {am : Int32} {td : Int32} {tf : Nat → Int32} {szf : Nat → Int32} {itf : Nat → Int32} {pn : Nat} {tn : Nat} {j : Nat} {sn : Nat} {ii : Nat} {nn : Nat} {t : Nat} (hte : tf 1 = nI tn) (hti : tn ≤ 8) (hS : ∀ t, s64 (tf (13 + t))) (hK : ∀ t, t < tn → kok (tf (5 + t))) (hpe : tf 0 = nI pn) (hpn : pn ≤ 6) (hj : j < 8) (hsz : szf j = nI sn) (hsn : sn ≤ 40) (hq : ii + 2 * nn ≤ sn) (hnn : nn ≤ 10) (ht : t < tn) : CT l D (tz cs) yX6_which wsX6_which ({ frames := 3, cells := 0, slots := 0, locals := 72 }) [.ref mo, .int (nI t), .int (nI j), .int (nI ii), .int (nI nn)] [(mo, .inr (6, [.ref ml, .ref mz, .ref mi, .int su, .int (b2 it), .ref mt, .ref mv, .ref mp, .int nby, .int lt, .int pl, .int tok, .int va, .int be, .int wr, .ref md, .ref mc, .int am, .ref mk, .ref mq, .ref mr, .int td])), (mz, .inl (cs 0, 8, .inl szf)), (mi, .inl (cs 0, 320, .inl itf)), (mt, .inl (cs 0, 29, .inl tf))] (some (.int (if whB pn (rfM itf j) (nI ii) nn = true then whK (fun kd => fitB (kS tf) (sS tf) (wS tf) tn (rfM itf j) (nI t) (nI kd) (nI ii) nn) 5 else -1000001))) [(mo, .inr (6, [.ref ml, .ref mz, .ref mi, .int (if whB pn (rfM itf j) (nI ii) nn = true then 0 else su), .int (b2 it), .ref mt, .ref mv, .ref mp, .int nby, .int lt, .int pl, .int tok, .int va, .int be, .int wr, .ref md, .ref mc, .int am, .ref mk, .ref mq, .ref mr, .int td])), (mz, .inl (cs 0, 8, .inl szf)), (mi, .inl (cs 0, 320, .inl itf)), (mt, .inl (cs 0, 29, .inl tf))] := by
  refine CT.of kX6_which (Nat.le_of_ble_eq_true rfl) ?_
  intro p e s m below meth c A C E
  have C : VOk p s m _ c cX6_which 13 wsX6_which RX6 D (tz cs) A s.heap := C
  refine V.lvs (lv' := [(0, .ref mo), (1, .int (nI t)), (2, .int (nI j)), (3, .int (nI ii)), (4, .int (nI nn))]) [0, 1, 2, 3, 4] rfl ?_
  have hpw := pw64 pn hpn
  have hlk1 : ¬ szf j < 0 := by rw [hsz]; exact nI_pos (by omega)
  have hlk2 : inI (nI ii) 0 (szf j - 2 * nI nn) = true := by rw [hsz, show 2 * nI nn = nI (2 * nn) from pk_mul 2 nn, pk_sub (by omega)]; exact inI_t (a := 0) (by omega) (by omega) (by omega)
  have hgk : gA (kS tf) 8 (nI t) = tf (5 + t) := gA_in (by omega) (by decide)
  have hgs : gA (sS tf) 8 (nI t) = tf (13 + t) := gA_in (by omega) (by decide)
  have hgw : gA (wS tf) 8 (nI t) = tf (21 + t) := gA_in (by omega) (by decide)
  have hK8 : t < 8 := by omega
  refine v_aload_n C 0 dX6_which_0 rfl ?_
  refine v_iload_n C 1 dX6_which_1 rfl ?_
  refine v_callV (qi := 0) C [.int (nI t)] [] kX6_isTie gX6_which_X6_isTie (c_misTie l D cs (mo := mo) (ml := ml) (mz := mz) (mi := mi) (mt := mt) (mv := mv) (mp := mp) (md := md) (mc := mc) (mk := mk) (mq := mq) (mr := mr) (su := su) (it := it) (nby := nby) (lt := lt) (pl := pl) (tok := tok) (va := va) (be := be) (wr := wr) (am := am) (td := td) (tf := tf) (tn := tn) (x := (nI t)) (by first | assumption | omega) (by first | assumption | omega)) ⟨Nat.le_of_ble_eq_true rfl, Nat.le_of_ble_eq_true rfl⟩ ⟨rfl, rfl⟩ ⟨Nat.zero_le _, Nat.zero_le _⟩ rfl 0 rfl rfl rfl rfl (Nat.le_of_ble_eq_true rfl) [0, 3] [(mo, .inr (6, [.ref ml, .ref mz, .ref mi, .int su, .int (b2 it), .ref mt, .ref mv, .ref mp, .int nby, .int lt, .int pl, .int tok, .int va, .int be, .int wr, .ref md, .ref mc, .int am, .ref mk, .ref mq, .ref mr, .int td])), (mz, .inl (cs 0, 8, .inl szf)), (mi, .inl (cs 0, 320, .inl itf)), (mt, .inl (cs 0, 29, .inl tf))] rfl (by decide) (show [mo, mt] = [mo, mt] from rfl) (rfl) dX6_which_2 ?_
  refine V.sts (st' := [.int (b2 (inB (nI tn) (nI t)))]) rfl ?_
  refine v_if_eqB C 28 dX6_which_5 (by decide) (fun c1 => ?_) (fun c1 => ?_)
  · exact absurd ((inB_in (by omega) ht).symm.trans c1) (by decide)
  · skip
    refine v_iload_n C 2 dX6_which_8 rfl ?_
    refine v_callS C [.int (nI j)] [] kX6_isRow gX6_which_X6_isRow (c_isRow l D cs (x := (nI j)) ) ⟨Nat.le_of_ble_eq_true rfl, Nat.le_of_ble_eq_true rfl⟩ ⟨rfl, rfl⟩ ⟨Nat.zero_le _, Nat.zero_le _⟩ rfl rfl (Nat.le_of_ble_eq_true rfl) [] [(mo, .inr (6, [.ref ml, .ref mz, .ref mi, .int su, .int (b2 it), .ref mt, .ref mv, .ref mp, .int nby, .int lt, .int pl, .int tok, .int va, .int be, .int wr, .ref md, .ref mc, .int am, .ref mk, .ref mq, .ref mr, .int td])), (mz, .inl (cs 0, 8, .inl szf)), (mi, .inl (cs 0, 320, .inl itf)), (mt, .inl (cs 0, 29, .inl tf))] rfl (by decide) rfl (rfl) dX6_which_9 ?_
    refine V.sts (st' := [.int (b2 (inB 8 (nI j)))]) rfl ?_
    refine v_if_eqB C 28 dX6_which_12 (by decide) (fun c2 => ?_) (fun c2 => ?_)
    · exact absurd ((inB_in (n := 8) (by decide) hj).symm.trans c2) (by decide)
    · skip
      refine v_iload C 4 dX6_which_15 rfl ?_
      refine v_i2l C dX6_which_17 ?_
      refine v_lconst C (v := 0) dX6_which_18 (by decide) ?_
      refine v_ldc2 C (v := 10) (by decide +kernel) dX6_which_19 ?_
      refine v_callS C [.long (Int32.toInt64 (nI nn)), .long 0, .long 10] [] kX6_in gX6_which_X6_in (c_inI l D cs (x := (nI nn)) (a := 0) (b := 10) (lo := 0) (hi := 10) (by decide) (by decide)) ⟨Nat.le_of_ble_eq_true rfl, Nat.le_of_ble_eq_true rfl⟩ ⟨rfl, rfl⟩ ⟨Nat.zero_le _, Nat.zero_le _⟩ rfl rfl (Nat.le_of_ble_eq_true rfl) [] [(mo, .inr (6, [.ref ml, .ref mz, .ref mi, .int su, .int (b2 it), .ref mt, .ref mv, .ref mp, .int nby, .int lt, .int pl, .int tok, .int va, .int be, .int wr, .ref md, .ref mc, .int am, .ref mk, .ref mq, .ref mr, .int td])), (mz, .inl (cs 0, 8, .inl szf)), (mi, .inl (cs 0, 320, .inl itf)), (mt, .inl (cs 0, 29, .inl tf))] rfl (by decide) rfl (rfl) dX6_which_22 ?_
      refine V.sts (st' := [.int (b2 (inI (nI nn) 0 10))]) rfl ?_
      refine v_if_neB C 31 dX6_which_25 (by decide) (fun c3 => ?_) (fun c3 => ?_)
      · skip
        refine v_aload_n C 0 dX6_which_31 rfl ?_
        refine v_iload_n C 2 dX6_which_32 rfl ?_
        refine v_iload_n C 3 dX6_which_33 rfl ?_
        refine v_iconst C (v := 2) dX6_which_34 (by decide) ?_
        refine v_iload C 4 dX6_which_35 rfl ?_
        refine v_imul C dX6_which_37 ?_
        refine V.topr (y := (2 * nI nn)) (rfl) ?_
        refine v_callV (qi := 0) C [.int (nI j), .int (nI ii), .int (2 * nI nn)] [] kX6_lacks gX6_which_X6_lacks (c_lacks l D cs (mo := mo) (ml := ml) (mz := mz) (mi := mi) (mt := mt) (mv := mv) (mp := mp) (md := md) (mc := mc) (mk := mk) (mq := mq) (mr := mr) (su := su) (it := it) (nby := nby) (lt := lt) (pl := pl) (tok := tok) (va := va) (be := be) (wr := wr) (am := am) (td := td) (szf := szf) (j := j) (x := (nI ii)) (y := (2 * nI nn)) (by first | assumption | omega)) ⟨Nat.le_of_ble_eq_true rfl, Nat.le_of_ble_eq_true rfl⟩ ⟨rfl, rfl⟩ ⟨Nat.zero_le _, Nat.zero_le _⟩ rfl 0 rfl rfl rfl rfl (Nat.le_of_ble_eq_true rfl) [0, 1] [(mo, .inr (6, [.ref ml, .ref mz, .ref mi, .int (if szf j < 0 then 1 else if inI (nI ii) 0 (szf j - (2 * nI nn)) = true then su else 2), .int (b2 it), .ref mt, .ref mv, .ref mp, .int nby, .int lt, .int pl, .int tok, .int va, .int be, .int wr, .ref md, .ref mc, .int am, .ref mk, .ref mq, .ref mr, .int td])), (mz, .inl (cs 0, 8, .inl szf)), (mi, .inl (cs 0, 320, .inl itf)), (mt, .inl (cs 0, 29, .inl tf))] rfl (by decide) (show [mo, mz] = [mo, mz] from rfl) (rfl) dX6_which_38 ?_
        refine V.sts (st' := [.int (if szf j < 0 then -1000010 - 1 else if inI (nI ii) 0 (szf j - (2 * nI nn)) = true then 0 else -1000010 - 2)]) rfl ?_
        refine V.topr (y := 0) (by rw [if_neg hlk1, if_pos hlk2]) ?_
        refine V.wss (ws' := [(mo, .inr (6, [.ref ml, .ref mz, .ref mi, .int su, .int (b2 it), .ref mt, .ref mv, .ref mp, .int nby, .int lt, .int pl, .int tok, .int va, .int be, .int wr, .ref md, .ref mc, .int am, .ref mk, .ref mq, .ref mr, .int td])), (mz, .inl (cs 0, 8, .inl szf)), (mi, .inl (cs 0, 320, .inl itf)), (mt, .inl (cs 0, 29, .inl tf))]) (by rw [if_neg hlk1, if_pos hlk2]) ?_
        refine v_istore C [(0, .ref mo), (1, .int (nI t)), (2, .int (nI j)), (3, .int (nI ii)), (4, .int (nI nn)), (5, .int 0)] [1, 2, 3, 4, 5, 0] dX6_which_41 (by decide) rfl ?_
        refine v_iload C 5 dX6_which_43 rfl ?_
        refine v_if_ge C 51 dX6_which_45 (by decide) (fun c4 => ?_) (fun c4 => ?_)
        · skip
          refine v_bipush C (v := 40) dX6_which_51 (by decide) ?_
          refine v_iload_n C 2 dX6_which_53 rfl ?_
          refine v_imul C dX6_which_54 ?_
          refine v_iload_n C 3 dX6_which_55 rfl ?_
          refine v_iadd C dX6_which_56 ?_
          refine V.topr (y := nI (40 * j + ii)) (ix40 _ _) ?_
          refine v_istore C [(0, .ref mo), (1, .int (nI t)), (2, .int (nI j)), (3, .int (nI ii)), (4, .int (nI nn)), (5, .int 0), (6, .int (nI (40 * j + ii)))] [1, 2, 3, 4, 5, 6, 0] dX6_which_57 (by decide) rfl ?_
          refine v_iconst C (v := 0) dX6_which_59 (by decide) ?_
          refine v_istore C [(0, .ref mo), (1, .int (nI t)), (2, .int (nI j)), (3, .int (nI ii)), (4, .int (nI nn)), (5, .int 0), (6, .int (nI (40 * j + ii))), (7, .int 0)] [1, 2, 3, 4, 5, 6, 7, 0] dX6_which_60 (by decide) rfl ?_
          have L62 : ∀ (n : Nat) (k : Nat) (y0 : Int32), y0 = (nI k) → (k ≤ nn) → (whB pn (rfM itf j) (nI ii) k = true) → (nn - k) < n → V p l e ({ frames := 3, cells := 0, slots := 0, locals := 72 }) s m (List.toArray [.ref mo, .int (nI t), .int (nI j), .int (nI ii), .int (nI nn)]) below meth c 0 0 (MQ below (vq_Q (some (.int (if whB pn (rfM itf j) (nI ii) nn = true then whK (fun kd => fitB (kS tf) (sS tf) (wS tf) tn (rfM itf j) (nI t) (nI kd) (nI ii) nn) 5 else -1000001))) D [(mo, .inr (6, [.ref ml, .ref mz, .ref mi, .int (if whB pn (rfM itf j) (nI ii) nn = true then 0 else su), .int (b2 it), .ref mt, .ref mv, .ref mp, .int nby, .int lt, .int pl, .int tok, .int va, .int be, .int wr, .ref md, .ref mc, .int am, .ref mk, .ref mq, .ref mr, .int td])), (mz, .inl (cs 0, 8, .inl szf)), (mi, .inl (cs 0, 320, .inl itf)), (mt, .inl (cs 0, 29, .inl tf))] [(mo, .inr (6, [.ref ml, .ref mz, .ref mi, .int su, .int (b2 it), .ref mt, .ref mv, .ref mp, .int nby, .int lt, .int pl, .int tok, .int va, .int be, .int wr, .ref md, .ref mc, .int am, .ref mk, .ref mq, .ref mr, .int td])), (mz, .inl (cs 0, 8, .inl szf)), (mi, .inl (cs 0, 320, .inl itf)), (mt, .inl (cs 0, 29, .inl tf))] s.heap.size) (List.toArray [.ref mo, .int (nI t), .int (nI j), .int (nI ii), .int (nI nn)]) s 0 0 (va_A [(mo, .inr (6, [.ref ml, .ref mz, .ref mi, .int su, .int (b2 it), .ref mt, .ref mv, .ref mp, .int nby, .int lt, .int pl, .int tok, .int va, .int be, .int wr, .ref md, .ref mc, .int am, .ref mk, .ref mq, .ref mr, .int td])), (mz, .inl (cs 0, 8, .inl szf)), (mi, .inl (cs 0, 320, .inl itf)), (mt, .inl (cs 0, 29, .inl tf))] s.heap.size)) 13 D A s.heap 62 [(0, .ref mo), (1, .int (nI t)), (2, .int (nI j)), (3, .int (nI ii)), (4, .int (nI nn)), (5, .int 0), (6, .int (nI (40 * j + ii))), (7, .int y0)] [] [(mo, .inr (6, [.ref ml, .ref mz, .ref mi, .int su, .int (b2 it), .ref mt, .ref mv, .ref mp, .int nby, .int lt, .int pl, .int tok, .int va, .int be, .int wr, .ref md, .ref mc, .int am, .ref mk, .ref mq, .ref mr, .int td])), (mz, .inl (cs 0, 8, .inl szf)), (mi, .inl (cs 0, 320, .inl itf)), (mt, .inl (cs 0, 29, .inl tf))] := by
            intro n
            induction n with
            | zero =>
              intros; omega
            | succ n ih62 =>
              intro k y0 ey0 hk hf hn
              subst ey0
              refine v_iload C 7 dX6_which_62 rfl ?_
              refine v_iload C 4 dX6_which_64 rfl ?_
              refine v_icmp_ge C 97 dX6_which_66 (by decide) (fun c5 => ?_) (fun c5 => ?_)
              · skip
                have hge : nn ≤ k := le_nI c5 (by omega) (by omega)
                have hwb : whB pn (rfM itf j) (nI ii) nn = true := by rw [show nn = k by omega]; exact hf
                refine v_iconst C (v := 0) dX6_which_97 (by decide) ?_
                refine v_istore C [(0, .ref mo), (1, .int (nI t)), (2, .int (nI j)), (3, .int (nI ii)), (4, .int (nI nn)), (5, .int 0), (6, .int (nI (40 * j + ii))), (7, .int 0)] [1, 2, 3, 4, 5, 6, 7, 0] dX6_which_98 (by decide) rfl ?_
                refine v_iconst C (v := 1) dX6_which_100 (by decide) ?_
                refine v_istore C [(0, .ref mo), (1, .int (nI t)), (2, .int (nI j)), (3, .int (nI ii)), (4, .int (nI nn)), (5, .int 0), (6, .int (nI (40 * j + ii))), (7, .int 0), (8, .int 1)] [1, 2, 3, 4, 5, 6, 7, 8, 0] dX6_which_101 (by decide) rfl ?_
                have L103 : ∀ (n : Nat) (kk : Nat) (y0 : Int32) (y1 : Int32), y0 = (whK (fun kd => fitB (kS tf) (sS tf) (wS tf) tn (rfM itf j) (nI t) (nI kd) (nI ii) nn) kk) → y1 = (nI (kk + 1)) → (kk ≤ 5) → (5 - kk) < n → V p l e ({ frames := 3, cells := 0, slots := 0, locals := 72 }) s m (List.toArray [.ref mo, .int (nI t), .int (nI j), .int (nI ii), .int (nI nn)]) below meth c 0 0 (MQ below (vq_Q (some (.int (if whB pn (rfM itf j) (nI ii) nn = true then whK (fun kd => fitB (kS tf) (sS tf) (wS tf) tn (rfM itf j) (nI t) (nI kd) (nI ii) nn) 5 else -1000001))) D [(mo, .inr (6, [.ref ml, .ref mz, .ref mi, .int (if whB pn (rfM itf j) (nI ii) nn = true then 0 else su), .int (b2 it), .ref mt, .ref mv, .ref mp, .int nby, .int lt, .int pl, .int tok, .int va, .int be, .int wr, .ref md, .ref mc, .int am, .ref mk, .ref mq, .ref mr, .int td])), (mz, .inl (cs 0, 8, .inl szf)), (mi, .inl (cs 0, 320, .inl itf)), (mt, .inl (cs 0, 29, .inl tf))] [(mo, .inr (6, [.ref ml, .ref mz, .ref mi, .int su, .int (b2 it), .ref mt, .ref mv, .ref mp, .int nby, .int lt, .int pl, .int tok, .int va, .int be, .int wr, .ref md, .ref mc, .int am, .ref mk, .ref mq, .ref mr, .int td])), (mz, .inl (cs 0, 8, .inl szf)), (mi, .inl (cs 0, 320, .inl itf)), (mt, .inl (cs 0, 29, .inl tf))] s.heap.size) (List.toArray [.ref mo, .int (nI t), .int (nI j), .int (nI ii), .int (nI nn)]) s 0 0 (va_A [(mo, .inr (6, [.ref ml, .ref mz, .ref mi, .int su, .int (b2 it), .ref mt, .ref mv, .ref mp, .int nby, .int lt, .int pl, .int tok, .int va, .int be, .int wr, .ref md, .ref mc, .int am, .ref mk, .ref mq, .ref mr, .int td])), (mz, .inl (cs 0, 8, .inl szf)), (mi, .inl (cs 0, 320, .inl itf)), (mt, .inl (cs 0, 29, .inl tf))] s.heap.size)) 13 D A s.heap 103 [(0, .ref mo), (1, .int (nI t)), (2, .int (nI j)), (3, .int (nI ii)), (4, .int (nI nn)), (5, .int 0), (6, .int (nI (40 * j + ii))), (7, .int y0), (8, .int y1)] [] [(mo, .inr (6, [.ref ml, .ref mz, .ref mi, .int su, .int (b2 it), .ref mt, .ref mv, .ref mp, .int nby, .int lt, .int pl, .int tok, .int va, .int be, .int wr, .ref md, .ref mc, .int am, .ref mk, .ref mq, .ref mr, .int td])), (mz, .inl (cs 0, 8, .inl szf)), (mi, .inl (cs 0, 320, .inl itf)), (mt, .inl (cs 0, 29, .inl tf))] := by
                  intro n
                  induction n with
                  | zero =>
                    intros; omega
                  | succ n ih103 =>
                    intro kk y0 y1 ey0 ey1 hk5 hn
                    subst ey0
                    subst ey1
                    refine v_iload C 8 dX6_which_103 rfl ?_
                    refine v_iconst C (v := 5) dX6_which_105 (by decide) ?_
                    refine v_icmp_gt C 231 dX6_which_106 (by decide) (fun c6 => ?_) (fun c6 => ?_)
                    · skip
                      have hge5 : 5 < kk + 1 := lt_nI (a := 5) (b := kk + 1) c6 (by omega) (by omega)
                      have hkk : kk = 5 := by omega
                      refine v_aload_n C 0 dX6_which_231 rfl ?_
                      refine v_iload C 7 dX6_which_232 rfl ?_
                      refine v_callV (qi := 0) C [.int (whK (fun kd => fitB (kS tf) (sS tf) (wS tf) tn (rfM itf j) (nI t) (nI kd) (nI ii) nn) kk)] [] kX6_well gX6_which_X6_well (c_mwell l D cs (mo := mo) (ml := ml) (mz := mz) (mi := mi) (mt := mt) (mv := mv) (mp := mp) (md := md) (mc := mc) (mk := mk) (mq := mq) (mr := mr) (su := su) (it := it) (nby := nby) (lt := lt) (pl := pl) (tok := tok) (va := va) (be := be) (wr := wr) (am := am) (td := td) (x := (whK (fun kd => fitB (kS tf) (sS tf) (wS tf) tn (rfM itf j) (nI t) (nI kd) (nI ii) nn) kk)) ) ⟨Nat.le_of_ble_eq_true rfl, Nat.le_of_ble_eq_true rfl⟩ ⟨rfl, rfl⟩ ⟨Nat.zero_le _, Nat.zero_le _⟩ rfl 0 rfl rfl rfl rfl (Nat.le_of_ble_eq_true rfl) [0] [(mo, .inr (6, [.ref ml, .ref mz, .ref mi, .int 0, .int (b2 it), .ref mt, .ref mv, .ref mp, .int nby, .int lt, .int pl, .int tok, .int va, .int be, .int wr, .ref md, .ref mc, .int am, .ref mk, .ref mq, .ref mr, .int td])), (mz, .inl (cs 0, 8, .inl szf)), (mi, .inl (cs 0, 320, .inl itf)), (mt, .inl (cs 0, 29, .inl tf))] rfl (by decide) (show [mo] = [mo] from rfl) (rfl) dX6_which_234 ?_
                      refine V.sts (st' := [.int (whK (fun kd => fitB (kS tf) (sS tf) (wS tf) tn (rfM itf j) (nI t) (nI kd) (nI ii) nn) kk)]) rfl ?_
                      exact v_iret C E (by rw [hwb]; rfl) (by rw [hwb]; first | rfl | (rw [hkk]; rfl)) dX6_which_237
                    · skip
                      have hlt5 : kk + 1 ≤ 5 := nlt_nI (a := 5) (b := kk + 1) c6 (by omega) (by omega)
                      refine v_iconst C (v := 1) dX6_which_109 (by decide) ?_
                      refine v_istore C [(0, .ref mo), (1, .int (nI t)), (2, .int (nI j)), (3, .int (nI ii)), (4, .int (nI nn)), (5, .int 0), (6, .int (nI (40 * j + ii))), (7, .int (whK (fun kd => fitB (kS tf) (sS tf) (wS tf) tn (rfM itf j) (nI t) (nI kd) (nI ii) nn) kk)), (8, .int (nI (kk + 1))), (9, .int 1)] [1, 2, 3, 4, 5, 6, 7, 8, 9, 0] dX6_which_110 (by decide) rfl ?_
                      refine v_iconst C (v := 0) dX6_which_112 (by decide) ?_
                      refine v_istore C [(0, .ref mo), (1, .int (nI t)), (2, .int (nI j)), (3, .int (nI ii)), (4, .int (nI nn)), (5, .int 0), (6, .int (nI (40 * j + ii))), (7, .int (whK (fun kd => fitB (kS tf) (sS tf) (wS tf) tn (rfM itf j) (nI t) (nI kd) (nI ii) nn) kk)), (8, .int (nI (kk + 1))), (9, .int 1), (10, .int 0)] [1, 2, 3, 4, 5, 6, 7, 8, 9, 10, 0] dX6_which_113 (by decide) rfl ?_
                      have L115 : ∀ (n : Nat) (u : Nat) (y0 : Int32) (y1 : Int32), y0 = (b2 (fitB (kS tf) (sS tf) (wS tf) tn (rfM itf j) (nI t) (nI (kk + 1)) (nI ii) u)) → y1 = (nI u) → (u ≤ nn) → (nn - u) < n → V p l e ({ frames := 3, cells := 0, slots := 0, locals := 72 }) s m (List.toArray [.ref mo, .int (nI t), .int (nI j), .int (nI ii), .int (nI nn)]) below meth c 0 0 (MQ below (vq_Q (some (.int (if whB pn (rfM itf j) (nI ii) nn = true then whK (fun kd => fitB (kS tf) (sS tf) (wS tf) tn (rfM itf j) (nI t) (nI kd) (nI ii) nn) 5 else -1000001))) D [(mo, .inr (6, [.ref ml, .ref mz, .ref mi, .int (if whB pn (rfM itf j) (nI ii) nn = true then 0 else su), .int (b2 it), .ref mt, .ref mv, .ref mp, .int nby, .int lt, .int pl, .int tok, .int va, .int be, .int wr, .ref md, .ref mc, .int am, .ref mk, .ref mq, .ref mr, .int td])), (mz, .inl (cs 0, 8, .inl szf)), (mi, .inl (cs 0, 320, .inl itf)), (mt, .inl (cs 0, 29, .inl tf))] [(mo, .inr (6, [.ref ml, .ref mz, .ref mi, .int su, .int (b2 it), .ref mt, .ref mv, .ref mp, .int nby, .int lt, .int pl, .int tok, .int va, .int be, .int wr, .ref md, .ref mc, .int am, .ref mk, .ref mq, .ref mr, .int td])), (mz, .inl (cs 0, 8, .inl szf)), (mi, .inl (cs 0, 320, .inl itf)), (mt, .inl (cs 0, 29, .inl tf))] s.heap.size) (List.toArray [.ref mo, .int (nI t), .int (nI j), .int (nI ii), .int (nI nn)]) s 0 0 (va_A [(mo, .inr (6, [.ref ml, .ref mz, .ref mi, .int su, .int (b2 it), .ref mt, .ref mv, .ref mp, .int nby, .int lt, .int pl, .int tok, .int va, .int be, .int wr, .ref md, .ref mc, .int am, .ref mk, .ref mq, .ref mr, .int td])), (mz, .inl (cs 0, 8, .inl szf)), (mi, .inl (cs 0, 320, .inl itf)), (mt, .inl (cs 0, 29, .inl tf))] s.heap.size)) 13 D A s.heap 115 [(0, .ref mo), (1, .int (nI t)), (2, .int (nI j)), (3, .int (nI ii)), (4, .int (nI nn)), (5, .int 0), (6, .int (nI (40 * j + ii))), (7, .int (whK (fun kd => fitB (kS tf) (sS tf) (wS tf) tn (rfM itf j) (nI t) (nI kd) (nI ii) nn) kk)), (8, .int (nI (kk + 1))), (9, .int y0), (10, .int y1)] [] [(mo, .inr (6, [.ref ml, .ref mz, .ref mi, .int su, .int (b2 it), .ref mt, .ref mv, .ref mp, .int nby, .int lt, .int pl, .int tok, .int va, .int be, .int wr, .ref md, .ref mc, .int am, .ref mk, .ref mq, .ref mr, .int td])), (mz, .inl (cs 0, 8, .inl szf)), (mi, .inl (cs 0, 320, .inl itf)), (mt, .inl (cs 0, 29, .inl tf))] := by
                        intro n
                        induction n with
                        | zero =>
                          intros; omega
                        | succ n ih115 =>
                          intro u y0 y1 ey0 ey1 hu hn
                          subst ey0
                          subst ey1
                          refine v_iload C 10 dX6_which_115 rfl ?_
                          refine v_iload C 4 dX6_which_117 rfl ?_
                          refine v_icmp_ge C 207 dX6_which_119 (by decide) (fun c7 => ?_) (fun c7 => ?_)
                          · skip
                            have hgek : nn ≤ u := le_nI c7 (by omega) (by omega)
                            have hsub : nn = u := by omega
                            subst hsub
                            refine v_iload C 7 dX6_which_207 rfl ?_
                            refine v_iload C 9 dX6_which_209 rfl ?_
                            refine v_if_eqB C 221 dX6_which_211 (by decide) (fun c8 => ?_) (fun c8 => ?_)
                            · skip
                              refine v_iconst C (v := 0) dX6_which_221 (by decide) ?_
                              refine v_ior C dX6_which_222 ?_
                              refine v_istore C [(0, .ref mo), (1, .int (nI t)), (2, .int (nI j)), (3, .int (nI ii)), (4, .int (nI nn)), (5, .int 0), (6, .int (nI (40 * j + ii))), (7, .int ((whK (fun kd => fitB (kS tf) (sS tf) (wS tf) tn (rfM itf j) (nI t) (nI kd) (nI ii) nn) kk) ||| 0)), (8, .int (nI (kk + 1))), (9, .int (b2 (fitB (kS tf) (sS tf) (wS tf) tn (rfM itf j) (nI t) (nI (kk + 1)) (nI ii) nn))), (10, .int (nI nn))] [1, 2, 3, 4, 5, 6, 7, 0, 8, 9, 10] dX6_which_223 (by decide) rfl ?_
                              refine v_iinc C (k := 8) (nI ((kk + 1) + 1)) [(0, .ref mo), (1, .int (nI t)), (2, .int (nI j)), (3, .int (nI ii)), (4, .int (nI nn)), (5, .int 0), (6, .int (nI (40 * j + ii))), (7, .int ((whK (fun kd => fitB (kS tf) (sS tf) (wS tf) tn (rfM itf j) (nI t) (nI kd) (nI ii) nn) kk) ||| 0)), (8, .int (nI ((kk + 1) + 1))), (9, .int (b2 (fitB (kS tf) (sS tf) (wS tf) tn (rfM itf j) (nI t) (nI (kk + 1)) (nI ii) nn))), (10, .int (nI nn))] [1, 2, 3, 4, 5, 6, 7, 8, 0, 9, 10] dX6_which_225 rfl (nI_inc _) (by decide) rfl ?_
                              refine v_goto C 103 dX6_which_228 (by decide) ?_
                              refine V.lvs (lv' := [(0, .ref mo), (1, .int (nI t)), (2, .int (nI j)), (3, .int (nI ii)), (4, .int (nI nn)), (5, .int 0), (6, .int (nI (40 * j + ii))), (7, .int ((whK (fun kd => fitB (kS tf) (sS tf) (wS tf) tn (rfM itf j) (nI t) (nI kd) (nI ii) nn) kk) ||| 0)), (8, .int (nI ((kk + 1) + 1)))]) [0, 1, 2, 3, 4, 5, 6, 7, 8] rfl ?_
                              exact ih103 (kk + 1) _ _ (by rw [whK_s]; rw [if_neg (show ¬ fitB (kS tf) (sS tf) (wS tf) tn (rfM itf j) (nI t) (nI (kk + 1)) (nI ii) nn = true from by rw [c8]; decide), Int32.or_zero]) (rfl) (by first | assumption | omega) (by omega)
                            · skip
                              refine v_iconst C (v := 1) dX6_which_214 (by decide) ?_
                              refine v_iload C 8 dX6_which_215 rfl ?_
                              refine v_ishl C dX6_which_217 ?_
                              refine v_goto C 222 dX6_which_218 (by decide) ?_
                              refine v_ior C dX6_which_222 ?_
                              refine v_istore C [(0, .ref mo), (1, .int (nI t)), (2, .int (nI j)), (3, .int (nI ii)), (4, .int (nI nn)), (5, .int 0), (6, .int (nI (40 * j + ii))), (7, .int ((whK (fun kd => fitB (kS tf) (sS tf) (wS tf) tn (rfM itf j) (nI t) (nI kd) (nI ii) nn) kk) ||| (1 <<< ((nI (kk + 1)) &&& 31)))), (8, .int (nI (kk + 1))), (9, .int (b2 (fitB (kS tf) (sS tf) (wS tf) tn (rfM itf j) (nI t) (nI (kk + 1)) (nI ii) nn))), (10, .int (nI nn))] [1, 2, 3, 4, 5, 6, 7, 0, 8, 9, 10] dX6_which_223 (by decide) rfl ?_
                              refine v_iinc C (k := 8) (nI ((kk + 1) + 1)) [(0, .ref mo), (1, .int (nI t)), (2, .int (nI j)), (3, .int (nI ii)), (4, .int (nI nn)), (5, .int 0), (6, .int (nI (40 * j + ii))), (7, .int ((whK (fun kd => fitB (kS tf) (sS tf) (wS tf) tn (rfM itf j) (nI t) (nI kd) (nI ii) nn) kk) ||| (1 <<< ((nI (kk + 1)) &&& 31)))), (8, .int (nI ((kk + 1) + 1))), (9, .int (b2 (fitB (kS tf) (sS tf) (wS tf) tn (rfM itf j) (nI t) (nI (kk + 1)) (nI ii) nn))), (10, .int (nI nn))] [1, 2, 3, 4, 5, 6, 7, 8, 0, 9, 10] dX6_which_225 rfl (nI_inc _) (by decide) rfl ?_
                              refine v_goto C 103 dX6_which_228 (by decide) ?_
                              refine V.lvs (lv' := [(0, .ref mo), (1, .int (nI t)), (2, .int (nI j)), (3, .int (nI ii)), (4, .int (nI nn)), (5, .int 0), (6, .int (nI (40 * j + ii))), (7, .int ((whK (fun kd => fitB (kS tf) (sS tf) (wS tf) tn (rfM itf j) (nI t) (nI kd) (nI ii) nn) kk) ||| (1 <<< ((nI (kk + 1)) &&& 31)))), (8, .int (nI ((kk + 1) + 1)))]) [0, 1, 2, 3, 4, 5, 6, 7, 8] rfl ?_
                              exact ih103 (kk + 1) _ _ (by rw [whK_s]; rw [if_pos (show fitB (kS tf) (sS tf) (wS tf) tn (rfM itf j) (nI t) (nI (kk + 1)) (nI ii) nn = true from c8)]) (rfl) (by first | assumption | omega) (by omega)
                          · skip
                            have hltk : u < nn := nle_nI c7 (by omega) (by omega)
                            have hg1 : gA (rfM itf j) 40 (nI (ii + 2 * u + 1)) = itf (40 * j + (ii + 2 * u + 1)) := rfM_gA (by omega)
                            refine v_aload_n C 0 dX6_which_122 rfl ?_
                            refine v_get C (v := .ref mi) fl_X6_which_16 0 rfl rfl dX6_which_123 ?_
                            refine v_iload C 6 dX6_which_126 rfl ?_
                            refine v_iconst C (v := 2) dX6_which_128 (by decide) ?_
                            refine v_iload C 10 dX6_which_129 rfl ?_
                            refine v_imul C dX6_which_131 ?_
                            refine v_iadd C dX6_which_132 ?_
                            refine V.topr (y := nI (40 * j + ii + 2 * u)) (ix2 _ _) ?_
                            refine v_iald C 2 0 rfl rfl (itf (40 * j + ii + 2 * u)) (by rw [nI_clamp (by omega)]) (vp_in_nI (by omega) (by omega)) dX6_which_133 ?_
                            refine v_istore C [(0, .ref mo), (1, .int (nI t)), (2, .int (nI j)), (3, .int (nI ii)), (4, .int (nI nn)), (5, .int 0), (6, .int (nI (40 * j + ii))), (7, .int (whK (fun kd => fitB (kS tf) (sS tf) (wS tf) tn (rfM itf j) (nI t) (nI kd) (nI ii) nn) kk)), (8, .int (nI (kk + 1))), (9, .int (b2 (fitB (kS tf) (sS tf) (wS tf) tn (rfM itf j) (nI t) (nI (kk + 1)) (nI ii) u))), (10, .int (nI u)), (11, .int (itf (40 * j + ii + 2 * u)))] [1, 2, 3, 4, 5, 6, 7, 8, 9, 10, 11, 0] dX6_which_134 (by decide) rfl ?_
                            refine v_aload_n C 0 dX6_which_136 rfl ?_
                            refine v_iload C 11 dX6_which_137 rfl ?_
                            refine v_callV (qi := 0) C [.int (itf (40 * j + ii + 2 * u))] [] kX6_worthOf gX6_which_X6_worthOf (c_mworthOf l D cs (mo := mo) (ml := ml) (mz := mz) (mi := mi) (mt := mt) (mv := mv) (mp := mp) (md := md) (mc := mc) (mk := mk) (mq := mq) (mr := mr) (su := su) (it := it) (nby := nby) (lt := lt) (pl := pl) (tok := tok) (va := va) (be := be) (wr := wr) (am := am) (td := td) (tf := tf) (tn := tn) (th := itf (40 * j + ii + 2 * u)) (by first | assumption | omega) (by first | assumption | omega) (by first | assumption | omega) (by first | assumption | omega)) ⟨Nat.le_of_ble_eq_true rfl, Nat.le_of_ble_eq_true rfl⟩ ⟨rfl, rfl⟩ ⟨Nat.zero_le _, Nat.zero_le _⟩ rfl 0 rfl rfl rfl rfl (Nat.le_of_ble_eq_true rfl) [0, 3] [(mo, .inr (6, [.ref ml, .ref mz, .ref mi, .int su, .int (b2 it), .ref mt, .ref mv, .ref mp, .int nby, .int lt, .int pl, .int tok, .int va, .int be, .int wr, .ref md, .ref mc, .int am, .ref mk, .ref mq, .ref mr, .int td])), (mz, .inl (cs 0, 8, .inl szf)), (mi, .inl (cs 0, 320, .inl itf)), (mt, .inl (cs 0, 29, .inl tf))] rfl (by decide) (show [mo, mt] = [mo, mt] from rfl) (rfl) dX6_which_139 ?_
                            refine V.sts (st' := [.int (wsum (kS tf) (sS tf) (wS tf) (itf (40 * j + ii + 2 * u)) tn)]) rfl ?_
                            refine v_aload_n C 0 dX6_which_142 rfl ?_
                            refine v_aload_n C 0 dX6_which_143 rfl ?_
                            refine v_get C (v := .ref mt) fl_X6_which_19 0 rfl rfl dX6_which_144 ?_
                            refine v_iconst C (v := 5) dX6_which_147 (by decide) ?_
                            refine v_iload_n C 1 dX6_which_148 rfl ?_
                            refine v_iadd C dX6_which_149 ?_
                            refine V.topr (y := nI (5 + t)) (nI_add 5 t) ?_
                            refine v_iald C 3 0 rfl rfl (tf (5 + t)) (by rw [nI_clamp (by omega)]) (vp_in_nI (by omega) (by omega)) dX6_which_150 ?_
                            refine v_iload_n C 1 dX6_which_151 rfl ?_
                            refine v_iload C 11 dX6_which_152 rfl ?_
                            refine v_callV (qi := 0) C [.int (tf (5 + t)), .int (nI t), .int (itf (40 * j + ii + 2 * u))] [.int (wsum (kS tf) (sS tf) (wS tf) (itf (40 * j + ii + 2 * u)) tn)] kX6_countsBy gX6_which_X6_countsBy (c_countsBy l D cs (mo := mo) (ml := ml) (mz := mz) (mi := mi) (mt := mt) (mv := mv) (mp := mp) (md := md) (mc := mc) (mk := mk) (mq := mq) (mr := mr) (su := su) (it := it) (nby := nby) (lt := lt) (pl := pl) (tok := tok) (va := va) (be := be) (wr := wr) (am := am) (td := td) (tf := tf) (t := t) (kd := tf (5 + t)) (th := itf (40 * j + ii + 2 * u)) (by first | exact hK t ht | exact kok_nI (by omega) (by omega)) (by omega) (by first | assumption | omega)) ⟨Nat.le_of_ble_eq_true rfl, Nat.le_of_ble_eq_true rfl⟩ ⟨rfl, rfl⟩ ⟨Nat.zero_le _, Nat.zero_le _⟩ rfl 0 rfl rfl rfl rfl (Nat.le_of_ble_eq_true rfl) [0, 3] [(mo, .inr (6, [.ref ml, .ref mz, .ref mi, .int su, .int (b2 it), .ref mt, .ref mv, .ref mp, .int nby, .int lt, .int pl, .int tok, .int va, .int be, .int wr, .ref md, .ref mc, .int am, .ref mk, .ref mq, .ref mr, .int td])), (mz, .inl (cs 0, 8, .inl szf)), (mi, .inl (cs 0, 320, .inl itf)), (mt, .inl (cs 0, 29, .inl tf))] rfl (by decide) (show [mo, mt] = [mo, mt] from rfl) (rfl) dX6_which_154 ?_
                            refine V.sts (st' := [.int (cnt (tf (5 + t)) (tf (13 + t)) (tf (21 + t)) (itf (40 * j + ii + 2 * u))), .int (wsum (kS tf) (sS tf) (wS tf) (itf (40 * j + ii + 2 * u)) tn)]) rfl ?_
                            refine v_isub C dX6_which_157 ?_
                            refine v_istore C [(0, .ref mo), (1, .int (nI t)), (2, .int (nI j)), (3, .int (nI ii)), (4, .int (nI nn)), (5, .int 0), (6, .int (nI (40 * j + ii))), (7, .int (whK (fun kd => fitB (kS tf) (sS tf) (wS tf) tn (rfM itf j) (nI t) (nI kd) (nI ii) nn) kk)), (8, .int (nI (kk + 1))), (9, .int (b2 (fitB (kS tf) (sS tf) (wS tf) tn (rfM itf j) (nI t) (nI (kk + 1)) (nI ii) u))), (10, .int (nI u)), (11, .int (itf (40 * j + ii + 2 * u))), (12, .int ((wsum (kS tf) (sS tf) (wS tf) (itf (40 * j + ii + 2 * u)) tn) - (cnt (tf (5 + t)) (tf (13 + t)) (tf (21 + t)) (itf (40 * j + ii + 2 * u)))))] [1, 2, 3, 4, 5, 6, 7, 8, 9, 10, 11, 12, 0] dX6_which_158 (by decide) rfl ?_
                            refine v_iload C 9 dX6_which_160 rfl ?_
                            refine v_if_eqB C 198 dX6_which_162 (by decide) (fun c9 => ?_) (fun c9 => ?_)
                            · skip
                              refine v_iconst C (v := 0) dX6_which_198 (by decide) ?_
                              refine v_istore C [(0, .ref mo), (1, .int (nI t)), (2, .int (nI j)), (3, .int (nI ii)), (4, .int (nI nn)), (5, .int 0), (6, .int (nI (40 * j + ii))), (7, .int (whK (fun kd => fitB (kS tf) (sS tf) (wS tf) tn (rfM itf j) (nI t) (nI kd) (nI ii) nn) kk)), (8, .int (nI (kk + 1))), (9, .int 0), (10, .int (nI u)), (11, .int (itf (40 * j + ii + 2 * u))), (12, .int ((wsum (kS tf) (sS tf) (wS tf) (itf (40 * j + ii + 2 * u)) tn) - (cnt (tf (5 + t)) (tf (13 + t)) (tf (21 + t)) (itf (40 * j + ii + 2 * u)))))] [1, 2, 3, 4, 5, 6, 7, 8, 9, 0, 10, 11, 12] dX6_which_199 (by decide) rfl ?_
                              refine v_iinc C (k := 10) (nI (u + 1)) [(0, .ref mo), (1, .int (nI t)), (2, .int (nI j)), (3, .int (nI ii)), (4, .int (nI nn)), (5, .int 0), (6, .int (nI (40 * j + ii))), (7, .int (whK (fun kd => fitB (kS tf) (sS tf) (wS tf) tn (rfM itf j) (nI t) (nI kd) (nI ii) nn) kk)), (8, .int (nI (kk + 1))), (9, .int 0), (10, .int (nI (u + 1))), (11, .int (itf (40 * j + ii + 2 * u))), (12, .int ((wsum (kS tf) (sS tf) (wS tf) (itf (40 * j + ii + 2 * u)) tn) - (cnt (tf (5 + t)) (tf (13 + t)) (tf (21 + t)) (itf (40 * j + ii + 2 * u)))))] [1, 2, 3, 4, 5, 6, 7, 8, 9, 10, 0, 11, 12] dX6_which_201 rfl (nI_inc _) (by decide) rfl ?_
                              refine v_goto C 115 dX6_which_204 (by decide) ?_
                              refine V.lvs (lv' := [(0, .ref mo), (1, .int (nI t)), (2, .int (nI j)), (3, .int (nI ii)), (4, .int (nI nn)), (5, .int 0), (6, .int (nI (40 * j + ii))), (7, .int (whK (fun kd => fitB (kS tf) (sS tf) (wS tf) tn (rfM itf j) (nI t) (nI kd) (nI ii) nn) kk)), (8, .int (nI (kk + 1))), (9, .int 0), (10, .int (nI (u + 1)))]) [0, 1, 2, 3, 4, 5, 6, 7, 8, 9, 10] rfl ?_
                              exact ih115 (u + 1) _ _ (by simp only [fitM hK8 (show ii + 2 * u + 1 < 40 by omega), c9, decide_true, decide_false, Bool.and_true, Bool.and_false, Bool.false_and, Bool.true_and, b2, reduceIte, Bool.false_eq_true]) (rfl) (by first | assumption | omega) (by omega)
                            · skip
                              refine v_aload_n C 0 dX6_which_165 rfl ?_
                              refine v_get C (v := .ref mi) fl_X6_which_16 0 rfl rfl dX6_which_166 ?_
                              refine v_iload C 6 dX6_which_169 rfl ?_
                              refine v_iconst C (v := 2) dX6_which_171 (by decide) ?_
                              refine v_iload C 10 dX6_which_172 rfl ?_
                              refine v_imul C dX6_which_174 ?_
                              refine v_iadd C dX6_which_175 ?_
                              refine V.topr (y := nI (40 * j + ii + 2 * u)) (ix2 _ _) ?_
                              refine v_iconst C (v := 1) dX6_which_176 (by decide) ?_
                              refine v_iadd C dX6_which_177 ?_
                              refine V.topr (y := nI (40 * j + ii + 2 * u + 1)) (nI_1 _) ?_
                              refine v_iald C 2 0 rfl rfl (itf (40 * j + ii + 2 * u + 1)) (by rw [nI_clamp (by omega)]) (vp_in_nI (by omega) (by omega)) dX6_which_178 ?_
                              refine v_iload C 12 dX6_which_179 rfl ?_
                              refine v_aload_n C 0 dX6_which_181 rfl ?_
                              refine v_iload C 8 dX6_which_182 rfl ?_
                              refine v_iload_n C 1 dX6_which_184 rfl ?_
                              refine v_iload C 11 dX6_which_185 rfl ?_
                              refine v_callV (qi := 0) C [.int (nI (kk + 1)), .int (nI t), .int (itf (40 * j + ii + 2 * u))] [.int ((wsum (kS tf) (sS tf) (wS tf) (itf (40 * j + ii + 2 * u)) tn) - (cnt (tf (5 + t)) (tf (13 + t)) (tf (21 + t)) (itf (40 * j + ii + 2 * u)))), .int (itf (40 * j + ii + 2 * u + 1))] kX6_countsBy gX6_which_X6_countsBy (c_countsBy l D cs (mo := mo) (ml := ml) (mz := mz) (mi := mi) (mt := mt) (mv := mv) (mp := mp) (md := md) (mc := mc) (mk := mk) (mq := mq) (mr := mr) (su := su) (it := it) (nby := nby) (lt := lt) (pl := pl) (tok := tok) (va := va) (be := be) (wr := wr) (am := am) (td := td) (tf := tf) (t := t) (kd := (nI (kk + 1))) (th := itf (40 * j + ii + 2 * u)) (by first | exact hK t ht | exact kok_nI (by omega) (by omega)) (by omega) (by first | assumption | omega)) ⟨Nat.le_of_ble_eq_true rfl, Nat.le_of_ble_eq_true rfl⟩ ⟨rfl, rfl⟩ ⟨Nat.zero_le _, Nat.zero_le _⟩ rfl 0 rfl rfl rfl rfl (Nat.le_of_ble_eq_true rfl) [0, 3] [(mo, .inr (6, [.ref ml, .ref mz, .ref mi, .int su, .int (b2 it), .ref mt, .ref mv, .ref mp, .int nby, .int lt, .int pl, .int tok, .int va, .int be, .int wr, .ref md, .ref mc, .int am, .ref mk, .ref mq, .ref mr, .int td])), (mz, .inl (cs 0, 8, .inl szf)), (mi, .inl (cs 0, 320, .inl itf)), (mt, .inl (cs 0, 29, .inl tf))] rfl (by decide) (show [mo, mt] = [mo, mt] from rfl) (rfl) dX6_which_187 ?_
                              refine V.sts (st' := [.int (cnt (nI (kk + 1)) (tf (13 + t)) (tf (21 + t)) (itf (40 * j + ii + 2 * u))), .int ((wsum (kS tf) (sS tf) (wS tf) (itf (40 * j + ii + 2 * u)) tn) - (cnt (tf (5 + t)) (tf (13 + t)) (tf (21 + t)) (itf (40 * j + ii + 2 * u)))), .int (itf (40 * j + ii + 2 * u + 1))]) rfl ?_
                              refine v_iadd C dX6_which_190 ?_
                              refine v_icmp_ne C 198 dX6_which_191 (by decide) (fun c10 => ?_) (fun c10 => ?_)
                              · skip
                                refine v_iconst C (v := 0) dX6_which_198 (by decide) ?_
                                refine v_istore C [(0, .ref mo), (1, .int (nI t)), (2, .int (nI j)), (3, .int (nI ii)), (4, .int (nI nn)), (5, .int 0), (6, .int (nI (40 * j + ii))), (7, .int (whK (fun kd => fitB (kS tf) (sS tf) (wS tf) tn (rfM itf j) (nI t) (nI kd) (nI ii) nn) kk)), (8, .int (nI (kk + 1))), (9, .int 0), (10, .int (nI u)), (11, .int (itf (40 * j + ii + 2 * u))), (12, .int ((wsum (kS tf) (sS tf) (wS tf) (itf (40 * j + ii + 2 * u)) tn) - (cnt (tf (5 + t)) (tf (13 + t)) (tf (21 + t)) (itf (40 * j + ii + 2 * u)))))] [1, 2, 3, 4, 5, 6, 7, 8, 9, 0, 10, 11, 12] dX6_which_199 (by decide) rfl ?_
                                refine v_iinc C (k := 10) (nI (u + 1)) [(0, .ref mo), (1, .int (nI t)), (2, .int (nI j)), (3, .int (nI ii)), (4, .int (nI nn)), (5, .int 0), (6, .int (nI (40 * j + ii))), (7, .int (whK (fun kd => fitB (kS tf) (sS tf) (wS tf) tn (rfM itf j) (nI t) (nI kd) (nI ii) nn) kk)), (8, .int (nI (kk + 1))), (9, .int 0), (10, .int (nI (u + 1))), (11, .int (itf (40 * j + ii + 2 * u))), (12, .int ((wsum (kS tf) (sS tf) (wS tf) (itf (40 * j + ii + 2 * u)) tn) - (cnt (tf (5 + t)) (tf (13 + t)) (tf (21 + t)) (itf (40 * j + ii + 2 * u)))))] [1, 2, 3, 4, 5, 6, 7, 8, 9, 10, 0, 11, 12] dX6_which_201 rfl (nI_inc _) (by decide) rfl ?_
                                refine v_goto C 115 dX6_which_204 (by decide) ?_
                                refine V.lvs (lv' := [(0, .ref mo), (1, .int (nI t)), (2, .int (nI j)), (3, .int (nI ii)), (4, .int (nI nn)), (5, .int 0), (6, .int (nI (40 * j + ii))), (7, .int (whK (fun kd => fitB (kS tf) (sS tf) (wS tf) tn (rfM itf j) (nI t) (nI kd) (nI ii) nn) kk)), (8, .int (nI (kk + 1))), (9, .int 0), (10, .int (nI (u + 1)))]) [0, 1, 2, 3, 4, 5, 6, 7, 8, 9, 10] rfl ?_
                                exact ih115 (u + 1) _ _ (by simp only [fitM hK8 (show ii + 2 * u + 1 < 40 by omega), c9, c10, decide_true, decide_false, Bool.and_true, Bool.and_false, Bool.false_and, Bool.true_and, b2, reduceIte, Bool.false_eq_true]) (rfl) (by first | assumption | omega) (by omega)
                              · skip
                                refine v_iconst C (v := 1) dX6_which_194 (by decide) ?_
                                refine v_goto C 199 dX6_which_195 (by decide) ?_
                                refine v_istore C [(0, .ref mo), (1, .int (nI t)), (2, .int (nI j)), (3, .int (nI ii)), (4, .int (nI nn)), (5, .int 0), (6, .int (nI (40 * j + ii))), (7, .int (whK (fun kd => fitB (kS tf) (sS tf) (wS tf) tn (rfM itf j) (nI t) (nI kd) (nI ii) nn) kk)), (8, .int (nI (kk + 1))), (9, .int 1), (10, .int (nI u)), (11, .int (itf (40 * j + ii + 2 * u))), (12, .int ((wsum (kS tf) (sS tf) (wS tf) (itf (40 * j + ii + 2 * u)) tn) - (cnt (tf (5 + t)) (tf (13 + t)) (tf (21 + t)) (itf (40 * j + ii + 2 * u)))))] [1, 2, 3, 4, 5, 6, 7, 8, 9, 0, 10, 11, 12] dX6_which_199 (by decide) rfl ?_
                                refine v_iinc C (k := 10) (nI (u + 1)) [(0, .ref mo), (1, .int (nI t)), (2, .int (nI j)), (3, .int (nI ii)), (4, .int (nI nn)), (5, .int 0), (6, .int (nI (40 * j + ii))), (7, .int (whK (fun kd => fitB (kS tf) (sS tf) (wS tf) tn (rfM itf j) (nI t) (nI kd) (nI ii) nn) kk)), (8, .int (nI (kk + 1))), (9, .int 1), (10, .int (nI (u + 1))), (11, .int (itf (40 * j + ii + 2 * u))), (12, .int ((wsum (kS tf) (sS tf) (wS tf) (itf (40 * j + ii + 2 * u)) tn) - (cnt (tf (5 + t)) (tf (13 + t)) (tf (21 + t)) (itf (40 * j + ii + 2 * u)))))] [1, 2, 3, 4, 5, 6, 7, 8, 9, 10, 0, 11, 12] dX6_which_201 rfl (nI_inc _) (by decide) rfl ?_
                                refine v_goto C 115 dX6_which_204 (by decide) ?_
                                refine V.lvs (lv' := [(0, .ref mo), (1, .int (nI t)), (2, .int (nI j)), (3, .int (nI ii)), (4, .int (nI nn)), (5, .int 0), (6, .int (nI (40 * j + ii))), (7, .int (whK (fun kd => fitB (kS tf) (sS tf) (wS tf) tn (rfM itf j) (nI t) (nI kd) (nI ii) nn) kk)), (8, .int (nI (kk + 1))), (9, .int 1), (10, .int (nI (u + 1)))]) [0, 1, 2, 3, 4, 5, 6, 7, 8, 9, 10] rfl ?_
                                exact ih115 (u + 1) _ _ (by simp only [fitM hK8 (show ii + 2 * u + 1 < 40 by omega), c9, c10, decide_true, decide_false, Bool.and_true, Bool.and_false, Bool.false_and, Bool.true_and, b2, reduceIte, Bool.false_eq_true]) (rfl) (by first | assumption | omega) (by omega)
                      exact L115 _ 0 _ _ (rfl) (rfl) (by first | assumption | omega) (Nat.lt_succ_self _)
                exact L103 _ 0 _ _ (rfl) (rfl) (by first | assumption | omega) (Nat.lt_succ_self _)
              · skip
                have hlt : k < nn := nle_nI c5 (by omega) (by omega)
                refine v_aload_n C 0 dX6_which_69 rfl ?_
                refine v_aload_n C 0 dX6_which_70 rfl ?_
                refine v_get C (v := .ref mi) fl_X6_which_16 0 rfl rfl dX6_which_71 ?_
                refine v_iload C 6 dX6_which_74 rfl ?_
                refine v_iconst C (v := 2) dX6_which_76 (by decide) ?_
                refine v_iload C 7 dX6_which_77 rfl ?_
                refine v_imul C dX6_which_79 ?_
                refine v_iadd C dX6_which_80 ?_
                refine V.topr (y := nI (40 * j + ii + 2 * k)) (ix2 _ _) ?_
                refine v_iald C 2 0 rfl rfl (itf (40 * j + ii + 2 * k)) (by rw [nI_clamp (by omega)]) (vp_in_nI (by omega) (by omega)) dX6_which_81 ?_
                refine v_callV (qi := 0) C [.int (itf (40 * j + ii + 2 * k))] [] kX6_isSet gX6_which_X6_isSet (c_misSet l D cs (mo := mo) (ml := ml) (mz := mz) (mi := mi) (mt := mt) (mv := mv) (mp := mp) (md := md) (mc := mc) (mk := mk) (mq := mq) (mr := mr) (su := su) (it := it) (nby := nby) (lt := lt) (pl := pl) (tok := tok) (va := va) (be := be) (wr := wr) (am := am) (td := td) (tf := tf) (x := itf (40 * j + ii + 2 * k)) ) ⟨Nat.le_of_ble_eq_true rfl, Nat.le_of_ble_eq_true rfl⟩ ⟨rfl, rfl⟩ ⟨Nat.zero_le _, Nat.zero_le _⟩ rfl 0 rfl rfl rfl rfl (Nat.le_of_ble_eq_true rfl) [0, 3] [(mo, .inr (6, [.ref ml, .ref mz, .ref mi, .int su, .int (b2 it), .ref mt, .ref mv, .ref mp, .int nby, .int lt, .int pl, .int tok, .int va, .int be, .int wr, .ref md, .ref mc, .int am, .ref mk, .ref mq, .ref mr, .int td])), (mz, .inl (cs 0, 8, .inl szf)), (mi, .inl (cs 0, 320, .inl itf)), (mt, .inl (cs 0, 29, .inl tf))] rfl (by decide) (show [mo, mt] = [mo, mt] from rfl) (rfl) dX6_which_82 ?_
                refine V.sts (st' := [.int (b2 (setB (tf 0) (itf (40 * j + ii + 2 * k))))]) rfl ?_
                refine v_if_neB C 91 dX6_which_85 (by decide) (fun c11 => ?_) (fun c11 => ?_)
                · skip
                  refine v_iinc C (k := 7) (nI (k + 1)) [(0, .ref mo), (1, .int (nI t)), (2, .int (nI j)), (3, .int (nI ii)), (4, .int (nI nn)), (5, .int 0), (6, .int (nI (40 * j + ii))), (7, .int (nI (k + 1)))] [1, 2, 3, 4, 5, 6, 7, 0] dX6_which_91 rfl (nI_inc _) (by decide) rfl ?_
                  refine v_goto C 62 dX6_which_94 (by decide) ?_
                  exact ih62 (k + 1) _ (rfl) (by first | assumption | omega) (by rw [whB, hf, Bool.true_and, ix2, rfM_gA (by omega), ← Nat.add_assoc, ← hpe]; exact c11) (by omega)
                · skip
                  have hwb : whB pn (rfM itf j) (nI ii) nn = false := Bool.eq_false_iff.mpr (fun hz => by have h9 := whB_le hlt hz; rw [whB, hf, Bool.true_and, ix2, rfM_gA (by omega), ← Nat.add_assoc, ← hpe, c11] at h9; cases h9)
                  refine v_ldc C (v := -1000001) (by decide +kernel) dX6_which_88 ?_
                  exact v_iret C E (by rw [hwb]; rfl) (by rw [hwb]; first | rfl | (rw [hkk]; rfl)) dX6_which_90
          exact L62 _ 0 _ (rfl) (by first | assumption | omega) (rfl) (Nat.lt_succ_self _)
        · exact absurd c4 (by decide)
      · exact absurd c3 (by rw [show inI (nI nn) 0 10 = true from inI_t (a := 0) (b := 10) (by omega) hnn (by decide)]; decide)
set_option maxHeartbeats 4000000 in
set_option maxRecDepth 100000 in
theorem c_mwhichLk (l : Launch) (D : va_G) (cs : Nat → ClassId) {mo : Nat} {ml : Nat} {mz : Nat} {mi : Nat} {mt : Nat} {mv : Nat} {mp : Nat} {md : Nat} {mc : Nat} {mk : Nat} {mq : Nat} {mr : Nat} {su : Int32} {it : Bool} {nby : Int32} {lt : Int32} {pl : Int32} {tok : Int32} {va : Int32} {be : Int32} {wr : Int32} {am : Int32} {td : Int32} {tf : Nat → Int32} {szf : Nat → Int32} {tn : Nat} {j : Nat} {t : Nat} {nn : Nat} {i : Int32} (hte : tf 1 = nI tn) (hti : tn ≤ 8) (hj : j < 8) (ht : t < tn) (hnn : nn ≤ 10) (hno : szf j < 0 ∨ inI i 0 (szf j - 2 * nI nn) = false) : CT l D (tz cs) yX6_which wsX6_which ({ frames := 3, cells := 0, slots := 0, locals := 72 }) [.ref mo, .int (nI t), .int (nI j), .int i, .int (nI nn)] [(mo, .inr (6, [.ref ml, .ref mz, .ref mi, .int su, .int (b2 it), .ref mt, .ref mv, .ref mp, .int nby, .int lt, .int pl, .int tok, .int va, .int be, .int wr, .ref md, .ref mc, .int am, .ref mk, .ref mq, .ref mr, .int td])), (mz, .inl (cs 0, 8, .inl szf)), (mt, .inl (cs 0, 29, .inl tf))] (some (.int (if szf j < 0 then -1000010 - 1 else -1000010 - 2))) [(mo, .inr (6, [.ref ml, .ref mz, .ref mi, .int (if szf j < 0 then 1 else 2), .int (b2 it), .ref mt, .ref mv, .ref mp, .int nby, .int lt, .int pl, .int tok, .int va, .int be, .int wr, .ref md, .ref mc, .int am, .ref mk, .ref mq, .ref mr, .int td])), (mz, .inl (cs 0, 8, .inl szf)), (mt, .inl (cs 0, 29, .inl tf))] := by
  refine CT.of kX6_which (Nat.le_of_ble_eq_true rfl) ?_
  intro p e s m below meth c A C E
  have C : VOk p s m _ c cX6_which 13 wsX6_which RX6 D (tz cs) A s.heap := C
  refine V.lvs (lv' := [(0, .ref mo), (1, .int (nI t)), (2, .int (nI j)), (3, .int i), (4, .int (nI nn))]) [0, 1, 2, 3, 4] rfl ?_
  refine v_aload_n C 0 dX6_which_0 rfl ?_
  refine v_iload_n C 1 dX6_which_1 rfl ?_
  refine v_callV (qi := 0) C [.int (nI t)] [] kX6_isTie gX6_which_X6_isTie (c_misTie l D cs (mo := mo) (ml := ml) (mz := mz) (mi := mi) (mt := mt) (mv := mv) (mp := mp) (md := md) (mc := mc) (mk := mk) (mq := mq) (mr := mr) (su := su) (it := it) (nby := nby) (lt := lt) (pl := pl) (tok := tok) (va := va) (be := be) (wr := wr) (am := am) (td := td) (tf := tf) (tn := tn) (x := (nI t)) (by first | assumption | omega) (by first | assumption | omega)) ⟨Nat.le_of_ble_eq_true rfl, Nat.le_of_ble_eq_true rfl⟩ ⟨rfl, rfl⟩ ⟨Nat.zero_le _, Nat.zero_le _⟩ rfl 0 rfl rfl rfl rfl (Nat.le_of_ble_eq_true rfl) [0, 2] [(mo, .inr (6, [.ref ml, .ref mz, .ref mi, .int su, .int (b2 it), .ref mt, .ref mv, .ref mp, .int nby, .int lt, .int pl, .int tok, .int va, .int be, .int wr, .ref md, .ref mc, .int am, .ref mk, .ref mq, .ref mr, .int td])), (mz, .inl (cs 0, 8, .inl szf)), (mt, .inl (cs 0, 29, .inl tf))] rfl (by decide) (show [mo, mt] = [mo, mt] from rfl) (rfl) dX6_which_2 ?_
  refine V.sts (st' := [.int (b2 (inB (nI tn) (nI t)))]) rfl ?_
  refine v_if_eqB C 28 dX6_which_5 (by decide) (fun c1 => ?_) (fun c1 => ?_)
  · exact absurd ((inB_in (by omega) ht).symm.trans c1) (by decide)
  · skip
    refine v_iload_n C 2 dX6_which_8 rfl ?_
    refine v_callS C [.int (nI j)] [] kX6_isRow gX6_which_X6_isRow (c_isRow l D cs (x := (nI j)) ) ⟨Nat.le_of_ble_eq_true rfl, Nat.le_of_ble_eq_true rfl⟩ ⟨rfl, rfl⟩ ⟨Nat.zero_le _, Nat.zero_le _⟩ rfl rfl (Nat.le_of_ble_eq_true rfl) [] [(mo, .inr (6, [.ref ml, .ref mz, .ref mi, .int su, .int (b2 it), .ref mt, .ref mv, .ref mp, .int nby, .int lt, .int pl, .int tok, .int va, .int be, .int wr, .ref md, .ref mc, .int am, .ref mk, .ref mq, .ref mr, .int td])), (mz, .inl (cs 0, 8, .inl szf)), (mt, .inl (cs 0, 29, .inl tf))] rfl (by decide) rfl (rfl) dX6_which_9 ?_
    refine V.sts (st' := [.int (b2 (inB 8 (nI j)))]) rfl ?_
    refine v_if_eqB C 28 dX6_which_12 (by decide) (fun c2 => ?_) (fun c2 => ?_)
    · exact absurd ((inB_in (n := 8) (by decide) hj).symm.trans c2) (by decide)
    · skip
      refine v_iload C 4 dX6_which_15 rfl ?_
      refine v_i2l C dX6_which_17 ?_
      refine v_lconst C (v := 0) dX6_which_18 (by decide) ?_
      refine v_ldc2 C (v := 10) (by decide +kernel) dX6_which_19 ?_
      refine v_callS C [.long (Int32.toInt64 (nI nn)), .long 0, .long 10] [] kX6_in gX6_which_X6_in (c_inI l D cs (x := (nI nn)) (a := 0) (b := 10) (lo := 0) (hi := 10) (by decide) (by decide)) ⟨Nat.le_of_ble_eq_true rfl, Nat.le_of_ble_eq_true rfl⟩ ⟨rfl, rfl⟩ ⟨Nat.zero_le _, Nat.zero_le _⟩ rfl rfl (Nat.le_of_ble_eq_true rfl) [] [(mo, .inr (6, [.ref ml, .ref mz, .ref mi, .int su, .int (b2 it), .ref mt, .ref mv, .ref mp, .int nby, .int lt, .int pl, .int tok, .int va, .int be, .int wr, .ref md, .ref mc, .int am, .ref mk, .ref mq, .ref mr, .int td])), (mz, .inl (cs 0, 8, .inl szf)), (mt, .inl (cs 0, 29, .inl tf))] rfl (by decide) rfl (rfl) dX6_which_22 ?_
      refine V.sts (st' := [.int (b2 (inI (nI nn) 0 10))]) rfl ?_
      refine v_if_neB C 31 dX6_which_25 (by decide) (fun c3 => ?_) (fun c3 => ?_)
      · skip
        refine v_aload_n C 0 dX6_which_31 rfl ?_
        refine v_iload_n C 2 dX6_which_32 rfl ?_
        refine v_iload_n C 3 dX6_which_33 rfl ?_
        refine v_iconst C (v := 2) dX6_which_34 (by decide) ?_
        refine v_iload C 4 dX6_which_35 rfl ?_
        refine v_imul C dX6_which_37 ?_
        refine v_callV (qi := 0) C [.int (nI j), .int i, .int (2 * (nI nn))] [] kX6_lacks gX6_which_X6_lacks (c_lacks l D cs (mo := mo) (ml := ml) (mz := mz) (mi := mi) (mt := mt) (mv := mv) (mp := mp) (md := md) (mc := mc) (mk := mk) (mq := mq) (mr := mr) (su := su) (it := it) (nby := nby) (lt := lt) (pl := pl) (tok := tok) (va := va) (be := be) (wr := wr) (am := am) (td := td) (szf := szf) (j := j) (x := i) (y := (2 * (nI nn))) (by first | assumption | omega)) ⟨Nat.le_of_ble_eq_true rfl, Nat.le_of_ble_eq_true rfl⟩ ⟨rfl, rfl⟩ ⟨Nat.zero_le _, Nat.zero_le _⟩ rfl 0 rfl rfl rfl rfl (Nat.le_of_ble_eq_true rfl) [0, 1] [(mo, .inr (6, [.ref ml, .ref mz, .ref mi, .int (if szf j < 0 then 1 else if inI i 0 (szf j - (2 * (nI nn))) = true then su else 2), .int (b2 it), .ref mt, .ref mv, .ref mp, .int nby, .int lt, .int pl, .int tok, .int va, .int be, .int wr, .ref md, .ref mc, .int am, .ref mk, .ref mq, .ref mr, .int td])), (mz, .inl (cs 0, 8, .inl szf)), (mt, .inl (cs 0, 29, .inl tf))] rfl (by decide) (show [mo, mz] = [mo, mz] from rfl) (rfl) dX6_which_38 ?_
        refine V.sts (st' := [.int (if szf j < 0 then -1000010 - 1 else if inI i 0 (szf j - (2 * (nI nn))) = true then 0 else -1000010 - 2)]) rfl ?_
        refine v_istore C [(0, .ref mo), (1, .int (nI t)), (2, .int (nI j)), (3, .int i), (4, .int (nI nn)), (5, .int (if szf j < 0 then -1000010 - 1 else if inI i 0 (szf j - (2 * (nI nn))) = true then 0 else -1000010 - 2))] [1, 2, 3, 4, 5, 0] dX6_which_41 (by decide) rfl ?_
        refine v_iload C 5 dX6_which_43 rfl ?_
        refine v_if_ge C 51 dX6_which_45 (by decide) (fun c4 => ?_) (fun c4 => ?_)
        · exact absurd c4 (by rcases hno with z | z; rw [if_pos z]; decide; by_cases z2 : szf j < 0; rw [if_pos z2]; decide; rw [if_neg z2, z]; decide)
        · skip
          refine v_iload C 5 dX6_which_48 rfl ?_
          exact v_iret C E (by by_cases z2 : szf j < 0; simp only [if_pos z2]; have z3 := hno.resolve_left z2; simp only [if_neg z2, z3, Bool.false_eq_true, ↓reduceIte]) (by by_cases z2 : szf j < 0; simp only [if_pos z2]; have z3 := hno.resolve_left z2; simp only [if_neg z2, z3, Bool.false_eq_true, ↓reduceIte]) dX6_which_50
      · exact absurd c3 (by rw [show inI (nI nn) 0 10 = true from inI_t (a := 0) (b := 10) (by omega) hnn (by decide)]; decide)
set_option maxHeartbeats 4000000 in
set_option maxRecDepth 100000 in
theorem c_mwhichBad (l : Launch) (D : va_G) (cs : Nat → ClassId) {mo : Nat} {ml : Nat} {mz : Nat} {mi : Nat} {mt : Nat} {mv : Nat} {mp : Nat} {md : Nat} {mc : Nat} {mk : Nat} {mq : Nat} {mr : Nat} {su : Int32} {it : Bool} {nby : Int32} {lt : Int32} {pl : Int32} {tok : Int32} {va : Int32} {be : Int32} {wr : Int32} {am : Int32} {td : Int32} {tf : Nat → Int32} {tn : Nat} {x : Int32} {x0 : Int32} {i : Int32} {y : Int32} (hte : tf 1 = nI tn) (hti : tn ≤ 8) (hb : inB (nI tn) x = false ∨ inB 8 x0 = false ∨ inI y 0 10 = false) : CT l D (tz cs) yX6_which wsX6_which ({ frames := 3, cells := 0, slots := 0, locals := 72 }) [.ref mo, .int x, .int x0, .int i, .int y] [(mo, .inr (6, [.ref ml, .ref mz, .ref mi, .int su, .int (b2 it), .ref mt, .ref mv, .ref mp, .int nby, .int lt, .int pl, .int tok, .int va, .int be, .int wr, .ref md, .ref mc, .int am, .ref mk, .ref mq, .ref mr, .int td])), (mt, .inl (cs 0, 29, .inl tf))] (some (.int (-1000001))) [(mo, .inr (6, [.ref ml, .ref mz, .ref mi, .int su, .int (b2 it), .ref mt, .ref mv, .ref mp, .int nby, .int lt, .int pl, .int tok, .int va, .int be, .int wr, .ref md, .ref mc, .int am, .ref mk, .ref mq, .ref mr, .int td])), (mt, .inl (cs 0, 29, .inl tf))] := by
  refine CT.of kX6_which (Nat.le_of_ble_eq_true rfl) ?_
  intro p e s m below meth c A C E
  have C : VOk p s m _ c cX6_which 13 wsX6_which RX6 D (tz cs) A s.heap := C
  refine V.lvs (lv' := [(0, .ref mo), (1, .int x), (2, .int x0), (3, .int i), (4, .int y)]) [0, 1, 2, 3, 4] rfl ?_
  refine v_aload_n C 0 dX6_which_0 rfl ?_
  refine v_iload_n C 1 dX6_which_1 rfl ?_
  refine v_callV (qi := 0) C [.int x] [] kX6_isTie gX6_which_X6_isTie (c_misTie l D cs (mo := mo) (ml := ml) (mz := mz) (mi := mi) (mt := mt) (mv := mv) (mp := mp) (md := md) (mc := mc) (mk := mk) (mq := mq) (mr := mr) (su := su) (it := it) (nby := nby) (lt := lt) (pl := pl) (tok := tok) (va := va) (be := be) (wr := wr) (am := am) (td := td) (tf := tf) (tn := tn) (x := x) (by first | assumption | omega) (by first | assumption | omega)) ⟨Nat.le_of_ble_eq_true rfl, Nat.le_of_ble_eq_true rfl⟩ ⟨rfl, rfl⟩ ⟨Nat.zero_le _, Nat.zero_le _⟩ rfl 0 rfl rfl rfl rfl (Nat.le_of_ble_eq_true rfl) [0, 1] [(mo, .inr (6, [.ref ml, .ref mz, .ref mi, .int su, .int (b2 it), .ref mt, .ref mv, .ref mp, .int nby, .int lt, .int pl, .int tok, .int va, .int be, .int wr, .ref md, .ref mc, .int am, .ref mk, .ref mq, .ref mr, .int td])), (mt, .inl (cs 0, 29, .inl tf))] rfl (by decide) (show [mo, mt] = [mo, mt] from rfl) (rfl) dX6_which_2 ?_
  refine V.sts (st' := [.int (b2 (inB (nI tn) x))]) rfl ?_
  refine v_if_eqB C 28 dX6_which_5 (by decide) (fun c1 => ?_) (fun c1 => ?_)
  · skip
    refine v_ldc C (v := -1000001) (by decide +kernel) dX6_which_28 ?_
    exact v_iret C E (rfl) (by first | rfl | (simp [hte, hti, hb, c1, ↓reduceIte]; done) | (simp_all [b2]; done)) dX6_which_30
  · skip
    refine v_iload_n C 2 dX6_which_8 rfl ?_
    refine v_callS C [.int x0] [] kX6_isRow gX6_which_X6_isRow (c_isRow l D cs (x := x0) ) ⟨Nat.le_of_ble_eq_true rfl, Nat.le_of_ble_eq_true rfl⟩ ⟨rfl, rfl⟩ ⟨Nat.zero_le _, Nat.zero_le _⟩ rfl rfl (Nat.le_of_ble_eq_true rfl) [] [(mo, .inr (6, [.ref ml, .ref mz, .ref mi, .int su, .int (b2 it), .ref mt, .ref mv, .ref mp, .int nby, .int lt, .int pl, .int tok, .int va, .int be, .int wr, .ref md, .ref mc, .int am, .ref mk, .ref mq, .ref mr, .int td])), (mt, .inl (cs 0, 29, .inl tf))] rfl (by decide) rfl (rfl) dX6_which_9 ?_
    refine V.sts (st' := [.int (b2 (inB 8 x0))]) rfl ?_
    refine v_if_eqB C 28 dX6_which_12 (by decide) (fun c2 => ?_) (fun c2 => ?_)
    · skip
      refine v_ldc C (v := -1000001) (by decide +kernel) dX6_which_28 ?_
      exact v_iret C E (rfl) (by first | rfl | (simp [hte, hti, hb, c1, c2, ↓reduceIte]; done) | (simp_all [b2]; done)) dX6_which_30
    · skip
      refine v_iload C 4 dX6_which_15 rfl ?_
      refine v_i2l C dX6_which_17 ?_
      refine v_lconst C (v := 0) dX6_which_18 (by decide) ?_
      refine v_ldc2 C (v := 10) (by decide +kernel) dX6_which_19 ?_
      refine v_callS C [.long (Int32.toInt64 y), .long 0, .long 10] [] kX6_in gX6_which_X6_in (c_inI l D cs (x := y) (a := 0) (b := 10) (lo := 0) (hi := 10) (by decide) (by decide)) ⟨Nat.le_of_ble_eq_true rfl, Nat.le_of_ble_eq_true rfl⟩ ⟨rfl, rfl⟩ ⟨Nat.zero_le _, Nat.zero_le _⟩ rfl rfl (Nat.le_of_ble_eq_true rfl) [] [(mo, .inr (6, [.ref ml, .ref mz, .ref mi, .int su, .int (b2 it), .ref mt, .ref mv, .ref mp, .int nby, .int lt, .int pl, .int tok, .int va, .int be, .int wr, .ref md, .ref mc, .int am, .ref mk, .ref mq, .ref mr, .int td])), (mt, .inl (cs 0, 29, .inl tf))] rfl (by decide) rfl (rfl) dX6_which_22 ?_
      refine V.sts (st' := [.int (b2 (inI y 0 10))]) rfl ?_
      refine v_if_neB C 31 dX6_which_25 (by decide) (fun c3 => ?_) (fun c3 => ?_)
      · exact hb.elim (fun q => absurd (q.symm.trans c1) (by decide)) (fun q => q.elim (fun q => absurd (q.symm.trans c2) (by decide)) (fun q => absurd (q.symm.trans c3) (by decide)))
      · skip
        refine v_ldc C (v := -1000001) (by decide +kernel) dX6_which_28 ?_
        exact v_iret C E (rfl) (by first | rfl | (simp [hte, hti, hb, c1, c2, c3, ↓reduceIte]; done) | (simp_all [b2]; done)) dX6_which_30
