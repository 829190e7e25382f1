theorem kX6_nextToken : KD yX6_nextToken wsX6_nextToken cX6_nextToken 1 none 0 := ⟨⟨_, rfl⟩, by decide, by decide +kernel, by decide +kernel, by decide +kernel⟩
theorem in_X6_nextToken_X6 : ∀ w ∈ wsX60, w ∈ wsX6_nextToken := by decide +kernel
theorem fl_X6_nextToken_79 : FL RX6 wsX6_nextToken RX6 RX6 TX6 22 6 10 79 := ⟨⟨in_X6_nextToken_X6, rfl, by decide, rfl⟩, by decide +kernel⟩
theorem fl_X6_nextToken_82 : FL RX6 wsX6_nextToken RX6 RX6 TX6 22 6 13 82 := ⟨⟨in_X6_nextToken_X6, rfl, by decide, rfl⟩, by decide +kernel⟩
theorem fp_X6_13 : FP TX6 22 13 tyX6 .int := ⟨tyX6_ok, nmX6, rfl, by decide +kernel⟩
theorem fl_X6_nextToken_75 : FL RX6 wsX6_nextToken RX6 RX6 TX6 22 6 8 75 := ⟨⟨in_X6_nextToken_X6, rfl, by decide, rfl⟩, by decide +kernel⟩
theorem fl_X6_nextToken_85 : FL RX6 wsX6_nextToken RX6 RX6 TX6 22 6 11 85 := ⟨⟨in_X6_nextToken_X6, rfl, by decide, rfl⟩, by decide +kernel⟩
theorem fp_X6_11 : FP TX6 22 11 tyX6 .int := ⟨tyX6_ok, nmX6, rfl, by decide +kernel⟩
theorem fl_X6_nextToken_88 : FL RX6 wsX6_nextToken RX6 RX6 TX6 22 6 12 88 := ⟨⟨in_X6_nextToken_X6, rfl, by decide, rfl⟩, by decide +kernel⟩
theorem fp_X6_12 : FP TX6 22 12 tyX6 .int := ⟨tyX6_ok, nmX6, rfl, by decide +kernel⟩
theorem fl_X6_nextToken_25 : FL RX6 wsX6_nextToken RX6 RX6 TX6 22 6 7 25 := ⟨⟨in_X6_nextToken_X6, rfl, by decide, rfl⟩, by decide +kernel⟩
theorem fp_X6_10 : FP TX6 22 10 tyX6 .int := ⟨tyX6_ok, nmX6, rfl, by decide +kernel⟩
set_option maxHeartbeats 4000000 in
set_option maxRecDepth 100000 in
theorem c_nextToken (l : Launch) (D : va_G) (cs : Nat → ClassId) {mo : Nat} {ml : Nat} {mz : Nat} {mi : Nat} {mt : Nat} {mv : Nat} {mp : Nat} {md : Nat} {mc : Nat} {mk : Nat} {mq : Nat} {mr : Nat} {su : Int32} {it : Bool} {lt : Int32} {tok : Int32} {va : Int32} {be : Int32} {wr : Int32} {am : Int32} {td : Int32} {f : Nat → Int32} {len : Nat} {q : Nat} (hlen : len ≤ 120) (hq : q ≤ len) : CT l D (tz cs) yX6_nextToken wsX6_nextToken ({ frames := 1, cells := 0, slots := 0, locals := 25 }) [.ref mo] [(mo, .inr (6, [.ref ml, .ref mz, .ref mi, .int su, .int (b2 it), .ref mt, .ref mv, .ref mp, .int (nI len), .int lt, .int (nI q), .int tok, .int va, .int be, .int wr, .ref md, .ref mc, .int am, .ref mk, .ref mq, .ref mr, .int td])), (mp, .inl (cs 0, 120, .inl f))] none [(mo, .inr (6, [.ref ml, .ref mz, .ref mi, .int su, .int (b2 it), .ref mt, .ref mv, .ref mp, .int (nI len), .int lt, .int (nI (tkN f len q)), .int (mtk f len q), .int (mva f len q), .int (nI q), .int wr, .ref md, .ref mc, .int am, .ref mk, .ref mq, .ref mr, .int td])), (mp, .inl (cs 0, 120, .inl f))] := by
  refine CT.of kX6_nextToken (Nat.le_of_ble_eq_true rfl) ?_
  intro p e s m below meth c A C E
  have C : VOk p s m _ c cX6_nextToken 1 wsX6_nextToken RX6 D (tz cs) A s.heap := C
  refine V.lvs (lv' := [(0, .ref mo)]) [0] rfl ?_
  refine v_aload_n C 0 dX6_nextToken_0 rfl ?_
  refine v_aload_n C 0 dX6_nextToken_1 rfl ?_
  refine v_get C (v := .int (nI q)) fl_X6_nextToken_79 0 rfl rfl dX6_nextToken_2 ?_
  refine v_put C fl_X6_nextToken_82 fp_X6_13 0 rfl rfl rfl (Nat.le_of_ble_eq_true rfl) [(mo, .inr (6, [.ref ml, .ref mz, .ref mi, .int su, .int (b2 it), .ref mt, .ref mv, .ref mp, .int (nI len), .int lt, .int (nI q), .int tok, .int va, .int (nI q), .int wr, .ref md, .ref mc, .int am, .ref mk, .ref mq, .ref mr, .int td])), (mp, .inl (cs 0, 120, .inl f))] rfl dX6_nextToken_5 ?_
  refine v_aload_n C 0 dX6_nextToken_8 rfl ?_
  refine v_aload_n C 0 dX6_nextToken_9 rfl ?_
  refine v_get C (v := .int (nI q)) fl_X6_nextToken_79 0 rfl rfl dX6_nextToken_10 ?_
  refine v_aload_n C 0 dX6_nextToken_13 rfl ?_
  refine v_get C (v := .int (nI len)) fl_X6_nextToken_75 0 rfl rfl dX6_nextToken_14 ?_
  refine v_icmp_ne C 24 dX6_nextToken_17 (by decide) (fun c1 => ?_) (fun c1 => ?_)
  · skip
    refine v_iconst C (v := 0) dX6_nextToken_24 (by decide) ?_
    refine v_put C fl_X6_nextToken_85 fp_X6_11 0 rfl rfl rfl (Nat.le_of_ble_eq_true rfl) [(mo, .inr (6, [.ref ml, .ref mz, .ref mi, .int su, .int (b2 it), .ref mt, .ref mv, .ref mp, .int (nI len), .int lt, .int (nI q), .int 0, .int va, .int (nI q), .int wr, .ref md, .ref mc, .int am, .ref mk, .ref mq, .ref mr, .int td])), (mp, .inl (cs 0, 120, .inl f))] rfl dX6_nextToken_25 ?_
    skip
    refine v_aload_n C 0 dX6_nextToken_28 rfl ?_
    refine v_iconst C (v := 0) dX6_nextToken_29 (by decide) ?_
    refine v_put C fl_X6_nextToken_88 fp_X6_12 0 rfl rfl rfl (Nat.le_of_ble_eq_true rfl) [(mo, .inr (6, [.ref ml, .ref mz, .ref mi, .int su, .int (b2 it), .ref mt, .ref mv, .ref mp, .int (nI len), .int lt, .int (nI q), .int 0, .int 0, .int (nI q), .int wr, .ref md, .ref mc, .int am, .ref mk, .ref mq, .ref mr, .int td])), (mp, .inl (cs 0, 120, .inl f))] rfl dX6_nextToken_30 ?_
    have L33 : ∀ (n : Nat) (k : Nat) (y0 : Int32) (y1 : Int32), y0 = (nI (q + k)) → y1 = (mdv f q k) → (k ≤ len - q ∧ dg f (len - q) q = k + dg f (len - q - k) (q + k)) → (len - q - k) < n → V p l e ({ frames := 1, cells := 0, slots := 0, locals := 25 }) s m (List.toArray [.ref mo]) below meth c 0 0 (MQ below (vq_Q none D [(mo, .inr (6, [.ref ml, .ref mz, .ref mi, .int su, .int (b2 it), .ref mt, .ref mv, .ref mp, .int (nI len), .int lt, .int (nI (tkN f len q)), .int (mtk f len q), .int (mva f len q), .int (nI q), .int wr, .ref md, .ref mc, .int am, .ref mk, .ref mq, .ref mr, .int td])), (mp, .inl (cs 0, 120, .inl f))] [(mo, .inr (6, [.ref ml, .ref mz, .ref mi, .int su, .int (b2 it), .ref mt, .ref mv, .ref mp, .int (nI len), .int lt, .int (nI q), .int tok, .int va, .int be, .int wr, .ref md, .ref mc, .int am, .ref mk, .ref mq, .ref mr, .int td])), (mp, .inl (cs 0, 120, .inl f))] s.heap.size) (List.toArray [.ref mo]) s 0 0 (va_A [(mo, .inr (6, [.ref ml, .ref mz, .ref mi, .int su, .int (b2 it), .ref mt, .ref mv, .ref mp, .int (nI len), .int lt, .int (nI q), .int tok, .int va, .int be, .int wr, .ref md, .ref mc, .int am, .ref mk, .ref mq, .ref mr, .int td])), (mp, .inl (cs 0, 120, .inl f))] s.heap.size)) 1 D A s.heap 33 [(0, .ref mo)] [] [(mo, .inr (6, [.ref ml, .ref mz, .ref mi, .int su, .int (b2 it), .ref mt, .ref mv, .ref mp, .int (nI len), .int lt, .int y0, .int 0, .int y1, .int (nI q), .int wr, .ref md, .ref mc, .int am, .ref mk, .ref mq, .ref mr, .int td])), (mp, .inl (cs 0, 120, .inl f))] := by
      intro n
      induction n with
      | zero =>
        intros; omega
      | succ n ih33 =>
        intro k y0 y1 ey0 ey1 hk hn
        subst ey0
        subst ey1
        refine v_aload_n C 0 dX6_nextToken_33 rfl ?_
        refine v_get C (v := .int (nI (q + k))) fl_X6_nextToken_79 0 rfl rfl dX6_nextToken_34 ?_
        refine v_aload_n C 0 dX6_nextToken_37 rfl ?_
        refine v_get C (v := .int (nI len)) fl_X6_nextToken_75 0 rfl rfl dX6_nextToken_38 ?_
        refine v_icmp_ge C 119 dX6_nextToken_41 (by decide) (fun c2 => ?_) (fun c2 => ?_)
        · skip
          have hd : dg f (len - q) q = k := by first | (have h9 := le_nI c2 (by omega) (by omega); rw [hk.2, show len - q - k = 0 by omega]; rfl) | (rw [hk.2, show len - q - k = (len - q - k - 1) + 1 by omega, dg, if_neg (by rw [show fig (f (q + k)) = false from c2]; decide)]; rfl)
          refine v_aload_n C 0 dX6_nextToken_119 rfl ?_
          refine v_get C (v := .int (nI (q + k))) fl_X6_nextToken_79 0 rfl rfl dX6_nextToken_120 ?_
          refine v_aload_n C 0 dX6_nextToken_123 rfl ?_
          refine v_get C (v := .int (nI q)) fl_X6_nextToken_82 0 rfl rfl dX6_nextToken_124 ?_
          refine v_icmp_le C 155 dX6_nextToken_127 (by decide) (fun c3 => ?_) (fun c3 => ?_)
          · skip
            have hk1 : q + k ≤ q := le_nI c3 (by omega) (by omega)
            have hsub : k = 0 := by omega
            subst hsub
            refine v_aload_n C 0 dX6_nextToken_155 rfl ?_
            refine v_get C (v := .int 0) fl_X6_nextToken_85 0 rfl rfl dX6_nextToken_156 ?_
            refine v_if_ne C 229 dX6_nextToken_159 (by decide) (fun c4 => ?_) (fun c4 => ?_)
            · exact absurd c4 (by decide)
            · skip
              have hql : q < len := by rcases Nat.lt_or_ge q len with h9 | h9; exact h9; exact absurd (by rw [show q = len by omega]) c1
              have hfig0 : fig (f q) = false := by rcases Bool.eq_false_or_eq_true (fig (f q)) with h9 | h9; have h8 := dg_pos hql h9; omega; exact h9
              refine v_aload_n C 0 dX6_nextToken_162 rfl ?_
              refine v_aload_n C 0 dX6_nextToken_163 rfl ?_
              refine v_get C (v := .ref mp) fl_X6_nextToken_25 0 rfl rfl dX6_nextToken_164 ?_
              refine v_aload_n C 0 dX6_nextToken_167 rfl ?_
              refine v_get C (v := .int (nI (q + 0))) fl_X6_nextToken_79 0 rfl rfl dX6_nextToken_168 ?_
              refine v_iald C 1 0 rfl rfl (f (q + 0)) (by rw [nI_clamp (by omega)]) (vp_in_nI (by omega) (by decide)) dX6_nextToken_171 ?_
              refine v_put C fl_X6_nextToken_88 fp_X6_12 0 rfl rfl rfl (Nat.le_of_ble_eq_true rfl) [(mo, .inr (6, [.ref ml, .ref mz, .ref mi, .int su, .int (b2 it), .ref mt, .ref mv, .ref mp, .int (nI len), .int lt, .int (nI (q + 0)), .int 0, .int (f (q + 0)), .int (nI q), .int wr, .ref md, .ref mc, .int am, .ref mk, .ref mq, .ref mr, .int td])), (mp, .inl (cs 0, 120, .inl f))] rfl dX6_nextToken_172 ?_
              refine v_aload_n C 0 dX6_nextToken_175 rfl ?_
              refine v_aload_n C 0 dX6_nextToken_176 rfl ?_
              refine v_get C (v := .int (f (q + 0))) fl_X6_nextToken_88 0 rfl rfl dX6_nextToken_177 ?_
              refine v_i2l C dX6_nextToken_180 ?_
              refine v_ldc2 C (v := 97) (by decide +kernel) dX6_nextToken_181 ?_
              refine v_ldc2 C (v := 122) (by decide +kernel) dX6_nextToken_184 ?_
              refine v_callS C [.long (Int32.toInt64 (f (q + 0))), .long 97, .long 122] [.ref mo] kX6_in gX6_nextToken_X6_in (c_inI l D cs (x := (f (q + 0))) (a := 97) (b := 122) (lo := 97) (hi := 122) (by decide) (by decide)) ⟨Nat.le_of_ble_eq_true rfl, Nat.le_of_ble_eq_true rfl⟩ ⟨rfl, rfl⟩ ⟨Nat.zero_le _, Nat.zero_le _⟩ rfl rfl (Nat.le_of_ble_eq_true rfl) [] [(mo, .inr (6, [.ref ml, .ref mz, .ref mi, .int su, .int (b2 it), .ref mt, .ref mv, .ref mp, .int (nI len), .int lt, .int (nI (q + 0)), .int 0, .int (f (q + 0)), .int (nI q), .int wr, .ref md, .ref mc, .int am, .ref mk, .ref mq, .ref mr, .int td])), (mp, .inl (cs 0, 120, .inl f))] rfl (by decide) rfl (rfl) dX6_nextToken_187 ?_
              refine V.sts (st' := [.int (b2 (inI (f (q + 0)) 97 122)), .ref mo]) rfl ?_
              refine v_if_neB C 211 dX6_nextToken_190 (by decide) (fun c5 => ?_) (fun c5 => ?_)
              · skip
                have hso : ¬ soI (f q) = 4 := by first | exact so_let _ c5 | (rw [show f q = 44 from c5]; exact so_com) | (rw [show f q = 59 from c5]; exact so_sem)
                refine v_iconst C (v := 1) dX6_nextToken_211 (by decide) ?_
                refine v_goto C 216 dX6_nextToken_212 (by decide) ?_
                refine v_put C fl_X6_nextToken_85 fp_X6_11 0 rfl rfl rfl (Nat.le_of_ble_eq_true rfl) [(mo, .inr (6, [.ref ml, .ref mz, .ref mi, .int su, .int (b2 it), .ref mt, .ref mv, .ref mp, .int (nI len), .int lt, .int (nI (q + 0)), .int 1, .int (f (q + 0)), .int (nI q), .int wr, .ref md, .ref mc, .int am, .ref mk, .ref mq, .ref mr, .int td])), (mp, .inl (cs 0, 120, .inl f))] rfl dX6_nextToken_216 ?_
                refine v_aload_n C 0 dX6_nextToken_219 rfl ?_
                refine v_dup C dX6_nextToken_220 rfl ?_
                refine v_get C (v := .int (nI (q + 0))) fl_X6_nextToken_79 0 rfl rfl dX6_nextToken_221 ?_
                refine v_iconst C (v := 1) dX6_nextToken_224 (by decide) ?_
                refine v_iadd C dX6_nextToken_225 ?_
                refine v_put C fl_X6_nextToken_79 fp_X6_10 0 rfl rfl rfl (Nat.le_of_ble_eq_true rfl) [(mo, .inr (6, [.ref ml, .ref mz, .ref mi, .int su, .int (b2 it), .ref mt, .ref mv, .ref mp, .int (nI len), .int lt, .int ((nI (q + 0)) + 1), .int 1, .int (f (q + 0)), .int (nI q), .int wr, .ref md, .ref mc, .int am, .ref mk, .ref mq, .ref mr, .int td])), (mp, .inl (cs 0, 120, .inl f))] rfl dX6_nextToken_226 ?_
                exact v_vret C E (by simp only [mtk, mva, tkN, if_neg (Nat.not_le.mpr hql), hfig0, Bool.false_eq_true, ↓reduceIte, if_neg hso, Nat.add_zero, nI_1]) dX6_nextToken_229
              · skip
                refine v_aload_n C 0 dX6_nextToken_193 rfl ?_
                refine v_get C (v := .int (f (q + 0))) fl_X6_nextToken_88 0 rfl rfl dX6_nextToken_194 ?_
                refine v_bipush C (v := 44) dX6_nextToken_197 (by decide) ?_
                refine v_icmp_eq C 211 dX6_nextToken_199 (by decide) (fun c6 => ?_) (fun c6 => ?_)
                · skip
                  have hso : ¬ soI (f q) = 4 := by first | exact so_let _ c6 | (rw [show f q = 44 from c6]; exact so_com) | (rw [show f q = 59 from c6]; exact so_sem)
                  refine v_iconst C (v := 1) dX6_nextToken_211 (by decide) ?_
                  refine v_goto C 216 dX6_nextToken_212 (by decide) ?_
                  refine v_put C fl_X6_nextToken_85 fp_X6_11 0 rfl rfl rfl (Nat.le_of_ble_eq_true rfl) [(mo, .inr (6, [.ref ml, .ref mz, .ref mi, .int su, .int (b2 it), .ref mt, .ref mv, .ref mp, .int (nI len), .int lt, .int (nI (q + 0)), .int 1, .int (f (q + 0)), .int (nI q), .int wr, .ref md, .ref mc, .int am, .ref mk, .ref mq, .ref mr, .int td])), (mp, .inl (cs 0, 120, .inl f))] rfl dX6_nextToken_216 ?_
                  refine v_aload_n C 0 dX6_nextToken_219 rfl ?_
                  refine v_dup C dX6_nextToken_220 rfl ?_
                  refine v_get C (v := .int (nI (q + 0))) fl_X6_nextToken_79 0 rfl rfl dX6_nextToken_221 ?_
                  refine v_iconst C (v := 1) dX6_nextToken_224 (by decide) ?_
                  refine v_iadd C dX6_nextToken_225 ?_
                  refine v_put C fl_X6_nextToken_79 fp_X6_10 0 rfl rfl rfl (Nat.le_of_ble_eq_true rfl) [(mo, .inr (6, [.ref ml, .ref mz, .ref mi, .int su, .int (b2 it), .ref mt, .ref mv, .ref mp, .int (nI len), .int lt, .int ((nI (q + 0)) + 1), .int 1, .int (f (q + 0)), .int (nI q), .int wr, .ref md, .ref mc, .int am, .ref mk, .ref mq, .ref mr, .int td])), (mp, .inl (cs 0, 120, .inl f))] rfl dX6_nextToken_226 ?_
                  exact v_vret C E (by simp only [mtk, mva, tkN, if_neg (Nat.not_le.mpr hql), hfig0, Bool.false_eq_true, ↓reduceIte, if_neg hso, Nat.add_zero, nI_1]) dX6_nextToken_229
                · skip
                  refine v_aload_n C 0 dX6_nextToken_202 rfl ?_
                  refine v_get C (v := .int (f (q + 0))) fl_X6_nextToken_88 0 rfl rfl dX6_nextToken_203 ?_
                  refine v_bipush C (v := 59) dX6_nextToken_206 (by decide) ?_
                  refine v_icmp_ne C 215 dX6_nextToken_208 (by decide) (fun c7 => ?_) (fun c7 => ?_)
                  · skip
                    have hso : soI (f q) = 4 := so_no (c := f q) c5 c6 c7
                    refine v_iconst C (v := 0) dX6_nextToken_215 (by decide) ?_
                    refine v_put C fl_X6_nextToken_85 fp_X6_11 0 rfl rfl rfl (Nat.le_of_ble_eq_true rfl) [(mo, .inr (6, [.ref ml, .ref mz, .ref mi, .int su, .int (b2 it), .ref mt, .ref mv, .ref mp, .int (nI len), .int lt, .int (nI (q + 0)), .int 0, .int (f (q + 0)), .int (nI q), .int wr, .ref md, .ref mc, .int am, .ref mk, .ref mq, .ref mr, .int td])), (mp, .inl (cs 0, 120, .inl f))] rfl dX6_nextToken_216 ?_
                    refine v_aload_n C 0 dX6_nextToken_219 rfl ?_
                    refine v_dup C dX6_nextToken_220 rfl ?_
                    refine v_get C (v := .int (nI (q + 0))) fl_X6_nextToken_79 0 rfl rfl dX6_nextToken_221 ?_
                    refine v_iconst C (v := 1) dX6_nextToken_224 (by decide) ?_
                    refine v_iadd C dX6_nextToken_225 ?_
                    refine v_put C fl_X6_nextToken_79 fp_X6_10 0 rfl rfl rfl (Nat.le_of_ble_eq_true rfl) [(mo, .inr (6, [.ref ml, .ref mz, .ref mi, .int su, .int (b2 it), .ref mt, .ref mv, .ref mp, .int (nI len), .int lt, .int ((nI (q + 0)) + 1), .int 0, .int (f (q + 0)), .int (nI q), .int wr, .ref md, .ref mc, .int am, .ref mk, .ref mq, .ref mr, .int td])), (mp, .inl (cs 0, 120, .inl f))] rfl dX6_nextToken_226 ?_
                    exact v_vret C E (by simp only [mtk, mva, tkN, if_neg (Nat.not_le.mpr hql), hfig0, Bool.false_eq_true, ↓reduceIte, if_pos hso, Nat.add_zero, nI_1]) dX6_nextToken_229
                  · skip
                    have hso : ¬ soI (f q) = 4 := by first | exact so_let _ c7 | (rw [show f q = 44 from c7]; exact so_com) | (rw [show f q = 59 from c7]; exact so_sem)
                    refine v_iconst C (v := 1) dX6_nextToken_211 (by decide) ?_
                    refine v_goto C 216 dX6_nextToken_212 (by decide) ?_
                    refine v_put C fl_X6_nextToken_85 fp_X6_11 0 rfl rfl rfl (Nat.le_of_ble_eq_true rfl) [(mo, .inr (6, [.ref ml, .ref mz, .ref mi, .int su, .int (b2 it), .ref mt, .ref mv, .ref mp, .int (nI len), .int lt, .int (nI (q + 0)), .int 1, .int (f (q + 0)), .int (nI q), .int wr, .ref md, .ref mc, .int am, .ref mk, .ref mq, .ref mr, .int td])), (mp, .inl (cs 0, 120, .inl f))] rfl dX6_nextToken_216 ?_
                    refine v_aload_n C 0 dX6_nextToken_219 rfl ?_
                    refine v_dup C dX6_nextToken_220 rfl ?_
                    refine v_get C (v := .int (nI (q + 0))) fl_X6_nextToken_79 0 rfl rfl dX6_nextToken_221 ?_
                    refine v_iconst C (v := 1) dX6_nextToken_224 (by decide) ?_
                    refine v_iadd C dX6_nextToken_225 ?_
                    refine v_put C fl_X6_nextToken_79 fp_X6_10 0 rfl rfl rfl (Nat.le_of_ble_eq_true rfl) [(mo, .inr (6, [.ref ml, .ref mz, .ref mi, .int su, .int (b2 it), .ref mt, .ref mv, .ref mp, .int (nI len), .int lt, .int ((nI (q + 0)) + 1), .int 1, .int (f (q + 0)), .int (nI q), .int wr, .ref md, .ref mc, .int am, .ref mk, .ref mq, .ref mr, .int td])), (mp, .inl (cs 0, 120, .inl f))] rfl dX6_nextToken_226 ?_
                    exact v_vret C E (by simp only [mtk, mva, tkN, if_neg (Nat.not_le.mpr hql), hfig0, Bool.false_eq_true, ↓reduceIte, if_neg hso, Nat.add_zero, nI_1]) dX6_nextToken_229
          · skip
            have hk0 : 0 < k := by have h9 := nle_nI c3 (by omega) (by omega); omega
            have hql : q < len := by omega
            have hfig : fig (f q) = true := by rcases Bool.eq_false_or_eq_true (fig (f q)) with h9 | h9; exact h9; have h8 := dg_none hql h9; omega
            refine v_aload_n C 0 dX6_nextToken_130 rfl ?_
            refine v_aload_n C 0 dX6_nextToken_131 rfl ?_
            refine v_get C (v := .int (nI (q + k))) fl_X6_nextToken_79 0 rfl rfl dX6_nextToken_132 ?_
            refine v_aload_n C 0 dX6_nextToken_135 rfl ?_
            refine v_get C (v := .int (nI q)) fl_X6_nextToken_82 0 rfl rfl dX6_nextToken_136 ?_
            refine v_isub C dX6_nextToken_139 ?_
            refine V.topr (y := nI k) (by rw [pk_sub (by omega), show q + k - q = k by omega]) ?_
            refine v_iconst C (v := 2) dX6_nextToken_140 (by decide) ?_
            refine v_icmp_le C 148 dX6_nextToken_141 (by decide) (fun c8 => ?_) (fun c8 => ?_)
            · skip
              refine v_iconst C (v := 2) dX6_nextToken_148 (by decide) ?_
              refine v_put C fl_X6_nextToken_85 fp_X6_11 0 rfl rfl rfl (Nat.le_of_ble_eq_true rfl) [(mo, .inr (6, [.ref ml, .ref mz, .ref mi, .int su, .int (b2 it), .ref mt, .ref mv, .ref mp, .int (nI len), .int lt, .int (nI (q + k)), .int 2, .int (mdv f q k), .int (nI q), .int wr, .ref md, .ref mc, .int am, .ref mk, .ref mq, .ref mr, .int td])), (mp, .inl (cs 0, 120, .inl f))] rfl dX6_nextToken_149 ?_
              refine v_goto C 229 dX6_nextToken_152 (by decide) ?_
              exact v_vret C E (by simp only [mtk, mva, tkN, if_neg (Nat.not_le.mpr hql), if_pos hfig, hd, if_pos (show k ≤ 2 from le_nI (a := k) (b := 2) c8 (by omega) (by omega))]) dX6_nextToken_229
            · skip
              refine v_iconst C (v := 0) dX6_nextToken_144 (by decide) ?_
              refine v_goto C 149 dX6_nextToken_145 (by decide) ?_
              refine v_put C fl_X6_nextToken_85 fp_X6_11 0 rfl rfl rfl (Nat.le_of_ble_eq_true rfl) [(mo, .inr (6, [.ref ml, .ref mz, .ref mi, .int su, .int (b2 it), .ref mt, .ref mv, .ref mp, .int (nI len), .int lt, .int (nI (q + k)), .int 0, .int (mdv f q k), .int (nI q), .int wr, .ref md, .ref mc, .int am, .ref mk, .ref mq, .ref mr, .int td])), (mp, .inl (cs 0, 120, .inl f))] rfl dX6_nextToken_149 ?_
              refine v_goto C 229 dX6_nextToken_152 (by decide) ?_
              exact v_vret C E (by simp only [mtk, mva, tkN, if_neg (Nat.not_le.mpr hql), if_pos hfig, hd, if_neg (show ¬ k ≤ 2 from Nat.not_le.mpr (nle_nI (a := k) (b := 2) c8 (by omega) (by omega)))]) dX6_nextToken_229
        · skip
          have hlt : q + k < len := nle_nI c2 (by omega) (by omega)
          refine v_aload_n C 0 dX6_nextToken_44 rfl ?_
          refine v_get C (v := .ref mp) fl_X6_nextToken_25 0 rfl rfl dX6_nextToken_45 ?_
          refine v_aload_n C 0 dX6_nextToken_48 rfl ?_
          refine v_get C (v := .int (nI (q + k))) fl_X6_nextToken_79 0 rfl rfl dX6_nextToken_49 ?_
          refine v_iald C 1 0 rfl rfl (f (q + k)) (by rw [nI_clamp (by omega)]) (vp_in_nI (by omega) (by decide)) dX6_nextToken_52 ?_
          refine v_i2l C dX6_nextToken_53 ?_
          refine v_ldc2 C (v := 48) (by decide +kernel) dX6_nextToken_54 ?_
          refine v_ldc2 C (v := 57) (by decide +kernel) dX6_nextToken_57 ?_
          refine v_callS C [.long (Int32.toInt64 (f (q + k))), .long 48, .long 57] [] kX6_in gX6_nextToken_X6_in (c_inI l D cs (x := (f (q + k))) (a := 48) (b := 57) (lo := 48) (hi := 57) (by decide) (by decide)) ⟨Nat.le_of_ble_eq_true rfl, Nat.le_of_ble_eq_true rfl⟩ ⟨rfl, rfl⟩ ⟨Nat.zero_le _, Nat.zero_le _⟩ rfl rfl (Nat.le_of_ble_eq_true rfl) [] [(mo, .inr (6, [.ref ml, .ref mz, .ref mi, .int su, .int (b2 it), .ref mt, .ref mv, .ref mp, .int (nI len), .int lt, .int (nI (q + k)), .int 0, .int (mdv f q k), .int (nI q), .int wr, .ref md, .ref mc, .int am, .ref mk, .ref mq, .ref mr, .int td])), (mp, .inl (cs 0, 120, .inl f))] rfl (by decide) rfl (rfl) dX6_nextToken_60 ?_
          refine V.sts (st' := [.int (b2 (inI (f (q + k)) 48 57))]) rfl ?_
          refine v_if_eqB C 119 dX6_nextToken_63 (by decide) (fun c9 => ?_) (fun c9 => ?_)
          · skip
            have hd : dg f (len - q) q = k := by first | (have h9 := le_nI c9 (by omega) (by omega); rw [hk.2, show len - q - k = 0 by omega]; rfl) | (rw [hk.2, show len - q - k = (len - q - k - 1) + 1 by omega, dg, if_neg (by rw [show fig (f (q + k)) = false from c9]; decide)]; rfl)
            refine v_aload_n C 0 dX6_nextToken_119 rfl ?_
            refine v_get C (v := .int (nI (q + k))) fl_X6_nextToken_79 0 rfl rfl dX6_nextToken_120 ?_
            refine v_aload_n C 0 dX6_nextToken_123 rfl ?_
            refine v_get C (v := .int (nI q)) fl_X6_nextToken_82 0 rfl rfl dX6_nextToken_124 ?_
            refine v_icmp_le C 155 dX6_nextToken_127 (by decide) (fun c10 => ?_) (fun c10 => ?_)
            · skip
              have hk1 : q + k ≤ q := le_nI c10 (by omega) (by omega)
              have hsub : k = 0 := by omega
              subst hsub
              refine v_aload_n C 0 dX6_nextToken_155 rfl ?_
              refine v_get C (v := .int 0) fl_X6_nextToken_85 0 rfl rfl dX6_nextToken_156 ?_
              refine v_if_ne C 229 dX6_nextToken_159 (by decide) (fun c11 => ?_) (fun c11 => ?_)
              · exact absurd c11 (by decide)
              · skip
                have hql : q < len := by rcases Nat.lt_or_ge q len with h9 | h9; exact h9; exact absurd (by rw [show q = len by omega]) c1
                have hfig0 : fig (f q) = false := by rcases Bool.eq_false_or_eq_true (fig (f q)) with h9 | h9; have h8 := dg_pos hql h9; omega; exact h9
                refine v_aload_n C 0 dX6_nextToken_162 rfl ?_
                refine v_aload_n C 0 dX6_nextToken_163 rfl ?_
                refine v_get C (v := .ref mp) fl_X6_nextToken_25 0 rfl rfl dX6_nextToken_164 ?_
                refine v_aload_n C 0 dX6_nextToken_167 rfl ?_
                refine v_get C (v := .int (nI (q + 0))) fl_X6_nextToken_79 0 rfl rfl dX6_nextToken_168 ?_
                refine v_iald C 1 0 rfl rfl (f (q + 0)) (by rw [nI_clamp (by omega)]) (vp_in_nI (by omega) (by decide)) dX6_nextToken_171 ?_
                refine v_put C fl_X6_nextToken_88 fp_X6_12 0 rfl rfl rfl (Nat.le_of_ble_eq_true rfl) [(mo, .inr (6, [.ref ml, .ref mz, .ref mi, .int su, .int (b2 it), .ref mt, .ref mv, .ref mp, .int (nI len), .int lt, .int (nI (q + 0)), .int 0, .int (f (q + 0)), .int (nI q), .int wr, .ref md, .ref mc, .int am, .ref mk, .ref mq, .ref mr, .int td])), (mp, .inl (cs 0, 120, .inl f))] rfl dX6_nextToken_172 ?_
                refine v_aload_n C 0 dX6_nextToken_175 rfl ?_
                refine v_aload_n C 0 dX6_nextToken_176 rfl ?_
                refine v_get C (v := .int (f (q + 0))) fl_X6_nextToken_88 0 rfl rfl dX6_nextToken_177 ?_
                refine v_i2l C dX6_nextToken_180 ?_
                refine v_ldc2 C (v := 97) (by decide +kernel) dX6_nextToken_181 ?_
                refine v_ldc2 C (v := 122) (by decide +kernel) dX6_nextToken_184 ?_
                refine v_callS C [.long (Int32.toInt64 (f (q + 0))), .long 97, .long 122] [.ref mo] kX6_in gX6_nextToken_X6_in (c_inI l D cs (x := (f (q + 0))) (a := 97) (b := 122) (lo := 97) (hi := 122) (by decide) (by decide)) ⟨Nat.le_of_ble_eq_true rfl, Nat.le_of_ble_eq_true rfl⟩ ⟨rfl, rfl⟩ ⟨Nat.zero_le _, Nat.zero_le _⟩ rfl rfl (Nat.le_of_ble_eq_true rfl) [] [(mo, .inr (6, [.ref ml, .ref mz, .ref mi, .int su, .int (b2 it), .ref mt, .ref mv, .ref mp, .int (nI len), .int lt, .int (nI (q + 0)), .int 0, .int (f (q + 0)), .int (nI q), .int wr, .ref md, .ref mc, .int am, .ref mk, .ref mq, .ref mr, .int td])), (mp, .inl (cs 0, 120, .inl f))] rfl (by decide) rfl (rfl) dX6_nextToken_187 ?_
                refine V.sts (st' := [.int (b2 (inI (f (q + 0)) 97 122)), .ref mo]) rfl ?_
                refine v_if_neB C 211 dX6_nextToken_190 (by decide) (fun c12 => ?_) (fun c12 => ?_)
                · skip
                  have hso : ¬ soI (f q) = 4 := by first | exact so_let _ c12 | (rw [show f q = 44 from c12]; exact so_com) | (rw [show f q = 59 from c12]; exact so_sem)
                  refine v_iconst C (v := 1) dX6_nextToken_211 (by decide) ?_
                  refine v_goto C 216 dX6_nextToken_212 (by decide) ?_
                  refine v_put C fl_X6_nextToken_85 fp_X6_11 0 rfl rfl rfl (Nat.le_of_ble_eq_true rfl) [(mo, .inr (6, [.ref ml, .ref mz, .ref mi, .int su, .int (b2 it), .ref mt, .ref mv, .ref mp, .int (nI len), .int lt, .int (nI (q + 0)), .int 1, .int (f (q + 0)), .int (nI q), .int wr, .ref md, .ref mc, .int am, .ref mk, .ref mq, .ref mr, .int td])), (mp, .inl (cs 0, 120, .inl f))] rfl dX6_nextToken_216 ?_
                  refine v_aload_n C 0 dX6_nextToken_219 rfl ?_
                  refine v_dup C dX6_nextToken_220 rfl ?_
                  refine v_get C (v := .int (nI (q + 0))) fl_X6_nextToken_79 0 rfl rfl dX6_nextToken_221 ?_
                  refine v_iconst C (v := 1) dX6_nextToken_224 (by decide) ?_
                  refine v_iadd C dX6_nextToken_225 ?_
                  refine v_put C fl_X6_nextToken_79 fp_X6_10 0 rfl rfl rfl (Nat.le_of_ble_eq_true rfl) [(mo, .inr (6, [.ref ml, .ref mz, .ref mi, .int su, .int (b2 it), .ref mt, .ref mv, .ref mp, .int (nI len), .int lt, .int ((nI (q + 0)) + 1), .int 1, .int (f (q + 0)), .int (nI q), .int wr, .ref md, .ref mc, .int am, .ref mk, .ref mq, .ref mr, .int td])), (mp, .inl (cs 0, 120, .inl f))] rfl dX6_nextToken_226 ?_
                  exact v_vret C E (by simp only [mtk, mva, tkN, if_neg (Nat.not_le.mpr hql), hfig0, Bool.false_eq_true, ↓reduceIte, if_neg hso, Nat.add_zero, nI_1]) dX6_nextToken_229
                · skip
                  refine v_aload_n C 0 dX6_nextToken_193 rfl ?_
                  refine v_get C (v := .int (f (q + 0))) fl_X6_nextToken_88 0 rfl rfl dX6_nextToken_194 ?_
                  refine v_bipush C (v := 44) dX6_nextToken_197 (by decide) ?_
                  refine v_icmp_eq C 211 dX6_nextToken_199 (by decide) (fun c13 => ?_) (fun c13 => ?_)
                  · skip
                    have hso : ¬ soI (f q) = 4 := by first | exact so_let _ c13 | (rw [show f q = 44 from c13]; exact so_com) | (rw [show f q = 59 from c13]; exact so_sem)
                    refine v_iconst C (v := 1) dX6_nextToken_211 (by decide) ?_
                    refine v_goto C 216 dX6_nextToken_212 (by decide) ?_
                    refine v_put C fl_X6_nextToken_85 fp_X6_11 0 rfl rfl rfl (Nat.le_of_ble_eq_true rfl) [(mo, .inr (6, [.ref ml, .ref mz, .ref mi, .int su, .int (b2 it), .ref mt, .ref mv, .ref mp, .int (nI len), .int lt, .int (nI (q + 0)), .int 1, .int (f (q + 0)), .int (nI q), .int wr, .ref md, .ref mc, .int am, .ref mk, .ref mq, .ref mr, .int td])), (mp, .inl (cs 0, 120, .inl f))] rfl dX6_nextToken_216 ?_
                    refine v_aload_n C 0 dX6_nextToken_219 rfl ?_
                    refine v_dup C dX6_nextToken_220 rfl ?_
                    refine v_get C (v := .int (nI (q + 0))) fl_X6_nextToken_79 0 rfl rfl dX6_nextToken_221 ?_
                    refine v_iconst C (v := 1) dX6_nextToken_224 (by decide) ?_
                    refine v_iadd C dX6_nextToken_225 ?_
                    refine v_put C fl_X6_nextToken_79 fp_X6_10 0 rfl rfl rfl (Nat.le_of_ble_eq_true rfl) [(mo, .inr (6, [.ref ml, .ref mz, .ref mi, .int su, .int (b2 it), .ref mt, .ref mv, .ref mp, .int (nI len), .int lt, .int ((nI (q + 0)) + 1), .int 1, .int (f (q + 0)), .int (nI q), .int wr, .ref md, .ref mc, .int am, .ref mk, .ref mq, .ref mr, .int td])), (mp, .inl (cs 0, 120, .inl f))] rfl dX6_nextToken_226 ?_
                    exact v_vret C E (by simp only [mtk, mva, tkN, if_neg (Nat.not_le.mpr hql), hfig0, Bool.false_eq_true, ↓reduceIte, if_neg hso, Nat.add_zero, nI_1]) dX6_nextToken_229
                  · skip
                    refine v_aload_n C 0 dX6_nextToken_202 rfl ?_
                    refine v_get C (v := .int (f (q + 0))) fl_X6_nextToken_88 0 rfl rfl dX6_nextToken_203 ?_
                    refine v_bipush C (v := 59) dX6_nextToken_206 (by decide) ?_
                    refine v_icmp_ne C 215 dX6_nextToken_208 (by decide) (fun c14 => ?_) (fun c14 => ?_)
                    · skip
                      have hso : soI (f q) = 4 := so_no (c := f q) c12 c13 c14
                      refine v_iconst C (v := 0) dX6_nextToken_215 (by decide) ?_
                      refine v_put C fl_X6_nextToken_85 fp_X6_11 0 rfl rfl rfl (Nat.le_of_ble_eq_true rfl) [(mo, .inr (6, [.ref ml, .ref mz, .ref mi, .int su, .int (b2 it), .ref mt, .ref mv, .ref mp, .int (nI len), .int lt, .int (nI (q + 0)), .int 0, .int (f (q + 0)), .int (nI q), .int wr, .ref md, .ref mc, .int am, .ref mk, .ref mq, .ref mr, .int td])), (mp, .inl (cs 0, 120, .inl f))] rfl dX6_nextToken_216 ?_
                      refine v_aload_n C 0 dX6_nextToken_219 rfl ?_
                      refine v_dup C dX6_nextToken_220 rfl ?_
                      refine v_get C (v := .int (nI (q + 0))) fl_X6_nextToken_79 0 rfl rfl dX6_nextToken_221 ?_
                      refine v_iconst C (v := 1) dX6_nextToken_224 (by decide) ?_
                      refine v_iadd C dX6_nextToken_225 ?_
                      refine v_put C fl_X6_nextToken_79 fp_X6_10 0 rfl rfl rfl (Nat.le_of_ble_eq_true rfl) [(mo, .inr (6, [.ref ml, .ref mz, .ref mi, .int su, .int (b2 it), .ref mt, .ref mv, .ref mp, .int (nI len), .int lt, .int ((nI (q + 0)) + 1), .int 0, .int (f (q + 0)), .int (nI q), .int wr, .ref md, .ref mc, .int am, .ref mk, .ref mq, .ref mr, .int td])), (mp, .inl (cs 0, 120, .inl f))] rfl dX6_nextToken_226 ?_
                      exact v_vret C E (by simp only [mtk, mva, tkN, if_neg (Nat.not_le.mpr hql), hfig0, Bool.false_eq_true, ↓reduceIte, if_pos hso, Nat.add_zero, nI_1]) dX6_nextToken_229
                    · skip
                      have hso : ¬ soI (f q) = 4 := by first | exact so_let _ c14 | (rw [show f q = 44 from c14]; exact so_com) | (rw [show f q = 59 from c14]; exact so_sem)
                      refine v_iconst C (v := 1) dX6_nextToken_211 (by decide) ?_
                      refine v_goto C 216 dX6_nextToken_212 (by decide) ?_
                      refine v_put C fl_X6_nextToken_85 fp_X6_11 0 rfl rfl rfl (Nat.le_of_ble_eq_true rfl) [(mo, .inr (6, [.ref ml, .ref mz, .ref mi, .int su, .int (b2 it), .ref mt, .ref mv, .ref mp, .int (nI len), .int lt, .int (nI (q + 0)), .int 1, .int (f (q + 0)), .int (nI q), .int wr, .ref md, .ref mc, .int am, .ref mk, .ref mq, .ref mr, .int td])), (mp, .inl (cs 0, 120, .inl f))] rfl dX6_nextToken_216 ?_
                      refine v_aload_n C 0 dX6_nextToken_219 rfl ?_
                      refine v_dup C dX6_nextToken_220 rfl ?_
                      refine v_get C (v := .int (nI (q + 0))) fl_X6_nextToken_79 0 rfl rfl dX6_nextToken_221 ?_
                      refine v_iconst C (v := 1) dX6_nextToken_224 (by decide) ?_
                      refine v_iadd C dX6_nextToken_225 ?_
                      refine v_put C fl_X6_nextToken_79 fp_X6_10 0 rfl rfl rfl (Nat.le_of_ble_eq_true rfl) [(mo, .inr (6, [.ref ml, .ref mz, .ref mi, .int su, .int (b2 it), .ref mt, .ref mv, .ref mp, .int (nI len), .int lt, .int ((nI (q + 0)) + 1), .int 1, .int (f (q + 0)), .int (nI q), .int wr, .ref md, .ref mc, .int am, .ref mk, .ref mq, .ref mr, .int td])), (mp, .inl (cs 0, 120, .inl f))] rfl dX6_nextToken_226 ?_
                      exact v_vret C E (by simp only [mtk, mva, tkN, if_neg (Nat.not_le.mpr hql), hfig0, Bool.false_eq_true, ↓reduceIte, if_neg hso, Nat.add_zero, nI_1]) dX6_nextToken_229
            · skip
              have hk0 : 0 < k := by have h9 := nle_nI c10 (by omega) (by omega); omega
              have hql : q < len := by omega
              have hfig : fig (f q) = true := by rcases Bool.eq_false_or_eq_true (fig (f q)) with h9 | h9; exact h9; have h8 := dg_none hql h9; omega
              refine v_aload_n C 0 dX6_nextToken_130 rfl ?_
              refine v_aload_n C 0 dX6_nextToken_131 rfl ?_
              refine v_get C (v := .int (nI (q + k))) fl_X6_nextToken_79 0 rfl rfl dX6_nextToken_132 ?_
              refine v_aload_n C 0 dX6_nextToken_135 rfl ?_
              refine v_get C (v := .int (nI q)) fl_X6_nextToken_82 0 rfl rfl dX6_nextToken_136 ?_
              refine v_isub C dX6_nextToken_139 ?_
              refine V.topr (y := nI k) (by rw [pk_sub (by omega), show q + k - q = k by omega]) ?_
              refine v_iconst C (v := 2) dX6_nextToken_140 (by decide) ?_
              refine v_icmp_le C 148 dX6_nextToken_141 (by decide) (fun c15 => ?_) (fun c15 => ?_)
              · skip
                refine v_iconst C (v := 2) dX6_nextToken_148 (by decide) ?_
                refine v_put C fl_X6_nextToken_85 fp_X6_11 0 rfl rfl rfl (Nat.le_of_ble_eq_true rfl) [(mo, .inr (6, [.ref ml, .ref mz, .ref mi, .int su, .int (b2 it), .ref mt, .ref mv, .ref mp, .int (nI len), .int lt, .int (nI (q + k)), .int 2, .int (mdv f q k), .int (nI q), .int wr, .ref md, .ref mc, .int am, .ref mk, .ref mq, .ref mr, .int td])), (mp, .inl (cs 0, 120, .inl f))] rfl dX6_nextToken_149 ?_
                refine v_goto C 229 dX6_nextToken_152 (by decide) ?_
                exact v_vret C E (by simp only [mtk, mva, tkN, if_neg (Nat.not_le.mpr hql), if_pos hfig, hd, if_pos (show k ≤ 2 from le_nI (a := k) (b := 2) c15 (by omega) (by omega))]) dX6_nextToken_229
              · skip
                refine v_iconst C (v := 0) dX6_nextToken_144 (by decide) ?_
                refine v_goto C 149 dX6_nextToken_145 (by decide) ?_
                refine v_put C fl_X6_nextToken_85 fp_X6_11 0 rfl rfl rfl (Nat.le_of_ble_eq_true rfl) [(mo, .inr (6, [.ref ml, .ref mz, .ref mi, .int su, .int (b2 it), .ref mt, .ref mv, .ref mp, .int (nI len), .int lt, .int (nI (q + k)), .int 0, .int (mdv f q k), .int (nI q), .int wr, .ref md, .ref mc, .int am, .ref mk, .ref mq, .ref mr, .int td])), (mp, .inl (cs 0, 120, .inl f))] rfl dX6_nextToken_149 ?_
                refine v_goto C 229 dX6_nextToken_152 (by decide) ?_
                exact v_vret C E (by simp only [mtk, mva, tkN, if_neg (Nat.not_le.mpr hql), if_pos hfig, hd, if_neg (show ¬ k ≤ 2 from Nat.not_le.mpr (nle_nI (a := k) (b := 2) c15 (by omega) (by omega)))]) dX6_nextToken_229
          · skip
            refine v_aload_n C 0 dX6_nextToken_66 rfl ?_
            refine v_aload_n C 0 dX6_nextToken_67 rfl ?_
            refine v_get C (v := .int (mdv f q k)) fl_X6_nextToken_88 0 rfl rfl dX6_nextToken_68 ?_
            refine v_bipush C (v := 99) dX6_nextToken_71 (by decide) ?_
            refine v_icmp_le C 83 dX6_nextToken_73 (by decide) (fun c16 => ?_) (fun c16 => ?_)
            · skip
              refine v_bipush C (v := 10) dX6_nextToken_83 (by decide) ?_
              refine v_aload_n C 0 dX6_nextToken_85 rfl ?_
              refine v_get C (v := .int (mdv f q k)) fl_X6_nextToken_88 0 rfl rfl dX6_nextToken_86 ?_
              refine v_imul C dX6_nextToken_89 ?_
              refine v_aload_n C 0 dX6_nextToken_90 rfl ?_
              refine v_get C (v := .ref mp) fl_X6_nextToken_25 0 rfl rfl dX6_nextToken_91 ?_
              refine v_aload_n C 0 dX6_nextToken_94 rfl ?_
              refine v_get C (v := .int (nI (q + k))) fl_X6_nextToken_79 0 rfl rfl dX6_nextToken_95 ?_
              refine v_iald C 1 0 rfl rfl (f (q + k)) (by rw [nI_clamp (by omega)]) (vp_in_nI (by omega) (by decide)) dX6_nextToken_98 ?_
              refine v_iadd C dX6_nextToken_99 ?_
              refine v_bipush C (v := 48) dX6_nextToken_100 (by decide) ?_
              refine v_isub C dX6_nextToken_102 ?_
              refine v_put C fl_X6_nextToken_88 fp_X6_12 0 rfl rfl rfl (Nat.le_of_ble_eq_true rfl) [(mo, .inr (6, [.ref ml, .ref mz, .ref mi, .int su, .int (b2 it), .ref mt, .ref mv, .ref mp, .int (nI len), .int lt, .int (nI (q + k)), .int 0, .int (((10 * (mdv f q k)) + (f (q + k))) - 48), .int (nI q), .int wr, .ref md, .ref mc, .int am, .ref mk, .ref mq, .ref mr, .int td])), (mp, .inl (cs 0, 120, .inl f))] rfl dX6_nextToken_103 ?_
              refine v_aload_n C 0 dX6_nextToken_106 rfl ?_
              refine v_dup C dX6_nextToken_107 rfl ?_
              refine v_get C (v := .int (nI (q + k))) fl_X6_nextToken_79 0 rfl rfl dX6_nextToken_108 ?_
              refine v_iconst C (v := 1) dX6_nextToken_111 (by decide) ?_
              refine v_iadd C dX6_nextToken_112 ?_
              refine V.topr (y := nI (q + k + 1)) (nI_1 _) ?_
              refine v_put C fl_X6_nextToken_79 fp_X6_10 0 rfl rfl rfl (Nat.le_of_ble_eq_true rfl) [(mo, .inr (6, [.ref ml, .ref mz, .ref mi, .int su, .int (b2 it), .ref mt, .ref mv, .ref mp, .int (nI len), .int lt, .int (nI (q + k + 1)), .int 0, .int (((10 * (mdv f q k)) + (f (q + k))) - 48), .int (nI q), .int wr, .ref md, .ref mc, .int am, .ref mk, .ref mq, .ref mr, .int td])), (mp, .inl (cs 0, 120, .inl f))] rfl dX6_nextToken_113 ?_
              refine v_goto C 33 dX6_nextToken_116 (by decide) ?_
              exact ih33 (k + 1) _ _ (rfl) (by rw [mdv, if_pos c16]) (⟨by omega, by rw [hk.2, show len - q - k = (len - q - (k + 1)) + 1 by omega, dg, if_pos (show fig (f (q + k)) = true from c9), Nat.add_assoc q k 1]; omega⟩) (by omega)
            · skip
              refine v_aload_n C 0 dX6_nextToken_76 rfl ?_
              refine v_get C (v := .int (mdv f q k)) fl_X6_nextToken_88 0 rfl rfl dX6_nextToken_77 ?_
              refine v_goto C 103 dX6_nextToken_80 (by decide) ?_
              refine v_put C fl_X6_nextToken_88 fp_X6_12 0 rfl rfl rfl (Nat.le_of_ble_eq_true rfl) [(mo, .inr (6, [.ref ml, .ref mz, .ref mi, .int su, .int (b2 it), .ref mt, .ref mv, .ref mp, .int (nI len), .int lt, .int (nI (q + k)), .int 0, .int (mdv f q k), .int (nI q), .int wr, .ref md, .ref mc, .int am, .ref mk, .ref mq, .ref mr, .int td])), (mp, .inl (cs 0, 120, .inl f))] rfl dX6_nextToken_103 ?_
              refine v_aload_n C 0 dX6_nextToken_106 rfl ?_
              refine v_dup C dX6_nextToken_107 rfl ?_
              refine v_get C (v := .int (nI (q + k))) fl_X6_nextToken_79 0 rfl rfl dX6_nextToken_108 ?_
              refine v_iconst C (v := 1) dX6_nextToken_111 (by decide) ?_
              refine v_iadd C dX6_nextToken_112 ?_
              refine V.topr (y := nI (q + k + 1)) (nI_1 _) ?_
              refine v_put C fl_X6_nextToken_79 fp_X6_10 0 rfl rfl rfl (Nat.le_of_ble_eq_true rfl) [(mo, .inr (6, [.ref ml, .ref mz, .ref mi, .int su, .int (b2 it), .ref mt, .ref mv, .ref mp, .int (nI len), .int lt, .int (nI (q + k + 1)), .int 0, .int (mdv f q k), .int (nI q), .int wr, .ref md, .ref mc, .int am, .ref mk, .ref mq, .ref mr, .int td])), (mp, .inl (cs 0, 120, .inl f))] rfl dX6_nextToken_113 ?_
              refine v_goto C 33 dX6_nextToken_116 (by decide) ?_
              exact ih33 (k + 1) _ _ (rfl) (by rw [mdv, if_neg c16]) (⟨by omega, by rw [hk.2, show len - q - k = (len - q - (k + 1)) + 1 by omega, dg, if_pos (show fig (f (q + k)) = true from c9), Nat.add_assoc q k 1]; omega⟩) (by omega)
    exact L33 _ 0 _ _ (rfl) (rfl) (⟨Nat.zero_le _, by rw [Nat.zero_add]; rfl⟩) (Nat.lt_succ_self _)
  · skip
    have hge : len ≤ q := by have h9 := eq_nI c1 (by omega) (by omega); omega
    refine v_iconst C (v := 3) dX6_nextToken_20 (by decide) ?_
    refine v_goto C 25 dX6_nextToken_21 (by decide) ?_
    refine v_put C fl_X6_nextToken_85 fp_X6_11 0 rfl rfl rfl (Nat.le_of_ble_eq_true rfl) [(mo, .inr (6, [.ref ml, .ref mz, .ref mi, .int su, .int (b2 it), .ref mt, .ref mv, .ref mp, .int (nI len), .int lt, .int (nI q), .int 3, .int va, .int (nI q), .int wr, .ref md, .ref mc, .int am, .ref mk, .ref mq, .ref mr, .int td])), (mp, .inl (cs 0, 120, .inl f))] rfl dX6_nextToken_25 ?_
    skip
    refine v_aload_n C 0 dX6_nextToken_28 rfl ?_
    refine v_iconst C (v := 0) dX6_nextToken_29 (by decide) ?_
    refine v_put C fl_X6_nextToken_88 fp_X6_12 0 rfl rfl rfl (Nat.le_of_ble_eq_true rfl) [(mo, .inr (6, [.ref ml, .ref mz, .ref mi, .int su, .int (b2 it), .ref mt, .ref mv, .ref mp, .int (nI len), .int lt, .int (nI q), .int 3, .int 0, .int (nI q), .int wr, .ref md, .ref mc, .int am, .ref mk, .ref mq, .ref mr, .int td])), (mp, .inl (cs 0, 120, .inl f))] rfl dX6_nextToken_30 ?_
    have L33 : ∀ (n : Nat) (k : Nat) (y0 : Int32) (y1 : Int32), y0 = (nI (q + k)) → y1 = (mdv f q k) → (k ≤ len - q ∧ dg f (len - q) q = k + dg f (len - q - k) (q + k)) → (len - q - k) < n → V p l e ({ frames := 1, cells := 0, slots := 0, locals := 25 }) s m (List.toArray [.ref mo]) below meth c 0 0 (MQ below (vq_Q none D [(mo, .inr (6, [.ref ml, .ref mz, .ref mi, .int su, .int (b2 it), .ref mt, .ref mv, .ref mp, .int (nI len), .int lt, .int (nI (tkN f len q)), .int (mtk f len q), .int (mva f len q), .int (nI q), .int wr, .ref md, .ref mc, .int am, .ref mk, .ref mq, .ref mr, .int td])), (mp, .inl (cs 0, 120, .inl f))] [(mo, .inr (6, [.ref ml, .ref mz, .ref mi, .int su, .int (b2 it), .ref mt, .ref mv, .ref mp, .int (nI len), .int lt, .int (nI q), .int tok, .int va, .int be, .int wr, .ref md, .ref mc, .int am, .ref mk, .ref mq, .ref mr, .int td])), (mp, .inl (cs 0, 120, .inl f))] s.heap.size) (List.toArray [.ref mo]) s 0 0 (va_A [(mo, .inr (6, [.ref ml, .ref mz, .ref mi, .int su, .int (b2 it), .ref mt, .ref mv, .ref mp, .int (nI len), .int lt, .int (nI q), .int tok, .int va, .int be, .int wr, .ref md, .ref mc, .int am, .ref mk, .ref mq, .ref mr, .int td])), (mp, .inl (cs 0, 120, .inl f))] s.heap.size)) 1 D A s.heap 33 [(0, .ref mo)] [] [(mo, .inr (6, [.ref ml, .ref mz, .ref mi, .int su, .int (b2 it), .ref mt, .ref mv, .ref mp, .int (nI len), .int lt, .int y0, .int 3, .int y1, .int (nI q), .int wr, .ref md, .ref mc, .int am, .ref mk, .ref mq, .ref mr, .int td])), (mp, .inl (cs 0, 120, .inl f))] := by
      intro n
      induction n with
      | zero =>
        intros; omega
      | succ n ih33 =>
        intro k y0 y1 ey0 ey1 hk hn
        subst ey0
        subst ey1
        refine v_aload_n C 0 dX6_nextToken_33 rfl ?_
        refine v_get C (v := .int (nI (q + k))) fl_X6_nextToken_79 0 rfl rfl dX6_nextToken_34 ?_
        refine v_aload_n C 0 dX6_nextToken_37 rfl ?_
        refine v_get C (v := .int (nI len)) fl_X6_nextToken_75 0 rfl rfl dX6_nextToken_38 ?_
        refine v_icmp_ge C 119 dX6_nextToken_41 (by decide) (fun c17 => ?_) (fun c17 => ?_)
        · skip
          have hd : dg f (len - q) q = k := by first | (have h9 := le_nI c17 (by omega) (by omega); rw [hk.2, show len - q - k = 0 by omega]; rfl) | (rw [hk.2, show len - q - k = (len - q - k - 1) + 1 by omega, dg, if_neg (by rw [show fig (f (q + k)) = false from c17]; decide)]; rfl)
          refine v_aload_n C 0 dX6_nextToken_119 rfl ?_
          refine v_get C (v := .int (nI (q + k))) fl_X6_nextToken_79 0 rfl rfl dX6_nextToken_120 ?_
          refine v_aload_n C 0 dX6_nextToken_123 rfl ?_
          refine v_get C (v := .int (nI q)) fl_X6_nextToken_82 0 rfl rfl dX6_nextToken_124 ?_
          refine v_icmp_le C 155 dX6_nextToken_127 (by decide) (fun c18 => ?_) (fun c18 => ?_)
          · skip
            have hk1 : q + k ≤ q := le_nI c18 (by omega) (by omega)
            have hsub : k = 0 := by omega
            subst hsub
            refine v_aload_n C 0 dX6_nextToken_155 rfl ?_
            refine v_get C (v := .int 3) fl_X6_nextToken_85 0 rfl rfl dX6_nextToken_156 ?_
            refine v_if_ne C 229 dX6_nextToken_159 (by decide) (fun c19 => ?_) (fun c19 => ?_)
            · skip
              exact v_vret C E (by simp only [mtk, mva, tkN, if_pos hge]; rfl) dX6_nextToken_229
            · exact absurd c19 (by decide)
          · skip
            have hk0 : 0 < k := by have h9 := nle_nI c18 (by omega) (by omega); omega
            have hql : q < len := by omega
            have hfig : fig (f q) = true := by rcases Bool.eq_false_or_eq_true (fig (f q)) with h9 | h9; exact h9; have h8 := dg_none hql h9; omega
            refine v_aload_n C 0 dX6_nextToken_130 rfl ?_
            refine v_aload_n C 0 dX6_nextToken_131 rfl ?_
            refine v_get C (v := .int (nI (q + k))) fl_X6_nextToken_79 0 rfl rfl dX6_nextToken_132 ?_
            refine v_aload_n C 0 dX6_nextToken_135 rfl ?_
            refine v_get C (v := .int (nI q)) fl_X6_nextToken_82 0 rfl rfl dX6_nextToken_136 ?_
            refine v_isub C dX6_nextToken_139 ?_
            refine V.topr (y := nI k) (by rw [pk_sub (by omega), show q + k - q = k by omega]) ?_
            refine v_iconst C (v := 2) dX6_nextToken_140 (by decide) ?_
            refine v_icmp_le C 148 dX6_nextToken_141 (by decide) (fun c20 => ?_) (fun c20 => ?_)
            · skip
              refine v_iconst C (v := 2) dX6_nextToken_148 (by decide) ?_
              refine v_put C fl_X6_nextToken_85 fp_X6_11 0 rfl rfl rfl (Nat.le_of_ble_eq_true rfl) [(mo, .inr (6, [.ref ml, .ref mz, .ref mi, .int su, .int (b2 it), .ref mt, .ref mv, .ref mp, .int (nI len), .int lt, .int (nI (q + k)), .int 2, .int (mdv f q k), .int (nI q), .int wr, .ref md, .ref mc, .int am, .ref mk, .ref mq, .ref mr, .int td])), (mp, .inl (cs 0, 120, .inl f))] rfl dX6_nextToken_149 ?_
              refine v_goto C 229 dX6_nextToken_152 (by decide) ?_
              exact v_vret C E (by simp only [mtk, mva, tkN, if_neg (Nat.not_le.mpr hql), if_pos hfig, hd, if_pos (show k ≤ 2 from le_nI (a := k) (b := 2) c20 (by omega) (by omega))]) dX6_nextToken_229
            · skip
              refine v_iconst C (v := 0) dX6_nextToken_144 (by decide) ?_
              refine v_goto C 149 dX6_nextToken_145 (by decide) ?_
              refine v_put C fl_X6_nextToken_85 fp_X6_11 0 rfl rfl rfl (Nat.le_of_ble_eq_true rfl) [(mo, .inr (6, [.ref ml, .ref mz, .ref mi, .int su, .int (b2 it), .ref mt, .ref mv, .ref mp, .int (nI len), .int lt, .int (nI (q + k)), .int 0, .int (mdv f q k), .int (nI q), .int wr, .ref md, .ref mc, .int am, .ref mk, .ref mq, .ref mr, .int td])), (mp, .inl (cs 0, 120, .inl f))] rfl dX6_nextToken_149 ?_
              refine v_goto C 229 dX6_nextToken_152 (by decide) ?_
              exact v_vret C E (by simp only [mtk, mva, tkN, if_neg (Nat.not_le.mpr hql), if_pos hfig, hd, if_neg (show ¬ k ≤ 2 from Nat.not_le.mpr (nle_nI (a := k) (b := 2) c20 (by omega) (by omega)))]) dX6_nextToken_229
        · skip
          have hlt : q + k < len := nle_nI c17 (by omega) (by omega)
          refine v_aload_n C 0 dX6_nextToken_44 rfl ?_
          refine v_get C (v := .ref mp) fl_X6_nextToken_25 0 rfl rfl dX6_nextToken_45 ?_
          refine v_aload_n C 0 dX6_nextToken_48 rfl ?_
          refine v_get C (v := .int (nI (q + k))) fl_X6_nextToken_79 0 rfl rfl dX6_nextToken_49 ?_
          refine v_iald C 1 0 rfl rfl (f (q + k)) (by rw [nI_clamp (by omega)]) (vp_in_nI (by omega) (by decide)) dX6_nextToken_52 ?_
          refine v_i2l C dX6_nextToken_53 ?_
          refine v_ldc2 C (v := 48) (by decide +kernel) dX6_nextToken_54 ?_
          refine v_ldc2 C (v := 57) (by decide +kernel) dX6_nextToken_57 ?_
          refine v_callS C [.long (Int32.toInt64 (f (q + k))), .long 48, .long 57] [] kX6_in gX6_nextToken_X6_in (c_inI l D cs (x := (f (q + k))) (a := 48) (b := 57) (lo := 48) (hi := 57) (by decide) (by decide)) ⟨Nat.le_of_ble_eq_true rfl, Nat.le_of_ble_eq_true rfl⟩ ⟨rfl, rfl⟩ ⟨Nat.zero_le _, Nat.zero_le _⟩ rfl rfl (Nat.le_of_ble_eq_true rfl) [] [(mo, .inr (6, [.ref ml, .ref mz, .ref mi, .int su, .int (b2 it), .ref mt, .ref mv, .ref mp, .int (nI len), .int lt, .int (nI (q + k)), .int 3, .int (mdv f q k), .int (nI q), .int wr, .ref md, .ref mc, .int am, .ref mk, .ref mq, .ref mr, .int td])), (mp, .inl (cs 0, 120, .inl f))] rfl (by decide) rfl (rfl) dX6_nextToken_60 ?_
          refine V.sts (st' := [.int (b2 (inI (f (q + k)) 48 57))]) rfl ?_
          refine v_if_eqB C 119 dX6_nextToken_63 (by decide) (fun c21 => ?_) (fun c21 => ?_)
          · skip
            have hd : dg f (len - q) q = k := by first | (have h9 := le_nI c21 (by omega) (by omega); rw [hk.2, show len - q - k = 0 by omega]; rfl) | (rw [hk.2, show len - q - k = (len - q - k - 1) + 1 by omega, dg, if_neg (by rw [show fig (f (q + k)) = false from c21]; decide)]; rfl)
            refine v_aload_n C 0 dX6_nextToken_119 rfl ?_
            refine v_get C (v := .int (nI (q + k))) fl_X6_nextToken_79 0 rfl rfl dX6_nextToken_120 ?_
            refine v_aload_n C 0 dX6_nextToken_123 rfl ?_
            refine v_get C (v := .int (nI q)) fl_X6_nextToken_82 0 rfl rfl dX6_nextToken_124 ?_
            refine v_icmp_le C 155 dX6_nextToken_127 (by decide) (fun c22 => ?_) (fun c22 => ?_)
            · skip
              have hk1 : q + k ≤ q := le_nI c22 (by omega) (by omega)
              have hsub : k = 0 := by omega
              subst hsub
              refine v_aload_n C 0 dX6_nextToken_155 rfl ?_
              refine v_get C (v := .int 3) fl_X6_nextToken_85 0 rfl rfl dX6_nextToken_156 ?_
              refine v_if_ne C 229 dX6_nextToken_159 (by decide) (fun c23 => ?_) (fun c23 => ?_)
              · skip
                exact v_vret C E (by simp only [mtk, mva, tkN, if_pos hge]; rfl) dX6_nextToken_229
              · exact absurd c23 (by decide)
            · skip
              have hk0 : 0 < k := by have h9 := nle_nI c22 (by omega) (by omega); omega
              have hql : q < len := by omega
              have hfig : fig (f q) = true := by rcases Bool.eq_false_or_eq_true (fig (f q)) with h9 | h9; exact h9; have h8 := dg_none hql h9; omega
              refine v_aload_n C 0 dX6_nextToken_130 rfl ?_
              refine v_aload_n C 0 dX6_nextToken_131 rfl ?_
              refine v_get C (v := .int (nI (q + k))) fl_X6_nextToken_79 0 rfl rfl dX6_nextToken_132 ?_
              refine v_aload_n C 0 dX6_nextToken_135 rfl ?_
              refine v_get C (v := .int (nI q)) fl_X6_nextToken_82 0 rfl rfl dX6_nextToken_136 ?_
              refine v_isub C dX6_nextToken_139 ?_
              refine V.topr (y := nI k) (by rw [pk_sub (by omega), show q + k - q = k by omega]) ?_
              refine v_iconst C (v := 2) dX6_nextToken_140 (by decide) ?_
              refine v_icmp_le C 148 dX6_nextToken_141 (by decide) (fun c24 => ?_) (fun c24 => ?_)
              · skip
                refine v_iconst C (v := 2) dX6_nextToken_148 (by decide) ?_
                refine v_put C fl_X6_nextToken_85 fp_X6_11 0 rfl rfl rfl (Nat.le_of_ble_eq_true rfl) [(mo, .inr (6, [.ref ml, .ref mz, .ref mi, .int su, .int (b2 it), .ref mt, .ref mv, .ref mp, .int (nI len), .int lt, .int (nI (q + k)), .int 2, .int (mdv f q k), .int (nI q), .int wr, .ref md, .ref mc, .int am, .ref mk, .ref mq, .ref mr, .int td])), (mp, .inl (cs 0, 120, .inl f))] rfl dX6_nextToken_149 ?_
                refine v_goto C 229 dX6_nextToken_152 (by decide) ?_
                exact v_vret C E (by simp only [mtk, mva, tkN, if_neg (Nat.not_le.mpr hql), if_pos hfig, hd, if_pos (show k ≤ 2 from le_nI (a := k) (b := 2) c24 (by omega) (by omega))]) dX6_nextToken_229
              · skip
                refine v_iconst C (v := 0) dX6_nextToken_144 (by decide) ?_
                refine v_goto C 149 dX6_nextToken_145 (by decide) ?_
                refine v_put C fl_X6_nextToken_85 fp_X6_11 0 rfl rfl rfl (Nat.le_of_ble_eq_true rfl) [(mo, .inr (6, [.ref ml, .ref mz, .ref mi, .int su, .int (b2 it), .ref mt, .ref mv, .ref mp, .int (nI len), .int lt, .int (nI (q + k)), .int 0, .int (mdv f q k), .int (nI q), .int wr, .ref md, .ref mc, .int am, .ref mk, .ref mq, .ref mr, .int td])), (mp, .inl (cs 0, 120, .inl f))] rfl dX6_nextToken_149 ?_
                refine v_goto C 229 dX6_nextToken_152 (by decide) ?_
                exact v_vret C E (by simp only [mtk, mva, tkN, if_neg (Nat.not_le.mpr hql), if_pos hfig, hd, if_neg (show ¬ k ≤ 2 from Nat.not_le.mpr (nle_nI (a := k) (b := 2) c24 (by omega) (by omega)))]) dX6_nextToken_229
          · skip
            refine v_aload_n C 0 dX6_nextToken_66 rfl ?_
            refine v_aload_n C 0 dX6_nextToken_67 rfl ?_
            refine v_get C (v := .int (mdv f q k)) fl_X6_nextToken_88 0 rfl rfl dX6_nextToken_68 ?_
            refine v_bipush C (v := 99) dX6_nextToken_71 (by decide) ?_
            refine v_icmp_le C 83 dX6_nextToken_73 (by decide) (fun c25 => ?_) (fun c25 => ?_)
            · skip
              refine v_bipush C (v := 10) dX6_nextToken_83 (by decide) ?_
              refine v_aload_n C 0 dX6_nextToken_85 rfl ?_
              refine v_get C (v := .int (mdv f q k)) fl_X6_nextToken_88 0 rfl rfl dX6_nextToken_86 ?_
              refine v_imul C dX6_nextToken_89 ?_
              refine v_aload_n C 0 dX6_nextToken_90 rfl ?_
              refine v_get C (v := .ref mp) fl_X6_nextToken_25 0 rfl rfl dX6_nextToken_91 ?_
              refine v_aload_n C 0 dX6_nextToken_94 rfl ?_
              refine v_get C (v := .int (nI (q + k))) fl_X6_nextToken_79 0 rfl rfl dX6_nextToken_95 ?_
              refine v_iald C 1 0 rfl rfl (f (q + k)) (by rw [nI_clamp (by omega)]) (vp_in_nI (by omega) (by decide)) dX6_nextToken_98 ?_
              refine v_iadd C dX6_nextToken_99 ?_
              refine v_bipush C (v := 48) dX6_nextToken_100 (by decide) ?_
              refine v_isub C dX6_nextToken_102 ?_
              refine v_put C fl_X6_nextToken_88 fp_X6_12 0 rfl rfl rfl (Nat.le_of_ble_eq_true rfl) [(mo, .inr (6, [.ref ml, .ref mz, .ref mi, .int su, .int (b2 it), .ref mt, .ref mv, .ref mp, .int (nI len), .int lt, .int (nI (q + k)), .int 3, .int (((10 * (mdv f q k)) + (f (q + k))) - 48), .int (nI q), .int wr, .ref md, .ref mc, .int am, .ref mk, .ref mq, .ref mr, .int td])), (mp, .inl (cs 0, 120, .inl f))] rfl dX6_nextToken_103 ?_
              refine v_aload_n C 0 dX6_nextToken_106 rfl ?_
              refine v_dup C dX6_nextToken_107 rfl ?_
              refine v_get C (v := .int (nI (q + k))) fl_X6_nextToken_79 0 rfl rfl dX6_nextToken_108 ?_
              refine v_iconst C (v := 1) dX6_nextToken_111 (by decide) ?_
              refine v_iadd C dX6_nextToken_112 ?_
              refine V.topr (y := nI (q + k + 1)) (nI_1 _) ?_
              refine v_put C fl_X6_nextToken_79 fp_X6_10 0 rfl rfl rfl (Nat.le_of_ble_eq_true rfl) [(mo, .inr (6, [.ref ml, .ref mz, .ref mi, .int su, .int (b2 it), .ref mt, .ref mv, .ref mp, .int (nI len), .int lt, .int (nI (q + k + 1)), .int 3, .int (((10 * (mdv f q k)) + (f (q + k))) - 48), .int (nI q), .int wr, .ref md, .ref mc, .int am, .ref mk, .ref mq, .ref mr, .int td])), (mp, .inl (cs 0, 120, .inl f))] rfl dX6_nextToken_113 ?_
              refine v_goto C 33 dX6_nextToken_116 (by decide) ?_
              exact ih33 (k + 1) _ _ (rfl) (by rw [mdv, if_pos c25]) (⟨by omega, by rw [hk.2, show len - q - k = (len - q - (k + 1)) + 1 by omega, dg, if_pos (show fig (f (q + k)) = true from c21), Nat.add_assoc q k 1]; omega⟩) (by omega)
            · skip
              refine v_aload_n C 0 dX6_nextToken_76 rfl ?_
              refine v_get C (v := .int (mdv f q k)) fl_X6_nextToken_88 0 rfl rfl dX6_nextToken_77 ?_
              refine v_goto C 103 dX6_nextToken_80 (by decide) ?_
              refine v_put C fl_X6_nextToken_88 fp_X6_12 0 rfl rfl rfl (Nat.le_of_ble_eq_true rfl) [(mo, .inr (6, [.ref ml, .ref mz, .ref mi, .int su, .int (b2 it), .ref mt, .ref mv, .ref mp, .int (nI len), .int lt, .int (nI (q + k)), .int 3, .int (mdv f q k), .int (nI q), .int wr, .ref md, .ref mc, .int am, .ref mk, .ref mq, .ref mr, .int td])), (mp, .inl (cs 0, 120, .inl f))] rfl dX6_nextToken_103 ?_
              refine v_aload_n C 0 dX6_nextToken_106 rfl ?_
              refine v_dup C dX6_nextToken_107 rfl ?_
              refine v_get C (v := .int (nI (q + k))) fl_X6_nextToken_79 0 rfl rfl dX6_nextToken_108 ?_
              refine v_iconst C (v := 1) dX6_nextToken_111 (by decide) ?_
              refine v_iadd C dX6_nextToken_112 ?_
              refine V.topr (y := nI (q + k + 1)) (nI_1 _) ?_
              refine v_put C fl_X6_nextToken_79 fp_X6_10 0 rfl rfl rfl (Nat.le_of_ble_eq_true rfl) [(mo, .inr (6, [.ref ml, .ref mz, .ref mi, .int su, .int (b2 it), .ref mt, .ref mv, .ref mp, .int (nI len), .int lt, .int (nI (q + k + 1)), .int 3, .int (mdv f q k), .int (nI q), .int wr, .ref md, .ref mc, .int am, .ref mk, .ref mq, .ref mr, .int td])), (mp, .inl (cs 0, 120, .inl f))] rfl dX6_nextToken_113 ?_
              refine v_goto C 33 dX6_nextToken_116 (by decide) ?_
              exact ih33 (k + 1) _ _ (rfl) (by rw [mdv, if_neg c25]) (⟨by omega, by rw [hk.2, show len - q - k = (len - q - (k + 1)) + 1 by omega, dg, if_pos (show fig (f (q + k)) = true from c21), Nat.add_assoc q k 1]; omega⟩) (by omega)
    exact L33 _ 0 _ _ (rfl) (rfl) (⟨Nat.zero_le _, by rw [Nat.zero_add]; rfl⟩) (Nat.lt_succ_self _)
theorem kX6_faults : KD yX6_faults wsX6_faults cX6_faults 2 (some .boolean) 1 := ⟨⟨_, rfl⟩, by decide, by decide +kernel, by decide +kernel, by decide +kernel⟩
theorem in_X6_faults_X6 : ∀ w ∈ wsX60, w ∈ wsX6_faults := by decide +kernel
theorem fl_X6_faults_99 : FL RX6 wsX6_faults RX6 RX6 TX6 22 6 14 99 := ⟨⟨in_X6_faults_X6, rfl, by decide, rfl⟩, by decide +kernel⟩
theorem fp_X6_14 : FP TX6 22 14 tyX6 .int := ⟨tyX6_ok, nmX6, rfl, by decide +kernel⟩
set_option maxHeartbeats 4000000 in
set_option maxRecDepth 100000 in
theorem c_faults (l : Launch) (D : va_G) (cs : Nat → ClassId) {mo : Nat} {ml : Nat} {mz : Nat} {mi : Nat} {mt : Nat} {mv : Nat} {mp : Nat} {md : Nat} {mc : Nat} {mk : Nat} {mq : Nat} {mr : Nat} {su : Int32} {it : Bool} {nby : Int32} {lt : Int32} {pl : Int32} {tok : Int32} {va : Int32} {be : Int32} {wr : Int32} {am : Int32} {td : Int32} {x : Int32} : CT l D (tz cs) yX6_faults wsX6_faults ({ frames := 0, cells := 0, slots := 0, locals := 0 }) [.ref mo, .int x] [(mo, .inr (6, [.ref ml, .ref mz, .ref mi, .int su, .int (b2 it), .ref mt, .ref mv, .ref mp, .int nby, .int lt, .int pl, .int tok, .int va, .int be, .int wr, .ref md, .ref mc, .int am, .ref mk, .ref mq, .ref mr, .int td]))] (some (.int (b2 false))) [(mo, .inr (6, [.ref ml, .ref mz, .ref mi, .int su, .int (b2 it), .ref mt, .ref mv, .ref mp, .int nby, .int lt, .int pl, .int tok, .int va, .int be, .int x, .ref md, .ref mc, .int am, .ref mk, .ref mq, .ref mr, .int td]))] := by
  refine CT.of kX6_faults (Nat.le_of_ble_eq_true rfl) ?_
  intro p e s m below meth c A C E
  have C : VOk p s m _ c cX6_faults 2 wsX6_faults RX6 D (tz cs) A s.heap := C
  refine V.lvs (lv' := [(0, .ref mo), (1, .int x)]) [0, 1] rfl ?_
  refine v_aload_n C 0 dX6_faults_0 rfl ?_
  refine v_iload_n C 1 dX6_faults_1 rfl ?_
  refine v_put C fl_X6_faults_99 fp_X6_14 0 rfl rfl rfl (Nat.le_of_ble_eq_true rfl) [(mo, .inr (6, [.ref ml, .ref mz, .ref mi, .int su, .int (b2 it), .ref mt, .ref mv, .ref mp, .int nby, .int lt, .int pl, .int tok, .int va, .int be, .int x, .ref md, .ref mc, .int am, .ref mk, .ref mq, .ref mr, .int td]))] rfl dX6_faults_2 ?_
  refine v_iconst C (v := 0) dX6_faults_5 (by decide) ?_
  exact v_zret C E (rfl) (by first | rfl | (simp [↓reduceIte]; done) | (simp_all [b2]; done)) dX6_faults_6
theorem kX6_isLetter : KD yX6_isLetter wsX6_isLetter cX6_isLetter 2 (some .boolean) 1 := ⟨⟨_, rfl⟩, by decide, by decide +kernel, by decide +kernel, by decide +kernel⟩
theorem in_X6_isLetter_X6 : ∀ w ∈ wsX60, w ∈ wsX6_isLetter := by decide +kernel
theorem fl_X6_isLetter_85 : FL RX6 wsX6_isLetter RX6 RX6 TX6 22 6 11 85 := ⟨⟨in_X6_isLetter_X6, rfl, by decide, rfl⟩, by decide +kernel⟩
theorem fl_X6_isLetter_88 : FL RX6 wsX6_isLetter RX6 RX6 TX6 22 6 12 88 := ⟨⟨in_X6_isLetter_X6, rfl, by decide, rfl⟩, by decide +kernel⟩
set_option maxHeartbeats 4000000 in
set_option maxRecDepth 100000 in
theorem c_isLetter (l : Launch) (D : va_G) (cs : Nat → ClassId) {mo : Nat} {ml : Nat} {mz : Nat} {mi : Nat} {mt : Nat} {mv : Nat} {mp : Nat} {md : Nat} {mc : Nat} {mk : Nat} {mq : Nat} {mr : Nat} {su : Int32} {it : Bool} {nby : Int32} {lt : Int32} {pl : Int32} {tok : Int32} {va : Int32} {be : Int32} {wr : Int32} {am : Int32} {td : Int32} {x : Int32} : CT l D (tz cs) yX6_isLetter wsX6_isLetter ({ frames := 0, cells := 0, slots := 0, locals := 0 }) [.ref mo, .int x] [(mo, .inr (6, [.ref ml, .ref mz, .ref mi, .int su, .int (b2 it), .ref mt, .ref mv, .ref mp, .int nby, .int lt, .int pl, .int tok, .int va, .int be, .int wr, .ref md, .ref mc, .int am, .ref mk, .ref mq, .ref mr, .int td]))] (some (.int (b2 (if tok = 1 then (if va = x then true else false) else false)))) [(mo, .inr (6, [.ref ml, .ref mz, .ref mi, .int su, .int (b2 it), .ref mt, .ref mv, .ref mp, .int nby, .int lt, .int pl, .int tok, .int va, .int be, .int wr, .ref md, .ref mc, .int am, .ref mk, .ref mq, .ref mr, .int td]))] := by
  refine CT.of kX6_isLetter (Nat.le_of_ble_eq_true rfl) ?_
  intro p e s m below meth c A C E
  have C : VOk p s m _ c cX6_isLetter 2 wsX6_isLetter RX6 D (tz cs) A s.heap := C
  refine V.lvs (lv' := [(0, .ref mo), (1, .int x)]) [0, 1] rfl ?_
  refine v_aload_n C 0 dX6_isLetter_0 rfl ?_
  refine v_get C (v := .int tok) fl_X6_isLetter_85 0 rfl rfl dX6_isLetter_1 ?_
  refine v_iconst C (v := 1) dX6_isLetter_4 (by decide) ?_
  refine v_icmp_ne C 20 dX6_isLetter_5 (by decide) (fun c1 => ?_) (fun c1 => ?_)
  · skip
    refine v_iconst C (v := 0) dX6_isLetter_20 (by decide) ?_
    exact v_zret C E (by first | rfl | (simp only [b2, c1, ↓reduceIte, Bool.false_eq_true, reduceCtorEq, Bool.and_true, Bool.true_and, Bool.and_false, Bool.false_and]; done) | (simp [b2, c1]; done) | (simp_all [b2]; done)) (by first | rfl | (simp only [b2, c1, ↓reduceIte, Bool.false_eq_true, reduceCtorEq, Bool.and_true, Bool.true_and, Bool.and_false, Bool.false_and]; done) | (simp [b2, c1]; done) | (simp_all [b2]; done)) dX6_isLetter_21
  · skip
    refine v_aload_n C 0 dX6_isLetter_8 rfl ?_
    refine v_get C (v := .int va) fl_X6_isLetter_88 0 rfl rfl dX6_isLetter_9 ?_
    refine v_iload_n C 1 dX6_isLetter_12 rfl ?_
    refine v_icmp_ne C 20 dX6_isLetter_13 (by decide) (fun c2 => ?_) (fun c2 => ?_)
    · skip
      refine v_iconst C (v := 0) dX6_isLetter_20 (by decide) ?_
      exact v_zret C E (by first | rfl | (simp only [b2, c1, c2, ↓reduceIte, Bool.false_eq_true, reduceCtorEq, Bool.and_true, Bool.true_and, Bool.and_false, Bool.false_and]; done) | (simp [b2, c1, c2]; done) | (simp_all [b2]; done)) (by first | rfl | (simp only [b2, c1, c2, ↓reduceIte, Bool.false_eq_true, reduceCtorEq, Bool.and_true, Bool.true_and, Bool.and_false, Bool.false_and]; done) | (simp [b2, c1, c2]; done) | (simp_all [b2]; done)) dX6_isLetter_21
    · skip
      refine v_iconst C (v := 1) dX6_isLetter_16 (by decide) ?_
      refine v_goto C 21 dX6_isLetter_17 (by decide) ?_
      exact v_zret C E (by first | rfl | (simp only [b2, c1, c2, ↓reduceIte, Bool.false_eq_true, reduceCtorEq, Bool.and_true, Bool.true_and, Bool.and_false, Bool.false_and]; done) | (simp [b2, c1, c2]; done) | (simp_all [b2]; done)) (by first | rfl | (simp only [b2, c1, c2, ↓reduceIte, Bool.false_eq_true, reduceCtorEq, Bool.and_true, Bool.true_and, Bool.and_false, Bool.false_and]; done) | (simp [b2, c1, c2]; done) | (simp_all [b2]; done)) dX6_isLetter_21
theorem kX6_takes : KD yX6_takes wsX6_takes cX6_takes 2 (some .boolean) 1 := ⟨⟨_, rfl⟩, by decide, by decide +kernel, by decide +kernel, by decide +kernel⟩
set_option maxHeartbeats 4000000 in
set_option maxRecDepth 100000 in
theorem c_takes (l : Launch) (D : va_G) (cs : Nat → ClassId) {mo : Nat} {ml : Nat} {mz : Nat} {mi : Nat} {mt : Nat} {mv : Nat} {mp : Nat} {md : Nat} {mc : Nat} {mk : Nat} {mq : Nat} {mr : Nat} {su : Int32} {it : Bool} {lt : Int32} {wr : Int32} {am : Int32} {td : Int32} {f : Nat → Int32} {len : Nat} {q : Nat} {x : Int32} (hlen : len ≤ 120) (hq : q ≤ len) : CT l D (tz cs) yX6_takes wsX6_takes ({ frames := 2, cells := 0, slots := 0, locals := 45 }) [.ref mo, .int x] [(mo, .inr (6, [.ref ml, .ref mz, .ref mi, .int su, .int (b2 it), .ref mt, .ref mv, .ref mp, .int (nI len), .int lt, .int (nI (tkN f len q)), .int (mtk f len q), .int (mva f len q), .int (nI q), .int wr, .ref md, .ref mc, .int am, .ref mk, .ref mq, .ref mr, .int td])), (mp, .inl (cs 0, 120, .inl f))] (some (.int (b2 (isL f len q x)))) [(mo, .inr (6, [.ref ml, .ref mz, .ref mi, .int su, .int (b2 it), .ref mt, .ref mv, .ref mp, .int (nI len), .int lt, .int (nI (tkN f len (if isL f len q x = true then tkN f len q else q))), .int (mtk f len (if isL f len q x = true then tkN f len q else q)), .int (mva f len (if isL f len q x = true then tkN f len q else q)), .int (nI (if isL f len q x = true then tkN f len q else q)), .int (if isL f len q x = true then wr else 1), .ref md, .ref mc, .int am, .ref mk, .ref mq, .ref mr, .int td])), (mp, .inl (cs 0, 120, .inl f))] := by
  refine CT.of kX6_takes (Nat.le_of_ble_eq_true rfl) ?_
  intro p e s m below meth c A C E
  have C : VOk p s m _ c cX6_takes 2 wsX6_takes RX6 D (tz cs) A s.heap := C
  refine V.lvs (lv' := [(0, .ref mo), (1, .int x)]) [0, 1] rfl ?_
  refine v_aload_n C 0 dX6_takes_0 rfl ?_
  refine v_iload_n C 1 dX6_takes_1 rfl ?_
  refine v_callV (qi := 0) C [.int x] [] kX6_isLetter gX6_takes_X6_isLetter (c_isLetter l D cs (mo := mo) (ml := ml) (mz := mz) (mi := mi) (mt := mt) (mv := mv) (mp := mp) (md := md) (mc := mc) (mk := mk) (mq := mq) (mr := mr) (su := su) (it := it) (nby := (nI len)) (lt := lt) (pl := (nI (tkN f len q))) (tok := (mtk f len q)) (va := (mva f len q)) (be := (nI q)) (wr := wr) (am := am) (td := td) (x := x) ) ⟨Nat.le_of_ble_eq_true rfl, Nat.le_of_ble_eq_true rfl⟩ ⟨rfl, rfl⟩ ⟨Nat.zero_le _, Nat.zero_le _⟩ rfl 0 rfl rfl rfl rfl (Nat.le_of_ble_eq_true rfl) [0] [(mo, .inr (6, [.ref ml, .ref mz, .ref mi, .int su, .int (b2 it), .ref mt, .ref mv, .ref mp, .int (nI len), .int lt, .int (nI (tkN f len q)), .int (mtk f len q), .int (mva f len q), .int (nI q), .int wr, .ref md, .ref mc, .int am, .ref mk, .ref mq, .ref mr, .int td])), (mp, .inl (cs 0, 120, .inl f))] rfl (by decide) (show [mo] = [mo] from rfl) (rfl) dX6_takes_2 ?_
  refine V.sts (st' := [.int (b2 (if (mtk f len q) = 1 then (if (mva f len q) = x then true else false) else false))]) rfl ?_
  refine v_if_neB C 14 dX6_takes_5 (by decide) (fun c1 => ?_) (fun c1 => ?_)
  · skip
    refine v_aload_n C 0 dX6_takes_14 rfl ?_
    refine v_callV (qi := 0) C [] [] kX6_nextToken gX6_takes_X6_nextToken (c_nextToken l D cs (mo := mo) (ml := ml) (mz := mz) (mi := mi) (mt := mt) (mv := mv) (mp := mp) (md := md) (mc := mc) (mk := mk) (mq := mq) (mr := mr) (su := su) (it := it) (lt := lt) (tok := (mtk f len q)) (va := (mva f len q)) (be := (nI q)) (wr := wr) (am := am) (td := td) (f := f) (len := len) (q := (tkN f len q)) (by first | assumption | omega) (tkN_le hq)) ⟨Nat.le_of_ble_eq_true rfl, Nat.le_of_ble_eq_true rfl⟩ ⟨rfl, rfl⟩ ⟨Nat.zero_le _, Nat.zero_le _⟩ rfl 0 rfl rfl rfl rfl (Nat.le_of_ble_eq_true rfl) [0, 1] [(mo, .inr (6, [.ref ml, .ref mz, .ref mi, .int su, .int (b2 it), .ref mt, .ref mv, .ref mp, .int (nI len), .int lt, .int (nI (tkN f len (tkN f len q))), .int (mtk f len (tkN f len q)), .int (mva f len (tkN f len q)), .int (nI (tkN f len q)), .int wr, .ref md, .ref mc, .int am, .ref mk, .ref mq, .ref mr, .int td])), (mp, .inl (cs 0, 120, .inl f))] rfl (by decide) (show [mo, mp] = [mo, mp] from rfl) (rfl) dX6_takes_15 ?_
    refine V.sts (st' := []) rfl ?_
    refine v_iconst C (v := 1) dX6_takes_18 (by decide) ?_
    exact v_zret C E (by have hL : isL f len q x = true := c1; simp only [hL, ↓reduceIte, Bool.false_eq_true]) ((congrArg b2 (show isL f len q x = true from c1)).symm) dX6_takes_19
  · skip
    refine v_aload_n C 0 dX6_takes_8 rfl ?_
    refine v_iconst C (v := 1) dX6_takes_9 (by decide) ?_
    refine v_callV (qi := 0) C [.int 1] [] kX6_faults gX6_takes_X6_faults (c_faults l D cs (mo := mo) (ml := ml) (mz := mz) (mi := mi) (mt := mt) (mv := mv) (mp := mp) (md := md) (mc := mc) (mk := mk) (mq := mq) (mr := mr) (su := su) (it := it) (nby := (nI len)) (lt := lt) (pl := (nI (tkN f len q))) (tok := (mtk f len q)) (va := (mva f len q)) (be := (nI q)) (wr := wr) (am := am) (td := td) (x := 1) ) ⟨Nat.le_of_ble_eq_true rfl, Nat.le_of_ble_eq_true rfl⟩ ⟨rfl, rfl⟩ ⟨Nat.zero_le _, Nat.zero_le _⟩ rfl 0 rfl rfl rfl rfl (Nat.le_of_ble_eq_true rfl) [0] [(mo, .inr (6, [.ref ml, .ref mz, .ref mi, .int su, .int (b2 it), .ref mt, .ref mv, .ref mp, .int (nI len), .int lt, .int (nI (tkN f len q)), .int (mtk f len q), .int (mva f len q), .int (nI q), .int 1, .ref md, .ref mc, .int am, .ref mk, .ref mq, .ref mr, .int td])), (mp, .inl (cs 0, 120, .inl f))] rfl (by decide) (show [mo] = [mo] from rfl) (rfl) dX6_takes_10 ?_
    refine V.sts (st' := [.int (b2 false)]) rfl ?_
    exact v_zret C E (by have hL : isL f len q x = false := c1; simp only [hL, ↓reduceIte, Bool.false_eq_true]) ((congrArg b2 (show isL f len q x = false from c1)).symm) dX6_takes_13
theorem kX6_takesNumber : KD yX6_takesNumber wsX6_takesNumber cX6_takesNumber 5 (some .boolean) 4 := ⟨⟨_, rfl⟩, by decide, by decide +kernel, by decide +kernel, by decide +kernel⟩
theorem in_X6_takesNumber_X6 : ∀ w ∈ wsX60, w ∈ wsX6_takesNumber := by decide +kernel
theorem fl_X6_takesNumber_85 : FL RX6 wsX6_takesNumber RX6 RX6 TX6 22 6 11 85 := ⟨⟨in_X6_takesNumber_X6, rfl, by decide, rfl⟩, by decide +kernel⟩
theorem fl_X6_takesNumber_88 : FL RX6 wsX6_takesNumber RX6 RX6 TX6 22 6 12 88 := ⟨⟨in_X6_takesNumber_X6, rfl, by decide, rfl⟩, by decide +kernel⟩
theorem fl_X6_takesNumber_28 : FL RX6 wsX6_takesNumber RX6 RX6 TX6 22 6 15 28 := ⟨⟨in_X6_takesNumber_X6, rfl, by decide, rfl⟩, by decide +kernel⟩
set_option maxHeartbeats 4000000 in
set_option maxRecDepth 100000 in
theorem c_takesNumber (l : Launch) (D : va_G) (cs : Nat → ClassId) {mo : Nat} {ml : Nat} {mz : Nat} {mi : Nat} {mt : Nat} {mv : Nat} {mp : Nat} {md : Nat} {mc : Nat} {mk : Nat} {mq : Nat} {mr : Nat} {su : Int32} {it : Bool} {lt : Int32} {wr : Int32} {am : Int32} {td : Int32} {f : Nat → Int32} {len : Nat} {d : Nat → Int32} {q : Nat} {k : Nat} {lo : Int32} {hi : Int32} {sg : Int32} (hlen : len ≤ 120) (hq : q ≤ len) (hk : k < 29) : CT l D (tz cs) yX6_takesNumber wsX6_takesNumber ({ frames := 3, cells := 0, slots := 0, locals := 66 }) [.ref mo, .int lo, .int hi, .int (nI k), .int sg] [(mo, .inr (6, [.ref ml, .ref mz, .ref mi, .int su, .int (b2 it), .ref mt, .ref mv, .ref mp, .int (nI len), .int lt, .int (nI (tkN f len q)), .int (mtk f len q), .int (mva f len q), .int (nI q), .int wr, .ref md, .ref mc, .int am, .ref mk, .ref mq, .ref mr, .int td])), (mp, .inl (cs 0, 120, .inl f)), (md, .inl (cs 0, 29, .inl d))] (some (.int (b2 (decide (nfM f len q lo hi = 0) && isL f len (tkN f len q) sg)))) [(mo, .inr (6, [.ref ml, .ref mz, .ref mi, .int su, .int (b2 it), .ref mt, .ref mv, .ref mp, .int (nI len), .int lt, .int (nI (tkN f len (if nfM f len q lo hi = 0 then (if isL f len (tkN f len q) sg = true then tkN f len (tkN f len q) else tkN f len q) else q))), .int (mtk f len (if nfM f len q lo hi = 0 then (if isL f len (tkN f len q) sg = true then tkN f len (tkN f len q) else tkN f len q) else q)), .int (mva f len (if nfM f len q lo hi = 0 then (if isL f len (tkN f len q) sg = true then tkN f len (tkN f len q) else tkN f len q) else q)), .int (nI (if nfM f len q lo hi = 0 then (if isL f len (tkN f len q) sg = true then tkN f len (tkN f len q) else tkN f len q) else q)), .int (if nfM f len q lo hi = 0 then (if isL f len (tkN f len q) sg = true then wr else 1) else nfM f len q lo hi), .ref md, .ref mc, .int am, .ref mk, .ref mq, .ref mr, .int td])), (mp, .inl (cs 0, 120, .inl f)), (md, .inl (cs 0, 29, .inl (if nfM f len q lo hi = 0 then upd d k (mva f len q) else d)))] := by
  refine CT.of kX6_takesNumber (Nat.le_of_ble_eq_true rfl) ?_
  intro p e s m below meth c A C E
  have C : VOk p s m _ c cX6_takesNumber 5 wsX6_takesNumber RX6 D (tz cs) A s.heap := C
  refine V.lvs (lv' := [(0, .ref mo), (1, .int lo), (2, .int hi), (3, .int (nI k)), (4, .int sg)]) [0, 1, 2, 3, 4] rfl ?_
  refine v_aload_n C 0 dX6_takesNumber_0 rfl ?_
  refine v_get C (v := .int (mtk f len q)) fl_X6_takesNumber_85 0 rfl rfl dX6_takesNumber_1 ?_
  refine v_iconst C (v := 2) dX6_takesNumber_4 (by decide) ?_
  refine v_icmp_ne C 23 dX6_takesNumber_5 (by decide) (fun c1 => ?_) (fun c1 => ?_)
  · skip
    refine v_aload_n C 0 dX6_takesNumber_23 rfl ?_
    refine v_aload_n C 0 dX6_takesNumber_24 rfl ?_
    refine v_get C (v := .int (mtk f len q)) fl_X6_takesNumber_85 0 rfl rfl dX6_takesNumber_25 ?_
    refine v_iconst C (v := 2) dX6_takesNumber_28 (by decide) ?_
    refine v_icmp_ne C 36 dX6_takesNumber_29 (by decide) (fun c2 => ?_) (fun c2 => ?_)
    · skip
      refine v_iconst C (v := 1) dX6_takesNumber_36 (by decide) ?_
      refine v_callV (qi := 0) C [.int 1] [] kX6_faults gX6_takesNumber_X6_faults (c_faults l D cs (mo := mo) (ml := ml) (mz := mz) (mi := mi) (mt := mt) (mv := mv) (mp := mp) (md := md) (mc := mc) (mk := mk) (mq := mq) (mr := mr) (su := su) (it := it) (nby := (nI len)) (lt := lt) (pl := (nI (tkN f len q))) (tok := (mtk f len q)) (va := (mva f len q)) (be := (nI q)) (wr := wr) (am := am) (td := td) (x := 1) ) ⟨Nat.le_of_ble_eq_true rfl, Nat.le_of_ble_eq_true rfl⟩ ⟨rfl, rfl⟩ ⟨Nat.zero_le _, Nat.zero_le _⟩ rfl 0 rfl rfl rfl rfl (Nat.le_of_ble_eq_true rfl) [0] [(mo, .inr (6, [.ref ml, .ref mz, .ref mi, .int su, .int (b2 it), .ref mt, .ref mv, .ref mp, .int (nI len), .int lt, .int (nI (tkN f len q)), .int (mtk f len q), .int (mva f len q), .int (nI q), .int 1, .ref md, .ref mc, .int am, .ref mk, .ref mq, .ref mr, .int td])), (mp, .inl (cs 0, 120, .inl f)), (md, .inl (cs 0, 29, .inl d))] rfl (by decide) (show [mo] = [mo] from rfl) (rfl) dX6_takesNumber_37 ?_
      refine V.sts (st' := [.int (b2 false)]) rfl ?_
      exact v_zret C E (by first | rfl | (simp only [nfM, c1, c2, show ¬ (2 : Int32) = 0 by decide, show ¬ (1 : Int32) = 0 by decide, ↓reduceIte, Bool.false_eq_true, reduceCtorEq, Bool.and_true, Bool.true_and, Bool.and_false, Bool.false_and]; done) | (simp [nfM, c1, c2, show ¬ (2 : Int32) = 0 by decide, show ¬ (1 : Int32) = 0 by decide]; done) | (simp_all [nfM]; done)) (by first | rfl | (simp only [nfM, decide_true, decide_false, c1, c2, show ¬ (2 : Int32) = 0 by decide, show ¬ (1 : Int32) = 0 by decide, ↓reduceIte, Bool.false_eq_true, reduceCtorEq, Bool.and_true, Bool.true_and, Bool.and_false, Bool.false_and]; done) | (simp [nfM, decide_true, decide_false, c1, c2, show ¬ (2 : Int32) = 0 by decide, show ¬ (1 : Int32) = 0 by decide]; done) | (simp_all [nfM, decide_true, decide_false]; done)) dX6_takesNumber_40
    · exact absurd c2 c1
  · skip
    refine v_aload_n C 0 dX6_takesNumber_8 rfl ?_
    refine v_get C (v := .int (mva f len q)) fl_X6_takesNumber_88 0 rfl rfl dX6_takesNumber_9 ?_
    refine v_i2l C dX6_takesNumber_12 ?_
    refine v_iload_n C 1 dX6_takesNumber_13 rfl ?_
    refine v_i2l C dX6_takesNumber_14 ?_
    refine v_iload_n C 2 dX6_takesNumber_15 rfl ?_
    refine v_i2l C dX6_takesNumber_16 ?_
    refine v_callS C [.long (Int32.toInt64 (mva f len q)), .long (Int32.toInt64 lo), .long (Int32.toInt64 hi)] [] kX6_in gX6_takesNumber_X6_in (c_inI l D cs (x := (mva f len q)) (a := lo) (b := hi) (lo := (Int32.toInt64 lo)) (hi := (Int32.toInt64 hi)) (rfl) (rfl)) ⟨Nat.le_of_ble_eq_true rfl, Nat.le_of_ble_eq_true rfl⟩ ⟨rfl, rfl⟩ ⟨Nat.zero_le _, Nat.zero_le _⟩ rfl rfl (Nat.le_of_ble_eq_true rfl) [] [(mo, .inr (6, [.ref ml, .ref mz, .ref mi, .int su, .int (b2 it), .ref mt, .ref mv, .ref mp, .int (nI len), .int lt, .int (nI (tkN f len q)), .int (mtk f len q), .int (mva f len q), .int (nI q), .int wr, .ref md, .ref mc, .int am, .ref mk, .ref mq, .ref mr, .int td])), (mp, .inl (cs 0, 120, .inl f)), (md, .inl (cs 0, 29, .inl d))] rfl (by decide) rfl (rfl) dX6_takesNumber_17 ?_
    refine V.sts (st' := [.int (b2 (inI (mva f len q) lo hi))]) rfl ?_
    refine v_if_neB C 41 dX6_takesNumber_20 (by decide) (fun c3 => ?_) (fun c3 => ?_)
    · skip
      refine v_aload_n C 0 dX6_takesNumber_41 rfl ?_
      refine v_get C (v := .ref md) fl_X6_takesNumber_28 0 rfl rfl dX6_takesNumber_42 ?_
      refine v_iload_n C 3 dX6_takesNumber_45 rfl ?_
      refine v_aload_n C 0 dX6_takesNumber_46 rfl ?_
      refine v_get C (v := .int (mva f len q)) fl_X6_takesNumber_88 0 rfl rfl dX6_takesNumber_47 ?_
      refine v_iast C 2 0 rfl rfl (vp_in_nI (by omega) (by omega)) [(mo, .inr (6, [.ref ml, .ref mz, .ref mi, .int su, .int (b2 it), .ref mt, .ref mv, .ref mp, .int (nI len), .int lt, .int (nI (tkN f len q)), .int (mtk f len q), .int (mva f len q), .int (nI q), .int wr, .ref md, .ref mc, .int am, .ref mk, .ref mq, .ref mr, .int td])), (mp, .inl (cs 0, 120, .inl f)), (md, .inl (cs 0, 29, .inl (upd d k (mva f len q))))] (by rw [nI_clamp (by omega)]; rfl) dX6_takesNumber_50 ?_
      refine v_aload_n C 0 dX6_takesNumber_51 rfl ?_
      refine v_callV (qi := 0) C [] [] kX6_nextToken gX6_takesNumber_X6_nextToken (c_nextToken l D cs (mo := mo) (ml := ml) (mz := mz) (mi := mi) (mt := mt) (mv := mv) (mp := mp) (md := md) (mc := mc) (mk := mk) (mq := mq) (mr := mr) (su := su) (it := it) (lt := lt) (tok := (mtk f len q)) (va := (mva f len q)) (be := (nI q)) (wr := wr) (am := am) (td := td) (f := f) (len := len) (q := (tkN f len q)) (by first | assumption | omega) (by first | exact hq | exact tkN_le hq)) ⟨Nat.le_of_ble_eq_true rfl, Nat.le_of_ble_eq_true rfl⟩ ⟨rfl, rfl⟩ ⟨Nat.zero_le _, Nat.zero_le _⟩ rfl 0 rfl rfl rfl rfl (Nat.le_of_ble_eq_true rfl) [0, 1] [(mo, .inr (6, [.ref ml, .ref mz, .ref mi, .int su, .int (b2 it), .ref mt, .ref mv, .ref mp, .int (nI len), .int lt, .int (nI (tkN f len (tkN f len q))), .int (mtk f len (tkN f len q)), .int (mva f len (tkN f len q)), .int (nI (tkN f len q)), .int wr, .ref md, .ref mc, .int am, .ref mk, .ref mq, .ref mr, .int td])), (mp, .inl (cs 0, 120, .inl f)), (md, .inl (cs 0, 29, .inl (upd d k (mva f len q))))] rfl (by decide) (show [mo, mp] = [mo, mp] from rfl) (rfl) dX6_takesNumber_52 ?_
      refine V.sts (st' := []) rfl ?_
      refine v_aload_n C 0 dX6_takesNumber_55 rfl ?_
      refine v_iload C 4 dX6_takesNumber_56 rfl ?_
      refine v_callV (qi := 0) C [.int sg] [] kX6_takes gX6_takesNumber_X6_takes (c_takes l D cs (mo := mo) (ml := ml) (mz := mz) (mi := mi) (mt := mt) (mv := mv) (mp := mp) (md := md) (mc := mc) (mk := mk) (mq := mq) (mr := mr) (su := su) (it := it) (lt := lt) (wr := wr) (am := am) (td := td) (f := f) (len := len) (q := (tkN f len q)) (x := sg) (by first | assumption | omega) (by first | exact hq | exact tkN_le hq)) ⟨Nat.le_of_ble_eq_true rfl, Nat.le_of_ble_eq_true rfl⟩ ⟨rfl, rfl⟩ ⟨Nat.zero_le _, Nat.zero_le _⟩ rfl 0 rfl rfl rfl rfl (Nat.le_of_ble_eq_true rfl) [0, 1] [(mo, .inr (6, [.ref ml, .ref mz, .ref mi, .int su, .int (b2 it), .ref mt, .ref mv, .ref mp, .int (nI len), .int lt, .int (nI (tkN f len (if isL f len (tkN f len q) sg = true then tkN f len (tkN f len q) else (tkN f len q)))), .int (mtk f len (if isL f len (tkN f len q) sg = true then tkN f len (tkN f len q) else (tkN f len q))), .int (mva f len (if isL f len (tkN f len q) sg = true then tkN f len (tkN f len q) else (tkN f len q))), .int (nI (if isL f len (tkN f len q) sg = true then tkN f len (tkN f len q) else (tkN f len q))), .int (if isL f len (tkN f len q) sg = true then wr else 1), .ref md, .ref mc, .int am, .ref mk, .ref mq, .ref mr, .int td])), (mp, .inl (cs 0, 120, .inl f)), (md, .inl (cs 0, 29, .inl (upd d k (mva f len q))))] rfl (by decide) (show [mo, mp] = [mo, mp] from rfl) (rfl) dX6_takesNumber_58 ?_
      refine V.sts (st' := [.int (b2 (isL f len (tkN f len q) sg))]) rfl ?_
      exact v_zret C E (by first | rfl | (simp only [nfM, c1, c3, show ¬ (2 : Int32) = 0 by decide, show ¬ (1 : Int32) = 0 by decide, ↓reduceIte, Bool.false_eq_true, reduceCtorEq, Bool.and_true, Bool.true_and, Bool.and_false, Bool.false_and]; done) | (simp [nfM, c1, c3, show ¬ (2 : Int32) = 0 by decide, show ¬ (1 : Int32) = 0 by decide]; done) | (simp_all [nfM]; done)) (by first | rfl | (simp only [nfM, decide_true, decide_false, c1, c3, show ¬ (2 : Int32) = 0 by decide, show ¬ (1 : Int32) = 0 by decide, ↓reduceIte, Bool.false_eq_true, reduceCtorEq, Bool.and_true, Bool.true_and, Bool.and_false, Bool.false_and]; done) | (simp [nfM, decide_true, decide_false, c1, c3, show ¬ (2 : Int32) = 0 by decide, show ¬ (1 : Int32) = 0 by decide]; done) | (simp_all [nfM, decide_true, decide_false]; done)) dX6_takesNumber_61
    · skip
      refine v_aload_n C 0 dX6_takesNumber_23 rfl ?_
      refine v_aload_n C 0 dX6_takesNumber_24 rfl ?_
      refine v_get C (v := .int (mtk f len q)) fl_X6_takesNumber_85 0 rfl rfl dX6_takesNumber_25 ?_
      refine v_iconst C (v := 2) dX6_takesNumber_28 (by decide) ?_
      refine v_icmp_ne C 36 dX6_takesNumber_29 (by decide) (fun c4 => ?_) (fun c4 => ?_)
      · exact absurd c1 c4
      · skip
        refine v_iconst C (v := 2) dX6_takesNumber_32 (by decide) ?_
        refine v_goto C 37 dX6_takesNumber_33 (by decide) ?_
        refine v_callV (qi := 0) C [.int 2] [] kX6_faults gX6_takesNumber_X6_faults (c_faults l D cs (mo := mo) (ml := ml) (mz := mz) (mi := mi) (mt := mt) (mv := mv) (mp := mp) (md := md) (mc := mc) (mk := mk) (mq := mq) (mr := mr) (su := su) (it := it) (nby := (nI len)) (lt := lt) (pl := (nI (tkN f len q))) (tok := (mtk f len q)) (va := (mva f len q)) (be := (nI q)) (wr := wr) (am := am) (td := td) (x := 2) ) ⟨Nat.le_of_ble_eq_true rfl, Nat.le_of_ble_eq_true rfl⟩ ⟨rfl, rfl⟩ ⟨Nat.zero_le _, Nat.zero_le _⟩ rfl 0 rfl rfl rfl rfl (Nat.le_of_ble_eq_true rfl) [0] [(mo, .inr (6, [.ref ml, .ref mz, .ref mi, .int su, .int (b2 it), .ref mt, .ref mv, .ref mp, .int (nI len), .int lt, .int (nI (tkN f len q)), .int (mtk f len q), .int (mva f len q), .int (nI q), .int 2, .ref md, .ref mc, .int am, .ref mk, .ref mq, .ref mr, .int td])), (mp, .inl (cs 0, 120, .inl f)), (md, .inl (cs 0, 29, .inl d))] rfl (by decide) (show [mo] = [mo] from rfl) (rfl) dX6_takesNumber_37 ?_
        refine V.sts (st' := [.int (b2 false)]) rfl ?_
        exact v_zret C E (by first | rfl | (simp only [nfM, c1, c3, c4, show ¬ (2 : Int32) = 0 by decide, show ¬ (1 : Int32) = 0 by decide, ↓reduceIte, Bool.false_eq_true, reduceCtorEq, Bool.and_true, Bool.true_and, Bool.and_false, Bool.false_and]; done) | (simp [nfM, c1, c3, c4, show ¬ (2 : Int32) = 0 by decide, show ¬ (1 : Int32) = 0 by decide]; done) | (simp_all [nfM]; done)) (by first | rfl | (simp only [nfM, decide_true, decide_false, c1, c3, c4, show ¬ (2 : Int32) = 0 by decide, show ¬ (1 : Int32) = 0 by decide, ↓reduceIte, Bool.false_eq_true, reduceCtorEq, Bool.and_true, Bool.true_and, Bool.and_false, Bool.false_and]; done) | (simp [nfM, decide_true, decide_false, c1, c3, c4, show ¬ (2 : Int32) = 0 by decide, show ¬ (1 : Int32) = 0 by decide]; done) | (simp_all [nfM, decide_true, decide_false]; done)) dX6_takesNumber_40
