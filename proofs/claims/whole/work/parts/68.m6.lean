set_option maxHeartbeats 1000000 in
set_option maxRecDepth 100000 in
theorem c_M_shift (l : Launch) (D : va_G) (g : Nat → ClassId) (ad : Nat → Nat) (tb : Nat) (sa : Nat → Nat) (w : Wd) (sz : Nat) (mo : Nat) (ml : Nat → Nat) (cd mn : Nat) (ki on tw od fa st rs : Nat → Nat) (me fo fd : Nat) (ba ta by9 : Nat → Nat) (nd : Nat → Bool) (hD : moD ml) (hM0 : moW g w mo ml cd mn ki on tw od fa st rs me fo fd ba ta by9 nd) (hmn : mn ≤ 40) (f9 k9 : Int32) : MI l D g ad tb sa yM_shift cM_shift 3 (some (.int)) 3 68 0 0 w sz [.ref mo, .int f9, .int k9] (fun r w' => moF mo ml w w' ∧ ((mayC mn f9 f9 ≠ 0 ∧ moW g w' mo ml (mayC mn f9 f9) mn ki on tw od fa st rs me fo fd ba ta by9 nd) ∨ (mayC mn f9 f9 = 0 ∧ ¬ inC 9 k9 ∧ moW g w' mo ml 3 mn ki on tw od fa st rs me fo fd ba ta by9 nd) ∨ (mayC mn f9 f9 = 0 ∧ ∃ f k, f < mn ∧ f9 = nI f ∧ k < 9 ∧ k9 = nI k ∧ mn < 40 ∧ r = nI mn ∧ moW g w' mo ml (mayC mn f9 f9) (mn + 1) (va_up ki mn 5) (va_up on mn f) (va_up tw mn k) od fa st rs me fo fd ba ta by9 nd))) := by
  refine hm_MI (by decide) (Nat.le_of_ble_eq_true rfl) ?_
  intro p e s m below meth c A ls hx hb hr hml hts hown hlocks hin hout hsz hW hK hk hS hAA hl
  have hl : lv_has ls 3 [(0, .ref mo), (1, .int f9), (2, .int k9)] := hl
  have hM := hM0
  have hFr : moF mo ml w w := moF.rf
  have hbm := bz_le (decide (mayC mn f9 f9 = 0))
  refine lv_aload_n hx hb dM_shift_0 rfl (lv_at hl 0 rfl) ?_
  refine lv_iload_n hx hb dM_shift_1 rfl (lv_at hl 1 rfl) ?_
  refine lv_iload_n hx hb dM_shift_2 rfl (lv_at hl 1 rfl) ?_
  refine kc_VI (n := 2) (As := [.int f9, .int f9]) (rest := []) ⟨hx, hb, hml, hown, hts⟩ (c_M_may l D g ad tb sa w s.heap.size mo ml cd mn ki on tw od fa st rs me fo fd ba ta by9 nd hD hM (by omega) f9 f9) bw_605 bw_607 bs_18 bw_3 bw_608 (by decide +kernel) rfl rfl hM.1 ⟨by decide, by decide⟩ hW hK hk hS hAA rfl hl.1 rfl (Nat.le_of_ble_eq_true rfl) dM_shift_3 ⟨by decide, by decide⟩ (fun r1 w2 H locs hp hW hS => ?_)
  obtain ⟨hF9, hM, hr9⟩ := hp
  subst hr9
  have hFr : moF mo ml w w2 := hFr.tr hF9
  refine nw_if_ne (tgt := 11) hx hb (by omega) dM_shift_6 (by decide) (fun cm => ?_) (fun cm => ?_)
  · obtain ⟨⟨f, hfc, ef⟩, -, hmn4⟩ := mayC_in hmn (dec_t cm)
    have hb3 := bz_le (inB 9 k9)
    refine lv_iload_n hx hb dM_shift_11 rfl (lv_at hl 2 rfl) ?_
    refine lv_i2l hx hb dM_shift_12 rfl ?_
    refine lv_lconst (v := lN 0) hx hb dM_shift_13 (by decide) ?_
    refine lv_ldc2 (v := 8) hx hb hown (hts _ bw_625) dM_shift_14 ?_
    refine tp_l (show (8 : Int64) = lN 8 by decide) ?_
    refine kc_SI (n := 3) (As := [.long k9.toInt64, .long (lN 0), .long (lN 8)]) (rest := []) ⟨hx, hb, hml, hown, hts⟩ (c_M_in l D g ad tb sa w2 H.size (k9.toInt64) (lN 0) (lN 8)) bw_576 bw_577 bw_3 bw_578 (by decide +kernel) ⟨by decide, by decide⟩ hW hK hk hS hAA rfl hl.1 rfl (Nat.le_of_ble_eq_true rfl) dM_shift_17 ⟨by decide, by decide⟩ (fun r3 w4 H locs hp hW hS => ?_)
    obtain ⟨hw9, hr9⟩ := hp
    rw [hw9] at hW
    subst hr9
    refine tp_i (show nI (bz (decide ((lN 0).toInt ≤ k9.toInt64.toInt ∧ k9.toInt64.toInt ≤ (lN 8).toInt))) = nI (bz (inB 9 k9)) from by rw [in_le (by omega)]) ?_
    refine nw_if_eq (tgt := 33) hx hb (by omega) dM_shift_20 (by decide) (fun ck => ?_) (fun ck => ?_)
    · refine lv_aload_n hx hb dM_shift_33 rfl (lv_at hl 0 rfl) ?_
      refine lv_iconst (v := nI 3) hx hb dM_shift_34 (by decide) ?_
      refine kc_VI (n := 1) (As := [.int (nI 3)]) (rest := []) ⟨hx, hb, hml, hown, hts⟩ (c_M_raise l D g ad tb sa w2 H.size mo ml (mayC mn f9 f9) mn ki on tw od fa st rs me fo fd ba ta by9 nd hD hM 3) bw_626 bw_628 bs_19 bw_3 bw_629 (by decide +kernel) rfl rfl hM.1 ⟨by decide, by decide⟩ hW hK hk hS hAA rfl hl.1 rfl (Nat.le_of_ble_eq_true rfl) dM_shift_35 ⟨by decide, by decide⟩ (fun r5 w6 H locs hp hW hS => ?_)
      obtain ⟨hF9, hM, hr9⟩ := hp
      subst hr9
      have hFr : moF mo ml w w6 := hFr.tr hF9
      exact W.iret (v := nI 0) hx hb hr (fun t ht hW9 => ⟨⟨nI 0, w6, rfl, ⟨hFr, Or.inr (Or.inl ⟨dec_t cm, (inB_f (by omega)).mp (bz_f ck), hM⟩)⟩, by rw [ht]; exact hW, va_K.moved hW9.alike hK⟩, hS.F ht⟩) hS.2.2 dM_shift_38
    · obtain ⟨k, hkc, ek⟩ := (inB_iff (by omega)).mp (bz_t ck)
      rw [ef, ek] at hl
      refine lv_aload_n hx hb dM_shift_23 rfl (lv_at hl 0 rfl) ?_
      refine lv_iconst (v := nI 5) hx hb dM_shift_24 (by decide) ?_
      refine lv_iload_n hx hb dM_shift_25 rfl (lv_at hl 1 rfl) ?_
      refine lv_iload_n hx hb dM_shift_26 rfl (lv_at hl 2 rfl) ?_
      refine kc_VI (n := 3) (As := [.int (nI 5), .int (nI f), .int (nI k)]) (rest := []) ⟨hx, hb, hml, hown, hts⟩ (c_M_more l D g ad tb sa w2 H.size mo ml (mayC mn f9 f9) mn ki on tw od fa st rs me fo fd ba ta by9 nd hD hM (5) (f) (k) (by omega)) bw_579 bw_581 bs_16 bw_3 bw_582 (by decide +kernel) rfl rfl hM.1 ⟨by decide, by decide⟩ hW hK hk hS hAA rfl hl.1 rfl (Nat.le_of_ble_eq_true rfl) dM_shift_27 ⟨by decide, by decide⟩ (fun r7 w8 H locs hp hW hS => ?_)
      obtain ⟨hF9, hM, hr9⟩ := hp
      subst hr9
      have hFr : moF mo ml w w8 := hFr.tr hF9
      refine lv_goto (tgt := 38) hx hb dM_shift_30 (by decide) ?_
      exact W.iret (v := nI mn) hx hb hr (fun t ht hW9 => ⟨⟨nI mn, w8, rfl, ⟨hFr, Or.inr (Or.inr ⟨dec_t cm, f, k, hfc, ef, hkc, ek, hmn4, rfl, hM⟩)⟩, by rw [ht]; exact hW, va_K.moved hW9.alike hK⟩, hS.F ht⟩) hS.2.2 dM_shift_38
  · refine lv_iconst (v := nI 0) hx hb dM_shift_9 (by decide) ?_
    exact W.iret (v := nI 0) hx hb hr (fun t ht hW9 => ⟨⟨nI 0, w2, rfl, ⟨hFr, Or.inl ⟨dec_f cm, hM⟩⟩, by rw [ht]; exact hW, va_K.moved hW9.alike hK⟩, hS.F ht⟩) hS.2.2 dM_shift_10

set_option maxHeartbeats 1000000 in
set_option maxRecDepth 100000 in
theorem c_M_factor (l : Launch) (D : va_G) (g : Nat → ClassId) (ad : Nat → Nat) (tb : Nat) (sa : Nat → Nat) (w : Wd) (sz : Nat) (mo : Nat) (ml : Nat → Nat) (cd mn : Nat) (ki on tw od fa st rs : Nat → Nat) (me fo fd : Nat) (ba ta by9 : Nat → Nat) (nd : Nat → Bool) (hD : moD ml) (hM0 : moW g w mo ml cd mn ki on tw od fa st rs me fo fd ba ta by9 nd) (σ : Nat → SD) (hS9 : mS σ mn ki on tw od fa st) (f9 i9 p9 : Int32) (v9 : Int64) : MI l D g ad tb sa yM_factor cM_factor 8 (some (.boolean)) 2 46 0 0 w sz [.ref mo, .int f9, .int i9, .int p9, .long v9] (fun r w' => moF mo ml w w' ∧ ((¬ inC mn f9 ∧ moW g w' mo ml 1 mn ki on tw od fa st rs me fo fd ba ta by9 nd) ∨ ∃ f, f < mn ∧ f9 = nI f ∧ ((¬ (sTg (σ f) = 0 ∧ inC (sP (σ f) + 1) i9 ∧ inC 3 p9) ∧ moW g w' mo ml 2 mn ki on tw od fa st rs me fo fd ba ta by9 nd) ∨ ∃ i p, sTg (σ f) = 0 ∧ i < sP (σ f) + 1 ∧ p < 3 ∧ i9 = nI i ∧ p9 = nI p ∧ r = nI (bz (decide (sF (σ f) (i * 3 + p) ≠ rd v9.toInt))) ∧ moW g w' mo ml 0 mn ki on tw od (va_up fa (12 * f + (i * 3 + p)) (rd v9.toInt)) st rs me fo fd ba ta by9 nd))) := by
  refine hm_MI (by decide) (Nat.le_of_ble_eq_true rfl) ?_
  intro p e s m below meth c A ls hx hb hr hml hts hown hlocks hin hout hsz hW hK hk hS hAA hl
  have hl : lv_has ls 8 [(0, .ref mo), (1, .int f9), (2, .int i9), (3, .int p9), (4, .long v9)] := hl
  have hM := hM0
  have hFr : moF mo ml w w := moF.rf
  have hmn := hS9.1
  have hb1 := bz_le (inB mn f9)
  refine lv_aload_n hx hb dM_factor_0 rfl (lv_at hl 0 rfl) ?_
  refine lv_aload_n hx hb dM_factor_1 rfl (lv_at hl 0 rfl) ?_
  refine lv_iload_n hx hb dM_factor_2 rfl (lv_at hl 1 rfl) ?_
  refine kc_VI (n := 1) (As := [.int f9]) (rest := [.ref mo]) ⟨hx, hb, hml, hown, hts⟩ (c_M_isThere l D g ad tb sa w s.heap.size mo ml cd mn ki on tw od fa st rs me fo fd ba ta by9 nd hM (by omega) f9) bw_587 bw_589 bs_17 bw_3 bw_590 (by decide +kernel) rfl rfl hM.1 ⟨by decide, by decide⟩ hW hK hk hS hAA rfl hl.1 rfl (Nat.le_of_ble_eq_true rfl) dM_factor_3 ⟨by decide, by decide⟩ (fun r1 w2 H locs hp hW hS => ?_)
  obtain ⟨hw9, hr9⟩ := hp
  rw [hw9] at hW
  subst hr9
  refine nw_if_ne (tgt := 13) hx hb (by omega) dM_factor_6 (by decide) (fun c1 => ?_) (fun c1 => ?_)
  · obtain ⟨f, hfc, ef⟩ := (inB_iff (by omega)).mp (bz_t c1)
    rw [ef] at hl
    obtain ⟨q1, q2, q3, q4, q5, q6⟩ := hS9.2.2 f hfc
    refine lv_aload_n hx hb dM_factor_13 rfl (lv_at hl 0 rfl) ?_
    refine hw_get (v := .ref (ml 0)) (C := RM) (T := TM) (N := 16) hx hb hts inM hown hK hW hM.1 rfl 2 (by decide) (hts _ bw_519) (fun _ h9 => h9) rfl dM_factor_14 ?_
    refine lv_iload_n hx hb dM_factor_17 rfl (lv_at hl 1 rfl) ?_
    refine hw_iald hx hb hK hW 0 hM.2.1 rfl (vp_in_nI (show f < 40 by omega) (by omega)) dM_factor_18 ?_
    refine tp_i (show (ni ki) (nI f).toNatClampNeg = nI (ki f) from by rw [nI_clamp (by omega)]; rfl) ?_
    refine nw_if_ne (tgt := 50) hx hb (by omega) dM_factor_19 (by decide) (fun c2 => ?_) (fun c2 => ?_)
    · refine lv_iconst (v := nI 2) hx hb dM_factor_50 (by decide) ?_
      refine lv_goto (tgt := 55) hx hb dM_factor_51 (by decide) ?_
      refine hw_put (v := .int (nI 2)) (ty := .int) (C := RM) (T := TM) (N := 16) hx hb hts inM tyM tyM_ok nmM hown hK hW hS hM.1 rfl 0 (by decide) (hts _ bw_517) (fun _ h9 => h9) rfl (by decide +kernel) rfl rfl (Nat.le_of_ble_eq_true rfl) dM_factor_55 (fun H locs hW hS => ?_)
      have hW : hw D vwCl A (hwu w mo (.inr (4, [.int (nI 2), .int (nI mn), .ref (ml 0), .ref (ml 1), .ref (ml 2), .ref (ml 3), .ref (ml 4), .ref (ml 5), .ref (ml 6), .int (nI me), .int (nI fo), .int (nI fd), .ref (ml 7), .ref (ml 8), .ref (ml 9), .ref (ml 10)]))) H := hW
      obtain ⟨w3, ew3⟩ : ∃ z, z = hwu w mo (.inr (4, [.int (nI 2), .int (nI mn), .ref (ml 0), .ref (ml 1), .ref (ml 2), .ref (ml 3), .ref (ml 4), .ref (ml 5), .ref (ml 6), .int (nI me), .int (nI fo), .int (nI fd), .ref (ml 7), .ref (ml 8), .ref (ml 9), .ref (ml 10)])) := ⟨_, rfl⟩
      rw [← ew3] at hW
      have hM : moW g w3 mo ml 2 mn ki on tw od fa st rs me fo fd ba ta by9 nd := by rw [ew3]; exact hM.set_m _ _ _ _ _
      have hFr : moF mo ml w w3 := hFr.tr (by rw [ew3]; exact moF_m)
      refine lv_aload_n hx hb dM_factor_58 rfl (lv_at hl 0 rfl) ?_
      refine hw_get (v := .int (nI 2)) (C := RM) (T := TM) (N := 16) hx hb hts inM hown hK hW hM.1 rfl 0 (by decide) (hts _ bw_517) (fun _ h9 => h9) rfl dM_factor_59 ?_
      refine nw_if_le (tgt := 67) hx hb (by omega) dM_factor_62 (by decide) (fun c4 => absurd c4 (by decide)) (fun c4 => ?_)
      refine lv_iconst (v := nI 0) hx hb dM_factor_65 (by decide) ?_
      exact W.zret (ty := .boolean) (v := nI 0) hx hb hr (by decide) (fun t ht hW9 => ⟨⟨nI 0, w3, rfl, ⟨hFr, Or.inr ⟨f, hfc, ef, Or.inl ⟨by first | exact fun h9 => absurd h9.1 (by omega) | exact fun h9 => (inB_f (by omega)).mp (bz_f c3) h9.2.1 | exact fun h9 => (inB_f (by omega)).mp (bz_f c4) h9.2.2, hM⟩⟩⟩, by rw [ht]; exact hW, va_K.moved hW9.alike hK⟩, hS.F ht⟩) hS.2.2 dM_factor_66
    · have ht0 : sTg (σ f) = 0 := by omega
      obtain ⟨z1, z2, z3, z4⟩ := q3 ht0
      have hb3 := bz_le (inB (sP (σ f) + 1) i9)
      have hb4 := bz_le (inB 3 p9)
      refine lv_iload_n hx hb dM_factor_22 rfl (lv_at hl 2 rfl) ?_
      refine lv_i2l hx hb dM_factor_23 rfl ?_
      refine lv_lconst (v := lN 0) hx hb dM_factor_24 (by decide) ?_
      refine lv_aload_n hx hb dM_factor_25 rfl (lv_at hl 0 rfl) ?_
      refine hw_get (v := .ref (ml 3)) (C := RM) (T := TM) (N := 16) hx hb hts inM hown hK hW hM.1 rfl 5 (by decide) (hts _ bw_522) (fun _ h9 => h9) rfl dM_factor_26 ?_
      refine lv_iload_n hx hb dM_factor_29 rfl (lv_at hl 1 rfl) ?_
      refine hw_iald hx hb hK hW 0 hM.2.2.2.2.1 rfl (vp_in_nI (show f < 40 by omega) (by omega)) dM_factor_30 ?_
      refine tp_i (show (ni od) (nI f).toNatClampNeg = nI (od f) from by rw [nI_clamp (by omega)]; rfl) ?_
      refine lv_i2l (v := lN (od f)) hx hb dM_factor_31 (nI_l (by omega)) ?_
      refine kc_SI (n := 3) (As := [.long i9.toInt64, .long (lN 0), .long (lN (od f))]) (rest := [.ref mo]) ⟨hx, hb, hml, hown, hts⟩ (c_M_in l D g ad tb sa w H.size (i9.toInt64) (lN 0) (lN (od f))) bw_576 bw_577 bw_3 bw_578 (by decide +kernel) ⟨by decide, by decide⟩ hW hK hk hS hAA rfl hl.1 rfl (Nat.le_of_ble_eq_true rfl) dM_factor_32 ⟨by decide, by decide⟩ (fun r5 w6 H locs hp hW hS => ?_)
      obtain ⟨hw9, hr9⟩ := hp
      rw [hw9] at hW
      subst hr9
      refine tp_i (show nI (bz (decide ((lN 0).toInt ≤ i9.toInt64.toInt ∧ i9.toInt64.toInt ≤ (lN (od f)).toInt))) = nI (bz (inB (sP (σ f) + 1) i9)) from by rw [z1, in_le (by omega)]) ?_
      refine nw_if_eq (tgt := 50) hx hb (by omega) dM_factor_35 (by decide) (fun c3 => ?_) (fun c3 => ?_)
      · refine lv_iconst (v := nI 2) hx hb dM_factor_50 (by decide) ?_
        refine lv_goto (tgt := 55) hx hb dM_factor_51 (by decide) ?_
        refine hw_put (v := .int (nI 2)) (ty := .int) (C := RM) (T := TM) (N := 16) hx hb hts inM tyM tyM_ok nmM hown hK hW hS hM.1 rfl 0 (by decide) (hts _ bw_517) (fun _ h9 => h9) rfl (by decide +kernel) rfl rfl (Nat.le_of_ble_eq_true rfl) dM_factor_55 (fun H locs hW hS => ?_)
        have hW : hw D vwCl A (hwu w mo (.inr (4, [.int (nI 2), .int (nI mn), .ref (ml 0), .ref (ml 1), .ref (ml 2), .ref (ml 3), .ref (ml 4), .ref (ml 5), .ref (ml 6), .int (nI me), .int (nI fo), .int (nI fd), .ref (ml 7), .ref (ml 8), .ref (ml 9), .ref (ml 10)]))) H := hW
        obtain ⟨w7, ew7⟩ : ∃ z, z = hwu w mo (.inr (4, [.int (nI 2), .int (nI mn), .ref (ml 0), .ref (ml 1), .ref (ml 2), .ref (ml 3), .ref (ml 4), .ref (ml 5), .ref (ml 6), .int (nI me), .int (nI fo), .int (nI fd), .ref (ml 7), .ref (ml 8), .ref (ml 9), .ref (ml 10)])) := ⟨_, rfl⟩
        rw [← ew7] at hW
        have hM : moW g w7 mo ml 2 mn ki on tw od fa st rs me fo fd ba ta by9 nd := by rw [ew7]; exact hM.set_m _ _ _ _ _
        have hFr : moF mo ml w w7 := hFr.tr (by rw [ew7]; exact moF_m)
        refine lv_aload_n hx hb dM_factor_58 rfl (lv_at hl 0 rfl) ?_
        refine hw_get (v := .int (nI 2)) (C := RM) (T := TM) (N := 16) hx hb hts inM hown hK hW hM.1 rfl 0 (by decide) (hts _ bw_517) (fun _ h9 => h9) rfl dM_factor_59 ?_
        refine nw_if_le (tgt := 67) hx hb (by omega) dM_factor_62 (by decide) (fun c8 => absurd c8 (by decide)) (fun c8 => ?_)
        refine lv_iconst (v := nI 0) hx hb dM_factor_65 (by decide) ?_
        exact W.zret (ty := .boolean) (v := nI 0) hx hb hr (by decide) (fun t ht hW9 => ⟨⟨nI 0, w7, rfl, ⟨hFr, Or.inr ⟨f, hfc, ef, Or.inl ⟨by first | exact fun h9 => absurd h9.1 (by omega) | exact fun h9 => (inB_f (by omega)).mp (bz_f c3) h9.2.1 | exact fun h9 => (inB_f (by omega)).mp (bz_f c4) h9.2.2, hM⟩⟩⟩, by rw [ht]; exact hW, va_K.moved hW9.alike hK⟩, hS.F ht⟩) hS.2.2 dM_factor_66
      · refine lv_iload_n hx hb dM_factor_38 rfl (lv_at hl 3 rfl) ?_
        refine lv_i2l hx hb dM_factor_39 rfl ?_
        refine lv_lconst (v := lN 0) hx hb dM_factor_40 (by decide) ?_
        refine lv_ldc2 (v := 2) hx hb hown (hts _ bw_591) dM_factor_41 ?_
        refine tp_l (show (2 : Int64) = lN 2 by decide) ?_
        refine kc_SI (n := 3) (As := [.long p9.toInt64, .long (lN 0), .long (lN 2)]) (rest := [.ref mo]) ⟨hx, hb, hml, hown, hts⟩ (c_M_in l D g ad tb sa w H.size (p9.toInt64) (lN 0) (lN 2)) bw_576 bw_577 bw_3 bw_578 (by decide +kernel) ⟨by decide, by decide⟩ hW hK hk hS hAA rfl hl.1 rfl (Nat.le_of_ble_eq_true rfl) dM_factor_44 ⟨by decide, by decide⟩ (fun r9 w10 H locs hp hW hS => ?_)
        obtain ⟨hw9, hr9⟩ := hp
        rw [hw9] at hW
        subst hr9
        refine tp_i (show nI (bz (decide ((lN 0).toInt ≤ p9.toInt64.toInt ∧ p9.toInt64.toInt ≤ (lN 2).toInt))) = nI (bz (inB 3 p9)) from by rw [in_le (by omega)]) ?_
        refine nw_if_ne (tgt := 54) hx hb (by omega) dM_factor_47 (by decide) (fun c4 => ?_) (fun c4 => ?_)
        · obtain ⟨i, hic, ei⟩ := (inB_iff (by omega)).mp (bz_t c3)
          obtain ⟨pw, hpc, ep⟩ := (inB_iff (by omega)).mp (bz_t c4)
          rw [ei, ep] at hl
          have hfx : fa (12 * f + 3 * i + pw) = sF (σ f) (i * 3 + pw) := by rw [show 12 * f + 3 * i + pw = 12 * f + (i * 3 + pw) by omega]; exact z3 _ (by omega)
          have hfl := q5 (i * 3 + pw) (by omega)
          have hrl := rd_lt v9.toInt
          refine lv_iconst (v := nI 0) hx hb dM_factor_54 (by decide) ?_
          refine hw_put (v := .int (nI 0)) (ty := .int) (C := RM) (T := TM) (N := 16) hx hb hts inM tyM tyM_ok nmM hown hK hW hS hM.1 rfl 0 (by decide) (hts _ bw_517) (fun _ h9 => h9) rfl (by decide +kernel) rfl rfl (Nat.le_of_ble_eq_true rfl) dM_factor_55 (fun H locs hW hS => ?_)
          have hW : hw D vwCl A (hwu w mo (.inr (4, [.int (nI 0), .int (nI mn), .ref (ml 0), .ref (ml 1), .ref (ml 2), .ref (ml 3), .ref (ml 4), .ref (ml 5), .ref (ml 6), .int (nI me), .int (nI fo), .int (nI fd), .ref (ml 7), .ref (ml 8), .ref (ml 9), .ref (ml 10)]))) H := hW
          obtain ⟨w11, ew11⟩ : ∃ z, z = hwu w mo (.inr (4, [.int (nI 0), .int (nI mn), .ref (ml 0), .ref (ml 1), .ref (ml 2), .ref (ml 3), .ref (ml 4), .ref (ml 5), .ref (ml 6), .int (nI me), .int (nI fo), .int (nI fd), .ref (ml 7), .ref (ml 8), .ref (ml 9), .ref (ml 10)])) := ⟨_, rfl⟩
          rw [← ew11] at hW
          have hM : moW g w11 mo ml 0 mn ki on tw od fa st rs me fo fd ba ta by9 nd := by rw [ew11]; exact hM.set_m _ _ _ _ _
          have hFr : moF mo ml w w11 := hFr.tr (by rw [ew11]; exact moF_m)
          refine lv_aload_n hx hb dM_factor_58 rfl (lv_at hl 0 rfl) ?_
          refine hw_get (v := .int (nI 0)) (C := RM) (T := TM) (N := 16) hx hb hts inM hown hK hW hM.1 rfl 0 (by decide) (hts _ bw_517) (fun _ h9 => h9) rfl dM_factor_59 ?_
          refine nw_if_le (tgt := 67) hx hb (by omega) dM_factor_62 (by decide) (fun c12 => ?_) (fun c12 => absurd c12 (by decide))
          refine lv_bipush (v := nI 12) hx hb dM_factor_67 (by decide) ?_
          refine lv_iload_n hx hb dM_factor_69 rfl (lv_at hl 1 rfl) ?_
          refine lv_imul hx hb dM_factor_70 ?_
          refine tp_i (show (nI 12) * (nI f) = nI (12 * f) from pk_mul _ _) ?_
          refine lv_iconst (v := nI 3) hx hb dM_factor_71 (by decide) ?_
          refine lv_iload_n hx hb dM_factor_72 rfl (lv_at hl 2 rfl) ?_
          refine lv_imul hx hb dM_factor_73 ?_
          refine tp_i (show (nI 3) * (nI i) = nI (3 * i) from pk_mul _ _) ?_
          refine lv_iadd hx hb dM_factor_74 ?_
          refine tp_i (show (nI (12 * f)) + (nI (3 * i)) = nI ((12 * f) + (3 * i)) from nI_add _ _) ?_
          refine lv_iload_n hx hb dM_factor_75 rfl (lv_at hl 3 rfl) ?_
          refine lv_iadd hx hb dM_factor_76 ?_
          refine tp_i (show (nI ((12 * f) + (3 * i))) + (nI pw) = nI (((12 * f) + (3 * i)) + pw) from nI_add _ _) ?_
          refine lv_istore (lv' := [(6, .int (nI (((12 * f) + (3 * i)) + pw))), (0, .ref mo), (1, .int (nI f)), (2, .int (nI i)), (3, .int (nI pw)), (4, .long v9)]) hx hb dM_factor_77 hl (by decide) rfl (fun ls hl => ?_)
          refine lv_aload_n hx hb dM_factor_79 rfl (lv_at hl 1 rfl) ?_
          refine hw_get (v := .ref (ml 4)) (C := RM) (T := TM) (N := 16) hx hb hts inM hown hK hW hM.1 rfl 6 (by decide) (hts _ bw_523) (fun _ h9 => h9) rfl dM_factor_80 ?_
          refine lv_iload hx hb dM_factor_83 (lv_at hl 0 rfl) ?_
          refine hw_iald hx hb hK hW 0 hM.2.2.2.2.2.1 rfl (vp_in_nI (show ((12 * f) + (3 * i)) + pw < 480 by omega) (by omega)) dM_factor_85 ?_
          refine tp_i (show (ni fa) (nI (((12 * f) + (3 * i)) + pw)).toNatClampNeg = nI (fa (((12 * f) + (3 * i)) + pw)) from by rw [nI_clamp (by omega)]; rfl) ?_
          refine lv_i2l (v := lN (fa (((12 * f) + (3 * i)) + pw))) hx hb dM_factor_86 (nI_l (by omega)) ?_
          refine lv_lload hx hb dM_factor_87 (lv_at hl 5 rfl) ?_
          refine kc_SL (n := 1) (As := [.long v9]) (rest := [.long (lN (fa (((12 * f) + (3 * i)) + pw)))]) ⟨hx, hb, hml, hown, hts⟩ (c_M_modulo l D g ad tb sa w11 H.size (v9)) bw_592 bw_593 bw_3 bw_594 (by decide +kernel) ⟨by decide, by decide⟩ hW hK hk hS hAA rfl hl.1 rfl (Nat.le_of_ble_eq_true rfl) dM_factor_89 ⟨by decide, by decide⟩ (fun r13 w14 H locs hp hW hS => ?_)
          obtain ⟨hw9, hr9⟩ := hp
          rw [hw9] at hW
          subst hr9
          refine W.lcmp hx hb dM_factor_92 ?_
          refine lv_if_eq (tgt := 100) hx hb dM_factor_93 (by decide) (fun c5 => ?_) (fun c5 => ?_)
          · refine lv_iconst (v := nI 0) hx hb dM_factor_100 (by decide) ?_
            refine lv_istore (lv' := [(7, .int (nI 0)), (6, .int (nI (((12 * f) + (3 * i)) + pw))), (0, .ref mo), (1, .int (nI f)), (2, .int (nI i)), (3, .int (nI pw)), (4, .long v9)]) hx hb dM_factor_101 hl (by decide) rfl (fun ls hl => ?_)
            refine lv_aload_n hx hb dM_factor_103 rfl (lv_at hl 2 rfl) ?_
            refine hw_get (v := .ref (ml 4)) (C := RM) (T := TM) (N := 16) hx hb hts inM hown hK hW hM.1 rfl 6 (by decide) (hts _ bw_523) (fun _ h9 => h9) rfl dM_factor_104 ?_
            refine lv_iload hx hb dM_factor_107 (lv_at hl 1 rfl) ?_
            refine lv_lload hx hb dM_factor_109 (lv_at hl 6 rfl) ?_
            refine kc_SL (n := 1) (As := [.long v9]) (rest := [.int (nI (((12 * f) + (3 * i)) + pw)), .ref (ml 4)]) ⟨hx, hb, hml, hown, hts⟩ (c_M_modulo l D g ad tb sa w11 H.size (v9)) bw_592 bw_593 bw_3 bw_594 (by decide +kernel) ⟨by decide, by decide⟩ hW hK hk hS hAA rfl hl.1 rfl (Nat.le_of_ble_eq_true rfl) dM_factor_111 ⟨by decide, by decide⟩ (fun r15 w16 H locs hp hW hS => ?_)
            obtain ⟨hw9, hr9⟩ := hp
            rw [hw9] at hW
            subst hr9
            refine lv_l2i (v := nI (rd v9.toInt)) hx hb dM_factor_114 (lN_i _) ?_
            refine hw_iast hx hb hK hW hS 0 hM.2.2.2.2.2.1 rfl (vp_in_nI (show ((12 * f) + (3 * i)) + pw < 480 by omega) (by omega)) dM_factor_115 (fun H locs hW hS => ?_)
            rw [nI_clamp (show ((12 * f) + (3 * i)) + pw < 2 ^ 31 by omega), ni_upd] at hW
            have hW : hw D vwCl A (hwu w11 (ml 4) (ia (g 0) 480 (va_up fa (((12 * f) + (3 * i)) + pw) (rd v9.toInt)))) H := hW
            obtain ⟨w17, ew17⟩ : ∃ z, z = hwu w11 (ml 4) (ia (g 0) 480 (va_up fa (((12 * f) + (3 * i)) + pw) (rd v9.toInt))) := ⟨_, rfl⟩
            rw [← ew17] at hW
            have hM : moW g w17 mo ml 0 mn ki on tw od (va_up fa (((12 * f) + (3 * i)) + pw) (rd v9.toInt)) st rs me fo fd ba ta by9 nd := by rw [ew17]; exact hM.set_fa hD _
            have hFr : moF mo ml w w17 := hFr.tr (by rw [ew17]; exact moF_a (by decide))
            refine lv_iload hx hb dM_factor_116 (lv_at hl 0 rfl) ?_
            exact W.zret (ty := .boolean) (v := nI 0) hx hb hr (by decide) (fun t ht hW9 => ⟨⟨nI 0, w17, rfl, ⟨hFr, Or.inr ⟨f, hfc, ef, Or.inr ⟨i, pw, ht0, hic, hpc, ei, ep, by rw [decide_eq_false (fun h9 => h9 (hfx.symm.trans ((cp_eqN (by omega) (by omega)).mp c5)))]; rfl, by rw [show 12 * f + (i * 3 + pw) = 12 * f + 3 * i + pw by omega]; exact hM⟩⟩⟩, by rw [ht]; exact hW, va_K.moved hW9.alike hK⟩, hS.F ht⟩) hS.2.2 dM_factor_118
          · refine lv_iconst (v := nI 1) hx hb dM_factor_96 (by decide) ?_
            refine lv_goto (tgt := 101) hx hb dM_factor_97 (by decide) ?_
            refine lv_istore (lv' := [(7, .int (nI 1)), (6, .int (nI (((12 * f) + (3 * i)) + pw))), (0, .ref mo), (1, .int (nI f)), (2, .int (nI i)), (3, .int (nI pw)), (4, .long v9)]) hx hb dM_factor_101 hl (by decide) rfl (fun ls hl => ?_)
            refine lv_aload_n hx hb dM_factor_103 rfl (lv_at hl 2 rfl) ?_
            refine hw_get (v := .ref (ml 4)) (C := RM) (T := TM) (N := 16) hx hb hts inM hown hK hW hM.1 rfl 6 (by decide) (hts _ bw_523) (fun _ h9 => h9) rfl dM_factor_104 ?_
            refine lv_iload hx hb dM_factor_107 (lv_at hl 1 rfl) ?_
            refine lv_lload hx hb dM_factor_109 (lv_at hl 6 rfl) ?_
            refine kc_SL (n := 1) (As := [.long v9]) (rest := [.int (nI (((12 * f) + (3 * i)) + pw)), .ref (ml 4)]) ⟨hx, hb, hml, hown, hts⟩ (c_M_modulo l D g ad tb sa w11 H.size (v9)) bw_592 bw_593 bw_3 bw_594 (by decide +kernel) ⟨by decide, by decide⟩ hW hK hk hS hAA rfl hl.1 rfl (Nat.le_of_ble_eq_true rfl) dM_factor_111 ⟨by decide, by decide⟩ (fun r18 w19 H locs hp hW hS => ?_)
            obtain ⟨hw9, hr9⟩ := hp
            rw [hw9] at hW
            subst hr9
            refine lv_l2i (v := nI (rd v9.toInt)) hx hb dM_factor_114 (lN_i _) ?_
            refine hw_iast hx hb hK hW hS 0 hM.2.2.2.2.2.1 rfl (vp_in_nI (show ((12 * f) + (3 * i)) + pw < 480 by omega) (by omega)) dM_factor_115 (fun H locs hW hS => ?_)
            rw [nI_clamp (show ((12 * f) + (3 * i)) + pw < 2 ^ 31 by omega), ni_upd] at hW
            have hW : hw D vwCl A (hwu w11 (ml 4) (ia (g 0) 480 (va_up fa (((12 * f) + (3 * i)) + pw) (rd v9.toInt)))) H := hW
            obtain ⟨w20, ew20⟩ : ∃ z, z = hwu w11 (ml 4) (ia (g 0) 480 (va_up fa (((12 * f) + (3 * i)) + pw) (rd v9.toInt))) := ⟨_, rfl⟩
            rw [← ew20] at hW
            have hM : moW g w20 mo ml 0 mn ki on tw od (va_up fa (((12 * f) + (3 * i)) + pw) (rd v9.toInt)) st rs me fo fd ba ta by9 nd := by rw [ew20]; exact hM.set_fa hD _
            have hFr : moF mo ml w w20 := hFr.tr (by rw [ew20]; exact moF_a (by decide))
            refine lv_iload hx hb dM_factor_116 (lv_at hl 0 rfl) ?_
            exact W.zret (ty := .boolean) (v := nI 1) hx hb hr (by decide) (fun t ht hW9 => ⟨⟨nI 1, w20, rfl, ⟨hFr, Or.inr ⟨f, hfc, ef, Or.inr ⟨i, pw, ht0, hic, hpc, ei, ep, by rw [decide_eq_true (show sF (σ f) (i * 3 + pw) ≠ rd v9.toInt from fun h9 => c5 ((cp_eqN (by omega) (by omega)).mpr (hfx.trans h9)))]; rfl, by rw [show 12 * f + (i * 3 + pw) = 12 * f + 3 * i + pw by omega]; exact hM⟩⟩⟩, by rw [ht]; exact hW, va_K.moved hW9.alike hK⟩, hS.F ht⟩) hS.2.2 dM_factor_118
        · refine lv_iconst (v := nI 2) hx hb dM_factor_50 (by decide) ?_
          refine lv_goto (tgt := 55) hx hb dM_factor_51 (by decide) ?_
          refine hw_put (v := .int (nI 2)) (ty := .int) (C := RM) (T := TM) (N := 16) hx hb hts inM tyM tyM_ok nmM hown hK hW hS hM.1 rfl 0 (by decide) (hts _ bw_517) (fun _ h9 => h9) rfl (by decide +kernel) rfl rfl (Nat.le_of_ble_eq_true rfl) dM_factor_55 (fun H locs hW hS => ?_)
          have hW : hw D vwCl A (hwu w mo (.inr (4, [.int (nI 2), .int (nI mn), .ref (ml 0), .ref (ml 1), .ref (ml 2), .ref (ml 3), .ref (ml 4), .ref (ml 5), .ref (ml 6), .int (nI me), .int (nI fo), .int (nI fd), .ref (ml 7), .ref (ml 8), .ref (ml 9), .ref (ml 10)]))) H := hW
          obtain ⟨w21, ew21⟩ : ∃ z, z = hwu w mo (.inr (4, [.int (nI 2), .int (nI mn), .ref (ml 0), .ref (ml 1), .ref (ml 2), .ref (ml 3), .ref (ml 4), .ref (ml 5), .ref (ml 6), .int (nI me), .int (nI fo), .int (nI fd), .ref (ml 7), .ref (ml 8), .ref (ml 9), .ref (ml 10)])) := ⟨_, rfl⟩
          rw [← ew21] at hW
          have hM : moW g w21 mo ml 2 mn ki on tw od fa st rs me fo fd ba ta by9 nd := by rw [ew21]; exact hM.set_m _ _ _ _ _
          have hFr : moF mo ml w w21 := hFr.tr (by rw [ew21]; exact moF_m)
          refine lv_aload_n hx hb dM_factor_58 rfl (lv_at hl 0 rfl) ?_
          refine hw_get (v := .int (nI 2)) (C := RM) (T := TM) (N := 16) hx hb hts inM hown hK hW hM.1 rfl 0 (by decide) (hts _ bw_517) (fun _ h9 => h9) rfl dM_factor_59 ?_
          refine nw_if_le (tgt := 67) hx hb (by omega) dM_factor_62 (by decide) (fun c22 => absurd c22 (by decide)) (fun c22 => ?_)
          refine lv_iconst (v := nI 0) hx hb dM_factor_65 (by decide) ?_
          exact W.zret (ty := .boolean) (v := nI 0) hx hb hr (by decide) (fun t ht hW9 => ⟨⟨nI 0, w21, rfl, ⟨hFr, Or.inr ⟨f, hfc, ef, Or.inl ⟨by first | exact fun h9 => absurd h9.1 (by omega) | exact fun h9 => (inB_f (by omega)).mp (bz_f c3) h9.2.1 | exact fun h9 => (inB_f (by omega)).mp (bz_f c4) h9.2.2, hM⟩⟩⟩, by rw [ht]; exact hW, va_K.moved hW9.alike hK⟩, hS.F ht⟩) hS.2.2 dM_factor_66
  · refine lv_iconst (v := nI 1) hx hb dM_factor_9 (by decide) ?_
    refine lv_goto (tgt := 55) hx hb dM_factor_10 (by decide) ?_
    refine hw_put (v := .int (nI 1)) (ty := .int) (C := RM) (T := TM) (N := 16) hx hb hts inM tyM tyM_ok nmM hown hK hW hS hM.1 rfl 0 (by decide) (hts _ bw_517) (fun _ h9 => h9) rfl (by decide +kernel) rfl rfl (Nat.le_of_ble_eq_true rfl) dM_factor_55 (fun H locs hW hS => ?_)
    have hW : hw D vwCl A (hwu w mo (.inr (4, [.int (nI 1), .int (nI mn), .ref (ml 0), .ref (ml 1), .ref (ml 2), .ref (ml 3), .ref (ml 4), .ref (ml 5), .ref (ml 6), .int (nI me), .int (nI fo), .int (nI fd), .ref (ml 7), .ref (ml 8), .ref (ml 9), .ref (ml 10)]))) H := hW
    obtain ⟨w23, ew23⟩ : ∃ z, z = hwu w mo (.inr (4, [.int (nI 1), .int (nI mn), .ref (ml 0), .ref (ml 1), .ref (ml 2), .ref (ml 3), .ref (ml 4), .ref (ml 5), .ref (ml 6), .int (nI me), .int (nI fo), .int (nI fd), .ref (ml 7), .ref (ml 8), .ref (ml 9), .ref (ml 10)])) := ⟨_, rfl⟩
    rw [← ew23] at hW
    have hM : moW g w23 mo ml 1 mn ki on tw od fa st rs me fo fd ba ta by9 nd := by rw [ew23]; exact hM.set_m _ _ _ _ _
    have hFr : moF mo ml w w23 := hFr.tr (by rw [ew23]; exact moF_m)
    refine lv_aload_n hx hb dM_factor_58 rfl (lv_at hl 0 rfl) ?_
    refine hw_get (v := .int (nI 1)) (C := RM) (T := TM) (N := 16) hx hb hts inM hown hK hW hM.1 rfl 0 (by decide) (hts _ bw_517) (fun _ h9 => h9) rfl dM_factor_59 ?_
    refine nw_if_le (tgt := 67) hx hb (by omega) dM_factor_62 (by decide) (fun c24 => absurd c24 (by decide)) (fun c24 => ?_)
    refine lv_iconst (v := nI 0) hx hb dM_factor_65 (by decide) ?_
    exact W.zret (ty := .boolean) (v := nI 0) hx hb hr (by decide) (fun t ht hW9 => ⟨⟨nI 0, w23, rfl, ⟨hFr, Or.inl ⟨(inB_f (by omega)).mp (bz_f c1), hM⟩⟩, by rw [ht]; exact hW, va_K.moved hW9.alike hK⟩, hS.F ht⟩) hS.2.2 dM_factor_66

set_option maxHeartbeats 1000000 in
set_option maxRecDepth 100000 in
theorem c_M_start (l : Launch) (D : va_G) (g : Nat → ClassId) (ad : Nat → Nat) (tb : Nat) (sa : Nat → Nat) (w : Wd) (sz : Nat) (mo : Nat) (ml : Nat → Nat) (cd mn : Nat) (ki on tw od fa st rs : Nat → Nat) (me fo fd : Nat) (ba ta by9 : Nat → Nat) (nd : Nat → Bool) (hD : moD ml) (hM0 : moW g w mo ml cd mn ki on tw od fa st rs me fo fd ba ta by9 nd) (σ : Nat → SD) (hS9 : mS σ mn ki on tw od fa st) (f9 n9 : Int32) (v9 : Int64) : MI l D g ad tb sa yM_start cM_start 7 (some (.boolean)) 2 46 0 0 w sz [.ref mo, .int f9, .int n9, .long v9] (fun r w' => moF mo ml w w' ∧ ((¬ (inC mn f9 ∧ inC 64 n9) ∧ moW g w' mo ml 1 mn ki on tw od fa st rs me fo fd ba ta by9 nd) ∨ ∃ f n, f < mn ∧ n < 64 ∧ f9 = nI f ∧ n9 = nI n ∧ ((sTg (σ f) ≠ 0 ∧ moW g w' mo ml 2 mn ki on tw od fa st rs me fo fd ba ta by9 nd) ∨ (sTg (σ f) = 0 ∧ r = nI (bz (decide (sS (σ f) n ≠ rd v9.toInt))) ∧ moW g w' mo ml 0 mn ki on tw od fa (va_up st (64 * f + n) (rd v9.toInt)) rs me fo fd ba ta by9 nd)))) := by
  refine hm_MI (by decide) (Nat.le_of_ble_eq_true rfl) ?_
  intro p e s m below meth c A ls hx hb hr hml hts hown hlocks hin hout hsz hW hK hk hS hAA hl
  have hl : lv_has ls 7 [(0, .ref mo), (1, .int f9), (2, .int n9), (3, .long v9)] := hl
  have hM := hM0
  have hFr : moF mo ml w w := moF.rf
  have hmn := hS9.1
  have hb1 := bz_le (inB mn f9)
  refine lv_aload_n hx hb dM_start_0 rfl (lv_at hl 0 rfl) ?_
  refine lv_aload_n hx hb dM_start_1 rfl (lv_at hl 0 rfl) ?_
  refine lv_iload_n hx hb dM_start_2 rfl (lv_at hl 1 rfl) ?_
  refine kc_VI (n := 1) (As := [.int f9]) (rest := [.ref mo]) ⟨hx, hb, hml, hown, hts⟩ (c_M_isThere l D g ad tb sa w s.heap.size mo ml cd mn ki on tw od fa st rs me fo fd ba ta by9 nd hM (by omega) f9) bw_587 bw_589 bs_17 bw_3 bw_590 (by decide +kernel) rfl rfl hM.1 ⟨by decide, by decide⟩ hW hK hk hS hAA rfl hl.1 rfl (Nat.le_of_ble_eq_true rfl) dM_start_3 ⟨by decide, by decide⟩ (fun r1 w2 H locs hp hW hS => ?_)
  obtain ⟨hw9, hr9⟩ := hp
  rw [hw9] at hW
  subst hr9
  refine nw_if_eq (tgt := 21) hx hb (by omega) dM_start_6 (by decide) (fun c1 => ?_) (fun c1 => ?_)
  · refine lv_iconst (v := nI 1) hx hb dM_start_21 (by decide) ?_
    refine lv_goto (tgt := 39) hx hb dM_start_22 (by decide) ?_
    refine hw_put (v := .int (nI 1)) (ty := .int) (C := RM) (T := TM) (N := 16) hx hb hts inM tyM tyM_ok nmM hown hK hW hS hM.1 rfl 0 (by decide) (hts _ bw_517) (fun _ h9 => h9) rfl (by decide +kernel) rfl rfl (Nat.le_of_ble_eq_true rfl) dM_start_39 (fun H locs hW hS => ?_)
    have hW : hw D vwCl A (hwu w mo (.inr (4, [.int (nI 1), .int (nI mn), .ref (ml 0), .ref (ml 1), .ref (ml 2), .ref (ml 3), .ref (ml 4), .ref (ml 5), .ref (ml 6), .int (nI me), .int (nI fo), .int (nI fd), .ref (ml 7), .ref (ml 8), .ref (ml 9), .ref (ml 10)]))) H := hW
    obtain ⟨w3, ew3⟩ : ∃ z, z = hwu w mo (.inr (4, [.int (nI 1), .int (nI mn), .ref (ml 0), .ref (ml 1), .ref (ml 2), .ref (ml 3), .ref (ml 4), .ref (ml 5), .ref (ml 6), .int (nI me), .int (nI fo), .int (nI fd), .ref (ml 7), .ref (ml 8), .ref (ml 9), .ref (ml 10)])) := ⟨_, rfl⟩
    rw [← ew3] at hW
    have hM : moW g w3 mo ml 1 mn ki on tw od fa st rs me fo fd ba ta by9 nd := by rw [ew3]; exact hM.set_m _ _ _ _ _
    have hFr : moF mo ml w w3 := hFr.tr (by rw [ew3]; exact moF_m)
    refine lv_aload_n hx hb dM_start_42 rfl (lv_at hl 0 rfl) ?_
    refine hw_get (v := .int (nI 1)) (C := RM) (T := TM) (N := 16) hx hb hts inM hown hK hW hM.1 rfl 0 (by decide) (hts _ bw_517) (fun _ h9 => h9) rfl dM_start_43 ?_
    refine nw_if_le (tgt := 51) hx hb (by omega) dM_start_46 (by decide) (fun c4 => absurd c4 (by decide)) (fun c4 => ?_)
    refine lv_iconst (v := nI 0) hx hb dM_start_49 (by decide) ?_
    exact W.zret (ty := .boolean) (v := nI 0) hx hb hr (by decide) (fun t ht hW9 => ⟨⟨nI 0, w3, rfl, ⟨hFr, Or.inl ⟨by first | exact fun h9 => (inB_f (by omega)).mp (bz_f c1) h9.1 | exact fun h9 => (inB_f (by omega)).mp (bz_f c2) h9.2, hM⟩⟩, by rw [ht]; exact hW, va_K.moved hW9.alike hK⟩, hS.F ht⟩) hS.2.2 dM_start_50
  · obtain ⟨f, hfc, ef⟩ := (inB_iff (by omega)).mp (bz_t c1)
    rw [ef] at hl
    obtain ⟨q1, q2, q3, q4, q5, q6⟩ := hS9.2.2 f hfc
    have hb3 := bz_le (inB 64 n9)
    refine lv_iload_n hx hb dM_start_9 rfl (lv_at hl 2 rfl) ?_
    refine lv_i2l hx hb dM_start_10 rfl ?_
    refine lv_lconst (v := lN 0) hx hb dM_start_11 (by decide) ?_
    refine lv_ldc2 (v := 63) hx hb hown (hts _ bw_600) dM_start_12 ?_
    refine tp_l (show (63 : Int64) = lN 63 by decide) ?_
    refine kc_SI (n := 3) (As := [.long n9.toInt64, .long (lN 0), .long (lN 63)]) (rest := [.ref mo]) ⟨hx, hb, hml, hown, hts⟩ (c_M_in l D g ad tb sa w H.size (n9.toInt64) (lN 0) (lN 63)) bw_576 bw_577 bw_3 bw_578 (by decide +kernel) ⟨by decide, by decide⟩ hW hK hk hS hAA rfl hl.1 rfl (Nat.le_of_ble_eq_true rfl) dM_start_15 ⟨by decide, by decide⟩ (fun r5 w6 H locs hp hW hS => ?_)
    obtain ⟨hw9, hr9⟩ := hp
    rw [hw9] at hW
    subst hr9
    refine tp_i (show nI (bz (decide ((lN 0).toInt ≤ n9.toInt64.toInt ∧ n9.toInt64.toInt ≤ (lN 63).toInt))) = nI (bz (inB 64 n9)) from by rw [in_le (by omega)]) ?_
    refine nw_if_ne (tgt := 25) hx hb (by omega) dM_start_18 (by decide) (fun c2 => ?_) (fun c2 => ?_)
    · obtain ⟨n, hnc, en⟩ := (inB_iff (by omega)).mp (bz_t c2)
      rw [en] at hl
      refine lv_aload_n hx hb dM_start_25 rfl (lv_at hl 0 rfl) ?_
      refine hw_get (v := .ref (ml 0)) (C := RM) (T := TM) (N := 16) hx hb hts inM hown hK hW hM.1 rfl 2 (by decide) (hts _ bw_519) (fun _ h9 => h9) rfl dM_start_26 ?_
      refine lv_iload_n hx hb dM_start_29 rfl (lv_at hl 1 rfl) ?_
      refine hw_iald hx hb hK hW 0 hM.2.1 rfl (vp_in_nI (show f < 40 by omega) (by omega)) dM_start_30 ?_
      refine tp_i (show (ni ki) (nI f).toNatClampNeg = nI (ki f) from by rw [nI_clamp (by omega)]; rfl) ?_
      refine nw_if_eq (tgt := 38) hx hb (by omega) dM_start_31 (by decide) (fun c3 => ?_) (fun c3 => ?_)
      · refine lv_iconst (v := nI 0) hx hb dM_start_38 (by decide) ?_
        refine hw_put (v := .int (nI 0)) (ty := .int) (C := RM) (T := TM) (N := 16) hx hb hts inM tyM tyM_ok nmM hown hK hW hS hM.1 rfl 0 (by decide) (hts _ bw_517) (fun _ h9 => h9) rfl (by decide +kernel) rfl rfl (Nat.le_of_ble_eq_true rfl) dM_start_39 (fun H locs hW hS => ?_)
        have hW : hw D vwCl A (hwu w mo (.inr (4, [.int (nI 0), .int (nI mn), .ref (ml 0), .ref (ml 1), .ref (ml 2), .ref (ml 3), .ref (ml 4), .ref (ml 5), .ref (ml 6), .int (nI me), .int (nI fo), .int (nI fd), .ref (ml 7), .ref (ml 8), .ref (ml 9), .ref (ml 10)]))) H := hW
        obtain ⟨w7, ew7⟩ : ∃ z, z = hwu w mo (.inr (4, [.int (nI 0), .int (nI mn), .ref (ml 0), .ref (ml 1), .ref (ml 2), .ref (ml 3), .ref (ml 4), .ref (ml 5), .ref (ml 6), .int (nI me), .int (nI fo), .int (nI fd), .ref (ml 7), .ref (ml 8), .ref (ml 9), .ref (ml 10)])) := ⟨_, rfl⟩
        rw [← ew7] at hW
        have hM : moW g w7 mo ml 0 mn ki on tw od fa st rs me fo fd ba ta by9 nd := by rw [ew7]; exact hM.set_m _ _ _ _ _
        have hFr : moF mo ml w w7 := hFr.tr (by rw [ew7]; exact moF_m)
        refine lv_aload_n hx hb dM_start_42 rfl (lv_at hl 0 rfl) ?_
        refine hw_get (v := .int (nI 0)) (C := RM) (T := TM) (N := 16) hx hb hts inM hown hK hW hM.1 rfl 0 (by decide) (hts _ bw_517) (fun _ h9 => h9) rfl dM_start_43 ?_
        refine nw_if_le (tgt := 51) hx hb (by omega) dM_start_46 (by decide) (fun c8 => ?_) (fun c8 => absurd c8 (by decide))
        have ht0 : sTg (σ f) = 0 := by omega
        obtain ⟨z1, z2, z3, z4⟩ := q3 ht0
        have hfx := z4 n hnc
        have hfl := q6 n hnc
        have hrl := rd_lt v9.toInt
        refine lv_bipush (v := nI 64) hx hb dM_start_51 (by decide) ?_
        refine lv_iload_n hx hb dM_start_53 rfl (lv_at hl 1 rfl) ?_
        refine lv_imul hx hb dM_start_54 ?_
        refine tp_i (show (nI 64) * (nI f) = nI (64 * f) from pk_mul _ _) ?_
        refine lv_iload_n hx hb dM_start_55 rfl (lv_at hl 2 rfl) ?_
        refine lv_iadd hx hb dM_start_56 ?_
        refine tp_i (show (nI (64 * f)) + (nI n) = nI ((64 * f) + n) from nI_add _ _) ?_
        refine lv_istore (lv' := [(5, .int (nI ((64 * f) + n))), (0, .ref mo), (1, .int (nI f)), (2, .int (nI n)), (3, .long v9)]) hx hb dM_start_57 hl (by decide) rfl (fun ls hl => ?_)
        refine lv_aload_n hx hb dM_start_59 rfl (lv_at hl 1 rfl) ?_
        refine hw_get (v := .ref (ml 5)) (C := RM) (T := TM) (N := 16) hx hb hts inM hown hK hW hM.1 rfl 7 (by decide) (hts _ bw_524) (fun _ h9 => h9) rfl dM_start_60 ?_
        refine lv_iload hx hb dM_start_63 (lv_at hl 0 rfl) ?_
        refine hw_iald hx hb hK hW 0 hM.2.2.2.2.2.2.1 rfl (vp_in_nI (show (64 * f) + n < 2560 by omega) (by omega)) dM_start_65 ?_
        refine tp_i (show (ni st) (nI ((64 * f) + n)).toNatClampNeg = nI (st ((64 * f) + n)) from by rw [nI_clamp (by omega)]; rfl) ?_
        refine lv_i2l (v := lN (st ((64 * f) + n))) hx hb dM_start_66 (nI_l (by omega)) ?_
        refine lv_lload_n hx hb dM_start_67 rfl (lv_at hl 4 rfl) ?_
        refine kc_SL (n := 1) (As := [.long v9]) (rest := [.long (lN (st ((64 * f) + n)))]) ⟨hx, hb, hml, hown, hts⟩ (c_M_modulo l D g ad tb sa w7 H.size (v9)) bw_592 bw_593 bw_3 bw_594 (by decide +kernel) ⟨by decide, by decide⟩ hW hK hk hS hAA rfl hl.1 rfl (Nat.le_of_ble_eq_true rfl) dM_start_68 ⟨by decide, by decide⟩ (fun r9 w10 H locs hp hW hS => ?_)
        obtain ⟨hw9, hr9⟩ := hp
        rw [hw9] at hW
        subst hr9
        refine W.lcmp hx hb dM_start_71 ?_
        refine lv_if_eq (tgt := 79) hx hb dM_start_72 (by decide) (fun c5 => ?_) (fun c5 => ?_)
        · refine lv_iconst (v := nI 0) hx hb dM_start_79 (by decide) ?_
          refine lv_istore (lv' := [(6, .int (nI 0)), (5, .int (nI ((64 * f) + n))), (0, .ref mo), (1, .int (nI f)), (2, .int (nI n)), (3, .long v9)]) hx hb dM_start_80 hl (by decide) rfl (fun ls hl => ?_)
          refine lv_aload_n hx hb dM_start_82 rfl (lv_at hl 2 rfl) ?_
          refine hw_get (v := .ref (ml 5)) (C := RM) (T := TM) (N := 16) hx hb hts inM hown hK hW hM.1 rfl 7 (by decide) (hts _ bw_524) (fun _ h9 => h9) rfl dM_start_83 ?_
          refine lv_iload hx hb dM_start_86 (lv_at hl 1 rfl) ?_
          refine lv_lload_n hx hb dM_start_88 rfl (lv_at hl 5 rfl) ?_
          refine kc_SL (n := 1) (As := [.long v9]) (rest := [.int (nI ((64 * f) + n)), .ref (ml 5)]) ⟨hx, hb, hml, hown, hts⟩ (c_M_modulo l D g ad tb sa w7 H.size (v9)) bw_592 bw_593 bw_3 bw_594 (by decide +kernel) ⟨by decide, by decide⟩ hW hK hk hS hAA rfl hl.1 rfl (Nat.le_of_ble_eq_true rfl) dM_start_89 ⟨by decide, by decide⟩ (fun r11 w12 H locs hp hW hS => ?_)
          obtain ⟨hw9, hr9⟩ := hp
          rw [hw9] at hW
          subst hr9
          refine lv_l2i (v := nI (rd v9.toInt)) hx hb dM_start_92 (lN_i _) ?_
          refine hw_iast hx hb hK hW hS 0 hM.2.2.2.2.2.2.1 rfl (vp_in_nI (show (64 * f) + n < 2560 by omega) (by omega)) dM_start_93 (fun H locs hW hS => ?_)
          rw [nI_clamp (show (64 * f) + n < 2 ^ 31 by omega), ni_upd] at hW
          have hW : hw D vwCl A (hwu w7 (ml 5) (ia (g 0) 2560 (va_up st ((64 * f) + n) (rd v9.toInt)))) H := hW
          obtain ⟨w13, ew13⟩ : ∃ z, z = hwu w7 (ml 5) (ia (g 0) 2560 (va_up st ((64 * f) + n) (rd v9.toInt))) := ⟨_, rfl⟩
          rw [← ew13] at hW
          have hM : moW g w13 mo ml 0 mn ki on tw od fa (va_up st ((64 * f) + n) (rd v9.toInt)) rs me fo fd ba ta by9 nd := by rw [ew13]; exact hM.set_st hD _
          have hFr : moF mo ml w w13 := hFr.tr (by rw [ew13]; exact moF_a (by decide))
          refine lv_iload hx hb dM_start_94 (lv_at hl 0 rfl) ?_
          exact W.zret (ty := .boolean) (v := nI 0) hx hb hr (by decide) (fun t ht hW9 => ⟨⟨nI 0, w13, rfl, ⟨hFr, Or.inr ⟨f, n, hfc, hnc, ef, en, Or.inr ⟨ht0, by rw [decide_eq_false (fun h9 => h9 (hfx.symm.trans ((cp_eqN (by omega) (by omega)).mp c5)))]; rfl, hM⟩⟩⟩, by rw [ht]; exact hW, va_K.moved hW9.alike hK⟩, hS.F ht⟩) hS.2.2 dM_start_96
        · refine lv_iconst (v := nI 1) hx hb dM_start_75 (by decide) ?_
          refine lv_goto (tgt := 80) hx hb dM_start_76 (by decide) ?_
          refine lv_istore (lv' := [(6, .int (nI 1)), (5, .int (nI ((64 * f) + n))), (0, .ref mo), (1, .int (nI f)), (2, .int (nI n)), (3, .long v9)]) hx hb dM_start_80 hl (by decide) rfl (fun ls hl => ?_)
          refine lv_aload_n hx hb dM_start_82 rfl (lv_at hl 2 rfl) ?_
          refine hw_get (v := .ref (ml 5)) (C := RM) (T := TM) (N := 16) hx hb hts inM hown hK hW hM.1 rfl 7 (by decide) (hts _ bw_524) (fun _ h9 => h9) rfl dM_start_83 ?_
          refine lv_iload hx hb dM_start_86 (lv_at hl 1 rfl) ?_
          refine lv_lload_n hx hb dM_start_88 rfl (lv_at hl 5 rfl) ?_
          refine kc_SL (n := 1) (As := [.long v9]) (rest := [.int (nI ((64 * f) + n)), .ref (ml 5)]) ⟨hx, hb, hml, hown, hts⟩ (c_M_modulo l D g ad tb sa w7 H.size (v9)) bw_592 bw_593 bw_3 bw_594 (by decide +kernel) ⟨by decide, by decide⟩ hW hK hk hS hAA rfl hl.1 rfl (Nat.le_of_ble_eq_true rfl) dM_start_89 ⟨by decide, by decide⟩ (fun r14 w15 H locs hp hW hS => ?_)
          obtain ⟨hw9, hr9⟩ := hp
          rw [hw9] at hW
          subst hr9
          refine lv_l2i (v := nI (rd v9.toInt)) hx hb dM_start_92 (lN_i _) ?_
          refine hw_iast hx hb hK hW hS 0 hM.2.2.2.2.2.2.1 rfl (vp_in_nI (show (64 * f) + n < 2560 by omega) (by omega)) dM_start_93 (fun H locs hW hS => ?_)
          rw [nI_clamp (show (64 * f) + n < 2 ^ 31 by omega), ni_upd] at hW
          have hW : hw D vwCl A (hwu w7 (ml 5) (ia (g 0) 2560 (va_up st ((64 * f) + n) (rd v9.toInt)))) H := hW
          obtain ⟨w16, ew16⟩ : ∃ z, z = hwu w7 (ml 5) (ia (g 0) 2560 (va_up st ((64 * f) + n) (rd v9.toInt))) := ⟨_, rfl⟩
          rw [← ew16] at hW
          have hM : moW g w16 mo ml 0 mn ki on tw od fa (va_up st ((64 * f) + n) (rd v9.toInt)) rs me fo fd ba ta by9 nd := by rw [ew16]; exact hM.set_st hD _
          have hFr : moF mo ml w w16 := hFr.tr (by rw [ew16]; exact moF_a (by decide))
          refine lv_iload hx hb dM_start_94 (lv_at hl 0 rfl) ?_
          exact W.zret (ty := .boolean) (v := nI 1) hx hb hr (by decide) (fun t ht hW9 => ⟨⟨nI 1, w16, rfl, ⟨hFr, Or.inr ⟨f, n, hfc, hnc, ef, en, Or.inr ⟨ht0, by rw [decide_eq_true (show sS (σ f) n ≠ rd v9.toInt from fun h9 => c5 ((cp_eqN (by omega) (by omega)).mpr (hfx.trans h9)))]; rfl, hM⟩⟩⟩, by rw [ht]; exact hW, va_K.moved hW9.alike hK⟩, hS.F ht⟩) hS.2.2 dM_start_96
      · refine lv_iconst (v := nI 2) hx hb dM_start_34 (by decide) ?_
        refine lv_goto (tgt := 39) hx hb dM_start_35 (by decide) ?_
        refine hw_put (v := .int (nI 2)) (ty := .int) (C := RM) (T := TM) (N := 16) hx hb hts inM tyM tyM_ok nmM hown hK hW hS hM.1 rfl 0 (by decide) (hts _ bw_517) (fun _ h9 => h9) rfl (by decide +kernel) rfl rfl (Nat.le_of_ble_eq_true rfl) dM_start_39 (fun H locs hW hS => ?_)
        have hW : hw D vwCl A (hwu w mo (.inr (4, [.int (nI 2), .int (nI mn), .ref (ml 0), .ref (ml 1), .ref (ml 2), .ref (ml 3), .ref (ml 4), .ref (ml 5), .ref (ml 6), .int (nI me), .int (nI fo), .int (nI fd), .ref (ml 7), .ref (ml 8), .ref (ml 9), .ref (ml 10)]))) H := hW
        obtain ⟨w17, ew17⟩ : ∃ z, z = hwu w mo (.inr (4, [.int (nI 2), .int (nI mn), .ref (ml 0), .ref (ml 1), .ref (ml 2), .ref (ml 3), .ref (ml 4), .ref (ml 5), .ref (ml 6), .int (nI me), .int (nI fo), .int (nI fd), .ref (ml 7), .ref (ml 8), .ref (ml 9), .ref (ml 10)])) := ⟨_, rfl⟩
        rw [← ew17] at hW
        have hM : moW g w17 mo ml 2 mn ki on tw od fa st rs me fo fd ba ta by9 nd := by rw [ew17]; exact hM.set_m _ _ _ _ _
        have hFr : moF mo ml w w17 := hFr.tr (by rw [ew17]; exact moF_m)
        refine lv_aload_n hx hb dM_start_42 rfl (lv_at hl 0 rfl) ?_
        refine hw_get (v := .int (nI 2)) (C := RM) (T := TM) (N := 16) hx hb hts inM hown hK hW hM.1 rfl 0 (by decide) (hts _ bw_517) (fun _ h9 => h9) rfl dM_start_43 ?_
        refine nw_if_le (tgt := 51) hx hb (by omega) dM_start_46 (by decide) (fun c18 => absurd c18 (by decide)) (fun c18 => ?_)
        refine lv_iconst (v := nI 0) hx hb dM_start_49 (by decide) ?_
        exact W.zret (ty := .boolean) (v := nI 0) hx hb hr (by decide) (fun t ht hW9 => ⟨⟨nI 0, w17, rfl, ⟨hFr, Or.inr ⟨f, n, hfc, hnc, ef, en, Or.inl ⟨by omega, hM⟩⟩⟩, by rw [ht]; exact hW, va_K.moved hW9.alike hK⟩, hS.F ht⟩) hS.2.2 dM_start_50
    · refine lv_iconst (v := nI 1) hx hb dM_start_21 (by decide) ?_
      refine lv_goto (tgt := 39) hx hb dM_start_22 (by decide) ?_
      refine hw_put (v := .int (nI 1)) (ty := .int) (C := RM) (T := TM) (N := 16) hx hb hts inM tyM tyM_ok nmM hown hK hW hS hM.1 rfl 0 (by decide) (hts _ bw_517) (fun _ h9 => h9) rfl (by decide +kernel) rfl rfl (Nat.le_of_ble_eq_true rfl) dM_start_39 (fun H locs hW hS => ?_)
      have hW : hw D vwCl A (hwu w mo (.inr (4, [.int (nI 1), .int (nI mn), .ref (ml 0), .ref (ml 1), .ref (ml 2), .ref (ml 3), .ref (ml 4), .ref (ml 5), .ref (ml 6), .int (nI me), .int (nI fo), .int (nI fd), .ref (ml 7), .ref (ml 8), .ref (ml 9), .ref (ml 10)]))) H := hW
      obtain ⟨w19, ew19⟩ : ∃ z, z = hwu w mo (.inr (4, [.int (nI 1), .int (nI mn), .ref (ml 0), .ref (ml 1), .ref (ml 2), .ref (ml 3), .ref (ml 4), .ref (ml 5), .ref (ml 6), .int (nI me), .int (nI fo), .int (nI fd), .ref (ml 7), .ref (ml 8), .ref (ml 9), .ref (ml 10)])) := ⟨_, rfl⟩
      rw [← ew19] at hW
      have hM : moW g w19 mo ml 1 mn ki on tw od fa st rs me fo fd ba ta by9 nd := by rw [ew19]; exact hM.set_m _ _ _ _ _
      have hFr : moF mo ml w w19 := hFr.tr (by rw [ew19]; exact moF_m)
      refine lv_aload_n hx hb dM_start_42 rfl (lv_at hl 0 rfl) ?_
      refine hw_get (v := .int (nI 1)) (C := RM) (T := TM) (N := 16) hx hb hts inM hown hK hW hM.1 rfl 0 (by decide) (hts _ bw_517) (fun _ h9 => h9) rfl dM_start_43 ?_
      refine nw_if_le (tgt := 51) hx hb (by omega) dM_start_46 (by decide) (fun c20 => absurd c20 (by decide)) (fun c20 => ?_)
      refine lv_iconst (v := nI 0) hx hb dM_start_49 (by decide) ?_
      exact W.zret (ty := .boolean) (v := nI 0) hx hb hr (by decide) (fun t ht hW9 => ⟨⟨nI 0, w19, rfl, ⟨hFr, Or.inl ⟨by first | exact fun h9 => (inB_f (by omega)).mp (bz_f c1) h9.1 | exact fun h9 => (inB_f (by omega)).mp (bz_f c2) h9.2, hM⟩⟩, by rw [ht]; exact hW, va_K.moved hW9.alike hK⟩, hS.F ht⟩) hS.2.2 dM_start_50
