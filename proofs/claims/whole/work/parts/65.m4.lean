set_option maxHeartbeats 1000000 in
set_option maxRecDepth 100000 in
theorem c_M_more (l : Launch) (D : va_G) (g : Nat → ClassId) (ad : Nat → Nat) (tb : Nat) (sa : Nat → Nat) (w : Wd) (sz : Nat) (mo : Nat) (ml : Nat → Nat) (cd mn : Nat) (ki on tw od fa st rs : Nat → Nat) (me fo fd : Nat) (ba ta by9 : Nat → Nat) (nd : Nat → Bool) (hD : moD ml) (hM0 : moW g w mo ml cd mn ki on tw od fa st rs me fo fd ba ta by9 nd) (k f h : Nat) (hmn : mn < 40) : MI l D g ad tb sa yM_more cM_more 4 (some (.int)) 0 0 0 0 w sz [.ref mo, .int (nI k), .int (nI f), .int (nI h)] (fun r w' => moF mo ml w w' ∧ moW g w' mo ml cd (mn + 1) (va_up ki mn k) (va_up on mn f) (va_up tw mn h) od fa st rs me fo fd ba ta by9 nd ∧ r = nI mn) := by
  refine hm_MI (by decide) (Nat.le_of_ble_eq_true rfl) ?_
  intro p e s m below meth c A ls hx hb hr hml hts hown hlocks hin hout hsz hW hK hk hS hAA hl
  have hl : lv_has ls 4 [(0, .ref mo), (1, .int (nI k)), (2, .int (nI f)), (3, .int (nI h))] := hl
  have hM := hM0
  have hFr : moF mo ml w w := moF.rf
  refine lv_aload_n hx hb dM_more_0 rfl (lv_at hl 0 rfl) ?_
  refine hw_get (v := .ref (ml 0)) (C := RM) (T := TM) (N := 16) hx hb hts inM hown hK hW hM.1 rfl 2 (by decide) (hts _ bw_519) (fun _ h9 => h9) rfl dM_more_1 ?_
  refine lv_aload_n hx hb dM_more_4 rfl (lv_at hl 0 rfl) ?_
  refine hw_get (v := .int (nI mn)) (C := RM) (T := TM) (N := 16) hx hb hts inM hown hK hW hM.1 rfl 1 (by decide) (hts _ bw_518) (fun _ h9 => h9) rfl dM_more_5 ?_
  refine lv_iload_n hx hb dM_more_8 rfl (lv_at hl 1 rfl) ?_
  refine hw_iast hx hb hK hW hS 0 hM.2.1 rfl (vp_in_nI (show mn < 40 by omega) (by omega)) dM_more_9 (fun H locs hW hS => ?_)
  rw [nI_clamp (show mn < 2 ^ 31 by omega), ni_upd] at hW
  have hW : hw D vwCl A (hwu w (ml 0) (ia (g 0) 40 (va_up ki mn k))) H := hW
  obtain ⟨w1, ew1⟩ : ∃ z, z = hwu w (ml 0) (ia (g 0) 40 (va_up ki mn k)) := ⟨_, rfl⟩
  rw [← ew1] at hW
  have hM : moW g w1 mo ml cd mn (va_up ki mn k) on tw od fa st rs me fo fd ba ta by9 nd := by rw [ew1]; exact hM.set_ki hD _
  have hFr : moF mo ml w w1 := hFr.tr (by rw [ew1]; exact moF_a (by decide))
  refine lv_aload_n hx hb dM_more_10 rfl (lv_at hl 0 rfl) ?_
  refine hw_get (v := .ref (ml 1)) (C := RM) (T := TM) (N := 16) hx hb hts inM hown hK hW hM.1 rfl 3 (by decide) (hts _ bw_520) (fun _ h9 => h9) rfl dM_more_11 ?_
  refine lv_aload_n hx hb dM_more_14 rfl (lv_at hl 0 rfl) ?_
  refine hw_get (v := .int (nI mn)) (C := RM) (T := TM) (N := 16) hx hb hts inM hown hK hW hM.1 rfl 1 (by decide) (hts _ bw_518) (fun _ h9 => h9) rfl dM_more_15 ?_
  refine lv_iload_n hx hb dM_more_18 rfl (lv_at hl 2 rfl) ?_
  refine hw_iast hx hb hK hW hS 0 hM.2.2.1 rfl (vp_in_nI (show mn < 40 by omega) (by omega)) dM_more_19 (fun H locs hW hS => ?_)
  rw [nI_clamp (show mn < 2 ^ 31 by omega), ni_upd] at hW
  have hW : hw D vwCl A (hwu w1 (ml 1) (ia (g 0) 40 (va_up on mn f))) H := hW
  obtain ⟨w2, ew2⟩ : ∃ z, z = hwu w1 (ml 1) (ia (g 0) 40 (va_up on mn f)) := ⟨_, rfl⟩
  rw [← ew2] at hW
  have hM : moW g w2 mo ml cd mn (va_up ki mn k) (va_up on mn f) tw od fa st rs me fo fd ba ta by9 nd := by rw [ew2]; exact hM.set_on hD _
  have hFr : moF mo ml w w2 := hFr.tr (by rw [ew2]; exact moF_a (by decide))
  refine lv_aload_n hx hb dM_more_20 rfl (lv_at hl 0 rfl) ?_
  refine hw_get (v := .ref (ml 2)) (C := RM) (T := TM) (N := 16) hx hb hts inM hown hK hW hM.1 rfl 4 (by decide) (hts _ bw_521) (fun _ h9 => h9) rfl dM_more_21 ?_
  refine lv_aload_n hx hb dM_more_24 rfl (lv_at hl 0 rfl) ?_
  refine hw_get (v := .int (nI mn)) (C := RM) (T := TM) (N := 16) hx hb hts inM hown hK hW hM.1 rfl 1 (by decide) (hts _ bw_518) (fun _ h9 => h9) rfl dM_more_25 ?_
  refine lv_iload_n hx hb dM_more_28 rfl (lv_at hl 3 rfl) ?_
  refine hw_iast hx hb hK hW hS 0 hM.2.2.2.1 rfl (vp_in_nI (show mn < 40 by omega) (by omega)) dM_more_29 (fun H locs hW hS => ?_)
  rw [nI_clamp (show mn < 2 ^ 31 by omega), ni_upd] at hW
  have hW : hw D vwCl A (hwu w2 (ml 2) (ia (g 0) 40 (va_up tw mn h))) H := hW
  obtain ⟨w3, ew3⟩ : ∃ z, z = hwu w2 (ml 2) (ia (g 0) 40 (va_up tw mn h)) := ⟨_, rfl⟩
  rw [← ew3] at hW
  have hM : moW g w3 mo ml cd mn (va_up ki mn k) (va_up on mn f) (va_up tw mn h) od fa st rs me fo fd ba ta by9 nd := by rw [ew3]; exact hM.set_tw hD _
  have hFr : moF mo ml w w3 := hFr.tr (by rw [ew3]; exact moF_a (by decide))
  refine lv_aload_n hx hb dM_more_30 rfl (lv_at hl 0 rfl) ?_
  refine lv_dup hx hb dM_more_31 rfl ?_
  refine hw_get (v := .int (nI mn)) (C := RM) (T := TM) (N := 16) hx hb hts inM hown hK hW hM.1 rfl 1 (by decide) (hts _ bw_518) (fun _ h9 => h9) rfl dM_more_32 ?_
  refine lv_iconst (v := nI 1) hx hb dM_more_35 (by decide) ?_
  refine lv_iadd hx hb dM_more_36 ?_
  refine tp_i (show (nI mn) + (nI 1) = nI (mn + 1) from nI_add _ _) ?_
  refine hw_put (v := .int (nI (mn + 1))) (ty := .int) (C := RM) (T := TM) (N := 16) hx hb hts inM tyM tyM_ok nmM hown hK hW hS hM.1 rfl 1 (by decide) (hts _ bw_518) (fun _ h9 => h9) rfl (by decide +kernel) rfl rfl (Nat.le_of_ble_eq_true rfl) dM_more_37 (fun H locs hW hS => ?_)
  have hW : hw D vwCl A (hwu w3 mo (.inr (4, [.int (nI cd), .int (nI (mn + 1)), .ref (ml 0), .ref (ml 1), .ref (ml 2), .ref (ml 3), .ref (ml 4), .ref (ml 5), .ref (ml 6), .int (nI me), .int (nI fo), .int (nI fd), .ref (ml 7), .ref (ml 8), .ref (ml 9), .ref (ml 10)]))) H := hW
  obtain ⟨w4, ew4⟩ : ∃ z, z = hwu w3 mo (.inr (4, [.int (nI cd), .int (nI (mn + 1)), .ref (ml 0), .ref (ml 1), .ref (ml 2), .ref (ml 3), .ref (ml 4), .ref (ml 5), .ref (ml 6), .int (nI me), .int (nI fo), .int (nI fd), .ref (ml 7), .ref (ml 8), .ref (ml 9), .ref (ml 10)])) := ⟨_, rfl⟩
  rw [← ew4] at hW
  have hM : moW g w4 mo ml cd (mn + 1) (va_up ki mn k) (va_up on mn f) (va_up tw mn h) od fa st rs me fo fd ba ta by9 nd := by rw [ew4]; exact hM.set_m _ _ _ _ _
  have hFr : moF mo ml w w4 := hFr.tr (by rw [ew4]; exact moF_m)
  refine lv_aload_n hx hb dM_more_40 rfl (lv_at hl 0 rfl) ?_
  refine hw_get (v := .int (nI (mn + 1))) (C := RM) (T := TM) (N := 16) hx hb hts inM hown hK hW hM.1 rfl 1 (by decide) (hts _ bw_518) (fun _ h9 => h9) rfl dM_more_41 ?_
  refine lv_iconst (v := nI 1) hx hb dM_more_44 (by decide) ?_
  refine lv_isub hx hb dM_more_45 ?_
  refine tp_i (show (nI (mn + 1)) - (nI 1) = nI ((mn + 1) - 1) from pk_sub (by omega)) ?_
  exact W.iret (v := nI ((mn + 1) - 1)) hx hb hr (fun t ht hW9 => ⟨⟨nI ((mn + 1) - 1), w4, rfl, ⟨hFr, hM, by rw [Nat.add_sub_cancel]⟩, by rw [ht]; exact hW, va_K.moved hW9.alike hK⟩, hS.F ht⟩) hS.2.2 dM_more_46

def mayC (mn : Nat) (f9 g9 : Int32) : Nat := if inB mn f9 = true ∧ inB mn g9 = true then (if mn = 40 then 2 else 0) else 1
theorem mayC_1 {mn : Nat} {f9 g9 : Int32} (h : inB mn f9 = false ∨ inB mn g9 = false) : mayC mn f9 g9 = 1 := by
  unfold mayC
  rw [if_neg]
  rintro ⟨h1, h2⟩
  rcases h with h | h
  · rw [h] at h1; cases h1
  · rw [h] at h2; cases h2
theorem mayC_2 {mn : Nat} {f9 g9 : Int32} (h1 : inB mn f9 = true) (h2 : inB mn g9 = true) (h : mn = 40) : mayC mn f9 g9 = 2 := by
  unfold mayC
  rw [if_pos ⟨h1, h2⟩, if_pos h]
theorem mayC_0 {mn : Nat} {f9 g9 : Int32} (h1 : inB mn f9 = true) (h2 : inB mn g9 = true) (h : mn ≠ 40) : mayC mn f9 g9 = 0 := by
  unfold mayC
  rw [if_pos ⟨h1, h2⟩, if_neg h]

set_option maxHeartbeats 1000000 in
set_option maxRecDepth 100000 in
theorem c_M_may (l : Launch) (D : va_G) (g : Nat → ClassId) (ad : Nat → Nat) (tb : Nat) (sa : Nat → Nat) (w : Wd) (sz : Nat) (mo : Nat) (ml : Nat → Nat) (cd mn : Nat) (ki on tw od fa st rs : Nat → Nat) (me fo fd : Nat) (ba ta by9 : Nat → Nat) (nd : Nat → Bool) (hD : moD ml) (hM0 : moW g w mo ml cd mn ki on tw od fa st rs me fo fd ba ta by9 nd) (hmn : mn ≤ 40) (f9 g9 : Int32) : MI l D g ad tb sa yM_may cM_may 3 (some (.boolean)) 2 46 0 0 w sz [.ref mo, .int f9, .int g9] (fun r w' => moF mo ml w w' ∧ moW g w' mo ml (mayC mn f9 g9) mn ki on tw od fa st rs me fo fd ba ta by9 nd ∧ r = nI (bz (decide (mayC mn f9 g9 = 0)))) := by
  refine hm_MI (by decide) (Nat.le_of_ble_eq_true rfl) ?_
  intro p e s m below meth c A ls hx hb hr hml hts hown hlocks hin hout hsz hW hK hk hS hAA hl
  have hl : lv_has ls 3 [(0, .ref mo), (1, .int f9), (2, .int g9)] := hl
  have hM := hM0
  have hFr : moF mo ml w w := moF.rf
  have hb1 := bz_le (inB mn f9)
  have hb2 := bz_le (inB mn g9)
  refine lv_aload_n hx hb dM_may_0 rfl (lv_at hl 0 rfl) ?_
  refine lv_aload_n hx hb dM_may_1 rfl (lv_at hl 0 rfl) ?_
  refine lv_iload_n hx hb dM_may_2 rfl (lv_at hl 1 rfl) ?_
  refine kc_VI (n := 1) (As := [.int f9]) (rest := [.ref mo]) ⟨hx, hb, hml, hown, hts⟩ (c_M_isThere l D g ad tb sa w s.heap.size mo ml cd mn ki on tw od fa st rs me fo fd ba ta by9 nd hM (by omega) f9) bw_587 bw_589 bs_17 bw_3 bw_590 (by decide +kernel) rfl rfl hM.1 ⟨by decide, by decide⟩ hW hK hk hS hAA rfl hl.1 rfl (Nat.le_of_ble_eq_true rfl) dM_may_3 ⟨by decide, by decide⟩ (fun r1 w2 H locs hp hW hS => ?_)
  obtain ⟨hw9, hr9⟩ := hp
  rw [hw9] at hW
  subst hr9
  refine nw_if_eq (tgt := 17) hx hb (by omega) dM_may_6 (by decide) (fun c1 => ?_) (fun c1 => ?_)
  · refine lv_iconst (v := nI 1) hx hb dM_may_17 (by decide) ?_
    refine lv_goto (tgt := 35) hx hb dM_may_18 (by decide) ?_
    refine hw_put (v := .int (nI 1)) (ty := .int) (C := RM) (T := TM) (N := 16) hx hb hts inM tyM tyM_ok nmM hown hK hW hS hM.1 rfl 0 (by decide) (hts _ bw_517) (fun _ h9 => h9) rfl (by decide +kernel) rfl rfl (Nat.le_of_ble_eq_true rfl) dM_may_35 (fun H locs hW hS => ?_)
    have hW : hw D vwCl A (hwu w mo (.inr (4, [.int (nI 1), .int (nI mn), .ref (ml 0), .ref (ml 1), .ref (ml 2), .ref (ml 3), .ref (ml 4), .ref (ml 5), .ref (ml 6), .int (nI me), .int (nI fo), .int (nI fd), .ref (ml 7), .ref (ml 8), .ref (ml 9), .ref (ml 10)]))) H := hW
    obtain ⟨w3, ew3⟩ : ∃ z, z = hwu w mo (.inr (4, [.int (nI 1), .int (nI mn), .ref (ml 0), .ref (ml 1), .ref (ml 2), .ref (ml 3), .ref (ml 4), .ref (ml 5), .ref (ml 6), .int (nI me), .int (nI fo), .int (nI fd), .ref (ml 7), .ref (ml 8), .ref (ml 9), .ref (ml 10)])) := ⟨_, rfl⟩
    rw [← ew3] at hW
    have hM : moW g w3 mo ml 1 mn ki on tw od fa st rs me fo fd ba ta by9 nd := by rw [ew3]; exact hM.set_m _ _ _ _ _
    have hFr : moF mo ml w w3 := hFr.tr (by rw [ew3]; exact moF_m)
    refine lv_aload_n hx hb dM_may_38 rfl (lv_at hl 0 rfl) ?_
    refine hw_get (v := .int (nI 1)) (C := RM) (T := TM) (N := 16) hx hb hts inM hown hK hW hM.1 rfl 0 (by decide) (hts _ bw_517) (fun _ h9 => h9) rfl dM_may_39 ?_
    refine nw_if_ne (tgt := 49) hx hb (by omega) dM_may_42 (by decide) (fun c4 => ?_) (fun c4 => absurd c4 (by decide))
    refine lv_iconst (v := nI 0) hx hb dM_may_49 (by decide) ?_
    have hc9 : mayC mn f9 g9 = 1 := mayC_1 (by first | exact Or.inl (bz_f c1) | exact Or.inr (bz_f c2))
    exact W.zret (ty := .boolean) (v := nI 0) hx hb hr (by decide) (fun t ht hW9 => ⟨⟨nI 0, w3, rfl, ⟨hFr, by rw [hc9]; exact hM, by rw [hc9]; rfl⟩, by rw [ht]; exact hW, va_K.moved hW9.alike hK⟩, hS.F ht⟩) hS.2.2 dM_may_50
  · refine lv_aload_n hx hb dM_may_9 rfl (lv_at hl 0 rfl) ?_
    refine lv_iload_n hx hb dM_may_10 rfl (lv_at hl 2 rfl) ?_
    refine kc_VI (n := 1) (As := [.int g9]) (rest := [.ref mo]) ⟨hx, hb, hml, hown, hts⟩ (c_M_isThere l D g ad tb sa w H.size mo ml cd mn ki on tw od fa st rs me fo fd ba ta by9 nd hM (by omega) g9) bw_587 bw_589 bs_17 bw_3 bw_590 (by decide +kernel) rfl rfl hM.1 ⟨by decide, by decide⟩ hW hK hk hS hAA rfl hl.1 rfl (Nat.le_of_ble_eq_true rfl) dM_may_11 ⟨by decide, by decide⟩ (fun r5 w6 H locs hp hW hS => ?_)
    obtain ⟨hw9, hr9⟩ := hp
    rw [hw9] at hW
    subst hr9
    refine nw_if_ne (tgt := 21) hx hb (by omega) dM_may_14 (by decide) (fun c2 => ?_) (fun c2 => ?_)
    · refine lv_aload_n hx hb dM_may_21 rfl (lv_at hl 0 rfl) ?_
      refine hw_get (v := .int (nI mn)) (C := RM) (T := TM) (N := 16) hx hb hts inM hown hK hW hM.1 rfl 1 (by decide) (hts _ bw_518) (fun _ h9 => h9) rfl dM_may_22 ?_
      refine lv_bipush (v := nI 40) hx hb dM_may_25 (by decide) ?_
      refine nw_icmp_ne (tgt := 34) hx hb (by omega) (by omega) dM_may_27 (by decide) (fun c3 => ?_) (fun c3 => ?_)
      · refine lv_iconst (v := nI 0) hx hb dM_may_34 (by decide) ?_
        refine hw_put (v := .int (nI 0)) (ty := .int) (C := RM) (T := TM) (N := 16) hx hb hts inM tyM tyM_ok nmM hown hK hW hS hM.1 rfl 0 (by decide) (hts _ bw_517) (fun _ h9 => h9) rfl (by decide +kernel) rfl rfl (Nat.le_of_ble_eq_true rfl) dM_may_35 (fun H locs hW hS => ?_)
        have hW : hw D vwCl A (hwu w mo (.inr (4, [.int (nI 0), .int (nI mn), .ref (ml 0), .ref (ml 1), .ref (ml 2), .ref (ml 3), .ref (ml 4), .ref (ml 5), .ref (ml 6), .int (nI me), .int (nI fo), .int (nI fd), .ref (ml 7), .ref (ml 8), .ref (ml 9), .ref (ml 10)]))) H := hW
        obtain ⟨w7, ew7⟩ : ∃ z, z = hwu w mo (.inr (4, [.int (nI 0), .int (nI mn), .ref (ml 0), .ref (ml 1), .ref (ml 2), .ref (ml 3), .ref (ml 4), .ref (ml 5), .ref (ml 6), .int (nI me), .int (nI fo), .int (nI fd), .ref (ml 7), .ref (ml 8), .ref (ml 9), .ref (ml 10)])) := ⟨_, rfl⟩
        rw [← ew7] at hW
        have hM : moW g w7 mo ml 0 mn ki on tw od fa st rs me fo fd ba ta by9 nd := by rw [ew7]; exact hM.set_m _ _ _ _ _
        have hFr : moF mo ml w w7 := hFr.tr (by rw [ew7]; exact moF_m)
        refine lv_aload_n hx hb dM_may_38 rfl (lv_at hl 0 rfl) ?_
        refine hw_get (v := .int (nI 0)) (C := RM) (T := TM) (N := 16) hx hb hts inM hown hK hW hM.1 rfl 0 (by decide) (hts _ bw_517) (fun _ h9 => h9) rfl dM_may_39 ?_
        refine nw_if_ne (tgt := 49) hx hb (by omega) dM_may_42 (by decide) (fun c8 => absurd c8 (by decide)) (fun c8 => ?_)
        refine lv_iconst (v := nI 1) hx hb dM_may_45 (by decide) ?_
        refine lv_goto (tgt := 50) hx hb dM_may_46 (by decide) ?_
        have hc9 : mayC mn f9 g9 = 0 := mayC_0 (bz_t c1) (bz_t c2) c3
        exact W.zret (ty := .boolean) (v := nI 1) hx hb hr (by decide) (fun t ht hW9 => ⟨⟨nI 1, w7, rfl, ⟨hFr, by rw [hc9]; exact hM, by rw [hc9]; rfl⟩, by rw [ht]; exact hW, va_K.moved hW9.alike hK⟩, hS.F ht⟩) hS.2.2 dM_may_50
      · refine lv_iconst (v := nI 2) hx hb dM_may_30 (by decide) ?_
        refine lv_goto (tgt := 35) hx hb dM_may_31 (by decide) ?_
        refine hw_put (v := .int (nI 2)) (ty := .int) (C := RM) (T := TM) (N := 16) hx hb hts inM tyM tyM_ok nmM hown hK hW hS hM.1 rfl 0 (by decide) (hts _ bw_517) (fun _ h9 => h9) rfl (by decide +kernel) rfl rfl (Nat.le_of_ble_eq_true rfl) dM_may_35 (fun H locs hW hS => ?_)
        have hW : hw D vwCl A (hwu w mo (.inr (4, [.int (nI 2), .int (nI mn), .ref (ml 0), .ref (ml 1), .ref (ml 2), .ref (ml 3), .ref (ml 4), .ref (ml 5), .ref (ml 6), .int (nI me), .int (nI fo), .int (nI fd), .ref (ml 7), .ref (ml 8), .ref (ml 9), .ref (ml 10)]))) H := hW
        obtain ⟨w9, ew9⟩ : ∃ z, z = hwu w mo (.inr (4, [.int (nI 2), .int (nI mn), .ref (ml 0), .ref (ml 1), .ref (ml 2), .ref (ml 3), .ref (ml 4), .ref (ml 5), .ref (ml 6), .int (nI me), .int (nI fo), .int (nI fd), .ref (ml 7), .ref (ml 8), .ref (ml 9), .ref (ml 10)])) := ⟨_, rfl⟩
        rw [← ew9] at hW
        have hM : moW g w9 mo ml 2 mn ki on tw od fa st rs me fo fd ba ta by9 nd := by rw [ew9]; exact hM.set_m _ _ _ _ _
        have hFr : moF mo ml w w9 := hFr.tr (by rw [ew9]; exact moF_m)
        refine lv_aload_n hx hb dM_may_38 rfl (lv_at hl 0 rfl) ?_
        refine hw_get (v := .int (nI 2)) (C := RM) (T := TM) (N := 16) hx hb hts inM hown hK hW hM.1 rfl 0 (by decide) (hts _ bw_517) (fun _ h9 => h9) rfl dM_may_39 ?_
        refine nw_if_ne (tgt := 49) hx hb (by omega) dM_may_42 (by decide) (fun c10 => ?_) (fun c10 => absurd c10 (by decide))
        refine lv_iconst (v := nI 0) hx hb dM_may_49 (by decide) ?_
        have hc9 : mayC mn f9 g9 = 2 := mayC_2 (bz_t c1) (bz_t c2) c3
        exact W.zret (ty := .boolean) (v := nI 0) hx hb hr (by decide) (fun t ht hW9 => ⟨⟨nI 0, w9, rfl, ⟨hFr, by rw [hc9]; exact hM, by rw [hc9]; rfl⟩, by rw [ht]; exact hW, va_K.moved hW9.alike hK⟩, hS.F ht⟩) hS.2.2 dM_may_50
    · refine lv_iconst (v := nI 1) hx hb dM_may_17 (by decide) ?_
      refine lv_goto (tgt := 35) hx hb dM_may_18 (by decide) ?_
      refine hw_put (v := .int (nI 1)) (ty := .int) (C := RM) (T := TM) (N := 16) hx hb hts inM tyM tyM_ok nmM hown hK hW hS hM.1 rfl 0 (by decide) (hts _ bw_517) (fun _ h9 => h9) rfl (by decide +kernel) rfl rfl (Nat.le_of_ble_eq_true rfl) dM_may_35 (fun H locs hW hS => ?_)
      have hW : hw D vwCl A (hwu w mo (.inr (4, [.int (nI 1), .int (nI mn), .ref (ml 0), .ref (ml 1), .ref (ml 2), .ref (ml 3), .ref (ml 4), .ref (ml 5), .ref (ml 6), .int (nI me), .int (nI fo), .int (nI fd), .ref (ml 7), .ref (ml 8), .ref (ml 9), .ref (ml 10)]))) H := hW
      obtain ⟨w11, ew11⟩ : ∃ z, z = hwu w mo (.inr (4, [.int (nI 1), .int (nI mn), .ref (ml 0), .ref (ml 1), .ref (ml 2), .ref (ml 3), .ref (ml 4), .ref (ml 5), .ref (ml 6), .int (nI me), .int (nI fo), .int (nI fd), .ref (ml 7), .ref (ml 8), .ref (ml 9), .ref (ml 10)])) := ⟨_, rfl⟩
      rw [← ew11] at hW
      have hM : moW g w11 mo ml 1 mn ki on tw od fa st rs me fo fd ba ta by9 nd := by rw [ew11]; exact hM.set_m _ _ _ _ _
      have hFr : moF mo ml w w11 := hFr.tr (by rw [ew11]; exact moF_m)
      refine lv_aload_n hx hb dM_may_38 rfl (lv_at hl 0 rfl) ?_
      refine hw_get (v := .int (nI 1)) (C := RM) (T := TM) (N := 16) hx hb hts inM hown hK hW hM.1 rfl 0 (by decide) (hts _ bw_517) (fun _ h9 => h9) rfl dM_may_39 ?_
      refine nw_if_ne (tgt := 49) hx hb (by omega) dM_may_42 (by decide) (fun c12 => ?_) (fun c12 => absurd c12 (by decide))
      refine lv_iconst (v := nI 0) hx hb dM_may_49 (by decide) ?_
      have hc9 : mayC mn f9 g9 = 1 := mayC_1 (by first | exact Or.inl (bz_f c1) | exact Or.inr (bz_f c2))
      exact W.zret (ty := .boolean) (v := nI 0) hx hb hr (by decide) (fun t ht hW9 => ⟨⟨nI 0, w11, rfl, ⟨hFr, by rw [hc9]; exact hM, by rw [hc9]; rfl⟩, by rw [ht]; exact hW, va_K.moved hW9.alike hK⟩, hS.F ht⟩) hS.2.2 dM_may_50

theorem mayC_in {mn : Nat} {f9 g9 : Int32} (hmn : mn ≤ 40) (h : mayC mn f9 g9 = 0) : inC mn f9 ∧ inC mn g9 ∧ mn < 40 := by
  unfold mayC at h
  split at h
  · rename_i h1
    split at h
    · cases h
    · exact ⟨(inB_iff (by omega)).mp h1.1, (inB_iff (by omega)).mp h1.2, by omega⟩
  · cases h
theorem dec_t {P : Prop} [Decidable P] (h : bz (decide P) ≠ 0) : P := of_decide_eq_true (bz_t h)
theorem dec_f {P : Prop} [Decidable P] (h : bz (decide P) = 0) : ¬ P := of_decide_eq_false (bz_f h)

set_option maxHeartbeats 1000000 in
set_option maxRecDepth 100000 in
theorem c_M_add (l : Launch) (D : va_G) (g : Nat → ClassId) (ad : Nat → Nat) (tb : Nat) (sa : Nat → Nat) (w : Wd) (sz : Nat) (mo : Nat) (ml : Nat → Nat) (cd mn : Nat) (ki on tw od fa st rs : Nat → Nat) (me fo fd : Nat) (ba ta by9 : Nat → Nat) (nd : Nat → Bool) (hD : moD ml) (hM0 : moW g w mo ml cd mn ki on tw od fa st rs me fo fd ba ta by9 nd) (hmn : mn ≤ 40) (f9 g9 : Int32) : MI l D g ad tb sa yM_add cM_add 3 (some (.int)) 3 68 0 0 w sz [.ref mo, .int f9, .int g9] (fun r w' => moF mo ml w w' ∧ ((mayC mn f9 g9 ≠ 0 ∧ moW g w' mo ml (mayC mn f9 g9) mn ki on tw od fa st rs me fo fd ba ta by9 nd) ∨ (mayC mn f9 g9 = 0 ∧ ∃ f h, f < mn ∧ f9 = nI f ∧ (h < mn ∧ g9 = nI h) ∧ mn < 40 ∧ r = nI mn ∧ moW g w' mo ml (mayC mn f9 g9) (mn + 1) (va_up ki mn 1) (va_up on mn f) (va_up tw mn h) od fa st rs me fo fd ba ta by9 nd))) := by
  refine hm_MI (by decide) (Nat.le_of_ble_eq_true rfl) ?_
  intro p e s m below meth c A ls hx hb hr hml hts hown hlocks hin hout hsz hW hK hk hS hAA hl
  have hl : lv_has ls 3 [(0, .ref mo), (1, .int f9), (2, .int g9)] := hl
  have hM := hM0
  have hFr : moF mo ml w w := moF.rf
  have hbm := bz_le (decide (mayC mn f9 g9 = 0))
  refine lv_aload_n hx hb dM_add_0 rfl (lv_at hl 0 rfl) ?_
  refine lv_iload_n hx hb dM_add_1 rfl (lv_at hl 1 rfl) ?_
  refine lv_iload_n hx hb dM_add_2 rfl (lv_at hl 2 rfl) ?_
  refine kc_VI (n := 2) (As := [.int f9, .int g9]) (rest := []) ⟨hx, hb, hml, hown, hts⟩ (c_M_may l D g ad tb sa w s.heap.size mo ml cd mn ki on tw od fa st rs me fo fd ba ta by9 nd hD hM (by omega) f9 g9) bw_605 bw_607 bs_18 bw_3 bw_608 (by decide +kernel) rfl rfl hM.1 ⟨by decide, by decide⟩ hW hK hk hS hAA rfl hl.1 rfl (Nat.le_of_ble_eq_true rfl) dM_add_3 ⟨by decide, by decide⟩ (fun r1 w2 H locs hp hW hS => ?_)
  obtain ⟨hF9, hM, hr9⟩ := hp
  subst hr9
  have hFr : moF mo ml w w2 := hFr.tr hF9
  refine nw_if_eq (tgt := 19) hx hb (by omega) dM_add_6 (by decide) (fun cm => ?_) (fun cm => ?_)
  · refine lv_iconst (v := nI 0) hx hb dM_add_19 (by decide) ?_
    exact W.iret (v := nI 0) hx hb hr (fun t ht hW9 => ⟨⟨nI 0, w2, rfl, ⟨hFr, Or.inl ⟨dec_f cm, hM⟩⟩, by rw [ht]; exact hW, va_K.moved hW9.alike hK⟩, hS.F ht⟩) hS.2.2 dM_add_20
  · obtain ⟨⟨f, hfc, ef⟩, ⟨h, hhc, eh⟩, hmn4⟩ := mayC_in hmn (dec_t cm)
    rw [ef, eh] at hl
    refine lv_aload_n hx hb dM_add_9 rfl (lv_at hl 0 rfl) ?_
    refine lv_iconst (v := nI 1) hx hb dM_add_10 (by decide) ?_
    refine lv_iload_n hx hb dM_add_11 rfl (lv_at hl 1 rfl) ?_
    refine lv_iload_n hx hb dM_add_12 rfl (lv_at hl 2 rfl) ?_
    refine kc_VI (n := 3) (As := [.int (nI 1), .int (nI f), .int (nI h)]) (rest := []) ⟨hx, hb, hml, hown, hts⟩ (c_M_more l D g ad tb sa w2 H.size mo ml (mayC mn f9 g9) mn ki on tw od fa st rs me fo fd ba ta by9 nd hD hM (1) (f) (h) (by omega)) bw_579 bw_581 bs_16 bw_3 bw_582 (by decide +kernel) rfl rfl hM.1 ⟨by decide, by decide⟩ hW hK hk hS hAA rfl hl.1 rfl (Nat.le_of_ble_eq_true rfl) dM_add_13 ⟨by decide, by decide⟩ (fun r3 w4 H locs hp hW hS => ?_)
    obtain ⟨hF9, hM, hr9⟩ := hp
    subst hr9
    have hFr : moF mo ml w w4 := hFr.tr hF9
    refine lv_goto (tgt := 20) hx hb dM_add_16 (by decide) ?_
    exact W.iret (v := nI mn) hx hb hr (fun t ht hW9 => ⟨⟨nI mn, w4, rfl, ⟨hFr, Or.inr ⟨dec_t cm, f, h, hfc, ef, ⟨hhc, eh⟩, hmn4, rfl, hM⟩⟩, by rw [ht]; exact hW, va_K.moved hW9.alike hK⟩, hS.F ht⟩) hS.2.2 dM_add_20

set_option maxHeartbeats 1000000 in
set_option maxRecDepth 100000 in
theorem c_M_times (l : Launch) (D : va_G) (g : Nat → ClassId) (ad : Nat → Nat) (tb : Nat) (sa : Nat → Nat) (w : Wd) (sz : Nat) (mo : Nat) (ml : Nat → Nat) (cd mn : Nat) (ki on tw od fa st rs : Nat → Nat) (me fo fd : Nat) (ba ta by9 : Nat → Nat) (nd : Nat → Bool) (hD : moD ml) (hM0 : moW g w mo ml cd mn ki on tw od fa st rs me fo fd ba ta by9 nd) (hmn : mn ≤ 40) (f9 g9 : Int32) : MI l D g ad tb sa yM_times cM_times 3 (some (.int)) 3 68 0 0 w sz [.ref mo, .int f9, .int g9] (fun r w' => moF mo ml w w' ∧ ((mayC mn f9 g9 ≠ 0 ∧ moW g w' mo ml (mayC mn f9 g9) mn ki on tw od fa st rs me fo fd ba ta by9 nd) ∨ (mayC mn f9 g9 = 0 ∧ ∃ f h, f < mn ∧ f9 = nI f ∧ (h < mn ∧ g9 = nI h) ∧ mn < 40 ∧ r = nI mn ∧ moW g w' mo ml (mayC mn f9 g9) (mn + 1) (va_up ki mn 2) (va_up on mn f) (va_up tw mn h) od fa st rs me fo fd ba ta by9 nd))) := by
  refine hm_MI (by decide) (Nat.le_of_ble_eq_true rfl) ?_
  intro p e s m below meth c A ls hx hb hr hml hts hown hlocks hin hout hsz hW hK hk hS hAA hl
  have hl : lv_has ls 3 [(0, .ref mo), (1, .int f9), (2, .int g9)] := hl
  have hM := hM0
  have hFr : moF mo ml w w := moF.rf
  have hbm := bz_le (decide (mayC mn f9 g9 = 0))
  refine lv_aload_n hx hb dM_times_0 rfl (lv_at hl 0 rfl) ?_
  refine lv_iload_n hx hb dM_times_1 rfl (lv_at hl 1 rfl) ?_
  refine lv_iload_n hx hb dM_times_2 rfl (lv_at hl 2 rfl) ?_
  refine kc_VI (n := 2) (As := [.int f9, .int g9]) (rest := []) ⟨hx, hb, hml, hown, hts⟩ (c_M_may l D g ad tb sa w s.heap.size mo ml cd mn ki on tw od fa st rs me fo fd ba ta by9 nd hD hM (by omega) f9 g9) bw_605 bw_607 bs_18 bw_3 bw_608 (by decide +kernel) rfl rfl hM.1 ⟨by decide, by decide⟩ hW hK hk hS hAA rfl hl.1 rfl (Nat.le_of_ble_eq_true rfl) dM_times_3 ⟨by decide, by decide⟩ (fun r1 w2 H locs hp hW hS => ?_)
  obtain ⟨hF9, hM, hr9⟩ := hp
  subst hr9
  have hFr : moF mo ml w w2 := hFr.tr hF9
  refine nw_if_eq (tgt := 19) hx hb (by omega) dM_times_6 (by decide) (fun cm => ?_) (fun cm => ?_)
  · refine lv_iconst (v := nI 0) hx hb dM_times_19 (by decide) ?_
    exact W.iret (v := nI 0) hx hb hr (fun t ht hW9 => ⟨⟨nI 0, w2, rfl, ⟨hFr, Or.inl ⟨dec_f cm, hM⟩⟩, by rw [ht]; exact hW, va_K.moved hW9.alike hK⟩, hS.F ht⟩) hS.2.2 dM_times_20
  · obtain ⟨⟨f, hfc, ef⟩, ⟨h, hhc, eh⟩, hmn4⟩ := mayC_in hmn (dec_t cm)
    rw [ef, eh] at hl
    refine lv_aload_n hx hb dM_times_9 rfl (lv_at hl 0 rfl) ?_
    refine lv_iconst (v := nI 2) hx hb dM_times_10 (by decide) ?_
    refine lv_iload_n hx hb dM_times_11 rfl (lv_at hl 1 rfl) ?_
    refine lv_iload_n hx hb dM_times_12 rfl (lv_at hl 2 rfl) ?_
    refine kc_VI (n := 3) (As := [.int (nI 2), .int (nI f), .int (nI h)]) (rest := []) ⟨hx, hb, hml, hown, hts⟩ (c_M_more l D g ad tb sa w2 H.size mo ml (mayC mn f9 g9) mn ki on tw od fa st rs me fo fd ba ta by9 nd hD hM (2) (f) (h) (by omega)) bw_579 bw_581 bs_16 bw_3 bw_582 (by decide +kernel) rfl rfl hM.1 ⟨by decide, by decide⟩ hW hK hk hS hAA rfl hl.1 rfl (Nat.le_of_ble_eq_true rfl) dM_times_13 ⟨by decide, by decide⟩ (fun r3 w4 H locs hp hW hS => ?_)
    obtain ⟨hF9, hM, hr9⟩ := hp
    subst hr9
    have hFr : moF mo ml w w4 := hFr.tr hF9
    refine lv_goto (tgt := 20) hx hb dM_times_16 (by decide) ?_
    exact W.iret (v := nI mn) hx hb hr (fun t ht hW9 => ⟨⟨nI mn, w4, rfl, ⟨hFr, Or.inr ⟨dec_t cm, f, h, hfc, ef, ⟨hhc, eh⟩, hmn4, rfl, hM⟩⟩, by rw [ht]; exact hW, va_K.moved hW9.alike hK⟩, hS.F ht⟩) hS.2.2 dM_times_20

set_option maxHeartbeats 1000000 in
set_option maxRecDepth 100000 in
theorem c_M_convolve (l : Launch) (D : va_G) (g : Nat → ClassId) (ad : Nat → Nat) (tb : Nat) (sa : Nat → Nat) (w : Wd) (sz : Nat) (mo : Nat) (ml : Nat → Nat) (cd mn : Nat) (ki on tw od fa st rs : Nat → Nat) (me fo fd : Nat) (ba ta by9 : Nat → Nat) (nd : Nat → Bool) (hD : moD ml) (hM0 : moW g w mo ml cd mn ki on tw od fa st rs me fo fd ba ta by9 nd) (hmn : mn ≤ 40) (f9 g9 : Int32) : MI l D g ad tb sa yM_convolve cM_convolve 3 (some (.int)) 3 68 0 0 w sz [.ref mo, .int f9, .int g9] (fun r w' => moF mo ml w w' ∧ ((mayC mn f9 g9 ≠ 0 ∧ moW g w' mo ml (mayC mn f9 g9) mn ki on tw od fa st rs me fo fd ba ta by9 nd) ∨ (mayC mn f9 g9 = 0 ∧ ∃ f h, f < mn ∧ f9 = nI f ∧ (h < mn ∧ g9 = nI h) ∧ mn < 40 ∧ r = nI mn ∧ moW g w' mo ml (mayC mn f9 g9) (mn + 1) (va_up ki mn 3) (va_up on mn f) (va_up tw mn h) od fa st rs me fo fd ba ta by9 nd))) := by
  refine hm_MI (by decide) (Nat.le_of_ble_eq_true rfl) ?_
  intro p e s m below meth c A ls hx hb hr hml hts hown hlocks hin hout hsz hW hK hk hS hAA hl
  have hl : lv_has ls 3 [(0, .ref mo), (1, .int f9), (2, .int g9)] := hl
  have hM := hM0
  have hFr : moF mo ml w w := moF.rf
  have hbm := bz_le (decide (mayC mn f9 g9 = 0))
  refine lv_aload_n hx hb dM_convolve_0 rfl (lv_at hl 0 rfl) ?_
  refine lv_iload_n hx hb dM_convolve_1 rfl (lv_at hl 1 rfl) ?_
  refine lv_iload_n hx hb dM_convolve_2 rfl (lv_at hl 2 rfl) ?_
  refine kc_VI (n := 2) (As := [.int f9, .int g9]) (rest := []) ⟨hx, hb, hml, hown, hts⟩ (c_M_may l D g ad tb sa w s.heap.size mo ml cd mn ki on tw od fa st rs me fo fd ba ta by9 nd hD hM (by omega) f9 g9) bw_605 bw_607 bs_18 bw_3 bw_608 (by decide +kernel) rfl rfl hM.1 ⟨by decide, by decide⟩ hW hK hk hS hAA rfl hl.1 rfl (Nat.le_of_ble_eq_true rfl) dM_convolve_3 ⟨by decide, by decide⟩ (fun r1 w2 H locs hp hW hS => ?_)
  obtain ⟨hF9, hM, hr9⟩ := hp
  subst hr9
  have hFr : moF mo ml w w2 := hFr.tr hF9
  refine nw_if_eq (tgt := 19) hx hb (by omega) dM_convolve_6 (by decide) (fun cm => ?_) (fun cm => ?_)
  · refine lv_iconst (v := nI 0) hx hb dM_convolve_19 (by decide) ?_
    exact W.iret (v := nI 0) hx hb hr (fun t ht hW9 => ⟨⟨nI 0, w2, rfl, ⟨hFr, Or.inl ⟨dec_f cm, hM⟩⟩, by rw [ht]; exact hW, va_K.moved hW9.alike hK⟩, hS.F ht⟩) hS.2.2 dM_convolve_20
  · obtain ⟨⟨f, hfc, ef⟩, ⟨h, hhc, eh⟩, hmn4⟩ := mayC_in hmn (dec_t cm)
    rw [ef, eh] at hl
    refine lv_aload_n hx hb dM_convolve_9 rfl (lv_at hl 0 rfl) ?_
    refine lv_iconst (v := nI 3) hx hb dM_convolve_10 (by decide) ?_
    refine lv_iload_n hx hb dM_convolve_11 rfl (lv_at hl 1 rfl) ?_
    refine lv_iload_n hx hb dM_convolve_12 rfl (lv_at hl 2 rfl) ?_
    refine kc_VI (n := 3) (As := [.int (nI 3), .int (nI f), .int (nI h)]) (rest := []) ⟨hx, hb, hml, hown, hts⟩ (c_M_more l D g ad tb sa w2 H.size mo ml (mayC mn f9 g9) mn ki on tw od fa st rs me fo fd ba ta by9 nd hD hM (3) (f) (h) (by omega)) bw_579 bw_581 bs_16 bw_3 bw_582 (by decide +kernel) rfl rfl hM.1 ⟨by decide, by decide⟩ hW hK hk hS hAA rfl hl.1 rfl (Nat.le_of_ble_eq_true rfl) dM_convolve_13 ⟨by decide, by decide⟩ (fun r3 w4 H locs hp hW hS => ?_)
    obtain ⟨hF9, hM, hr9⟩ := hp
    subst hr9
    have hFr : moF mo ml w w4 := hFr.tr hF9
    refine lv_goto (tgt := 20) hx hb dM_convolve_16 (by decide) ?_
    exact W.iret (v := nI mn) hx hb hr (fun t ht hW9 => ⟨⟨nI mn, w4, rfl, ⟨hFr, Or.inr ⟨dec_t cm, f, h, hfc, ef, ⟨hhc, eh⟩, hmn4, rfl, hM⟩⟩, by rw [ht]; exact hW, va_K.moved hW9.alike hK⟩, hS.F ht⟩) hS.2.2 dM_convolve_20

set_option maxHeartbeats 1000000 in
set_option maxRecDepth 100000 in
theorem c_M_weave (l : Launch) (D : va_G) (g : Nat → ClassId) (ad : Nat → Nat) (tb : Nat) (sa : Nat → Nat) (w : Wd) (sz : Nat) (mo : Nat) (ml : Nat → Nat) (cd mn : Nat) (ki on tw od fa st rs : Nat → Nat) (me fo fd : Nat) (ba ta by9 : Nat → Nat) (nd : Nat → Bool) (hD : moD ml) (hM0 : moW g w mo ml cd mn ki on tw od fa st rs me fo fd ba ta by9 nd) (hmn : mn ≤ 40) (f9 g9 : Int32) : MI l D g ad tb sa yM_weave cM_weave 3 (some (.int)) 3 68 0 0 w sz [.ref mo, .int f9, .int g9] (fun r w' => moF mo ml w w' ∧ ((mayC mn f9 g9 ≠ 0 ∧ moW g w' mo ml (mayC mn f9 g9) mn ki on tw od fa st rs me fo fd ba ta by9 nd) ∨ (mayC mn f9 g9 = 0 ∧ ∃ f h, f < mn ∧ f9 = nI f ∧ (h < mn ∧ g9 = nI h) ∧ mn < 40 ∧ r = nI mn ∧ moW g w' mo ml (mayC mn f9 g9) (mn + 1) (va_up ki mn 4) (va_up on mn f) (va_up tw mn h) od fa st rs me fo fd ba ta by9 nd))) := by
  refine hm_MI (by decide) (Nat.le_of_ble_eq_true rfl) ?_
  intro p e s m below meth c A ls hx hb hr hml hts hown hlocks hin hout hsz hW hK hk hS hAA hl
  have hl : lv_has ls 3 [(0, .ref mo), (1, .int f9), (2, .int g9)] := hl
  have hM := hM0
  have hFr : moF mo ml w w := moF.rf
  have hbm := bz_le (decide (mayC mn f9 g9 = 0))
  refine lv_aload_n hx hb dM_weave_0 rfl (lv_at hl 0 rfl) ?_
  refine lv_iload_n hx hb dM_weave_1 rfl (lv_at hl 1 rfl) ?_
  refine lv_iload_n hx hb dM_weave_2 rfl (lv_at hl 2 rfl) ?_
  refine kc_VI (n := 2) (As := [.int f9, .int g9]) (rest := []) ⟨hx, hb, hml, hown, hts⟩ (c_M_may l D g ad tb sa w s.heap.size mo ml cd mn ki on tw od fa st rs me fo fd ba ta by9 nd hD hM (by omega) f9 g9) bw_605 bw_607 bs_18 bw_3 bw_608 (by decide +kernel) rfl rfl hM.1 ⟨by decide, by decide⟩ hW hK hk hS hAA rfl hl.1 rfl (Nat.le_of_ble_eq_true rfl) dM_weave_3 ⟨by decide, by decide⟩ (fun r1 w2 H locs hp hW hS => ?_)
  obtain ⟨hF9, hM, hr9⟩ := hp
  subst hr9
  have hFr : moF mo ml w w2 := hFr.tr hF9
  refine nw_if_eq (tgt := 19) hx hb (by omega) dM_weave_6 (by decide) (fun cm => ?_) (fun cm => ?_)
  · refine lv_iconst (v := nI 0) hx hb dM_weave_19 (by decide) ?_
    exact W.iret (v := nI 0) hx hb hr (fun t ht hW9 => ⟨⟨nI 0, w2, rfl, ⟨hFr, Or.inl ⟨dec_f cm, hM⟩⟩, by rw [ht]; exact hW, va_K.moved hW9.alike hK⟩, hS.F ht⟩) hS.2.2 dM_weave_20
  · obtain ⟨⟨f, hfc, ef⟩, ⟨h, hhc, eh⟩, hmn4⟩ := mayC_in hmn (dec_t cm)
    rw [ef, eh] at hl
    refine lv_aload_n hx hb dM_weave_9 rfl (lv_at hl 0 rfl) ?_
    refine lv_iconst (v := nI 4) hx hb dM_weave_10 (by decide) ?_
    refine lv_iload_n hx hb dM_weave_11 rfl (lv_at hl 1 rfl) ?_
    refine lv_iload_n hx hb dM_weave_12 rfl (lv_at hl 2 rfl) ?_
    refine kc_VI (n := 3) (As := [.int (nI 4), .int (nI f), .int (nI h)]) (rest := []) ⟨hx, hb, hml, hown, hts⟩ (c_M_more l D g ad tb sa w2 H.size mo ml (mayC mn f9 g9) mn ki on tw od fa st rs me fo fd ba ta by9 nd hD hM (4) (f) (h) (by omega)) bw_579 bw_581 bs_16 bw_3 bw_582 (by decide +kernel) rfl rfl hM.1 ⟨by decide, by decide⟩ hW hK hk hS hAA rfl hl.1 rfl (Nat.le_of_ble_eq_true rfl) dM_weave_13 ⟨by decide, by decide⟩ (fun r3 w4 H locs hp hW hS => ?_)
    obtain ⟨hF9, hM, hr9⟩ := hp
    subst hr9
    have hFr : moF mo ml w w4 := hFr.tr hF9
    refine lv_goto (tgt := 20) hx hb dM_weave_16 (by decide) ?_
    exact W.iret (v := nI mn) hx hb hr (fun t ht hW9 => ⟨⟨nI mn, w4, rfl, ⟨hFr, Or.inr ⟨dec_t cm, f, h, hfc, ef, ⟨hhc, eh⟩, hmn4, rfl, hM⟩⟩, by rw [ht]; exact hW, va_K.moved hW9.alike hK⟩, hS.F ht⟩) hS.2.2 dM_weave_20

set_option maxHeartbeats 1000000 in
set_option maxRecDepth 100000 in
theorem c_M_sums (l : Launch) (D : va_G) (g : Nat → ClassId) (ad : Nat → Nat) (tb : Nat) (sa : Nat → Nat) (w : Wd) (sz : Nat) (mo : Nat) (ml : Nat → Nat) (cd mn : Nat) (ki on tw od fa st rs : Nat → Nat) (me fo fd : Nat) (ba ta by9 : Nat → Nat) (nd : Nat → Bool) (hD : moD ml) (hM0 : moW g w mo ml cd mn ki on tw od fa st rs me fo fd ba ta by9 nd) (hmn : mn ≤ 40) (f9 : Int32) : MI l D g ad tb sa yM_sums cM_sums 2 (some (.int)) 3 68 0 0 w sz [.ref mo, .int f9] (fun r w' => moF mo ml w w' ∧ ((mayC mn f9 f9 ≠ 0 ∧ moW g w' mo ml (mayC mn f9 f9) mn ki on tw od fa st rs me fo fd ba ta by9 nd) ∨ (mayC mn f9 f9 = 0 ∧ ∃ f h, f < mn ∧ f9 = nI f ∧ h = 4294967295 ∧ mn < 40 ∧ r = nI mn ∧ moW g w' mo ml (mayC mn f9 f9) (mn + 1) (va_up ki mn 6) (va_up on mn f) (va_up tw mn h) od fa st rs me fo fd ba ta by9 nd))) := by
  refine hm_MI (by decide) (Nat.le_of_ble_eq_true rfl) ?_
  intro p e s m below meth c A ls hx hb hr hml hts hown hlocks hin hout hsz hW hK hk hS hAA hl
  have hl : lv_has ls 2 [(0, .ref mo), (1, .int f9)] := hl
  have hM := hM0
  have hFr : moF mo ml w w := moF.rf
  have hbm := bz_le (decide (mayC mn f9 f9 = 0))
  refine lv_aload_n hx hb dM_sums_0 rfl (lv_at hl 0 rfl) ?_
  refine lv_iload_n hx hb dM_sums_1 rfl (lv_at hl 1 rfl) ?_
  refine lv_iload_n hx hb dM_sums_2 rfl (lv_at hl 1 rfl) ?_
  refine kc_VI (n := 2) (As := [.int f9, .int f9]) (rest := []) ⟨hx, hb, hml, hown, hts⟩ (c_M_may l D g ad tb sa w s.heap.size mo ml cd mn ki on tw od fa st rs me fo fd ba ta by9 nd hD hM (by omega) f9 f9) bw_605 bw_607 bs_18 bw_3 bw_608 (by decide +kernel) rfl rfl hM.1 ⟨by decide, by decide⟩ hW hK hk hS hAA rfl hl.1 rfl (Nat.le_of_ble_eq_true rfl) dM_sums_3 ⟨by decide, by decide⟩ (fun r1 w2 H locs hp hW hS => ?_)
  obtain ⟨hF9, hM, hr9⟩ := hp
  subst hr9
  have hFr : moF mo ml w w2 := hFr.tr hF9
  refine nw_if_eq (tgt := 20) hx hb (by omega) dM_sums_6 (by decide) (fun cm => ?_) (fun cm => ?_)
  · refine lv_iconst (v := nI 0) hx hb dM_sums_20 (by decide) ?_
    exact W.iret (v := nI 0) hx hb hr (fun t ht hW9 => ⟨⟨nI 0, w2, rfl, ⟨hFr, Or.inl ⟨dec_f cm, hM⟩⟩, by rw [ht]; exact hW, va_K.moved hW9.alike hK⟩, hS.F ht⟩) hS.2.2 dM_sums_21
  · obtain ⟨⟨f, hfc, ef⟩, ⟨h, hhc, eh⟩, hmn4⟩ := mayC_in hmn (dec_t cm)
    rw [ef] at hl
    refine lv_aload_n hx hb dM_sums_9 rfl (lv_at hl 0 rfl) ?_
    refine lv_bipush (v := nI 6) hx hb dM_sums_10 (by decide) ?_
    refine lv_iload_n hx hb dM_sums_12 rfl (lv_at hl 1 rfl) ?_
    refine lv_iconst (v := (-1)) hx hb dM_sums_13 (by decide) ?_
    refine tp_i (show (-1) = nI 4294967295 from by decide) ?_
    refine kc_VI (n := 3) (As := [.int (nI 6), .int (nI f), .int (nI 4294967295)]) (rest := []) ⟨hx, hb, hml, hown, hts⟩ (c_M_more l D g ad tb sa w2 H.size mo ml (mayC mn f9 f9) mn ki on tw od fa st rs me fo fd ba ta by9 nd hD hM (6) (f) (4294967295) (by omega)) bw_579 bw_581 bs_16 bw_3 bw_582 (by decide +kernel) rfl rfl hM.1 ⟨by decide, by decide⟩ hW hK hk hS hAA rfl hl.1 rfl (Nat.le_of_ble_eq_true rfl) dM_sums_14 ⟨by decide, by decide⟩ (fun r3 w4 H locs hp hW hS => ?_)
    obtain ⟨hF9, hM, hr9⟩ := hp
    subst hr9
    have hFr : moF mo ml w w4 := hFr.tr hF9
    refine lv_goto (tgt := 21) hx hb dM_sums_17 (by decide) ?_
    exact W.iret (v := nI mn) hx hb hr (fun t ht hW9 => ⟨⟨nI mn, w4, rfl, ⟨hFr, Or.inr ⟨dec_t cm, f, 4294967295, hfc, ef, rfl, hmn4, rfl, hM⟩⟩, by rw [ht]; exact hW, va_K.moved hW9.alike hK⟩, hS.F ht⟩) hS.2.2 dM_sums_21

set_option maxHeartbeats 1000000 in
set_option maxRecDepth 100000 in
theorem c_M_derive (l : Launch) (D : va_G) (g : Nat → ClassId) (ad : Nat → Nat) (tb : Nat) (sa : Nat → Nat) (w : Wd) (sz : Nat) (mo : Nat) (ml : Nat → Nat) (cd mn : Nat) (ki on tw od fa st rs : Nat → Nat) (me fo fd : Nat) (ba ta by9 : Nat → Nat) (nd : Nat → Bool) (hD : moD ml) (hM0 : moW g w mo ml cd mn ki on tw od fa st rs me fo fd ba ta by9 nd) (hmn : mn ≤ 40) (f9 : Int32) : MI l D g ad tb sa yM_derive cM_derive 2 (some (.int)) 3 68 0 0 w sz [.ref mo, .int f9] (fun r w' => moF mo ml w w' ∧ ((mayC mn f9 f9 ≠ 0 ∧ moW g w' mo ml (mayC mn f9 f9) mn ki on tw od fa st rs me fo fd ba ta by9 nd) ∨ (mayC mn f9 f9 = 0 ∧ ∃ f h, f < mn ∧ f9 = nI f ∧ h = 4294967295 ∧ mn < 40 ∧ r = nI mn ∧ moW g w' mo ml (mayC mn f9 f9) (mn + 1) (va_up ki mn 7) (va_up on mn f) (va_up tw mn h) od fa st rs me fo fd ba ta by9 nd))) := by
  refine hm_MI (by decide) (Nat.le_of_ble_eq_true rfl) ?_
  intro p e s m below meth c A ls hx hb hr hml hts hown hlocks hin hout hsz hW hK hk hS hAA hl
  have hl : lv_has ls 2 [(0, .ref mo), (1, .int f9)] := hl
  have hM := hM0
  have hFr : moF mo ml w w := moF.rf
  have hbm := bz_le (decide (mayC mn f9 f9 = 0))
  refine lv_aload_n hx hb dM_derive_0 rfl (lv_at hl 0 rfl) ?_
  refine lv_iload_n hx hb dM_derive_1 rfl (lv_at hl 1 rfl) ?_
  refine lv_iload_n hx hb dM_derive_2 rfl (lv_at hl 1 rfl) ?_
  refine kc_VI (n := 2) (As := [.int f9, .int f9]) (rest := []) ⟨hx, hb, hml, hown, hts⟩ (c_M_may l D g ad tb sa w s.heap.size mo ml cd mn ki on tw od fa st rs me fo fd ba ta by9 nd hD hM (by omega) f9 f9) bw_605 bw_607 bs_18 bw_3 bw_608 (by decide +kernel) rfl rfl hM.1 ⟨by decide, by decide⟩ hW hK hk hS hAA rfl hl.1 rfl (Nat.le_of_ble_eq_true rfl) dM_derive_3 ⟨by decide, by decide⟩ (fun r1 w2 H locs hp hW hS => ?_)
  obtain ⟨hF9, hM, hr9⟩ := hp
  subst hr9
  have hFr : moF mo ml w w2 := hFr.tr hF9
  refine nw_if_eq (tgt := 20) hx hb (by omega) dM_derive_6 (by decide) (fun cm => ?_) (fun cm => ?_)
  · refine lv_iconst (v := nI 0) hx hb dM_derive_20 (by decide) ?_
    exact W.iret (v := nI 0) hx hb hr (fun t ht hW9 => ⟨⟨nI 0, w2, rfl, ⟨hFr, Or.inl ⟨dec_f cm, hM⟩⟩, by rw [ht]; exact hW, va_K.moved hW9.alike hK⟩, hS.F ht⟩) hS.2.2 dM_derive_21
  · obtain ⟨⟨f, hfc, ef⟩, ⟨h, hhc, eh⟩, hmn4⟩ := mayC_in hmn (dec_t cm)
    rw [ef] at hl
    refine lv_aload_n hx hb dM_derive_9 rfl (lv_at hl 0 rfl) ?_
    refine lv_bipush (v := nI 7) hx hb dM_derive_10 (by decide) ?_
    refine lv_iload_n hx hb dM_derive_12 rfl (lv_at hl 1 rfl) ?_
    refine lv_iconst (v := (-1)) hx hb dM_derive_13 (by decide) ?_
    refine tp_i (show (-1) = nI 4294967295 from by decide) ?_
    refine kc_VI (n := 3) (As := [.int (nI 7), .int (nI f), .int (nI 4294967295)]) (rest := []) ⟨hx, hb, hml, hown, hts⟩ (c_M_more l D g ad tb sa w2 H.size mo ml (mayC mn f9 f9) mn ki on tw od fa st rs me fo fd ba ta by9 nd hD hM (7) (f) (4294967295) (by omega)) bw_579 bw_581 bs_16 bw_3 bw_582 (by decide +kernel) rfl rfl hM.1 ⟨by decide, by decide⟩ hW hK hk hS hAA rfl hl.1 rfl (Nat.le_of_ble_eq_true rfl) dM_derive_14 ⟨by decide, by decide⟩ (fun r3 w4 H locs hp hW hS => ?_)
    obtain ⟨hF9, hM, hr9⟩ := hp
    subst hr9
    have hFr : moF mo ml w w4 := hFr.tr hF9
    refine lv_goto (tgt := 21) hx hb dM_derive_17 (by decide) ?_
    exact W.iret (v := nI mn) hx hb hr (fun t ht hW9 => ⟨⟨nI mn, w4, rfl, ⟨hFr, Or.inr ⟨dec_t cm, f, 4294967295, hfc, ef, rfl, hmn4, rfl, hM⟩⟩, by rw [ht]; exact hW, va_K.moved hW9.alike hK⟩, hS.F ht⟩) hS.2.2 dM_derive_21
