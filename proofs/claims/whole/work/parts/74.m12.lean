set_option maxHeartbeats 1000000 in
set_option maxRecDepth 100000 in
theorem c_M_rule (l : Launch) (D : va_G) (g : Nat → ClassId) (ad : Nat → Nat) (tb : Nat) (sa : Nat → Nat) (w : Wd) (sz : Nat) (mo : Nat) (ml : Nat → Nat) (cd mn : Nat) (ki on tw od fa st rs : Nat → Nat) (me fo fd : Nat) (ba ta by9 : Nat → Nat) (nd : Nat → Bool) (hD : moD ml) (hM0 : moW g w mo ml cd mn ki on tw od fa st rs me fo fd ba ta by9 nd) (hme : me ≤ 20) (hfo : fo ≤ 4) (hfd : fd ≤ 3) (hba : ∀ x, x < 400 → ba x < 32003) (k9 i9 j9 : Int32) : MI l D g ad tb sa yM_rule cM_rule 4 (some (.int)) 1 25 0 0 w sz [.ref mo, .int k9, .int i9, .int j9] (fun r w' => moF mo ml w w' ∧ ((¬ inC me k9 ∧ moW g w' mo ml 1 mn ki on tw od fa st rs me fo fd ba ta by9 nd) ∨ ∃ k, k < me ∧ k9 = nI k ∧ moW g w' mo ml 0 mn ki on tw od fa st rs me fo fd ba ta by9 nd ∧ ((¬ (inC (fo + 1) i9 ∧ inC (fd + 1) j9) ∧ r = nI 0) ∨ ∃ i j, i ≤ fo ∧ j ≤ fd ∧ i9 = nI i ∧ j9 = nI j ∧ r = nI (ba (20 * k + (fo - i) * (fd + 1) + fd - j))))) := by
  refine hm_MI (by decide) (Nat.le_of_ble_eq_true rfl) ?_
  intro p e s m below meth c A ls hx hb hr hml hts hown hlocks hin hout hsz hW hK hk hS hAA hl
  have hl : lv_has ls 4 [(0, .ref mo), (1, .int k9), (2, .int i9), (3, .int j9)] := hl
  have hM := hM0
  have hFr : moF mo ml w w := moF.rf
  have hb1 := bz_le (inB me k9)
  refine lv_aload_n hx hb dM_rule_0 rfl (lv_at hl 0 rfl) ?_
  refine lv_iload_n hx hb dM_rule_1 rfl (lv_at hl 1 rfl) ?_
  refine lv_i2l hx hb dM_rule_2 rfl ?_
  refine lv_lconst (v := lN 0) hx hb dM_rule_3 (by decide) ?_
  refine lv_aload_n hx hb dM_rule_4 rfl (lv_at hl 0 rfl) ?_
  refine hw_get (v := .int (nI me)) (C := RM) (T := TM) (N := 16) hx hb hts inM hown hK hW hM.1 rfl 9 (by decide) (hts _ bw_526) (fun _ h9 => h9) rfl dM_rule_5 ?_
  refine lv_iconst (v := nI 1) hx hb dM_rule_8 (by decide) ?_
  refine lv_isub hx hb dM_rule_9 ?_
  refine lv_i2l hx hb dM_rule_10 rfl ?_
  refine kc_SI (n := 3) (As := [.long k9.toInt64, .long (lN 0), .long (((nI me) - (nI 1)).toInt64)]) (rest := [.ref mo]) ⟨hx, hb, hml, hown, hts⟩ (c_M_in l D g ad tb sa w s.heap.size (k9.toInt64) (lN 0) (((nI me) - (nI 1)).toInt64)) bw_576 bw_577 bw_3 bw_578 (by decide +kernel) ⟨by decide, by decide⟩ hW hK hk hS hAA rfl hl.1 rfl (Nat.le_of_ble_eq_true rfl) dM_rule_11 ⟨by decide, by decide⟩ (fun r1 w2 H locs hp hW hS => ?_)
  obtain ⟨hw9, hr9⟩ := hp
  rw [hw9] at hW
  subst hr9
  refine tp_i (show nI (bz (decide ((lN 0).toInt ≤ k9.toInt64.toInt ∧ k9.toInt64.toInt ≤ (((nI me) - (nI 1)).toInt64).toInt))) = nI (bz (inB me k9)) from by rw [in_mn (show me ≤ 40 by omega)]) ?_
  refine nw_if_eq (tgt := 21) hx hb (by omega) dM_rule_14 (by decide) (fun c1 => ?_) (fun c1 => ?_)
  · refine lv_iconst (v := nI 1) hx hb dM_rule_21 (by decide) ?_
    refine hw_put (v := .int (nI 1)) (ty := .int) (C := RM) (T := TM) (N := 16) hx hb hts inM tyM tyM_ok nmM hown hK hW hS hM.1 rfl 0 (by decide) (hts _ bw_517) (fun _ h9 => h9) rfl (by decide +kernel) rfl rfl (Nat.le_of_ble_eq_true rfl) dM_rule_22 (fun H locs hW hS => ?_)
    have hW : hw D vwCl A (hwu w mo (.inr (4, [.int (nI 1), .int (nI mn), .ref (ml 0), .ref (ml 1), .ref (ml 2), .ref (ml 3), .ref (ml 4), .ref (ml 5), .ref (ml 6), .int (nI me), .int (nI fo), .int (nI fd), .ref (ml 7), .ref (ml 8), .ref (ml 9), .ref (ml 10)]))) H := hW
    obtain ⟨w3, ew3⟩ : ∃ z, z = hwu w mo (.inr (4, [.int (nI 1), .int (nI mn), .ref (ml 0), .ref (ml 1), .ref (ml 2), .ref (ml 3), .ref (ml 4), .ref (ml 5), .ref (ml 6), .int (nI me), .int (nI fo), .int (nI fd), .ref (ml 7), .ref (ml 8), .ref (ml 9), .ref (ml 10)])) := ⟨_, rfl⟩
    rw [← ew3] at hW
    have hM : moW g w3 mo ml 1 mn ki on tw od fa st rs me fo fd ba ta by9 nd := by rw [ew3]; exact hM.set_m _ _ _ _ _
    have hFr : moF mo ml w w3 := hFr.tr (by rw [ew3]; exact moF_m)
    refine lv_aload_n hx hb dM_rule_25 rfl (lv_at hl 0 rfl) ?_
    refine hw_get (v := .int (nI 1)) (C := RM) (T := TM) (N := 16) hx hb hts inM hown hK hW hM.1 rfl 0 (by decide) (hts _ bw_517) (fun _ h9 => h9) rfl dM_rule_26 ?_
    refine nw_if_gt (tgt := 60) hx hb (by omega) dM_rule_29 (by decide) (fun c4 => ?_) (fun c4 => absurd c4 (by decide))
    refine lv_iconst (v := nI 0) hx hb dM_rule_60 (by decide) ?_
    exact W.iret (v := nI 0) hx hb hr (fun t ht hW9 => ⟨⟨nI 0, w3, rfl, ⟨hFr, Or.inl ⟨(inB_f (by omega)).mp (bz_f c1), hM⟩⟩, by rw [ht]; exact hW, va_K.moved hW9.alike hK⟩, hS.F ht⟩) hS.2.2 dM_rule_61
  · obtain ⟨k, hkc, ek⟩ := (inB_iff (by omega)).mp (bz_t c1)
    rw [ek] at hl
    have hb3 := bz_le (inB (fo + 1) i9)
    have hb4 := bz_le (inB (fd + 1) j9)
    refine lv_iconst (v := nI 0) hx hb dM_rule_17 (by decide) ?_
    refine lv_goto (tgt := 22) hx hb dM_rule_18 (by decide) ?_
    refine hw_put (v := .int (nI 0)) (ty := .int) (C := RM) (T := TM) (N := 16) hx hb hts inM tyM tyM_ok nmM hown hK hW hS hM.1 rfl 0 (by decide) (hts _ bw_517) (fun _ h9 => h9) rfl (by decide +kernel) rfl rfl (Nat.le_of_ble_eq_true rfl) dM_rule_22 (fun H locs hW hS => ?_)
    have hW : hw D vwCl A (hwu w mo (.inr (4, [.int (nI 0), .int (nI mn), .ref (ml 0), .ref (ml 1), .ref (ml 2), .ref (ml 3), .ref (ml 4), .ref (ml 5), .ref (ml 6), .int (nI me), .int (nI fo), .int (nI fd), .ref (ml 7), .ref (ml 8), .ref (ml 9), .ref (ml 10)]))) H := hW
    obtain ⟨w5, ew5⟩ : ∃ z, z = hwu w mo (.inr (4, [.int (nI 0), .int (nI mn), .ref (ml 0), .ref (ml 1), .ref (ml 2), .ref (ml 3), .ref (ml 4), .ref (ml 5), .ref (ml 6), .int (nI me), .int (nI fo), .int (nI fd), .ref (ml 7), .ref (ml 8), .ref (ml 9), .ref (ml 10)])) := ⟨_, rfl⟩
    rw [← ew5] at hW
    have hM : moW g w5 mo ml 0 mn ki on tw od fa st rs me fo fd ba ta by9 nd := by rw [ew5]; exact hM.set_m _ _ _ _ _
    have hFr : moF mo ml w w5 := hFr.tr (by rw [ew5]; exact moF_m)
    refine lv_aload_n hx hb dM_rule_25 rfl (lv_at hl 0 rfl) ?_
    refine hw_get (v := .int (nI 0)) (C := RM) (T := TM) (N := 16) hx hb hts inM hown hK hW hM.1 rfl 0 (by decide) (hts _ bw_517) (fun _ h9 => h9) rfl dM_rule_26 ?_
    refine nw_if_gt (tgt := 60) hx hb (by omega) dM_rule_29 (by decide) (fun c6 => absurd c6 (by decide)) (fun c6 => ?_)
    refine lv_iload_n hx hb dM_rule_32 rfl (lv_at hl 2 rfl) ?_
    refine lv_i2l hx hb dM_rule_33 rfl ?_
    refine lv_lconst (v := lN 0) hx hb dM_rule_34 (by decide) ?_
    refine lv_aload_n hx hb dM_rule_35 rfl (lv_at hl 0 rfl) ?_
    refine hw_get (v := .int (nI fo)) (C := RM) (T := TM) (N := 16) hx hb hts inM hown hK hW hM.1 rfl 10 (by decide) (hts _ bw_527) (fun _ h9 => h9) rfl dM_rule_36 ?_
    refine lv_i2l (v := lN fo) hx hb dM_rule_39 (nI_l (by omega)) ?_
    refine kc_SI (n := 3) (As := [.long i9.toInt64, .long (lN 0), .long (lN fo)]) (rest := []) ⟨hx, hb, hml, hown, hts⟩ (c_M_in l D g ad tb sa w5 H.size (i9.toInt64) (lN 0) (lN fo)) bw_576 bw_577 bw_3 bw_578 (by decide +kernel) ⟨by decide, by decide⟩ hW hK hk hS hAA rfl hl.1 rfl (Nat.le_of_ble_eq_true rfl) dM_rule_40 ⟨by decide, by decide⟩ (fun r7 w8 H locs hp hW hS => ?_)
    obtain ⟨hw9, hr9⟩ := hp
    rw [hw9] at hW
    subst hr9
    refine tp_i (show nI (bz (decide ((lN 0).toInt ≤ i9.toInt64.toInt ∧ i9.toInt64.toInt ≤ (lN fo).toInt))) = nI (bz (inB (fo + 1) i9)) from by rw [in_le (by omega)]) ?_
    refine nw_if_eq (tgt := 60) hx hb (by omega) dM_rule_43 (by decide) (fun c2 => ?_) (fun c2 => ?_)
    · refine lv_iconst (v := nI 0) hx hb dM_rule_60 (by decide) ?_
      exact W.iret (v := nI 0) hx hb hr (fun t ht hW9 => ⟨⟨nI 0, w5, rfl, ⟨hFr, Or.inr ⟨k, hkc, ek, hM, Or.inl ⟨by first | exact fun h9 => (inB_f (by omega)).mp (bz_f c2) h9.1 | exact fun h9 => (inB_f (by omega)).mp (bz_f c3) h9.2, rfl⟩⟩⟩, by rw [ht]; exact hW, va_K.moved hW9.alike hK⟩, hS.F ht⟩) hS.2.2 dM_rule_61
    · refine lv_iload_n hx hb dM_rule_46 rfl (lv_at hl 3 rfl) ?_
      refine lv_i2l hx hb dM_rule_47 rfl ?_
      refine lv_lconst (v := lN 0) hx hb dM_rule_48 (by decide) ?_
      refine lv_aload_n hx hb dM_rule_49 rfl (lv_at hl 0 rfl) ?_
      refine hw_get (v := .int (nI fd)) (C := RM) (T := TM) (N := 16) hx hb hts inM hown hK hW hM.1 rfl 11 (by decide) (hts _ bw_528) (fun _ h9 => h9) rfl dM_rule_50 ?_
      refine lv_i2l (v := lN fd) hx hb dM_rule_53 (nI_l (by omega)) ?_
      refine kc_SI (n := 3) (As := [.long j9.toInt64, .long (lN 0), .long (lN fd)]) (rest := []) ⟨hx, hb, hml, hown, hts⟩ (c_M_in l D g ad tb sa w5 H.size (j9.toInt64) (lN 0) (lN fd)) bw_576 bw_577 bw_3 bw_578 (by decide +kernel) ⟨by decide, by decide⟩ hW hK hk hS hAA rfl hl.1 rfl (Nat.le_of_ble_eq_true rfl) dM_rule_54 ⟨by decide, by decide⟩ (fun r9 w10 H locs hp hW hS => ?_)
      obtain ⟨hw9, hr9⟩ := hp
      rw [hw9] at hW
      subst hr9
      refine tp_i (show nI (bz (decide ((lN 0).toInt ≤ j9.toInt64.toInt ∧ j9.toInt64.toInt ≤ (lN fd).toInt))) = nI (bz (inB (fd + 1) j9)) from by rw [in_le (by omega)]) ?_
      refine nw_if_ne (tgt := 62) hx hb (by omega) dM_rule_57 (by decide) (fun c3 => ?_) (fun c3 => ?_)
      · obtain ⟨i, hic, ei⟩ := (inB_iff (by omega)).mp (bz_t c2)
        obtain ⟨j, hjc, ej⟩ := (inB_iff (by omega)).mp (bz_t c3)
        rw [ei, ej] at hl
        have hxb : (fo - i) * (fd + 1) ≤ 4 * 4 := Nat.mul_le_mul (by omega) (by omega)
        have hbb := hba (20 * k + (fo - i) * (fd + 1) + fd - j) (by omega)
        refine lv_aload_n hx hb dM_rule_62 rfl (lv_at hl 0 rfl) ?_
        refine hw_get (v := .ref (ml 7)) (C := RM) (T := TM) (N := 16) hx hb hts inM hown hK hW hM.1 rfl 12 (by decide) (hts _ bw_529) (fun _ h9 => h9) rfl dM_rule_63 ?_
        refine lv_bipush (v := nI 20) hx hb dM_rule_66 (by decide) ?_
        refine lv_iload_n hx hb dM_rule_68 rfl (lv_at hl 1 rfl) ?_
        refine lv_imul hx hb dM_rule_69 ?_
        refine tp_i (show (nI 20) * (nI k) = nI (20 * k) from pk_mul _ _) ?_
        refine lv_aload_n hx hb dM_rule_70 rfl (lv_at hl 0 rfl) ?_
        refine hw_get (v := .int (nI fo)) (C := RM) (T := TM) (N := 16) hx hb hts inM hown hK hW hM.1 rfl 10 (by decide) (hts _ bw_527) (fun _ h9 => h9) rfl dM_rule_71 ?_
        refine lv_iload_n hx hb dM_rule_74 rfl (lv_at hl 2 rfl) ?_
        refine lv_isub hx hb dM_rule_75 ?_
        refine tp_i (show (nI fo) - (nI i) = nI (fo - i) from pk_sub (by omega)) ?_
        refine lv_aload_n hx hb dM_rule_76 rfl (lv_at hl 0 rfl) ?_
        refine hw_get (v := .int (nI fd)) (C := RM) (T := TM) (N := 16) hx hb hts inM hown hK hW hM.1 rfl 11 (by decide) (hts _ bw_528) (fun _ h9 => h9) rfl dM_rule_77 ?_
        refine lv_iconst (v := nI 1) hx hb dM_rule_80 (by decide) ?_
        refine lv_iadd hx hb dM_rule_81 ?_
        refine tp_i (show (nI fd) + (nI 1) = nI (fd + 1) from nI_add _ _) ?_
        refine lv_imul hx hb dM_rule_82 ?_
        refine tp_i (show (nI (fo - i)) * (nI (fd + 1)) = nI ((fo - i) * (fd + 1)) from pk_mul _ _) ?_
        refine lv_iadd hx hb dM_rule_83 ?_
        refine tp_i (show (nI (20 * k)) + (nI ((fo - i) * (fd + 1))) = nI ((20 * k) + ((fo - i) * (fd + 1))) from nI_add _ _) ?_
        refine lv_aload_n hx hb dM_rule_84 rfl (lv_at hl 0 rfl) ?_
        refine hw_get (v := .int (nI fd)) (C := RM) (T := TM) (N := 16) hx hb hts inM hown hK hW hM.1 rfl 11 (by decide) (hts _ bw_528) (fun _ h9 => h9) rfl dM_rule_85 ?_
        refine lv_iadd hx hb dM_rule_88 ?_
        refine tp_i (show (nI ((20 * k) + ((fo - i) * (fd + 1)))) + (nI fd) = nI (((20 * k) + ((fo - i) * (fd + 1))) + fd) from nI_add _ _) ?_
        refine lv_iload_n hx hb dM_rule_89 rfl (lv_at hl 3 rfl) ?_
        refine lv_isub hx hb dM_rule_90 ?_
        refine tp_i (show (nI (((20 * k) + ((fo - i) * (fd + 1))) + fd)) - (nI j) = nI ((((20 * k) + ((fo - i) * (fd + 1))) + fd) - j) from pk_sub (by omega)) ?_
        refine hw_lald hx hb hK hW 2 hM.2.2.2.2.2.2.2.2.1 rfl (vp_in_nI (show (((20 * k) + ((fo - i) * (fd + 1))) + fd) - j < 400 by omega) (by omega)) dM_rule_91 ?_
        refine tp_l (show (nl ba) (nI ((((20 * k) + ((fo - i) * (fd + 1))) + fd) - j)).toNatClampNeg = lN (ba ((((20 * k) + ((fo - i) * (fd + 1))) + fd) - j)) from by rw [nI_clamp (by omega)]; rfl) ?_
        refine lv_l2i (v := nI (ba ((((20 * k) + ((fo - i) * (fd + 1))) + fd) - j))) hx hb dM_rule_92 (lN_i _) ?_
        exact W.iret (v := nI (ba ((((20 * k) + ((fo - i) * (fd + 1))) + fd) - j))) hx hb hr (fun t ht hW9 => ⟨⟨nI (ba ((((20 * k) + ((fo - i) * (fd + 1))) + fd) - j)), w5, rfl, ⟨hFr, Or.inr ⟨k, hkc, ek, hM, Or.inr ⟨i, j, by omega, by omega, ei, ej, rfl⟩⟩⟩, by rw [ht]; exact hW, va_K.moved hW9.alike hK⟩, hS.F ht⟩) hS.2.2 dM_rule_93
      · refine lv_iconst (v := nI 0) hx hb dM_rule_60 (by decide) ?_
        exact W.iret (v := nI 0) hx hb hr (fun t ht hW9 => ⟨⟨nI 0, w5, rfl, ⟨hFr, Or.inr ⟨k, hkc, ek, hM, Or.inl ⟨by first | exact fun h9 => (inB_f (by omega)).mp (bz_f c2) h9.1 | exact fun h9 => (inB_f (by omega)).mp (bz_f c3) h9.2, rfl⟩⟩⟩, by rw [ht]; exact hW, va_K.moved hW9.alike hK⟩, hS.F ht⟩) hS.2.2 dM_rule_61

set_option maxHeartbeats 1000000 in
set_option maxRecDepth 100000 in
theorem lp_M_fi_c {p : Program} {l : Launch} {e : Env} {s : State} {m : MethodId} {args : Array Value} {below : List Frame} {meth : Method} {c : Code} {Q : State → Prop} {D : va_G} {g : Nat → ClassId} {ad : Nat → Nat} {tb : Nat} {sa : Nat → Nat} {A : Nat → Prop} {w : Wd} {mo : Nat} {ml : Nat → Nat} {cd mn : Nat} {ki on tw od fa st rs : Nat → Nat} {me fo fd : Nat} {ba by9 : Nat → Nat} {nd : Nat → Bool} (hD : moD ml) {F : Nat → Nat} {f r d : Nat} (hfc : f < 40) (hr : r ≤ 4) (hd : d ≤ 3) (hFv : ∀ m, m < 64 → rs (64 * f + m) = F m) (hrs : ∀ x, x < 2560 → rs x < 32003) {ta0 : Nat → Nat} {n : Nat} (hn : n < 64) (C0 : cx p s m args c A cM_fill 9 RM D g ad tb sa) : ∀ (e9 : Nat) (c0 : Nat) (ta1 : Nat → Nat) (w1 : Wd), (c0 + e9 = 20) → (moW g w1 mo ml cd mn ki on tw od fa st rs me fo fd ba ta1 by9 nd) → (moF mo ml w w1) → (∀ x, x < 1280 → ta1 x < 32003) → (∀ x, x < 20 * n → ta1 x = ta0 x) → (∀ x, x < c0 → ta1 (20 * n + x) = 0) → ∀ (H : Heap) (locs : List Loc), hw D vwCl A w1 H → va_S A s.heap H locs → ∀ ls : Array Slot, lv_has ls 9 [(0, .ref mo), (1, .int (nI f)), (2, .int (nI r)), (3, .int (nI d)), (4, .int (nI n)), (5, .int (nI c0))] → (∀ (ta1 : Nat → Nat) (w1 : Wd), (moW g w1 mo ml cd mn ki on tw od fa st rs me fo fd ba ta1 by9 nd) → (moF mo ml w w1) → (∀ x, x < 1280 → ta1 x < 32003) → (∀ x, x < 20 * n → ta1 x = ta0 x) → (∀ x, x < 20 → ta1 (20 * n + x) = 0) → ∀ (H : Heap) (locs : List Loc), hw D vwCl A w1 H → va_S A s.heap H locs → ∀ ls : Array Slot, lv_has ls 9 [(0, .ref mo), (1, .int (nI f)), (2, .int (nI r)), (3, .int (nI d)), (4, .int (nI n))] → W p l e (rmL 4 105 0 0) s m args below meth c H locs 0 0 Q (F0 m 45 ls [])) → W p l e (rmL 4 105 0 0) s m args below meth c H locs 0 0 Q (F0 m 18 ls []) := by
  obtain ⟨hx, hb, hml, hts, hown, hK, hk, hAA⟩ := C0
  intro e9
  induction e9 with
  | zero =>
    intro c0 ta1 w1 hc9 hM hFr htb hold hz H locs hW hS ls hl kk0
    refine lv_iload hx hb dM_fill_18 (lv_at hl 5 rfl) ?_
    refine lv_bipush (v := nI 20) hx hb dM_fill_20 (by decide) ?_
    refine nw_icmp_ge (tgt := 45) hx hb (by omega) (by omega) dM_fill_22 (by decide) (fun c1 => ?_) (fun c1 => absurd (show c0 < 20 from c1) (by omega))
    exact kk0 ta1 w1 hM hFr htb hold (fun x hx => hz x (by omega)) H locs hW hS ls (lv_sub hl [0, 1, 2, 3, 4] rfl)
  | succ e9 ih =>
    intro c0 ta1 w1 hc9 hM hFr htb hold hz H locs hW hS ls hl kk0
    refine lv_iload hx hb dM_fill_18 (lv_at hl 5 rfl) ?_
    refine lv_bipush (v := nI 20) hx hb dM_fill_20 (by decide) ?_
    refine nw_icmp_ge (tgt := 45) hx hb (by omega) (by omega) dM_fill_22 (by decide) (fun c1 => absurd (show 20 ≤ c0 from c1) (by omega)) (fun c1 => ?_)
    refine lv_aload_n hx hb dM_fill_25 rfl (lv_at hl 0 rfl) ?_
    refine hw_get (v := .ref (ml 8)) (C := RM) (T := TM) (N := 16) hx hb hts inM hown hK hW hM.1 rfl 13 (by decide) (hts _ bw_530) (fun _ h9 => h9) rfl dM_fill_26 ?_
    refine lv_bipush (v := nI 20) hx hb dM_fill_29 (by decide) ?_
    refine lv_iload hx hb dM_fill_31 (lv_at hl 4 rfl) ?_
    refine lv_imul hx hb dM_fill_33 ?_
    refine tp_i (show (nI 20) * (nI n) = nI (20 * n) from pk_mul _ _) ?_
    refine lv_iload hx hb dM_fill_34 (lv_at hl 5 rfl) ?_
    refine lv_iadd hx hb dM_fill_36 ?_
    refine tp_i (show (nI (20 * n)) + (nI c0) = nI ((20 * n) + c0) from nI_add _ _) ?_
    refine lv_lconst (v := lN 0) hx hb dM_fill_37 (by decide) ?_
    refine hw_last hx hb hK hW hS 2 hM.2.2.2.2.2.2.2.2.2.1 rfl (vp_in_nI (show (20 * n) + c0 < 1280 by omega) (by omega)) dM_fill_38 (fun H locs hW hS => ?_)
    rw [nI_clamp (show (20 * n) + c0 < 2 ^ 31 by omega), nl_upd] at hW
    have hW : hw D vwCl A (hwu w1 (ml 8) (la (g 2) 1280 (va_up ta1 ((20 * n) + c0) 0))) H := hW
    obtain ⟨w2, ew2⟩ : ∃ z, z = hwu w1 (ml 8) (la (g 2) 1280 (va_up ta1 ((20 * n) + c0) 0)) := ⟨_, rfl⟩
    rw [← ew2] at hW
    have hM : moW g w2 mo ml cd mn ki on tw od fa st rs me fo fd ba (va_up ta1 ((20 * n) + c0) 0) by9 nd := by rw [ew2]; exact hM.set_ta hD _
    have hFr : moF mo ml w w2 := hFr.tr (by rw [ew2]; exact moF_a (by decide))
    refine lv_iinc (v := nI (c0 + 1)) (lv' := [(5, .int (nI (c0 + 1))), (0, .ref mo), (1, .int (nI f)), (2, .int (nI r)), (3, .int (nI d)), (4, .int (nI n))]) hx hb dM_fill_39 hl (k := 5) rfl (nI_1 _) (by decide) rfl (fun ls hl => ?_)
    refine lv_goto (tgt := 18) hx hb dM_fill_42 (by decide) ?_
    exact ih (c0 + 1) (va_up ta1 ((20 * n) + c0) 0) w2 (by omega) hM hFr (up_lt htb (by omega)) (fun x hx => by rw [va_up_no (by omega)]; exact hold x hx) (fun x hx => by
      by_cases e8 : x = c0
      · rw [e8, va_up_eq]
      · rw [va_up_no (by omega)]; exact hz x (by omega)) H locs hW hS ls (lv_sub hl [1, 2, 3, 4, 5, 0] rfl) kk0

theorem fi_bl {r i d : Nat} (hi : i ≤ r) : (r - i) * (d + 1) + (i * (d + 1) + d) + 1 = (r + 1) * (d + 1) := by
  rw [← Nat.add_assoc, ← Nat.add_mul, show r - i + i = r by omega, Nat.succ_mul]
  omega

set_option maxHeartbeats 1000000 in
set_option maxRecDepth 100000 in
theorem lp_M_fi_j {p : Program} {l : Launch} {e : Env} {s : State} {m : MethodId} {args : Array Value} {below : List Frame} {meth : Method} {c : Code} {Q : State → Prop} {D : va_G} {g : Nat → ClassId} {ad : Nat → Nat} {tb : Nat} {sa : Nat → Nat} {A : Nat → Prop} {w : Wd} {mo : Nat} {ml : Nat → Nat} {cd mn : Nat} {ki on tw od fa st rs : Nat → Nat} {me fo fd : Nat} {ba by9 : Nat → Nat} {nd : Nat → Bool} (hD : moD ml) {F : Nat → Nat} {f r d : Nat} (hfc : f < 40) (hr : r ≤ 4) (hd : d ≤ 3) (hFv : ∀ m, m < 64 → rs (64 * f + m) = F m) (hrs : ∀ x, x < 2560 → rs x < 32003) {ta0 : Nat → Nat} {n i : Nat} (hn : n + r < 64) (hi : i ≤ r) (C0 : cx p s m args c A cM_fill 9 RM D g ad tb sa) : ∀ (e9 : Nat) (j : Nat) (ta1 : Nat → Nat) (w1 : Wd), (j + e9 = d + 1) → (moW g w1 mo ml cd mn ki on tw od fa st rs me fo fd ba ta1 by9 nd) → (moF mo ml w w1) → (∀ x, x < 1280 → ta1 x < 32003) → (∀ x, x < 20 * n → ta1 x = ta0 x) → (∀ c, c < (r - i) * (d + 1) → ta1 (20 * n + c) = eqn F d n ((r + 1) * (d + 1) - 1 - c)) → (∀ c, (r - i) * (d + 1) ≤ c → c < 20 → ta1 (20 * n + c) = if (r - i) * (d + 1) + d < c + j ∧ c ≤ (r - i) * (d + 1) + d then eqn F d n ((r + 1) * (d + 1) - 1 - c) else 0) → ∀ (H : Heap) (locs : List Loc), hw D vwCl A w1 H → va_S A s.heap H locs → ∀ ls : Array Slot, lv_has ls 9 [(0, .ref mo), (1, .int (nI f)), (2, .int (nI r)), (3, .int (nI d)), (4, .int (nI n)), (5, .int (nI i)), (6, .long (lN (F (n + i) * n ^ j % 32003))), (8, .int (nI j))] → (∀ (ta1 : Nat → Nat) (w1 : Wd), (moW g w1 mo ml cd mn ki on tw od fa st rs me fo fd ba ta1 by9 nd) → (moF mo ml w w1) → (∀ x, x < 1280 → ta1 x < 32003) → (∀ x, x < 20 * n → ta1 x = ta0 x) → (∀ c, c < (r - i) * (d + 1) → ta1 (20 * n + c) = eqn F d n ((r + 1) * (d + 1) - 1 - c)) → (∀ c, (r - i) * (d + 1) ≤ c → c < 20 → ta1 (20 * n + c) = if (r - i) * (d + 1) + d < c + (d + 1) ∧ c ≤ (r - i) * (d + 1) + d then eqn F d n ((r + 1) * (d + 1) - 1 - c) else 0) → ∀ (H : Heap) (locs : List Loc), hw D vwCl A w1 H → va_S A s.heap H locs → ∀ ls : Array Slot, lv_has ls 9 [(0, .ref mo), (1, .int (nI f)), (2, .int (nI r)), (3, .int (nI d)), (4, .int (nI n)), (5, .int (nI i))] → W p l e (rmL 4 105 0 0) s m args below meth c H locs 0 0 Q (F0 m 132 ls [])) → W p l e (rmL 4 105 0 0) s m args below meth c H locs 0 0 Q (F0 m 82 ls []) := by
  obtain ⟨hx, hb, hml, hts, hown, hK, hk, hAA⟩ := C0
  intro e9
  induction e9 with
  | zero =>
    intro j ta1 w1 hj9 hM hFr htb hold hj1 hj2 H locs hW hS ls hl kk0
    have hbl := fi_bl (d := d) hi
    have hcn := we_cn (o := r) hr hd
    refine lv_iload hx hb dM_fill_82 (lv_at hl 7 rfl) ?_
    refine lv_iload_n hx hb dM_fill_84 rfl (lv_at hl 3 rfl) ?_
    refine nw_icmp_gt (tgt := 132) hx hb (by omega) (by omega) dM_fill_85 (by decide) (fun c1 => ?_) (fun c1 => absurd c1 (by omega))
    rw [show j = d + 1 by omega] at hj2
    exact kk0 ta1 w1 hM hFr htb hold hj1 hj2 H locs hW hS ls (lv_sub hl [0, 1, 2, 3, 4, 5] rfl)
  | succ e9 ih =>
    intro j ta1 w1 hj9 hM hFr htb hold hj1 hj2 H locs hW hS ls hl kk0
    have hbl := fi_bl (d := d) hi
    have hcn := we_cn (o := r) hr hd
    have htl : F (n + i) * n ^ j % 32003 < 32003 := Nat.mod_lt _ (by decide)
    have hml9 : F (n + i) * n ^ j % 32003 * n ≤ 32002 * 63 := Nat.mul_le_mul (by omega) (by omega)
    refine lv_iload hx hb dM_fill_82 (lv_at hl 7 rfl) ?_
    refine lv_iload_n hx hb dM_fill_84 rfl (lv_at hl 3 rfl) ?_
    refine nw_icmp_gt (tgt := 132) hx hb (by omega) (by omega) dM_fill_85 (by decide) (fun c1 => absurd (show d < j from c1) (by omega)) (fun c1 => ?_)
    refine lv_aload_n hx hb dM_fill_88 rfl (lv_at hl 0 rfl) ?_
    refine hw_get (v := .ref (ml 8)) (C := RM) (T := TM) (N := 16) hx hb hts inM hown hK hW hM.1 rfl 13 (by decide) (hts _ bw_530) (fun _ h9 => h9) rfl dM_fill_89 ?_
    refine lv_bipush (v := nI 20) hx hb dM_fill_92 (by decide) ?_
    refine lv_iload hx hb dM_fill_94 (lv_at hl 4 rfl) ?_
    refine lv_imul hx hb dM_fill_96 ?_
    refine tp_i (show (nI 20) * (nI n) = nI (20 * n) from pk_mul _ _) ?_
    refine lv_iload_n hx hb dM_fill_97 rfl (lv_at hl 2 rfl) ?_
    refine lv_iload hx hb dM_fill_98 (lv_at hl 5 rfl) ?_
    refine lv_isub hx hb dM_fill_100 ?_
    refine tp_i (show (nI r) - (nI i) = nI (r - i) from pk_sub (by omega)) ?_
    refine lv_iload_n hx hb dM_fill_101 rfl (lv_at hl 3 rfl) ?_
    refine lv_iconst (v := nI 1) hx hb dM_fill_102 (by decide) ?_
    refine lv_iadd hx hb dM_fill_103 ?_
    refine tp_i (show (nI d) + (nI 1) = nI (d + 1) from nI_add _ _) ?_
    refine lv_imul hx hb dM_fill_104 ?_
    refine tp_i (show (nI (r - i)) * (nI (d + 1)) = nI ((r - i) * (d + 1)) from pk_mul _ _) ?_
    refine lv_iadd hx hb dM_fill_105 ?_
    refine tp_i (show (nI (20 * n)) + (nI ((r - i) * (d + 1))) = nI ((20 * n) + ((r - i) * (d + 1))) from nI_add _ _) ?_
    refine lv_iload_n hx hb dM_fill_106 rfl (lv_at hl 3 rfl) ?_
    refine lv_iadd hx hb dM_fill_107 ?_
    refine tp_i (show (nI ((20 * n) + ((r - i) * (d + 1)))) + (nI d) = nI (((20 * n) + ((r - i) * (d + 1))) + d) from nI_add _ _) ?_
    refine lv_iload hx hb dM_fill_108 (lv_at hl 7 rfl) ?_
    refine lv_isub hx hb dM_fill_110 ?_
    refine tp_i (show (nI (((20 * n) + ((r - i) * (d + 1))) + d)) - (nI j) = nI (20 * n + ((r - i) * (d + 1) + d - j)) from by rw [pk_sub (by omega), show 20 * n + (r - i) * (d + 1) + d - j = 20 * n + ((r - i) * (d + 1) + d - j) by omega]) ?_
    refine lv_lload hx hb dM_fill_111 (lv_at hl 6 rfl) ?_
    refine hw_last hx hb hK hW hS 2 hM.2.2.2.2.2.2.2.2.2.1 rfl (vp_in_nI (show 20 * n + ((r - i) * (d + 1) + d - j) < 1280 by omega) (by omega)) dM_fill_113 (fun H locs hW hS => ?_)
    rw [nI_clamp (show 20 * n + ((r - i) * (d + 1) + d - j) < 2 ^ 31 by omega), nl_upd] at hW
    have hW : hw D vwCl A (hwu w1 (ml 8) (la (g 2) 1280 (va_up ta1 (20 * n + ((r - i) * (d + 1) + d - j)) (F (n + i) * n ^ j % 32003)))) H := hW
    obtain ⟨w2, ew2⟩ : ∃ z, z = hwu w1 (ml 8) (la (g 2) 1280 (va_up ta1 (20 * n + ((r - i) * (d + 1) + d - j)) (F (n + i) * n ^ j % 32003))) := ⟨_, rfl⟩
    rw [← ew2] at hW
    have hM : moW g w2 mo ml cd mn ki on tw od fa st rs me fo fd ba (va_up ta1 (20 * n + ((r - i) * (d + 1) + d - j)) (F (n + i) * n ^ j % 32003)) by9 nd := by rw [ew2]; exact hM.set_ta hD _
    have hFr : moF mo ml w w2 := hFr.tr (by rw [ew2]; exact moF_a (by decide))
    refine lv_lload hx hb dM_fill_114 (lv_at hl 6 rfl) ?_
    refine lv_iload hx hb dM_fill_116 (lv_at hl 4 rfl) ?_
    refine lv_i2l (v := lN n) hx hb dM_fill_118 (nI_l (by omega)) ?_
    refine lv_lmul hx hb dM_fill_119 ?_
    refine tp_l (show (lN (F (n + i) * n ^ j % 32003)) * (lN n) = lN ((F (n + i) * n ^ j % 32003) * n) from lN_mul _ _) ?_
    refine lv_ldc2 (v := 32003) hx hb hown (hts _ bw_595) dM_fill_120 ?_
    refine tp_l (show (32003 : Int64) = lN 32003 by decide) ?_
    refine lv_lrem hx hb dM_fill_123 (by decide) ?_
    refine tp_l (show (lN ((F (n + i) * n ^ j % 32003) * n)) - (lN ((F (n + i) * n ^ j % 32003) * n)) / (lN 32003) * (lN 32003) = lN (F (n + i) * n ^ (j + 1) % 32003) from by rw [lrem_lN (by omega), we_pow]) ?_
    refine lv_lstore (lv' := [(6, .long (lN (F (n + i) * n ^ (j + 1) % 32003))), (0, .ref mo), (1, .int (nI f)), (2, .int (nI r)), (3, .int (nI d)), (4, .int (nI n)), (5, .int (nI i)), (8, .int (nI j))]) hx hb dM_fill_124 hl (by decide) rfl (fun ls hl => ?_)
    refine lv_iinc (v := nI (j + 1)) (lv' := [(8, .int (nI (j + 1))), (6, .long (lN (F (n + i) * n ^ (j + 1) % 32003))), (0, .ref mo), (1, .int (nI f)), (2, .int (nI r)), (3, .int (nI d)), (4, .int (nI n)), (5, .int (nI i))]) hx hb dM_fill_126 hl (k := 7) rfl (nI_1 _) (by decide) rfl (fun ls hl => ?_)
    refine lv_goto (tgt := 82) hx hb dM_fill_129 (by decide) ?_
    have hval : F (n + i) * n ^ j % 32003 = eqn F d n ((r + 1) * (d + 1) - 1 - ((r - i) * (d + 1) + d - j)) := by rw [show (r + 1) * (d + 1) - 1 - ((r - i) * (d + 1) + d - j) = i * (d + 1) + j by omega, we_at (by omega)]
    exact ih (j + 1) (va_up ta1 (20 * n + ((r - i) * (d + 1) + d - j)) (F (n + i) * n ^ j % 32003)) w2 (by omega) hM hFr (up_lt htb htl) (fun x hx => by rw [va_up_no (by omega)]; exact hold x hx) (fun c hc => by rw [va_up_no (by omega)]; exact hj1 c hc) (fun c h1 h2 => by
      by_cases e8 : c = (r - i) * (d + 1) + d - j
      · rw [e8, va_up_eq, if_pos (by omega)]; exact hval
      · rw [va_up_no (by omega), hj2 c h1 h2]; exact if_same (by omega)) H locs hW hS ls (lv_sub hl [2, 3, 4, 5, 6, 7, 1, 0] rfl) kk0

set_option maxHeartbeats 1000000 in
set_option maxRecDepth 100000 in
theorem lp_M_fi_i {p : Program} {l : Launch} {e : Env} {s : State} {m : MethodId} {args : Array Value} {below : List Frame} {meth : Method} {c : Code} {Q : State → Prop} {D : va_G} {g : Nat → ClassId} {ad : Nat → Nat} {tb : Nat} {sa : Nat → Nat} {A : Nat → Prop} {w : Wd} {mo : Nat} {ml : Nat → Nat} {cd mn : Nat} {ki on tw od fa st rs : Nat → Nat} {me fo fd : Nat} {ba by9 : Nat → Nat} {nd : Nat → Bool} (hD : moD ml) {F : Nat → Nat} {f r d : Nat} (hfc : f < 40) (hr : r ≤ 4) (hd : d ≤ 3) (hFv : ∀ m, m < 64 → rs (64 * f + m) = F m) (hrs : ∀ x, x < 2560 → rs x < 32003) {ta0 : Nat → Nat} {n : Nat} (hn : n + r < 64) (C0 : cx p s m args c A cM_fill 9 RM D g ad tb sa) : ∀ (e9 : Nat) (cc : Nat) (ta1 : Nat → Nat) (w1 : Wd), (cc = e9) → (cc ≤ r + 1) → (moW g w1 mo ml cd mn ki on tw od fa st rs me fo fd ba ta1 by9 nd) → (moF mo ml w w1) → (∀ x, x < 1280 → ta1 x < 32003) → (∀ x, x < 20 * n → ta1 x = ta0 x) → (∀ c, c < 20 → ta1 (20 * n + c) = if c < (r + 1 - cc) * (d + 1) then eqn F d n ((r + 1) * (d + 1) - 1 - c) else 0) → ∀ (H : Heap) (locs : List Loc), hw D vwCl A w1 H → va_S A s.heap H locs → ∀ ls : Array Slot, lv_has ls 9 [(0, .ref mo), (1, .int (nI f)), (2, .int (nI r)), (3, .int (nI d)), (4, .int (nI n)), (5, .int (nI cc - nI 1))] → (∀ (ta1 : Nat → Nat) (w1 : Wd), (moW g w1 mo ml cd mn ki on tw od fa st rs me fo fd ba ta1 by9 nd) → (moF mo ml w w1) → (∀ x, x < 1280 → ta1 x < 32003) → (∀ x, x < 20 * n → ta1 x = ta0 x) → (∀ c, c < 20 → ta1 (20 * n + c) = if c < (r + 1 - 0) * (d + 1) then eqn F d n ((r + 1) * (d + 1) - 1 - c) else 0) → ∀ (H : Heap) (locs : List Loc), hw D vwCl A w1 H → va_S A s.heap H locs → ∀ ls : Array Slot, lv_has ls 9 [(0, .ref mo), (1, .int (nI f)), (2, .int (nI r)), (3, .int (nI d)), (4, .int (nI n))] → W p l e (rmL 4 105 0 0) s m args below meth c H locs 0 0 Q (F0 m 138 ls [])) → W p l e (rmL 4 105 0 0) s m args below meth c H locs 0 0 Q (F0 m 48 ls []) := by
  obtain ⟨hx, hb, hml, hts, hown, hK, hk, hAA⟩ := C0
  intro e9
  induction e9 with
  | zero =>
    intro cc ta1 w1 he hcc hM hFr htb hold hi1 H locs hW hS ls hl kk0
    subst he
    refine lv_iload hx hb dM_fill_48 (lv_at hl 5 rfl) ?_
    refine lv_if_lt (tgt := 138) hx hb dM_fill_50 (by decide) (fun c1 => ?_) (fun c1 => absurd (show nI 0 - nI 1 < 0 by decide) c1)
    exact kk0 ta1 w1 hM hFr htb hold hi1 H locs hW hS ls (lv_sub hl [0, 1, 2, 3, 4] rfl)
  | succ e9 ih =>
    intro cc ta1 w1 he hcc hM hFr htb hold hi1 H locs hW hS ls hl kk0
    subst he
    rw [nI_p1] at hl
    have hr1 := hrs (64 * f + (n + e9)) (by omega)
    have hfv := hFv (n + e9) (by omega)
    rw [show r + 1 - (e9 + 1) = r - e9 by omega] at hi1
    refine lv_iload hx hb dM_fill_48 (lv_at hl 5 rfl) ?_
    refine nw_if_lt (tgt := 138) hx hb (by omega) dM_fill_50 (by decide) ?_
    refine lv_iload hx hb dM_fill_53 (lv_at hl 4 rfl) ?_
    refine lv_iload_n hx hb dM_fill_55 rfl (lv_at hl 2 rfl) ?_
    refine lv_iadd hx hb dM_fill_56 ?_
    refine tp_i (show (nI n) + (nI r) = nI (n + r) from nI_add _ _) ?_
    refine lv_bipush (v := nI 64) hx hb dM_fill_57 (by decide) ?_
    refine nw_icmp_ge (tgt := 138) hx hb (by omega) (by omega) dM_fill_59 (by decide) (fun c1 => absurd (show 64 ≤ n + r from c1) (by omega)) (fun c1 => ?_)
    refine lv_aload_n hx hb dM_fill_62 rfl (lv_at hl 0 rfl) ?_
    refine hw_get (v := .ref (ml 6)) (C := RM) (T := TM) (N := 16) hx hb hts inM hown hK hW hM.1 rfl 8 (by decide) (hts _ bw_525) (fun _ h9 => h9) rfl dM_fill_63 ?_
    refine lv_bipush (v := nI 64) hx hb dM_fill_66 (by decide) ?_
    refine lv_iload_n hx hb dM_fill_68 rfl (lv_at hl 1 rfl) ?_
    refine lv_imul hx hb dM_fill_69 ?_
    refine tp_i (show (nI 64) * (nI f) = nI (64 * f) from pk_mul _ _) ?_
    refine lv_iload hx hb dM_fill_70 (lv_at hl 4 rfl) ?_
    refine lv_iadd hx hb dM_fill_72 ?_
    refine tp_i (show (nI (64 * f)) + (nI n) = nI ((64 * f) + n) from nI_add _ _) ?_
    refine lv_iload hx hb dM_fill_73 (lv_at hl 5 rfl) ?_
    refine lv_iadd hx hb dM_fill_75 ?_
    refine tp_i (show (nI ((64 * f) + n)) + (nI e9) = nI (64 * f + (n + e9)) from by rw [nI_add, Nat.add_assoc]) ?_
    refine hw_lald hx hb hK hW 2 hM.2.2.2.2.2.2.2.1 rfl (vp_in_nI (show 64 * f + (n + e9) < 2560 by omega) (by omega)) dM_fill_76 ?_
    refine tp_l (show (nl rs) (nI (64 * f + (n + e9))).toNatClampNeg = lN (rs (64 * f + (n + e9))) from by rw [nI_clamp (by omega)]; rfl) ?_
    refine tp_l (show lN (rs (64 * f + (n + e9))) = lN (F (n + e9)) from by rw [hfv]) ?_
    refine lv_lstore (lv' := [(6, .long (lN (F (n + e9)))), (0, .ref mo), (1, .int (nI f)), (2, .int (nI r)), (3, .int (nI d)), (4, .int (nI n)), (5, .int (nI e9))]) hx hb dM_fill_77 hl (by decide) rfl (fun ls hl => ?_)
    refine lv_iconst (v := nI 0) hx hb dM_fill_79 (by decide) ?_
    refine lv_istore (lv' := [(8, .int (nI 0)), (6, .long (lN (F (n + e9)))), (0, .ref mo), (1, .int (nI f)), (2, .int (nI r)), (3, .int (nI d)), (4, .int (nI n)), (5, .int (nI e9))]) hx hb dM_fill_80 hl (by decide) rfl (fun ls hl => ?_)
    have hfl : F (n + e9) < 32003 := by rw [← hfv]; exact hr1
    have hl : lv_has ls 9 [(0, .ref mo), (1, .int (nI f)), (2, .int (nI r)), (3, .int (nI d)), (4, .int (nI n)), (5, .int (nI e9)), (6, .long (lN (F (n + e9) * n ^ 0 % 32003))), (8, .int (nI 0))] := by rw [we_p0 hfl]; exact lv_sub hl [2, 3, 4, 5, 6, 7, 1, 0] rfl
    refine lp_M_fi_j hD hfc hr hd hFv hrs hn (show e9 ≤ r by omega) ⟨hx, hb, hml, hts, hown, hK, hk, hAA⟩ (d + 1) 0 ta1 w1 (by omega) hM hFr htb hold (fun c hc => by rw [hi1 c (by have := fi_bl (i := e9) (r := r) (d := d) (by omega); have := we_cn (o := r) hr hd; omega), if_pos hc]) (fun c h1 h2 => by rw [hi1 c h2, if_neg (by omega), if_neg (by omega)]) _ _ hW hS ls (lv_sub hl [0, 1, 2, 3, 4, 5, 6, 7] rfl) ?_
    intro ta1 w1 hM hFr htb hold hj1 hj2 H locs hW hS ls hl
    refine lv_iinc (v := nI e9 - nI 1) (lv' := [(5, .int (nI e9 - nI 1)), (0, .ref mo), (1, .int (nI f)), (2, .int (nI r)), (3, .int (nI d)), (4, .int (nI n))]) hx hb dM_fill_132 hl (k := 5) rfl (nI_m1 e9) (by decide) rfl (fun ls hl => ?_)
    refine lv_goto (tgt := 48) hx hb dM_fill_135 (by decide) ?_
    have hsb : (r + 1 - e9) * (d + 1) = (r - e9) * (d + 1) + (d + 1) := by rw [show r + 1 - e9 = (r - e9) + 1 by omega, Nat.succ_mul]
    exact ih e9 ta1 w1 rfl (by omega) hM hFr htb hold (fun c hc => by
      by_cases e8 : c < (r - e9) * (d + 1)
      · rw [hj1 c e8, if_pos (by omega)]
      · rw [hj2 c (by omega) hc]; exact if_same (by omega)) H locs hW hS ls (lv_sub hl [1, 2, 3, 4, 5, 0] rfl) kk0

set_option maxHeartbeats 1000000 in
set_option maxRecDepth 100000 in
theorem lp_M_fi_n {p : Program} {l : Launch} {e : Env} {s : State} {m : MethodId} {args : Array Value} {below : List Frame} {meth : Method} {c : Code} {Q : State → Prop} {D : va_G} {g : Nat → ClassId} {ad : Nat → Nat} {tb : Nat} {sa : Nat → Nat} {A : Nat → Prop} {w : Wd} {mo : Nat} {ml : Nat → Nat} {cd mn : Nat} {ki on tw od fa st rs : Nat → Nat} {me fo fd : Nat} {ba by9 : Nat → Nat} {nd : Nat → Bool} (hD : moD ml) {F : Nat → Nat} {f r d : Nat} (hfc : f < 40) (hr : r ≤ 4) (hd : d ≤ 3) (hFv : ∀ m, m < 64 → rs (64 * f + m) = F m) (hrs : ∀ x, x < 2560 → rs x < 32003) (C0 : cx p s m args c A cM_fill 9 RM D g ad tb sa) : ∀ (e9 : Nat) (n : Nat) (ta1 : Nat → Nat) (w1 : Wd), (n + e9 = 64) → (moW g w1 mo ml cd mn ki on tw od fa st rs me fo fd ba ta1 by9 nd) → (moF mo ml w w1) → (∀ x, x < 1280 → ta1 x < 32003) → (∀ m, m < n → ∀ c, c < 20 → ta1 (20 * m + c) = if m + r < 64 ∧ c < (r + 1) * (d + 1) then eqn F d m ((r + 1) * (d + 1) - 1 - c) else 0) → ∀ (H : Heap) (locs : List Loc), hw D vwCl A w1 H → va_S A s.heap H locs → ∀ ls : Array Slot, lv_has ls 9 [(0, .ref mo), (1, .int (nI f)), (2, .int (nI r)), (3, .int (nI d)), (4, .int (nI n))] → (∀ (ta1 : Nat → Nat) (w1 : Wd), (moW g w1 mo ml cd mn ki on tw od fa st rs me fo fd ba ta1 by9 nd) → (moF mo ml w w1) → (∀ x, x < 1280 → ta1 x < 32003) → (∀ m, m < 64 → ∀ c, c < 20 → ta1 (20 * m + c) = if m + r < 64 ∧ c < (r + 1) * (d + 1) then eqn F d m ((r + 1) * (d + 1) - 1 - c) else 0) → ∀ (H : Heap) (locs : List Loc), hw D vwCl A w1 H → va_S A s.heap H locs → ∀ ls : Array Slot, lv_has ls 9 [] → W p l e (rmL 4 105 0 0) s m args below meth c H locs 0 0 Q (F0 m 144 ls [])) → W p l e (rmL 4 105 0 0) s m args below meth c H locs 0 0 Q (F0 m 8 ls []) := by
  obtain ⟨hx, hb, hml, hts, hown, hK, hk, hAA⟩ := C0
  intro e9
  induction e9 with
  | zero =>
    intro n ta1 w1 hn9 hM hFr htb hfi H locs hW hS ls hl kk0
    refine lv_iload hx hb dM_fill_8 (lv_at hl 4 rfl) ?_
    refine lv_bipush (v := nI 64) hx hb dM_fill_10 (by decide) ?_
    refine nw_icmp_ge (tgt := 144) hx hb (by omega) (by omega) dM_fill_12 (by decide) (fun c1 => ?_) (fun c1 => absurd (show n < 64 from c1) (by omega))
    exact kk0 ta1 w1 hM hFr htb (fun m hm c hc => hfi m (by omega) c hc) H locs hW hS ls (lv_sub hl [] rfl)
  | succ e9 ih =>
    intro n ta1 w1 hn9 hM hFr htb hfi H locs hW hS ls hl kk0
    have hcn := we_cn (o := r) hr hd
    refine lv_iload hx hb dM_fill_8 (lv_at hl 4 rfl) ?_
    refine lv_bipush (v := nI 64) hx hb dM_fill_10 (by decide) ?_
    refine nw_icmp_ge (tgt := 144) hx hb (by omega) (by omega) dM_fill_12 (by decide) (fun c1 => absurd (show 64 ≤ n from c1) (by omega)) (fun c1 => ?_)
    refine lv_iconst (v := nI 0) hx hb dM_fill_15 (by decide) ?_
    refine lv_istore (lv' := [(5, .int (nI 0)), (0, .ref mo), (1, .int (nI f)), (2, .int (nI r)), (3, .int (nI d)), (4, .int (nI n))]) hx hb dM_fill_16 hl (by decide) rfl (fun ls hl => ?_)
    have hfi0 := hfi
    refine lp_M_fi_c (ta0 := ta1) hD hfc hr hd hFv hrs (show n < 64 by omega) ⟨hx, hb, hml, hts, hown, hK, hk, hAA⟩ 20 0 ta1 w1 (by omega) hM hFr htb (fun _ _ => rfl) (fun x hx => absurd hx (by omega)) _ _ hW hS ls (lv_sub hl [1, 2, 3, 4, 5, 0] rfl) ?_
    intro ta1 w1 hM hFr htb hold hz H locs hW hS ls hl
    have hfi : ∀ m, m < n → ∀ c, c < 20 → ta1 (20 * m + c) = if m + r < 64 ∧ c < (r + 1) * (d + 1) then eqn F d m ((r + 1) * (d + 1) - 1 - c) else 0 := fun m hm c hc => by rw [hold _ (by omega)]; exact hfi0 m hm c hc
    refine lv_iload_n hx hb dM_fill_45 rfl (lv_at hl 2 rfl) ?_
    refine lv_istore (lv' := [(5, .int (nI r)), (0, .ref mo), (1, .int (nI f)), (2, .int (nI r)), (3, .int (nI d)), (4, .int (nI n))]) hx hb dM_fill_46 hl (by decide) rfl (fun ls hl => ?_)
    by_cases hnr : n + r < 64
    · have hold9 := hold
      have hl : lv_has ls 9 [(0, .ref mo), (1, .int (nI f)), (2, .int (nI r)), (3, .int (nI d)), (4, .int (nI n)), (5, .int (nI (r + 1) - nI 1))] := by rw [nI_p1]; exact lv_sub hl [1, 2, 3, 4, 5, 0] rfl
      refine lp_M_fi_i (ta0 := ta1) hD hfc hr hd hFv hrs hnr ⟨hx, hb, hml, hts, hown, hK, hk, hAA⟩ (r + 1) (r + 1) ta1 w1 rfl (Nat.le_refl _) hM hFr htb (fun _ _ => rfl) (fun c hc => by rw [hz c hc, Nat.sub_self, Nat.zero_mul, if_neg (by omega)]) _ _ hW hS ls (lv_sub hl [0, 1, 2, 3, 4, 5] rfl) ?_
      intro ta1 w1 hM hFr htb hold hi1 H locs hW hS ls hl
      have hfi : ∀ m, m < n → ∀ c, c < 20 → ta1 (20 * m + c) = if m + r < 64 ∧ c < (r + 1) * (d + 1) then eqn F d m ((r + 1) * (d + 1) - 1 - c) else 0 := fun m hm c hc => by rw [hold _ (by omega)]; exact hfi m hm c hc
      refine lv_iinc (v := nI (n + 1)) (lv' := [(4, .int (nI (n + 1))), (0, .ref mo), (1, .int (nI f)), (2, .int (nI r)), (3, .int (nI d))]) hx hb dM_fill_138 hl (k := 4) rfl (nI_1 _) (by decide) rfl (fun ls hl => ?_)
      refine lv_goto (tgt := 8) hx hb dM_fill_141 (by decide) ?_
      exact ih (n + 1) ta1 w1 (by omega) hM hFr htb (fun m hm c hc => by
        by_cases e8 : m = n
        · rw [e8]; rw [hi1 c hc, Nat.sub_zero]; exact if_same (by omega)
        · exact hfi m (by omega) c hc) H locs hW hS ls (lv_sub hl [1, 2, 3, 4, 0] rfl) kk0
    · refine lv_iload hx hb dM_fill_48 (lv_at hl 0 rfl) ?_
      refine nw_if_lt (tgt := 138) hx hb (by omega) dM_fill_50 (by decide) ?_
      refine lv_iload hx hb dM_fill_53 (lv_at hl 5 rfl) ?_
      refine lv_iload_n hx hb dM_fill_55 rfl (lv_at hl 3 rfl) ?_
      refine lv_iadd hx hb dM_fill_56 ?_
      refine tp_i (show (nI n) + (nI r) = nI (n + r) from nI_add _ _) ?_
      refine lv_bipush (v := nI 64) hx hb dM_fill_57 (by decide) ?_
      refine nw_icmp_ge (tgt := 138) hx hb (by omega) (by omega) dM_fill_59 (by decide) (fun c2 => ?_) (fun c2 => absurd (show n + r < 64 from c2) hnr)
      refine lv_iinc (v := nI (n + 1)) (lv' := [(4, .int (nI (n + 1))), (5, .int (nI r)), (0, .ref mo), (1, .int (nI f)), (2, .int (nI r)), (3, .int (nI d))]) hx hb dM_fill_138 hl (k := 5) rfl (nI_1 _) (by decide) rfl (fun ls hl => ?_)
      refine lv_goto (tgt := 8) hx hb dM_fill_141 (by decide) ?_
      exact ih (n + 1) ta1 w1 (by omega) hM hFr htb (fun m hm c hc => by
        by_cases e8 : m = n
        · rw [e8]; rw [hz c hc, if_neg (fun h9 => hnr h9.1)]
        · exact hfi m (by omega) c hc) H locs hW hS ls (lv_sub hl [2, 3, 4, 5, 0] rfl) kk0

set_option maxHeartbeats 1000000 in
set_option maxRecDepth 100000 in
theorem c_M_fill (l : Launch) (D : va_G) (g : Nat → ClassId) (ad : Nat → Nat) (tb : Nat) (sa : Nat → Nat) (w : Wd) (sz : Nat) (mo : Nat) (ml : Nat → Nat) (cd mn : Nat) (ki on tw od fa st rs : Nat → Nat) (me fo fd : Nat) (ba ta by9 : Nat → Nat) (nd : Nat → Bool) (hD : moD ml) (hM0 : moW g w mo ml cd mn ki on tw od fa st rs me fo fd ba ta by9 nd) (σ : Nat → SD) (hS9 : mS σ mn ki on tw od fa st) (hrs : ∀ x, x < 2560 → rs x < 32003) (f r d : Nat) (hfc : f < mn) (hr4 : r ≤ 4) (hd : d ≤ 3) (hta : ∀ x, x < 1280 → ta x < 32003) : MV l D g ad tb sa yM_fill cM_fill 9 none 4 105 0 0 w sz [.ref mo, .int (nI f), .int (nI r), .int (nI d)] (fun w' => ∃ rs1 ta1, moF mo ml w w' ∧ moW g w' mo ml cd mn ki on tw od fa st rs1 me fo fd ba ta1 by9 nd ∧ (∀ x, x < 2560 → rs1 x < 32003) ∧ (∀ x, x < 1280 → ta1 x < 32003) ∧ ∀ m, m < 64 → ∀ c, c < 20 → ta1 (20 * m + c) = if m + r < 64 ∧ c < (r + 1) * (d + 1) then eqn (sval σ f) d m ((r + 1) * (d + 1) - 1 - c) else 0) := by
  refine hm_MV (by decide) (Nat.le_of_ble_eq_true rfl) ?_
  intro p e s m below meth c A ls hx hb hr hml hts hown hlocks hin hout hsz hW hK hk hS hAA hl
  have hl : lv_has ls 9 [(0, .ref mo), (1, .int (nI f)), (2, .int (nI r)), (3, .int (nI d))] := hl
  have hM := hM0
  have hFr : moF mo ml w w := moF.rf
  have hmn := hS9.1
  refine lv_aload_n hx hb dM_fill_0 rfl (lv_at hl 0 rfl) ?_
  refine lv_iload_n hx hb dM_fill_1 rfl (lv_at hl 1 rfl) ?_
  refine kc_VV (n := 1) (As := [.int (nI f)]) (rest := []) ⟨hx, hb, hml, hown, hts⟩ (c_M_work l D g ad tb sa w s.heap.size mo ml cd mn ki on tw od fa st rs me fo fd ba ta by9 nd hD hM σ hS9 f hfc hrs) bw_642 bw_644 bs_20 bw_3 bw_645 (by decide +kernel) rfl rfl hM.1 ⟨by decide, by decide⟩ hW hK hk hS hAA rfl hl.1 rfl (Nat.le_of_ble_eq_true rfl) dM_fill_2 ⟨by decide, by decide⟩ (fun w2 H locs hp hW hS => ?_)
  obtain ⟨rs1, hF9, hM, hb9, hp9⟩ := hp
  have hFr : moF mo ml w w2 := hFr.tr hF9
  refine lv_iconst (v := nI 0) hx hb dM_fill_5 (by decide) ?_
  refine lv_istore (lv' := [(4, .int (nI 0)), (0, .ref mo), (1, .int (nI f)), (2, .int (nI r)), (3, .int (nI d))]) hx hb dM_fill_6 hl (by decide) rfl (fun ls hl => ?_)
  have hFr9 := hFr
  refine lp_M_fi_n hD (show f < 40 by omega) hr4 hd (fun m hm => hp9 f (Nat.le_refl f) m hm) hb9 ⟨hx, hb, hml, hts, hown, hK, hk, hAA⟩ 64 0 ta w2 (by omega) hM moF.rf hta (fun m hm => absurd hm (by omega)) _ _ hW hS ls (lv_sub hl [1, 2, 3, 4, 0] rfl) ?_
  intro ta1 w1 hM hFr htb hfi H locs hW hS ls hl
  have hFr := hFr9.tr hFr
  exact W.vret hx hb hr (fun t ht hW9 => ⟨⟨w1, rfl, ⟨rs1, ta1, hFr, hM, hb9, htb, hfi⟩, by rw [ht]; exact hW, va_K.moved hW9.alike hK⟩, hS.F ht⟩) hS.2.2 dM_fill_144
