set_option maxHeartbeats 1000000 in
set_option maxRecDepth 100000 in
theorem c_X_existing (l : Launch) (D : va_G) (g : Nat → ClassId) (ad : Nat → Nat) (tb : Nat) (sa : Nat → Nat) (w : Wd) (sz : Nat) (hl0 : l.stackTraces = false) (a sq fo tr cnt : Nat) (aq : Nat → Nat) (hc40 : cnt ≤ 40) (h0 : w a = some (.inr (0, [.ref sq, .int (nI cnt), .ref fo, .ref tr]))) (h1 : w sq = some (qa (g 3) 40 (fun i => if i < cnt then some (aq i) else none))) (f9 : Int32) : XR l D g ad tb sa yX_existing cX_existing 3 (some (.object "HolonomicRows$Sequence")) 6 90 1 6 w sz [.ref a, .int f9] (fun r w' => w' = w ∧ ∃ f, f < cnt ∧ f9 = nI f ∧ r = aq f) (fun E w' => E = xNI ∧ w' = w ∧ ¬ inC cnt f9) := by
  refine hx_XR (by decide) (Nat.le_of_ble_eq_true rfl) ?_
  intro p e s m below meth c A ls hx hb hr hml hts hown hlocks hin hout hsz hW hK hk hS hAA hl
  have hl : lv_has ls 3 [(0, .ref a), (1, .int f9)] := hl
  refine lv_iload_n hx hb dX_existing_0 rfl (lv_at hl 1 rfl) ?_
  refine lv_if_lt (tgt := 19) hx hb dX_existing_1 (by decide) (fun n1 => ?_) (fun n1 => ?_)
  · have hno : ¬ inC cnt f9 := inC_neg (by omega) n1
    refine lv_null hx hb dX_existing_19 ?_
    refine lv_astoreN_n (lv' := [(2, .null), (0, .ref a), (1, .int f9)]) hx hb dX_existing_20 rfl hl (by decide) rfl (fun ls hl => ?_)
    refine lv_aloadN_n hx hb dX_existing_21 rfl (lv_at hl 0 rfl) ?_
    refine lv_ifnonnullN hx hb dX_existing_22 ?_
    exact th_go (text := "no such sequence") hx hb hl0 thI (by simp [sTx]) hown hts hk hK hW hS (hl.1.trans hml.symm) dX_existing_25 dX_existing_28 dX_existing_29 dX_existing_31 dX_existing_34 hout hlocks (by decide) (by decide) (by decide) (by decide) (by decide) (by decide) (⟨rfl, rfl, hno⟩)
  · refine lv_iload_n hx hb dX_existing_4 rfl (lv_at hl 1 rfl) ?_
    refine lv_bipush (v := nI 40) hx hb dX_existing_5 (by decide) ?_
    refine lv_icmp_ge (tgt := 19) hx hb dX_existing_7 (by decide) (fun n2 => ?_) (fun n2 => ?_)
    · have hno : ¬ inC cnt f9 := inC_big (by omega) hc40 n2
      refine lv_null hx hb dX_existing_19 ?_
      refine lv_astoreN_n (lv' := [(2, .null), (0, .ref a), (1, .int f9)]) hx hb dX_existing_20 rfl hl (by decide) rfl (fun ls hl => ?_)
      refine lv_aloadN_n hx hb dX_existing_21 rfl (lv_at hl 0 rfl) ?_
      refine lv_ifnonnullN hx hb dX_existing_22 ?_
      exact th_go (text := "no such sequence") hx hb hl0 thI (by simp [sTx]) hown hts hk hK hW hS (hl.1.trans hml.symm) dX_existing_25 dX_existing_28 dX_existing_29 dX_existing_31 dX_existing_34 hout hlocks (by decide) (by decide) (by decide) (by decide) (by decide) (by decide) (⟨rfl, rfl, hno⟩)
    · obtain ⟨f, hf, ef⟩ := inC_of (by omega) n1 n2
      rw [ef] at hl
      by_cases hfc : f < cnt
      · refine lv_aload_n hx hb dX_existing_10 rfl (lv_at hl 0 rfl) ?_
        refine hw_get (v := .ref sq) (C := RX) (T := TX) (N := 4) hx hb hts inX hown hK hW h0 rfl 0 (by decide) (hts _ bw_62) (fun _ h9 => h9) rfl dX_existing_11 ?_
        refine lv_iload_n hx hb dX_existing_14 rfl (lv_at hl 1 rfl) ?_
        refine hw_aldq hx hb hK hW 3 h1 rfl (vp_in_nI (show f < 40 by omega) (by omega)) dX_existing_15 ?_
        refine tp_v (show (va_rf ((fun i => if i < cnt then some (aq i) else none) (nI f).toNatClampNeg) : Value) = .ref (aq f) from by rw [nI_clamp (by omega)]; exact by show va_rf (if f < cnt then some (aq f) else none) = _; rw [if_pos hfc]; rfl) ?_
        refine lv_goto (tgt := 20) hx hb dX_existing_16 (by decide) ?_
        refine lv_astore_n (lv' := [(2, .ref (aq f)), (0, .ref a), (1, .int (nI f))]) hx hb dX_existing_20 rfl hl (by decide) rfl (fun ls hl => ?_)
        refine lv_aload_n hx hb dX_existing_21 rfl (lv_at hl 0 rfl) ?_
        refine lv_ifnonnull (tgt := 35) hx hb dX_existing_22 (by decide) ?_
        refine lv_aload_n hx hb dX_existing_35 rfl (lv_at hl 0 rfl) ?_
        refine W.widen (k := 1) (n := 6) (by decide) (by decide) ?_
        exact vx_ret (W.aret (v := .ref (aq f)) hx hb hr (Or.inl ⟨_, rfl⟩) (Or.inr ⟨_, rfl⟩) (fun t ht hW9 => ⟨⟨(aq f, w), aq f, rfl, ⟨rfl, f, hfc, ef, rfl⟩, rfl, by rw [ht]; exact hW, va_K.moved hW9.alike hK⟩, hS.F ht⟩) hS.2.2 dX_existing_36)
      · have hno : ¬ inC cnt f9 := by rw [ef]; exact inC_no (by omega) hfc (by omega)
        refine lv_aload_n hx hb dX_existing_10 rfl (lv_at hl 0 rfl) ?_
        refine hw_get (v := .ref sq) (C := RX) (T := TX) (N := 4) hx hb hts inX hown hK hW h0 rfl 0 (by decide) (hts _ bw_62) (fun _ h9 => h9) rfl dX_existing_11 ?_
        refine lv_iload_n hx hb dX_existing_14 rfl (lv_at hl 1 rfl) ?_
        refine hw_aldq hx hb hK hW 3 h1 rfl (vp_in_nI (show f < 40 by omega) (by omega)) dX_existing_15 ?_
        refine tp_v (show (va_rf ((fun i => if i < cnt then some (aq i) else none) (nI f).toNatClampNeg) : Value) = .null from by rw [nI_clamp (by omega)]; exact by show va_rf (if f < cnt then some (aq f) else none) = _; rw [if_neg hfc]; rfl) ?_
        refine lv_goto (tgt := 20) hx hb dX_existing_16 (by decide) ?_
        refine lv_astoreN_n (lv' := [(2, .null), (0, .ref a), (1, .int (nI f))]) hx hb dX_existing_20 rfl hl (by decide) rfl (fun ls hl => ?_)
        refine lv_aloadN_n hx hb dX_existing_21 rfl (lv_at hl 0 rfl) ?_
        refine lv_ifnonnullN hx hb dX_existing_22 ?_
        exact th_go (text := "no such sequence") hx hb hl0 thI (by simp [sTx]) hown hts hk hK hW hS (hl.1.trans hml.symm) dX_existing_25 dX_existing_28 dX_existing_29 dX_existing_31 dX_existing_34 hout hlocks (by decide) (by decide) (by decide) (by decide) (by decide) (by decide) (⟨rfl, rfl, hno⟩)

set_option maxHeartbeats 1000000 in
set_option maxRecDepth 100000 in
theorem c_X_recurrenceR (l : Launch) (D : va_G) (g : Nat → ClassId) (ad : Nat → Nat) (tb : Nat) (sa : Nat → Nat) (w : Wd) (sz : Nat) (hl0 : l.stackTraces = false) (b : Nat) (fs : List Value) (hb0 : w b = some (.inr (1, fs))) : XR l D g ad tb sa yX_recurrence cX_recurrence 2 (some (.object "HolonomicRows$Recurrence")) 6 90 1 6 w sz [.ref b] (fun r w' => w' = w ∧ r = b) (fun E w' => False) := by
  refine hx_XR (by decide) (Nat.le_of_ble_eq_true rfl) ?_
  intro p e s m below meth c A ls hx hb hr hml hts hown hlocks hin hout hsz hW hK hk hS hAA hl
  have hl : lv_has ls 2 [(0, .ref b)] := hl
  refine lv_aload_n hx hb dX_recurrence_0 rfl (lv_at hl 0 rfl) ?_
  refine va_instY (C := RR) hx hb hown (hts _ bw_176) (hk.1 kw_700 (by simp [twL])) (hw_recv hK hW rfl hb0) dX_recurrence_1 ?_
  refine tp_i (show (1 : Int32) = nI 1 from rfl) ?_
  refine nw_if_eq (tgt := 14) hx hb (by omega) dX_recurrence_4 (by decide) (fun c1 => absurd c1 (by decide)) (fun c1 => ?_)
  refine lv_aload_n hx hb dX_recurrence_7 rfl (lv_at hl 0 rfl) ?_
  refine va_castY (C := RR) hx hb hown (hts _ bw_176) (hk.1 kw_700 (by simp [twL])) (hw_recv hK hW rfl hb0) dX_recurrence_8 ?_
  refine lv_astore_n (lv' := [(1, .ref b), (0, .ref b)]) hx hb dX_recurrence_11 rfl hl (by decide) rfl (fun ls hl => ?_)
  refine lv_aload_n hx hb dX_recurrence_12 rfl (lv_at hl 0 rfl) ?_
  refine W.widen (k := 1) (n := 6) (by decide) (by decide) ?_
  exact vx_ret (W.aret (v := .ref b) hx hb hr (Or.inl ⟨_, rfl⟩) (Or.inr ⟨_, rfl⟩) (fun t ht hW9 => ⟨⟨(b, w), b, rfl, ⟨rfl, rfl⟩, rfl, by rw [ht]; exact hW, va_K.moved hW9.alike hK⟩, hS.F ht⟩) hS.2.2 dX_recurrence_13)

set_option maxHeartbeats 1000000 in
set_option maxRecDepth 100000 in
theorem c_X_recurrenceK (l : Launch) (D : va_G) (g : Nat → ClassId) (ad : Nat → Nat) (tb : Nat) (sa : Nat → Nat) (w : Wd) (sz : Nat) (hl0 : l.stackTraces = false) (b : Nat) (fs : List Value) (hb0 : w b = some (.inr (2, fs))) : XR l D g ad tb sa yX_recurrence cX_recurrence 2 (some (.object "HolonomicRows$Recurrence")) 6 90 1 6 w sz [.ref b] (fun r w' => False) (fun E w' => E = xNA ∧ w' = w) := by
  refine hx_XR (by decide) (Nat.le_of_ble_eq_true rfl) ?_
  intro p e s m below meth c A ls hx hb hr hml hts hown hlocks hin hout hsz hW hK hk hS hAA hl
  have hl : lv_has ls 2 [(0, .ref b)] := hl
  refine lv_aload_n hx hb dX_recurrence_0 rfl (lv_at hl 0 rfl) ?_
  refine va_instNo (C := RK) hx hb hown (hts _ bw_176) (hk.2.2.2.2.2.2.2.2.2 (RK, RR) (by simp [nCs, RK, RR])) (hw_recv hK hW rfl hb0) dX_recurrence_1 ?_
  refine tp_i (show (0 : Int32) = nI 0 from rfl) ?_
  refine nw_if_eq (tgt := 14) hx hb (by omega) dX_recurrence_4 (by decide) (fun c1 => ?_) (fun c1 => absurd c1 (by decide))
  exact th_go (text := "not a sequence by a recurrence") hx hb hl0 thA (by simp [sTx]) hown hts hk hK hW hS (hl.1.trans hml.symm) dX_recurrence_14 dX_recurrence_17 dX_recurrence_18 dX_recurrence_20 dX_recurrence_23 hout hlocks (by decide) (by decide) (by decide) (by decide) (by decide) (by decide) (⟨rfl, rfl⟩)

set_option maxHeartbeats 1000000 in
set_option maxRecDepth 100000 in
theorem c_X_checkPlace (l : Launch) (D : va_G) (g : Nat → ClassId) (ad : Nat → Nat) (tb : Nat) (sa : Nat → Nat) (w : Wd) (sz : Nat) (hl0 : l.stackTraces = false) (n9 : Int32) : XV l D g ad tb sa yX_checkPlace cX_checkPlace 1 none 6 90 1 6 w sz [.int n9] (fun w' => w' = w ∧ inC 64 n9) (fun E w' => E = xNI ∧ w' = w ∧ ¬ inC 64 n9) := by
  refine hx_XV (by decide) (Nat.le_of_ble_eq_true rfl) ?_
  intro p e s m below meth c A ls hx hb hr hml hts hown hlocks hin hout hsz hW hK hk hS hAA hl
  have hl : lv_has ls 1 [(0, .int n9)] := hl
  refine lv_iload_n hx hb dX_checkPlace_0 rfl (lv_at hl 0 rfl) ?_
  refine lv_if_lt (tgt := 10) hx hb dX_checkPlace_1 (by decide) (fun n1 => ?_) (fun n1 => ?_)
  · have hno : ¬ inC 64 n9 := inC_neg (by omega) n1
    exact th_go (text := "no such place") hx hb hl0 thI (by simp [sTx]) hown hts hk hK hW hS (hl.1.trans hml.symm) dX_checkPlace_10 dX_checkPlace_13 dX_checkPlace_14 dX_checkPlace_16 dX_checkPlace_19 hout hlocks (by decide) (by decide) (by decide) (by decide) (by decide) (by decide) (⟨rfl, rfl, hno⟩)
  · refine lv_iload_n hx hb dX_checkPlace_4 rfl (lv_at hl 0 rfl) ?_
    refine lv_bipush (v := nI 64) hx hb dX_checkPlace_5 (by decide) ?_
    refine lv_icmp_lt (tgt := 20) hx hb dX_checkPlace_7 (by decide) (fun n2 => ?_) (fun n2 => ?_)
    · have hyes : inC 64 n9 := inC_of (by omega) n1 (Int32.not_le.mpr n2)
      refine W.widen (k := 1) (n := 6) (by decide) (by decide) ?_
      exact vx_ret (W.vret hx hb hr (fun t ht hW9 => ⟨⟨w, rfl, ⟨rfl, hyes⟩, by rw [ht]; exact hW, va_K.moved hW9.alike hK⟩, hS.F ht⟩) hS.2.2 dX_checkPlace_20)
    · have hno : ¬ inC 64 n9 := inC_big (by omega) (Nat.le_refl 64) (Int32.not_lt.mp n2)
      exact th_go (text := "no such place") hx hb hl0 thI (by simp [sTx]) hown hts hk hK hW hS (hl.1.trans hml.symm) dX_checkPlace_10 dX_checkPlace_13 dX_checkPlace_14 dX_checkPlace_16 dX_checkPlace_19 hout hlocks (by decide) (by decide) (by decide) (by decide) (by decide) (by decide) (⟨rfl, rfl, hno⟩)

theorem inC_le3 {i : Int32} (h1 : ¬ i < 0) (h2 : i ≤ nI 3) : inC 4 i := by
  obtain ⟨k, e, hk⟩ := i_in (n := 3) (by omega) h1 (Int32.not_lt.mpr h2)
  exact ⟨k, by omega, e⟩

set_option maxHeartbeats 1000000 in
set_option maxRecDepth 100000 in
theorem c_X_checkDegree (l : Launch) (D : va_G) (g : Nat → ClassId) (ad : Nat → Nat) (tb : Nat) (sa : Nat → Nat) (w : Wd) (sz : Nat) (hl0 : l.stackTraces = false) (n9 : Int32) : XV l D g ad tb sa yX_checkDegree cX_checkDegree 1 none 6 90 1 6 w sz [.int n9] (fun w' => w' = w ∧ inC 4 n9) (fun E w' => E = xNA ∧ w' = w ∧ ¬ inC 4 n9) := by
  refine hx_XV (by decide) (Nat.le_of_ble_eq_true rfl) ?_
  intro p e s m below meth c A ls hx hb hr hml hts hown hlocks hin hout hsz hW hK hk hS hAA hl
  have hl : lv_has ls 1 [(0, .int n9)] := hl
  refine lv_iload_n hx hb dX_checkDegree_0 rfl (lv_at hl 0 rfl) ?_
  refine lv_if_lt (tgt := 9) hx hb dX_checkDegree_1 (by decide) (fun n1 => ?_) (fun n1 => ?_)
  · have hno : ¬ inC 4 n9 := inC_neg (by omega) n1
    exact th_go (text := "the degree is not 0 to 3") hx hb hl0 thA (by simp [sTx]) hown hts hk hK hW hS (hl.1.trans hml.symm) dX_checkDegree_9 dX_checkDegree_12 dX_checkDegree_13 dX_checkDegree_15 dX_checkDegree_18 hout hlocks (by decide) (by decide) (by decide) (by decide) (by decide) (by decide) (⟨rfl, rfl, hno⟩)
  · refine lv_iload_n hx hb dX_checkDegree_4 rfl (lv_at hl 0 rfl) ?_
    refine lv_iconst (v := nI 3) hx hb dX_checkDegree_5 (by decide) ?_
    refine lv_icmp_le (tgt := 19) hx hb dX_checkDegree_6 (by decide) (fun n2 => ?_) (fun n2 => ?_)
    · have hyes : inC 4 n9 := inC_le3 n1 n2
      refine W.widen (k := 1) (n := 6) (by decide) (by decide) ?_
      exact vx_ret (W.vret hx hb hr (fun t ht hW9 => ⟨⟨w, rfl, ⟨rfl, hyes⟩, by rw [ht]; exact hW, va_K.moved hW9.alike hK⟩, hS.F ht⟩) hS.2.2 dX_checkDegree_19)
    · have hno : ¬ inC 4 n9 := fun ⟨k, hk, e⟩ => n2 (by rw [e]; exact (nI_leI (by omega) (by omega)).mpr (by omega))
      exact th_go (text := "the degree is not 0 to 3") hx hb hl0 thA (by simp [sTx]) hown hts hk hK hW hS (hl.1.trans hml.symm) dX_checkDegree_9 dX_checkDegree_12 dX_checkDegree_13 dX_checkDegree_15 dX_checkDegree_18 hout hlocks (by decide) (by decide) (by decide) (by decide) (by decide) (by decide) (⟨rfl, rfl, hno⟩)

set_option maxHeartbeats 1000000 in
set_option maxRecDepth 100000 in
theorem c_X_freeNumber (l : Launch) (D : va_G) (g : Nat → ClassId) (ad : Nat → Nat) (tb : Nat) (sa : Nat → Nat) (w : Wd) (sz : Nat) (hl0 : l.stackTraces = false) (a sq fo tr cnt : Nat) (hc40 : cnt ≤ 40) (h0 : w a = some (.inr (0, [.ref sq, .int (nI cnt), .ref fo, .ref tr]))) : XI l D g ad tb sa yX_freeNumber cX_freeNumber 1 (some (.int)) 6 90 1 6 w sz [.ref a] (fun r w' => w' = w ∧ r = nI cnt ∧ cnt < 40) (fun E w' => E = xNS ∧ w' = w ∧ ¬ cnt < 40) := by
  refine hx_XI (by decide) (Nat.le_of_ble_eq_true rfl) ?_
  intro p e s m below meth c A ls hx hb hr hml hts hown hlocks hin hout hsz hW hK hk hS hAA hl
  have hl : lv_has ls 1 [(0, .ref a)] := hl
  refine lv_aload_n hx hb dX_freeNumber_0 rfl (lv_at hl 0 rfl) ?_
  refine hw_get (v := .int (nI cnt)) (C := RX) (T := TX) (N := 4) hx hb hts inX hown hK hW h0 rfl 1 (by decide) (hts _ bw_63) (fun _ h9 => h9) rfl dX_freeNumber_1 ?_
  refine lv_bipush (v := nI 40) hx hb dX_freeNumber_4 (by decide) ?_
  refine nw_icmp_lt (tgt := 19) hx hb (by omega) (by omega) dX_freeNumber_6 (by decide) (fun n1 => ?_) (fun n1 => ?_)
  · refine lv_aload_n hx hb dX_freeNumber_19 rfl (lv_at hl 0 rfl) ?_
    refine hw_get (v := .int (nI cnt)) (C := RX) (T := TX) (N := 4) hx hb hts inX hown hK hW h0 rfl 1 (by decide) (hts _ bw_63) (fun _ h9 => h9) rfl dX_freeNumber_20 ?_
    refine W.widen (k := 1) (n := 6) (by decide) (by decide) ?_
    exact vx_ret (W.iret (v := nI cnt) hx hb hr (fun t ht hW9 => ⟨⟨nI cnt, w, rfl, ⟨rfl, rfl, by omega⟩, by rw [ht]; exact hW, va_K.moved hW9.alike hK⟩, hS.F ht⟩) hS.2.2 dX_freeNumber_23)
  · exact th_go (text := "40 sequences are there") hx hb hl0 thS (by simp [sTx]) hown hts hk hK hW hS (hl.1.trans hml.symm) dX_freeNumber_9 dX_freeNumber_12 dX_freeNumber_13 dX_freeNumber_15 dX_freeNumber_18 hout hlocks (by decide) (by decide) (by decide) (by decide) (by decide) (by decide) (⟨rfl, rfl, by omega⟩)

set_option maxHeartbeats 1000000 in
set_option maxRecDepth 100000 in
theorem c_X_keepR (l : Launch) (D : va_G) (g : Nat → ClassId) (ad : Nat → Nat) (tb : Nat) (sa : Nat → Nat) (w : Wd) (sz : Nat) (a sq fo tr cnt : Nat) (aq : Nat → Nat) (hc40 : cnt ≤ 40) (h0 : w a = some (.inr (0, [.ref sq, .int (nI cnt), .ref fo, .ref tr]))) (h1 : w sq = some (qa (g 3) 40 (fun i => if i < cnt then some (aq i) else none))) (hc4 : cnt < 40) (b : Nat) (fs : List Value) (hba : b ≠ a) (hb0 : w b = some (.inr (1, fs))) : MI l D g ad tb sa yX_keep cX_keep 3 (some (.int)) 0 0 0 0 w sz [.ref a, .int (nI cnt), .ref b] (fun r w' => r = nI cnt ∧ w' = hwu (hwu w sq (qa (g 3) 40 (va_up (fun i => if i < cnt then some (aq i) else none) cnt (some b)))) a (.inr (0, [.ref sq, .int (nI (cnt + 1)), .ref fo, .ref tr]))) := by
  refine hm_MI (by decide) (Nat.le_of_ble_eq_true rfl) ?_
  intro p e s m below meth c A ls hx hb hr hml hts hown hlocks hin hout hsz hW hK hk hS hAA hl
  have hl : lv_has ls 3 [(0, .ref a), (1, .int (nI cnt)), (2, .ref b)] := hl
  refine lv_aload_n hx hb dX_keep_0 rfl (lv_at hl 0 rfl) ?_
  refine hw_get (v := .ref sq) (C := RX) (T := TX) (N := 4) hx hb hts inX hown hK hW h0 rfl 0 (by decide) (hts _ bw_62) (fun _ h9 => h9) rfl dX_keep_1 ?_
  refine lv_iload_n hx hb dX_keep_4 rfl (lv_at hl 1 rfl) ?_
  refine lv_aload_n hx hb dX_keep_5 rfl (lv_at hl 2 rfl) ?_
  refine hw_astqO (r := (RR, TR, 6)) hx hb hK hW hS 3 1 h1 rfl (hk.1 kw_702 (by simp [twL])) hb0 rfl (vp_in_nI (show cnt < 40 by omega) (by omega)) dX_keep_6 (fun H locs hW hS => ?_)
  rw [nI_clamp (show cnt < 2 ^ 31 by omega)] at hW
  have hW : hw D vwCl A (hwu w sq (qa (g 3) 40 (va_up (fun i => if i < cnt then some (aq i) else none) cnt (some b)))) H := hW
  obtain ⟨w1, ew1⟩ : ∃ z, z = hwu w sq (qa (g 3) 40 (va_up (fun i => if i < cnt then some (aq i) else none) cnt (some b))) := ⟨_, rfl⟩
  rw [← ew1] at hW
  have hc2 : w1 a = some (.inr (0, [.ref sq, .int (nI cnt), .ref fo, .ref tr])) := by rw [ew1, hwu_ne (hw_apart h1 h0 (by intro q; first | cases q | exact absurd q ia_ne_qa | exact absurd q.symm ia_ne_qa))]; exact h0
  have hc3 : w1 b = some (.inr (1, fs)) := by rw [ew1, hwu_ne (hw_apart h1 hb0 (by intro q; first | cases q | exact absurd q ia_ne_qa | exact absurd q.symm ia_ne_qa))]; exact hb0
  have hc4 : w1 sq = some (qa (g 3) 40 (va_up (fun i => if i < cnt then some (aq i) else none) cnt (some b))) := by rw [ew1]; exact hwu_eq
  refine lv_aload_n hx hb dX_keep_7 rfl (lv_at hl 0 rfl) ?_
  refine lv_iload_n hx hb dX_keep_8 rfl (lv_at hl 1 rfl) ?_
  refine lv_iconst (v := nI 1) hx hb dX_keep_9 (by decide) ?_
  refine lv_iadd hx hb dX_keep_10 ?_
  refine tp_i (show (nI cnt) + (nI 1) = nI (cnt + 1) from nI_add _ _) ?_
  refine hw_put (v := .int (nI (cnt + 1))) (ty := .int) (C := RX) (T := TX) (N := 4) hx hb hts inX tyX tyX_ok nmX hown hK hW hS hc2 rfl 1 (by decide) (hts _ bw_63) (fun _ h9 => h9) rfl (by decide +kernel) rfl rfl (Nat.le_of_ble_eq_true rfl) dX_keep_11 (fun H locs hW hS => ?_)
  have hW : hw D vwCl A (hwu w1 a (.inr (0, [.ref sq, .int (nI (cnt + 1)), .ref fo, .ref tr]))) H := hW
  obtain ⟨w5, ew5⟩ : ∃ z, z = hwu w1 a (.inr (0, [.ref sq, .int (nI (cnt + 1)), .ref fo, .ref tr])) := ⟨_, rfl⟩
  rw [← ew5] at hW
  have hc6 : w5 sq = some (qa (g 3) 40 (va_up (fun i => if i < cnt then some (aq i) else none) cnt (some b))) := by rw [ew5, hwu_ne (hw_apart hc2 hc4 (by intro q; first | cases q | exact absurd q ia_ne_qa | exact absurd q.symm ia_ne_qa))]; exact hc4
  have hc7 : w5 b = some (.inr (1, fs)) := by rw [ew5, hwu_ne hba]; exact hc3
  have hc8 : w5 a = some (.inr (0, [.ref sq, .int (nI (cnt + 1)), .ref fo, .ref tr])) := by rw [ew5]; exact hwu_eq
  refine lv_iload_n hx hb dX_keep_14 rfl (lv_at hl 1 rfl) ?_
  exact W.iret (v := nI cnt) hx hb hr (fun t ht hW9 => ⟨⟨nI cnt, w5, rfl, ⟨rfl, by rw [ew5, ew1]⟩, by rw [ht]; exact hW, va_K.moved hW9.alike hK⟩, hS.F ht⟩) hS.2.2 dX_keep_15

set_option maxHeartbeats 1000000 in
set_option maxRecDepth 100000 in
theorem c_X_keepK (l : Launch) (D : va_G) (g : Nat → ClassId) (ad : Nat → Nat) (tb : Nat) (sa : Nat → Nat) (w : Wd) (sz : Nat) (a sq fo tr cnt : Nat) (aq : Nat → Nat) (hc40 : cnt ≤ 40) (h0 : w a = some (.inr (0, [.ref sq, .int (nI cnt), .ref fo, .ref tr]))) (h1 : w sq = some (qa (g 3) 40 (fun i => if i < cnt then some (aq i) else none))) (hc4 : cnt < 40) (b : Nat) (fs : List Value) (hba : b ≠ a) (hb0 : w b = some (.inr (2, fs))) : MI l D g ad tb sa yX_keep cX_keep 3 (some (.int)) 0 0 0 0 w sz [.ref a, .int (nI cnt), .ref b] (fun r w' => r = nI cnt ∧ w' = hwu (hwu w sq (qa (g 3) 40 (va_up (fun i => if i < cnt then some (aq i) else none) cnt (some b)))) a (.inr (0, [.ref sq, .int (nI (cnt + 1)), .ref fo, .ref tr]))) := by
  refine hm_MI (by decide) (Nat.le_of_ble_eq_true rfl) ?_
  intro p e s m below meth c A ls hx hb hr hml hts hown hlocks hin hout hsz hW hK hk hS hAA hl
  have hl : lv_has ls 3 [(0, .ref a), (1, .int (nI cnt)), (2, .ref b)] := hl
  refine lv_aload_n hx hb dX_keep_0 rfl (lv_at hl 0 rfl) ?_
  refine hw_get (v := .ref sq) (C := RX) (T := TX) (N := 4) hx hb hts inX hown hK hW h0 rfl 0 (by decide) (hts _ bw_62) (fun _ h9 => h9) rfl dX_keep_1 ?_
  refine lv_iload_n hx hb dX_keep_4 rfl (lv_at hl 1 rfl) ?_
  refine lv_aload_n hx hb dX_keep_5 rfl (lv_at hl 2 rfl) ?_
  refine hw_astqO (r := (RK, TK, 7)) hx hb hK hW hS 3 2 h1 rfl (hk.1 kw_701 (by simp [twL])) hb0 rfl (vp_in_nI (show cnt < 40 by omega) (by omega)) dX_keep_6 (fun H locs hW hS => ?_)
  rw [nI_clamp (show cnt < 2 ^ 31 by omega)] at hW
  have hW : hw D vwCl A (hwu w sq (qa (g 3) 40 (va_up (fun i => if i < cnt then some (aq i) else none) cnt (some b)))) H := hW
  obtain ⟨w1, ew1⟩ : ∃ z, z = hwu w sq (qa (g 3) 40 (va_up (fun i => if i < cnt then some (aq i) else none) cnt (some b))) := ⟨_, rfl⟩
  rw [← ew1] at hW
  have hc2 : w1 a = some (.inr (0, [.ref sq, .int (nI cnt), .ref fo, .ref tr])) := by rw [ew1, hwu_ne (hw_apart h1 h0 (by intro q; first | cases q | exact absurd q ia_ne_qa | exact absurd q.symm ia_ne_qa))]; exact h0
  have hc3 : w1 b = some (.inr (2, fs)) := by rw [ew1, hwu_ne (hw_apart h1 hb0 (by intro q; first | cases q | exact absurd q ia_ne_qa | exact absurd q.symm ia_ne_qa))]; exact hb0
  have hc4 : w1 sq = some (qa (g 3) 40 (va_up (fun i => if i < cnt then some (aq i) else none) cnt (some b))) := by rw [ew1]; exact hwu_eq
  refine lv_aload_n hx hb dX_keep_7 rfl (lv_at hl 0 rfl) ?_
  refine lv_iload_n hx hb dX_keep_8 rfl (lv_at hl 1 rfl) ?_
  refine lv_iconst (v := nI 1) hx hb dX_keep_9 (by decide) ?_
  refine lv_iadd hx hb dX_keep_10 ?_
  refine tp_i (show (nI cnt) + (nI 1) = nI (cnt + 1) from nI_add _ _) ?_
  refine hw_put (v := .int (nI (cnt + 1))) (ty := .int) (C := RX) (T := TX) (N := 4) hx hb hts inX tyX tyX_ok nmX hown hK hW hS hc2 rfl 1 (by decide) (hts _ bw_63) (fun _ h9 => h9) rfl (by decide +kernel) rfl rfl (Nat.le_of_ble_eq_true rfl) dX_keep_11 (fun H locs hW hS => ?_)
  have hW : hw D vwCl A (hwu w1 a (.inr (0, [.ref sq, .int (nI (cnt + 1)), .ref fo, .ref tr]))) H := hW
  obtain ⟨w5, ew5⟩ : ∃ z, z = hwu w1 a (.inr (0, [.ref sq, .int (nI (cnt + 1)), .ref fo, .ref tr])) := ⟨_, rfl⟩
  rw [← ew5] at hW
  have hc6 : w5 sq = some (qa (g 3) 40 (va_up (fun i => if i < cnt then some (aq i) else none) cnt (some b))) := by rw [ew5, hwu_ne (hw_apart hc2 hc4 (by intro q; first | cases q | exact absurd q ia_ne_qa | exact absurd q.symm ia_ne_qa))]; exact hc4
  have hc7 : w5 b = some (.inr (2, fs)) := by rw [ew5, hwu_ne hba]; exact hc3
  have hc8 : w5 a = some (.inr (0, [.ref sq, .int (nI (cnt + 1)), .ref fo, .ref tr])) := by rw [ew5]; exact hwu_eq
  refine lv_iload_n hx hb dX_keep_14 rfl (lv_at hl 1 rfl) ?_
  exact W.iret (v := nI cnt) hx hb hr (fun t ht hW9 => ⟨⟨nI cnt, w5, rfl, ⟨rfl, by rw [ew5, ew1]⟩, by rw [ht]; exact hW, va_K.moved hW9.alike hK⟩, hS.F ht⟩) hS.2.2 dX_keep_15
