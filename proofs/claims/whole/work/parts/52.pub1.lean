set_option maxHeartbeats 1000000 in
set_option maxRecDepth 100000 in
theorem c_X_value (l : Launch) (D : va_G) (g : Nat → ClassId) (ad : Nat → Nat) (tb : Nat) (sa : Nat → Nat) (w : Wd) (sz : Nat) (hl0 : l.stackTraces = false) (ro : Nat → Nat) (a : Nat) (σ : Nat → SD) (cnt : Nat) (γ : GU) (hI : xI g ad w ro a σ cnt γ) (f9 n9 : Int32) : XI l D g ad tb sa yX_value cX_value 4 (some (.int)) 7 117 2 12 w sz [.ref a, .int f9, .int n9] (fun x9 w' => ∃ f n, f < cnt ∧ n < 64 ∧ f9 = nI f ∧ n9 = nI n ∧ x9 = nI (sval σ f n) ∧ xI g ad w' ro a σ cnt γ ∧ kpM w ro w' ro) (fun E w' => E = xNI ∧ w' = w ∧ ¬ (inC cnt f9 ∧ inC 64 n9)) := by
  obtain ⟨al, fh, T, pt, rfl, hX, hF, hT⟩ := hI
  refine hx_XI (by decide) (Nat.le_of_ble_eq_true rfl) ?_
  intro p e s m below meth c A ls hx hb hr hml hts hown hlocks hin hout hsz hW hK hk hS hAA hl
  have hl : lv_has ls 4 [(0, .ref (al 0)), (1, .int f9), (2, .int n9)] := hl
  have hc40 := hX.1
  refine lv_aload_n hx hb dX_value_0 rfl (lv_at hl 0 rfl) ?_
  refine lv_iload_n hx hb dX_value_1 rfl (lv_at hl 1 rfl) ?_
  refine kx_VR (n := 1) (As := [.int f9]) (rest := []) ⟨hx, hb, hml, hown, hts⟩ (c_X_existing l D g ad tb sa w s.heap.size hl0 (al 0) (al 1) (al 2) (al 32) cnt (fun i => al (100 + i)) hc40 hX.2.2.1.1 hX.2.2.2.1.1 f9) bw_227 bw_229 bs_3 bw_1 bw_230 (by decide +kernel) rfl rfl hX.2.2.1.1 ⟨by decide, by decide⟩ hW hK hk hS hAA rfl hl.1 rfl (Nat.le_of_ble_eq_true rfl) dX_value_2 ⟨by decide, by decide⟩ (fun E9 ce9 q9 w9 H9 locs9 hp9 hW9 hS9 hc1 hc2 hc3 => xo_go hout hlocks hK hS9 hW9 hc1 hc2 hc3 (⟨hp9.1, hp9.2.1, fun h9 => hp9.2.2 h9.1⟩) (by decide) (by decide)) (fun r1 w2 H locs hp hW hS => ?_)
  obtain ⟨hw9, f, hfc, ef, hr9⟩ := hp
  rw [hw9] at hW
  subst hr9
  refine lv_astore_n (lv' := [(3, .ref (al (100 + f))), (0, .ref (al 0)), (1, .int f9), (2, .int n9)]) hx hb dX_value_5 rfl hl (by decide) rfl (fun ls hl => ?_)
  refine lv_iload_n hx hb dX_value_6 rfl (lv_at hl 3 rfl) ?_
  refine kx_SV (n := 1) (As := [.int n9]) (rest := []) ⟨hx, hb, hml, hown, hts⟩ (c_X_checkPlace l D g ad tb sa w H.size hl0 n9) bw_278 bw_279 bw_1 bw_280 (by decide +kernel) ⟨by decide, by decide⟩ hW hK hk hS hAA rfl hl.1 rfl (Nat.le_of_ble_eq_true rfl) dX_value_7 ⟨by decide, by decide⟩ (fun E9 ce9 q9 w9 H9 locs9 hp9 hW9 hS9 hc1 hc2 hc3 => xo_go hout hlocks hK hS9 hW9 hc1 hc2 hc3 (⟨hp9.1, hp9.2.1, fun h9 => hp9.2.2 h9.2⟩) (by decide) (by decide)) (fun w4 H locs hp hW hS => ?_)
  obtain ⟨hw9, n, hnc, en⟩ := hp
  rw [hw9] at hW
  rw [en] at hl
  refine lv_aload_n hx hb dX_value_10 rfl (lv_at hl 1 rfl) ?_
  refine lv_aload_n hx hb dX_value_11 rfl (lv_at hl 0 rfl) ?_
  refine kc_VR (n := 1) (As := [.ref (al (100 + f))]) (rest := []) ⟨hx, hb, hml, hown, hts⟩ (c_X_freshNumbers l D g ad tb sa w H.size al ro σ cnt fh T pt hX f hfc) bw_379 bw_381 bs_7 bw_1 bw_382 (by decide +kernel) rfl rfl hX.2.2.1.1 ⟨by decide, by decide⟩ hW hK hk hS hAA rfl hl.1 rfl (Nat.le_of_ble_eq_true rfl) dX_value_12 ⟨by decide, by decide⟩ (fun r5 w6 H locs hp hW hS => ?_)
  obtain ⟨hr9, fh1, T1, hX1, hfr1, hTv1, hff1, hmo1⟩ := hp
  subst hr9
  refine lv_iload_n hx hb dX_value_15 rfl (lv_at hl 3 rfl) ?_
  refine hw_iald hx hb hK hW 0 (hX1.2.2.2.2 f hfc).2.1.1 rfl (vp_in_nI (show n < 64 by omega) (by omega)) dX_value_16 ?_
  refine tp_i (show (ni (T1 f)) (nI n).toNatClampNeg = nI ((T1 f) n) from by rw [nI_clamp (by omega)]; rfl) ?_
  refine tp_i (show nI ((T1 f) n) = nI (sval σ f n) from by rw [hTv1 n hnc]) ?_
  exact vx_ret (W.iret (v := nI (sval σ f n)) hx hb hr (fun t ht hW9 => ⟨⟨nI (sval σ f n), w6, rfl, ⟨f, n, hfc, hnc, ef, en, rfl, xI.mk hX1 hF hT hfr1, hfr1.M⟩, by rw [ht]; exact hW, va_K.moved hW9.alike hK⟩, hS.F ht⟩) hS.2.2 dX_value_17)

set_option maxHeartbeats 1000000 in
set_option maxRecDepth 100000 in
theorem c_X_hangs (l : Launch) (D : va_G) (g : Nat → ClassId) (ad : Nat → Nat) (tb : Nat) (sa : Nat → Nat) (w : Wd) (sz : Nat) (hl0 : l.stackTraces = false) (ro : Nat → Nat) (a : Nat) (σ : Nat → SD) (cnt : Nat) (γ : GU) (hI : xI g ad w ro a σ cnt γ) (f9 g9 : Int32) : XI l D g ad tb sa yX_hangs cX_hangs 4 (some (.boolean)) 7 112 2 12 w sz [.ref a, .int f9, .int g9] (fun x9 w' => ∃ f h, f < cnt ∧ h < cnt ∧ f9 = nI f ∧ g9 = nI h ∧ x9 = nI (bz (sdep σ f h)) ∧ w' = w) (fun E w' => E = xNI ∧ w' = w ∧ ¬ (inC cnt f9 ∧ inC cnt g9)) := by
  obtain ⟨al, fh, T, pt, rfl, hX, hF, hT⟩ := hI
  refine hx_XI (by decide) (Nat.le_of_ble_eq_true rfl) ?_
  intro p e s m below meth c A ls hx hb hr hml hts hown hlocks hin hout hsz hW hK hk hS hAA hl
  have hl : lv_has ls 4 [(0, .ref (al 0)), (1, .int f9), (2, .int g9)] := hl
  have hc40 := hX.1
  refine lv_aload_n hx hb dX_hangs_0 rfl (lv_at hl 0 rfl) ?_
  refine lv_iload_n hx hb dX_hangs_1 rfl (lv_at hl 1 rfl) ?_
  refine kx_VR (n := 1) (As := [.int f9]) (rest := []) ⟨hx, hb, hml, hown, hts⟩ (c_X_existing l D g ad tb sa w s.heap.size hl0 (al 0) (al 1) (al 2) (al 32) cnt (fun i => al (100 + i)) hc40 hX.2.2.1.1 hX.2.2.2.1.1 f9) bw_227 bw_229 bs_3 bw_1 bw_230 (by decide +kernel) rfl rfl hX.2.2.1.1 ⟨by decide, by decide⟩ hW hK hk hS hAA rfl hl.1 rfl (Nat.le_of_ble_eq_true rfl) dX_hangs_2 ⟨by decide, by decide⟩ (fun E9 ce9 q9 w9 H9 locs9 hp9 hW9 hS9 hc1 hc2 hc3 => xo_go hout hlocks hK hS9 hW9 hc1 hc2 hc3 (⟨hp9.1, hp9.2.1, fun h9 => hp9.2.2 h9.1⟩) (by decide) (by decide)) (fun r1 w2 H locs hp hW hS => ?_)
  obtain ⟨hw9, f, hfc, ef, hr9⟩ := hp
  rw [hw9] at hW
  subst hr9
  refine lv_astore_n (lv' := [(3, .ref (al (100 + f))), (0, .ref (al 0)), (1, .int f9), (2, .int g9)]) hx hb dX_hangs_5 rfl hl (by decide) rfl (fun ls hl => ?_)
  refine lv_aload_n hx hb dX_hangs_6 rfl (lv_at hl 1 rfl) ?_
  refine lv_iload_n hx hb dX_hangs_7 rfl (lv_at hl 3 rfl) ?_
  refine kx_VR (n := 1) (As := [.int g9]) (rest := []) ⟨hx, hb, hml, hown, hts⟩ (c_X_existing l D g ad tb sa w H.size hl0 (al 0) (al 1) (al 2) (al 32) cnt (fun i => al (100 + i)) hc40 hX.2.2.1.1 hX.2.2.2.1.1 g9) bw_227 bw_229 bs_3 bw_1 bw_230 (by decide +kernel) rfl rfl hX.2.2.1.1 ⟨by decide, by decide⟩ hW hK hk hS hAA rfl hl.1 rfl (Nat.le_of_ble_eq_true rfl) dX_hangs_8 ⟨by decide, by decide⟩ (fun E9 ce9 q9 w9 H9 locs9 hp9 hW9 hS9 hc1 hc2 hc3 => xo_go hout hlocks hK hS9 hW9 hc1 hc2 hc3 (⟨hp9.1, hp9.2.1, fun h9 => hp9.2.2 h9.2⟩) (by decide) (by decide)) (fun r3 w4 H locs hp hW hS => ?_)
  obtain ⟨hw9, h, hhc, eh, hr9⟩ := hp
  rw [hw9] at hW
  subst hr9
  refine lv_pop hx hb dX_hangs_11 rfl ?_
  rw [eh] at hl
  have hbl := bz_le (lb (pt f) h)
  by_cases htf : sTg (σ f) = 0
  · have hobf := (hX.2.2.2.2 f hfc).1.1
    rw [sOb_0 htf] at hobf
    refine lv_aload_n hx hb dX_hangs_12 rfl (lv_at hl 0 rfl) ?_
    refine lv_iload_n hx hb dX_hangs_13 rfl (lv_at hl 3 rfl) ?_
    refine kc_UI (n := 1) (As := [.int (nI h)]) (rest := []) ⟨hx, hb, hml, hown, hts⟩ (c_Q_isMadeOf l D g ad tb sa w H.size (al (100 + f)) h 1 (al (200 + f)) (bz (fh f)) (pt f) _ (by omega) (by decide) hobf) bw_265 bw_267 bw_269 bw_266 bw_9 bw_270 rfl (by decide +kernel) rfl rfl hobf ⟨by decide, by decide⟩ hW hK hk hS hAA rfl hl.1 rfl (Nat.le_of_ble_eq_true rfl) dX_hangs_14 ⟨by decide, by decide⟩ (fun r5 w6 H locs hp hW hS => ?_)
    obtain ⟨hw9, hr9⟩ := hp
    rw [hw9] at hW
    subst hr9
    refine tp_i (show nI (bz (lb (pt f) h)) = nI (bz (sdep σ f h)) from by rw [(hX.2.2.2.2 f hfc).2.2.2.2.1 h (by omega)]) ?_
    exact vx_ret (W.zret (ty := .boolean) (v := nI (bz (sdep σ f h))) hx hb hr (by cases sdep σ f h <;> decide) (fun t ht hW9 => ⟨⟨nI (bz (sdep σ f h)), w, rfl, ⟨f, h, hfc, hhc, ef, eh, rfl, rfl⟩, by rw [ht]; exact hW, va_K.moved hW9.alike hK⟩, hS.F ht⟩) hS.2.2 dX_hangs_17)
  · have hobf := (hX.2.2.2.2 f hfc).1.1
    rw [sOb_1 htf] at hobf
    refine lv_aload_n hx hb dX_hangs_12 rfl (lv_at hl 0 rfl) ?_
    refine lv_iload_n hx hb dX_hangs_13 rfl (lv_at hl 3 rfl) ?_
    refine kc_UI (n := 1) (As := [.int (nI h)]) (rest := []) ⟨hx, hb, hml, hown, hts⟩ (c_Q_isMadeOf l D g ad tb sa w H.size (al (100 + f)) h 2 (al (200 + f)) (bz (fh f)) (pt f) _ (by omega) (by decide) hobf) bw_265 bw_267 bw_268 bw_266 bw_9 bw_270 rfl (by decide +kernel) rfl rfl hobf ⟨by decide, by decide⟩ hW hK hk hS hAA rfl hl.1 rfl (Nat.le_of_ble_eq_true rfl) dX_hangs_14 ⟨by decide, by decide⟩ (fun r7 w8 H locs hp hW hS => ?_)
    obtain ⟨hw9, hr9⟩ := hp
    rw [hw9] at hW
    subst hr9
    refine tp_i (show nI (bz (lb (pt f) h)) = nI (bz (sdep σ f h)) from by rw [(hX.2.2.2.2 f hfc).2.2.2.2.1 h (by omega)]) ?_
    exact vx_ret (W.zret (ty := .boolean) (v := nI (bz (sdep σ f h))) hx hb hr (by cases sdep σ f h <;> decide) (fun t ht hW9 => ⟨⟨nI (bz (sdep σ f h)), w, rfl, ⟨f, h, hfc, hhc, ef, eh, rfl, rfl⟩, by rw [ht]; exact hW, va_K.moved hW9.alike hK⟩, hS.F ht⟩) hS.2.2 dX_hangs_17)

set_option maxHeartbeats 1000000 in
set_option maxRecDepth 100000 in
theorem c_X_singular (l : Launch) (D : va_G) (g : Nat → ClassId) (ad : Nat → Nat) (tb : Nat) (sa : Nat → Nat) (w : Wd) (sz : Nat) (hl0 : l.stackTraces = false) (ro : Nat → Nat) (a : Nat) (σ : Nat → SD) (cnt : Nat) (γ : GU) (hI : xI g ad w ro a σ cnt γ) (f9 : Int32) : XI l D g ad tb sa yX_singular cX_singular 2 (some (.int)) 7 112 2 12 w sz [.ref a, .int f9] (fun x9 w' => ∃ f, f < cnt ∧ f9 = nI f ∧ sTg (σ f) = 0 ∧ sing (sP (σ f)) (sF (σ f)) x9 ∧ w' = w) (fun E w' => w' = w ∧ ((E = xNI ∧ ¬ inC cnt f9) ∨ (E = xNA ∧ ∃ f, f < cnt ∧ f9 = nI f ∧ sTg (σ f) ≠ 0))) := by
  obtain ⟨al, fh, T, pt, rfl, hX, hF, hT⟩ := hI
  refine hx_XI (by decide) (Nat.le_of_ble_eq_true rfl) ?_
  intro p e s m below meth c A ls hx hb hr hml hts hown hlocks hin hout hsz hW hK hk hS hAA hl
  have hl : lv_has ls 2 [(0, .ref (al 0)), (1, .int f9)] := hl
  have hc40 := hX.1
  refine lv_aload_n hx hb dX_singular_0 rfl (lv_at hl 0 rfl) ?_
  refine lv_iload_n hx hb dX_singular_1 rfl (lv_at hl 1 rfl) ?_
  refine kx_VR (n := 1) (As := [.int f9]) (rest := []) ⟨hx, hb, hml, hown, hts⟩ (c_X_existing l D g ad tb sa w s.heap.size hl0 (al 0) (al 1) (al 2) (al 32) cnt (fun i => al (100 + i)) hc40 hX.2.2.1.1 hX.2.2.2.1.1 f9) bw_227 bw_229 bs_3 bw_1 bw_230 (by decide +kernel) rfl rfl hX.2.2.1.1 ⟨by decide, by decide⟩ hW hK hk hS hAA rfl hl.1 rfl (Nat.le_of_ble_eq_true rfl) dX_singular_2 ⟨by decide, by decide⟩ (fun E9 ce9 q9 w9 H9 locs9 hp9 hW9 hS9 hc1 hc2 hc3 => xo_go hout hlocks hK hS9 hW9 hc1 hc2 hc3 (⟨hp9.2.1, Or.inl ⟨hp9.1, hp9.2.2⟩⟩) (by decide) (by decide)) (fun r1 w2 H locs hp hW hS => ?_)
  obtain ⟨hw9, f, hfc, ef, hr9⟩ := hp
  rw [hw9] at hW
  subst hr9
  by_cases htf : sTg (σ f) = 0
  · have hobf := (hX.2.2.2.2 f hfc).1.1
    rw [sOb_0 htf] at hobf
    obtain ⟨r1, r2, r3, r4⟩ := (hX.2.2.2.2 f hfc).2.2.2.2.2.1 htf
    refine kx_SR (n := 1) (As := [.ref (al (100 + f))]) (rest := []) ⟨hx, hb, hml, hown, hts⟩ (c_X_recurrenceR l D g ad tb sa w H.size hl0 (al (100 + f)) _ hobf) bw_247 bw_248 bw_1 bw_249 (by decide +kernel) ⟨by decide, by decide⟩ hW hK hk hS hAA rfl hl.1 rfl (Nat.le_of_ble_eq_true rfl) dX_singular_5 ⟨by decide, by decide⟩ (fun E9 ce9 q9 w9 H9 locs9 hp9 hW9 hS9 hc1 hc2 hc3 => xo_go hout hlocks hK hS9 hW9 hc1 hc2 hc3 (hp9.elim) (by decide) (by decide)) (fun r3 w4 H locs hp hW hS => ?_)
    obtain ⟨hw9, hr9⟩ := hp
    rw [hw9] at hW
    subst hr9
    refine kc_VI (n := 0) (As := []) (rest := []) ⟨hx, hb, hml, hown, hts⟩ (c_R_firstSingular l D g ad tb sa w H.size (al (100 + f)) (al (200 + f)) (bz (fh f)) (sP (σ f)) (al (300 + f)) (al (400 + f)) (pt f) (sF (σ f)) hobf r3.1 (fun x hx => (hX.2.2.2.2 f hfc).2.2.2.2.2.2.2.1 x (by omega)) r2) bw_431 bw_432 bw_433 bw_10 bw_434 (by decide +kernel) rfl rfl hobf ⟨by decide, by decide⟩ hW hK hk hS hAA rfl hl.1 rfl (Nat.le_of_ble_eq_true rfl) dX_singular_8 ⟨by decide, by decide⟩ (fun r5 w6 H locs hp hW hS => ?_)
    obtain ⟨hw9, hs9⟩ := hp
    rw [hw9] at hW
    exact vx_ret (W.iret (v := r5) hx hb hr (fun t ht hW9 => ⟨⟨r5, w, rfl, ⟨f, hfc, ef, htf, hs9, rfl⟩, by rw [ht]; exact hW, va_K.moved hW9.alike hK⟩, hS.F ht⟩) hS.2.2 dX_singular_11)
  · have hobf := (hX.2.2.2.2 f hfc).1.1
    rw [sOb_1 htf] at hobf
    refine kx_SR (n := 1) (As := [.ref (al (100 + f))]) (rest := []) ⟨hx, hb, hml, hown, hts⟩ (c_X_recurrenceK l D g ad tb sa w H.size hl0 (al (100 + f)) _ hobf) bw_247 bw_248 bw_1 bw_249 (by decide +kernel) ⟨by decide, by decide⟩ hW hK hk hS hAA rfl hl.1 rfl (Nat.le_of_ble_eq_true rfl) dX_singular_5 ⟨by decide, by decide⟩ (fun E9 ce9 q9 w9 H9 locs9 hp9 hW9 hS9 hc1 hc2 hc3 => xo_go hout hlocks hK hS9 hW9 hc1 hc2 hc3 (⟨hp9.2, Or.inr ⟨hp9.1, f, hfc, ef, htf⟩⟩) (by decide) (by decide)) (fun r7 w8 H locs hp hW hS => ?_)
    exact hp.elim

set_option maxHeartbeats 1000000 in
set_option maxRecDepth 100000 in
theorem c_X_count (l : Launch) (D : va_G) (g : Nat → ClassId) (ad : Nat → Nat) (tb : Nat) (sa : Nat → Nat) (w : Wd) (sz : Nat) (ro : Nat → Nat) (a : Nat) (σ : Nat → SD) (cnt : Nat) (γ : GU) (hI : xI g ad w ro a σ cnt γ) : MI l D g ad tb sa yX_count cX_count 1 (some (.int)) 0 0 0 0 w sz [.ref a] (fun x9 w' => x9 = nI cnt ∧ w' = w) := by
  obtain ⟨al, fh, T, pt, rfl, hX, hF, hT⟩ := hI
  refine hm_MI (by decide) (Nat.le_of_ble_eq_true rfl) ?_
  intro p e s m below meth c A ls hx hb hr hml hts hown hlocks hin hout hsz hW hK hk hS hAA hl
  have hl : lv_has ls 1 [(0, .ref (al 0))] := hl
  have hc40 := hX.1
  refine lv_aload_n hx hb dX_count_0 rfl (lv_at hl 0 rfl) ?_
  refine hw_get (v := .int (nI cnt)) (C := RX) (T := TX) (N := 4) hx hb hts inX hown hK hW hX.2.2.1.1 rfl 1 (by decide) (hts _ bw_63) (fun _ h9 => h9) rfl dX_count_1 ?_
  exact W.iret (v := nI cnt) hx hb hr (fun t ht hW9 => ⟨⟨nI cnt, w, rfl, ⟨rfl, rfl⟩, by rw [ht]; exact hW, va_K.moved hW9.alike hK⟩, hS.F ht⟩) hS.2.2 dX_count_4

set_option maxHeartbeats 1000000 in
set_option maxRecDepth 100000 in
theorem lp_X_differ {p : Program} {l : Launch} {e : Env} {s : State} {m : MethodId} {args : Array Value} {below : List Frame} {meth : Method} {c : Code} {Q : State → Prop} {D : va_G} {g : Nat → ClassId} {ad : Nat → Nat} {tb : Nat} {sa : Nat → Nat} {A : Nat → Prop} {w : Wd} {fa ga : Nat} {F G : Nat → Nat} (hFb : ∀ m, m < 64 → F m < 32003) (hGb : ∀ m, m < 64 → G m < 32003) (hfa : w fa = some (ia (g 0) 64 F)) (hga : w ga = some (ia (g 0) 64 G)) (C0 : cx p s m args c A cX_differ 8 RX D g ad tb sa) : ∀ (e9 : Nat) (n : Nat) (w1 : Wd), (n + e9 = 64) → (w1 = w) → (∀ m, m < n → F m = G m) → ∀ (H : Heap) (locs : List Loc), hw D vwCl A w1 H → va_S A s.heap H locs → ∀ ls : Array Slot, lv_has ls 8 [(5, .ref fa), (6, .ref ga), (7, .int (nI n))] → (∀ (n : Nat) (w1 : Wd), (w1 = w) → (n < 64) → (∀ m, m < n → F m = G m) → (F n ≠ G n) → ∀ (H : Heap) (locs : List Loc), hw D vwCl A w1 H → va_S A s.heap H locs → ∀ ls : Array Slot, lv_has ls 8 [(7, .int (nI n))] → W p l e (rmL 7 117 2 12) s m args below meth c H locs 2 12 Q (F0 m 51 ls [])) → (∀ (w1 : Wd), (w1 = w) → (∀ m, m < 64 → F m = G m) → ∀ (H : Heap) (locs : List Loc), hw D vwCl A w1 H → va_S A s.heap H locs → ∀ ls : Array Slot, lv_has ls 8 [] → W p l e (rmL 7 117 2 12) s m args below meth c H locs 2 12 Q (F0 m 60 ls [])) → W p l e (rmL 7 117 2 12) s m args below meth c H locs 2 12 Q (F0 m 31 ls []) := by
  obtain ⟨hx, hb, hml, hts, hown, hK, hk, hAA⟩ := C0
  intro e9
  induction e9 with
  | zero =>
    intro n w1 hn ew hq H locs hW hS ls hl kk0 kk1
    subst ew
    refine lv_iload hx hb dX_differ_31 (lv_at hl 2 rfl) ?_
    refine lv_bipush (v := nI 64) hx hb dX_differ_33 (by decide) ?_
    refine nw_icmp_ge (tgt := 60) hx hb (by omega) (by omega) dX_differ_35 (by decide) (fun c1 => ?_) (fun c1 => absurd (show n < 64 from c1) (by omega))
    exact kk1 w1 rfl (fun m hm => hq m (by omega)) H locs hW hS ls (lv_sub hl [] rfl)
  | succ e9 ih =>
    intro n w1 hn ew hq H locs hW hS ls hl kk0 kk1
    subst ew
    have h1 := hFb n (by omega)
    have h2 := hGb n (by omega)
    refine lv_iload hx hb dX_differ_31 (lv_at hl 2 rfl) ?_
    refine lv_bipush (v := nI 64) hx hb dX_differ_33 (by decide) ?_
    refine nw_icmp_ge (tgt := 60) hx hb (by omega) (by omega) dX_differ_35 (by decide) (fun c1 => absurd (show 64 ≤ n from c1) (by omega)) (fun c1 => ?_)
    refine lv_aload hx hb dX_differ_38 (lv_at hl 0 rfl) ?_
    refine lv_iload hx hb dX_differ_40 (lv_at hl 2 rfl) ?_
    refine hw_iald hx hb hK hW 0 hfa rfl (vp_in_nI (show n < 64 by omega) (by omega)) dX_differ_42 ?_
    refine tp_i (show (ni F) (nI n).toNatClampNeg = nI (F n) from by rw [nI_clamp (by omega)]; rfl) ?_
    refine lv_aload hx hb dX_differ_43 (lv_at hl 1 rfl) ?_
    refine lv_iload hx hb dX_differ_45 (lv_at hl 2 rfl) ?_
    refine hw_iald hx hb hK hW 0 hga rfl (vp_in_nI (show n < 64 by omega) (by omega)) dX_differ_47 ?_
    refine tp_i (show (ni G) (nI n).toNatClampNeg = nI (G n) from by rw [nI_clamp (by omega)]; rfl) ?_
    refine nw_icmp_eq (tgt := 54) hx hb (by omega) (by omega) dX_differ_48 (by decide) (fun cd => ?_) (fun cd => ?_)
    · refine lv_iinc (v := nI (n + 1)) (lv' := [(7, .int (nI (n + 1))), (5, .ref fa), (6, .ref ga)]) hx hb dX_differ_54 hl (k := 2) rfl (nI_1 _) (by decide) rfl (fun ls hl => ?_)
      refine lv_goto (tgt := 31) hx hb dX_differ_57 (by decide) ?_
      exact ih (n + 1) w1 (by omega) rfl (fun m hm => by
        by_cases e8 : m = n
        · rw [e8]; exact cd
        · exact hq m (by omega)) H locs hW hS ls (lv_sub hl [1, 2, 0] rfl) kk0 kk1
    · exact kk0 n w1 rfl (by omega) hq cd H locs hW hS ls (lv_sub hl [2] rfl)

set_option maxHeartbeats 1000000 in
set_option maxRecDepth 100000 in
theorem c_X_differ (l : Launch) (D : va_G) (g : Nat → ClassId) (ad : Nat → Nat) (tb : Nat) (sa : Nat → Nat) (w : Wd) (sz : Nat) (hl0 : l.stackTraces = false) (ro : Nat → Nat) (a : Nat) (σ : Nat → SD) (cnt : Nat) (γ : GU) (hI : xI g ad w ro a σ cnt γ) (f9 g9 : Int32) : XI l D g ad tb sa yX_differ cX_differ 8 (some (.int)) 7 117 2 12 w sz [.ref a, .int f9, .int g9] (fun x9 w' => ∃ f h, f < cnt ∧ h < cnt ∧ f9 = nI f ∧ g9 = nI h ∧ dif (sval σ f) (sval σ h) x9 ∧ xI g ad w' ro a σ cnt γ ∧ kpM w ro w' ro) (fun E w' => E = xNI ∧ w' = w ∧ ¬ (inC cnt f9 ∧ inC cnt g9)) := by
  obtain ⟨al, fh, T, pt, rfl, hX, hF, hT⟩ := hI
  refine hx_XI (by decide) (Nat.le_of_ble_eq_true rfl) ?_
  intro p e s m below meth c A ls hx hb hr hml hts hown hlocks hin hout hsz hW hK hk hS hAA hl
  have hl : lv_has ls 8 [(0, .ref (al 0)), (1, .int f9), (2, .int g9)] := hl
  have hc40 := hX.1
  refine lv_aload_n hx hb dX_differ_0 rfl (lv_at hl 0 rfl) ?_
  refine lv_iload_n hx hb dX_differ_1 rfl (lv_at hl 1 rfl) ?_
  refine kx_VR (n := 1) (As := [.int f9]) (rest := []) ⟨hx, hb, hml, hown, hts⟩ (c_X_existing l D g ad tb sa w s.heap.size hl0 (al 0) (al 1) (al 2) (al 32) cnt (fun i => al (100 + i)) hc40 hX.2.2.1.1 hX.2.2.2.1.1 f9) bw_227 bw_229 bs_3 bw_1 bw_230 (by decide +kernel) rfl rfl hX.2.2.1.1 ⟨by decide, by decide⟩ hW hK hk hS hAA rfl hl.1 rfl (Nat.le_of_ble_eq_true rfl) dX_differ_2 ⟨by decide, by decide⟩ (fun E9 ce9 q9 w9 H9 locs9 hp9 hW9 hS9 hc1 hc2 hc3 => xo_go hout hlocks hK hS9 hW9 hc1 hc2 hc3 (⟨hp9.1, hp9.2.1, fun h9 => hp9.2.2 h9.1⟩) (by decide) (by decide)) (fun r1 w2 H locs hp hW hS => ?_)
  obtain ⟨hw9, f, hfc, ef, hr9⟩ := hp
  rw [hw9] at hW
  subst hr9
  refine lv_astore_n (lv' := [(3, .ref (al (100 + f))), (0, .ref (al 0)), (1, .int f9), (2, .int g9)]) hx hb dX_differ_5 rfl hl (by decide) rfl (fun ls hl => ?_)
  refine lv_aload_n hx hb dX_differ_6 rfl (lv_at hl 1 rfl) ?_
  refine lv_iload_n hx hb dX_differ_7 rfl (lv_at hl 3 rfl) ?_
  refine kx_VR (n := 1) (As := [.int g9]) (rest := []) ⟨hx, hb, hml, hown, hts⟩ (c_X_existing l D g ad tb sa w H.size hl0 (al 0) (al 1) (al 2) (al 32) cnt (fun i => al (100 + i)) hc40 hX.2.2.1.1 hX.2.2.2.1.1 g9) bw_227 bw_229 bs_3 bw_1 bw_230 (by decide +kernel) rfl rfl hX.2.2.1.1 ⟨by decide, by decide⟩ hW hK hk hS hAA rfl hl.1 rfl (Nat.le_of_ble_eq_true rfl) dX_differ_8 ⟨by decide, by decide⟩ (fun E9 ce9 q9 w9 H9 locs9 hp9 hW9 hS9 hc1 hc2 hc3 => xo_go hout hlocks hK hS9 hW9 hc1 hc2 hc3 (⟨hp9.1, hp9.2.1, fun h9 => hp9.2.2 h9.2⟩) (by decide) (by decide)) (fun r3 w4 H locs hp hW hS => ?_)
  obtain ⟨hw9, h, hhc, eh, hr9⟩ := hp
  rw [hw9] at hW
  subst hr9
  refine lv_astore (lv' := [(4, .ref (al (100 + h))), (3, .ref (al (100 + f))), (0, .ref (al 0)), (1, .int f9), (2, .int g9)]) hx hb dX_differ_11 hl (by decide) rfl (fun ls hl => ?_)
  refine lv_aload_n hx hb dX_differ_13 rfl (lv_at hl 2 rfl) ?_
  refine lv_aload_n hx hb dX_differ_14 rfl (lv_at hl 1 rfl) ?_
  refine kc_VR (n := 1) (As := [.ref (al (100 + f))]) (rest := []) ⟨hx, hb, hml, hown, hts⟩ (c_X_freshNumbers l D g ad tb sa w H.size al ro σ cnt fh T pt hX f hfc) bw_379 bw_381 bs_7 bw_1 bw_382 (by decide +kernel) rfl rfl hX.2.2.1.1 ⟨by decide, by decide⟩ hW hK hk hS hAA rfl hl.1 rfl (Nat.le_of_ble_eq_true rfl) dX_differ_15 ⟨by decide, by decide⟩ (fun r5 w6 H locs hp hW hS => ?_)
  obtain ⟨hr9, fh1, T1, hX1, hfr1, hTv1, hff1, hmo1⟩ := hp
  subst hr9
  refine lv_astore (lv' := [(5, .ref (al (200 + f))), (4, .ref (al (100 + h))), (3, .ref (al (100 + f))), (0, .ref (al 0)), (1, .int f9), (2, .int g9)]) hx hb dX_differ_18 hl (by decide) rfl (fun ls hl => ?_)
  refine lv_aload_n hx hb dX_differ_20 rfl (lv_at hl 3 rfl) ?_
  refine lv_aload hx hb dX_differ_21 (lv_at hl 1 rfl) ?_
  refine kc_VR (n := 1) (As := [.ref (al (100 + h))]) (rest := []) ⟨hx, hb, hml, hown, hts⟩ (c_X_freshNumbers l D g ad tb sa w6 H.size al ro σ cnt fh1 T1 pt hX1 h hhc) bw_379 bw_381 bs_7 bw_1 bw_382 (by decide +kernel) rfl rfl hX1.2.2.1.1 ⟨by decide, by decide⟩ hW hK hk hS hAA rfl hl.1 rfl (Nat.le_of_ble_eq_true rfl) dX_differ_23 ⟨by decide, by decide⟩ (fun r7 w8 H locs hp hW hS => ?_)
  obtain ⟨hr9, fh2, T2, hX2, hfr2, hTv2, hff2, hmo2⟩ := hp
  subst hr9
  refine lv_astore (lv' := [(6, .ref (al (200 + h))), (5, .ref (al (200 + f))), (4, .ref (al (100 + h))), (3, .ref (al (100 + f))), (0, .ref (al 0)), (1, .int f9), (2, .int g9)]) hx hb dX_differ_26 hl (by decide) rfl (fun ls hl => ?_)
  refine lv_iconst (v := nI 0) hx hb dX_differ_28 (by decide) ?_
  refine lv_istore (lv' := [(7, .int (nI 0)), (6, .ref (al (200 + h))), (5, .ref (al (200 + f))), (4, .ref (al (100 + h))), (3, .ref (al (100 + f))), (0, .ref (al 0)), (1, .int f9), (2, .int g9)]) hx hb dX_differ_29 hl (by decide) rfl (fun ls hl => ?_)
  have hfa := (hX2.2.2.2.2 f hfc)
  have hga := (hX2.2.2.2.2 h hhc)
  have hTf : ∀ m, m < 64 → T2 f m = sval σ f m := hfa.2.2.2.1 (hmo2 f hff1)
  refine lp_X_differ hfa.2.2.1 hga.2.2.1 hfa.2.1.1 hga.2.1.1 ⟨hx, hb, hml, hts, hown, hK, hk, hAA⟩ 64 0 w8 (by omega) rfl (fun m hm => absurd hm (by omega)) _ _ hW hS ls (lv_sub hl [2, 1, 0] rfl) ?_ ?_
  · intro n w1 ew hn hq hd H locs hW hS ls hl
    rw [ew] at hW
    refine lv_iload hx hb dX_differ_51 (lv_at hl 0 rfl) ?_
    exact vx_ret (W.iret (v := nI n) hx hb hr (fun t ht hW9 => ⟨⟨nI n, w8, rfl, ⟨f, h, hfc, hhc, ef, eh, Or.inl ⟨n, hn, by rw [← hTf n hn, ← hTv2 n hn]; exact hd, fun m hm => by rw [← hTf m (by omega), ← hTv2 m (by omega)]; exact hq m hm, rfl⟩, xI.mk hX2 hF hT (hfr1.tr hfr2), (hfr1.tr hfr2).M⟩, by rw [ht]; exact hW, va_K.moved hW9.alike hK⟩, hS.F ht⟩) hS.2.2 dX_differ_53)
  · intro w1 ew hq H locs hW hS ls hl
    rw [ew] at hW
    refine lv_iconst (v := (-1)) hx hb dX_differ_60 (by decide) ?_
    exact vx_ret (W.iret (v := (-1)) hx hb hr (fun t ht hW9 => ⟨⟨(-1), w8, rfl, ⟨f, h, hfc, hhc, ef, eh, Or.inr ⟨fun m hm => by rw [← hTf m hm, ← hTv2 m hm]; exact hq m hm, rfl⟩, xI.mk hX2 hF hT (hfr1.tr hfr2), (hfr1.tr hfr2).M⟩, by rw [ht]; exact hW, va_K.moved hW9.alike hK⟩, hS.F ht⟩) hS.2.2 dX_differ_61)
