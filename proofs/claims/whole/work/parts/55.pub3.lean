set_option maxHeartbeats 1000000 in
set_option maxRecDepth 100000 in
theorem c_X_factor (l : Launch) (D : va_G) (g : Nat → ClassId) (ad : Nat → Nat) (tb : Nat) (sa : Nat → Nat) (w : Wd) (sz : Nat) (hl0 : l.stackTraces = false) (ro : Nat → Nat) (a : Nat) (σ : Nat → SD) (cnt : Nat) (γ : GU) (hI : xI g ad w ro a σ cnt γ) (f9 i9 p9 : Int32) (v9 : Int64) : XI l D g ad tb sa yX_factor cX_factor 7 (some (.boolean)) 7 112 3 18 w sz [.ref a, .int f9, .int i9, .int p9, .long v9] (fun x9 w' => ∃ f i p, f < cnt ∧ f9 = nI f ∧ sTg (σ f) = 0 ∧ i < sP (σ f) + 1 ∧ p < 3 ∧ i9 = nI i ∧ p9 = nI p ∧ x9 = nI (bz (decide (sF (σ f) (i * 3 + p) ≠ rd v9.toInt))) ∧ xI g ad w' ro a (va_up σ f (dF (σ f) (i * 3 + p) (rd v9.toInt))) cnt γ ∧ kpM w ro w' ro) (fun E w' => w' = w ∧ ((E = xNI ∧ ¬ inC cnt f9) ∨ (E = xNA ∧ ∃ f, f < cnt ∧ f9 = nI f ∧ ¬ (sTg (σ f) = 0 ∧ inC (sP (σ f) + 1) i9 ∧ inC 3 p9)))) := by
  obtain ⟨al, fh, T, pt, rfl, hX, hF, hT⟩ := hI
  refine hx_XI (by decide) (Nat.le_of_ble_eq_true rfl) ?_
  intro p e s m below meth c A ls hx hb hr hml hts hown hlocks hin hout hsz hW hK hk hS hAA hl
  have hl : lv_has ls 7 [(0, .ref (al 0)), (1, .int f9), (2, .int i9), (3, .int p9), (4, .long v9)] := hl
  have hc40 := hX.1
  refine lv_aload_n hx hb dX_factor_0 rfl (lv_at hl 0 rfl) ?_
  refine lv_iload_n hx hb dX_factor_1 rfl (lv_at hl 1 rfl) ?_
  refine kx_VR (n := 1) (As := [.int f9]) (rest := []) ⟨hx, hb, hml, hown, hts⟩ (c_X_existing l D g ad tb sa w s.heap.size hl0 (al 0) (al 1) (al 2) (al 32) cnt (fun i => al (100 + i)) hc40 hX.2.2.1.1 hX.2.2.2.1.1 f9) bw_227 bw_229 bs_3 bw_1 bw_230 (by decide +kernel) rfl rfl hX.2.2.1.1 ⟨by decide, by decide⟩ hW hK hk hS hAA rfl hl.1 rfl (Nat.le_of_ble_eq_true rfl) dX_factor_2 ⟨by decide, by decide⟩ (fun E9 ce9 q9 w9 H9 locs9 hp9 hW9 hS9 hc1 hc2 hc3 => xo_go hout hlocks hK hS9 hW9 hc1 hc2 hc3 (⟨hp9.2.1, Or.inl ⟨hp9.1, hp9.2.2⟩⟩) (by decide) (by decide)) (fun r1 w2 H locs hp hW hS => ?_)
  obtain ⟨hw9, f, hfc, ef, hr9⟩ := hp
  rw [hw9] at hW
  subst hr9
  by_cases htf : sTg (σ f) = 0
  · have hsq := hX.2.2.2.2 f hfc
    have hobf := hsq.1.1
    rw [sOb_0 htf] at hobf
    obtain ⟨r1, r2, r3, r4⟩ := hsq.2.2.2.2.2.1 htf
    refine kx_SR (n := 1) (As := [.ref (al (100 + f))]) (rest := []) ⟨hx, hb, hml, hown, hts⟩ (c_X_recurrenceR l D g ad tb sa w H.size hl0 (al (100 + f)) _ hobf) bw_247 bw_248 bw_1 bw_249 (by decide +kernel) ⟨by decide, by decide⟩ hW hK hk hS hAA rfl hl.1 rfl (Nat.le_of_ble_eq_true rfl) dX_factor_5 ⟨by decide, by decide⟩ (fun E9 ce9 q9 w9 H9 locs9 hp9 hW9 hS9 hc1 hc2 hc3 => xo_go hout hlocks hK hS9 hW9 hc1 hc2 hc3 (hp9.elim) (by decide) (by decide)) (fun r3 w4 H locs hp hW hS => ?_)
    obtain ⟨hw9, hr9⟩ := hp
    rw [hw9] at hW
    subst hr9
    refine lv_astore (lv' := [(6, .ref (al (100 + f))), (0, .ref (al 0)), (1, .int f9), (2, .int i9), (3, .int p9), (4, .long v9)]) hx hb dX_factor_8 hl (by decide) rfl (fun ls hl => ?_)
    refine lv_iload_n hx hb dX_factor_10 rfl (lv_at hl 3 rfl) ?_
    refine lv_if_lt (tgt := 23) hx hb dX_factor_11 (by decide) (fun n1 => ?_) (fun n1 => ?_)
    · have hno : ¬ inC (sP (σ f) + 1) i9 := inC_neg (by omega) n1
      exact th_go (text := "no such factor") hx hb hl0 thA (by simp [sTx]) hown hts hk hK hW hS (hl.1.trans hml.symm) dX_factor_23 dX_factor_26 dX_factor_27 dX_factor_29 dX_factor_32 hout hlocks (by decide) (by decide) (by decide) (by decide) (by decide) (by decide) (⟨rfl, Or.inr ⟨rfl, f, hfc, ef, fun h9 => hno h9.2.1⟩⟩)
    · refine lv_iload_n hx hb dX_factor_14 rfl (lv_at hl 3 rfl) ?_
      refine lv_aload hx hb dX_factor_15 (lv_at hl 0 rfl) ?_
      refine hw_get (v := .int (nI (sP (σ f)))) (C := RR) (T := TR) (N := 6) hx hb hts inR hown hK hW hobf rfl 3 (by decide) (hts _ bw_186) (fun _ h9 => h9) rfl dX_factor_17 ?_
      refine lv_icmp_le (tgt := 33) hx hb dX_factor_20 (by decide) (fun n2 => ?_) (fun n2 => ?_)
      · obtain ⟨i, hic, ei⟩ := inC_le (n := sP (σ f)) (by omega) n1 n2
        rw [ei] at hl
        refine lv_iload_n hx hb dX_factor_33 rfl (lv_at hl 4 rfl) ?_
        refine lv_if_lt (tgt := 42) hx hb dX_factor_34 (by decide) (fun n3 => ?_) (fun n3 => ?_)
        · have hno : ¬ inC 3 p9 := inC_neg (by omega) n3
          exact th_go (text := "the power is not 0 to 2") hx hb hl0 thA (by simp [sTx]) hown hts hk hK hW hS (hl.1.trans hml.symm) dX_factor_42 dX_factor_45 dX_factor_46 dX_factor_48 dX_factor_51 hout hlocks (by decide) (by decide) (by decide) (by decide) (by decide) (by decide) (⟨rfl, Or.inr ⟨rfl, f, hfc, ef, fun h9 => hno h9.2.2⟩⟩)
        · refine lv_iload_n hx hb dX_factor_37 rfl (lv_at hl 4 rfl) ?_
          refine lv_iconst (v := nI 3) hx hb dX_factor_38 (by decide) ?_
          refine lv_icmp_lt (tgt := 52) hx hb dX_factor_39 (by decide) (fun n4 => ?_) (fun n4 => ?_)
          · obtain ⟨pw, hpc, ep⟩ := inC_of (n := 3) (by omega) n3 (Int32.not_le.mpr n4)
            rw [ep, ef] at hl
            refine lv_aload_n hx hb dX_factor_52 rfl (lv_at hl 1 rfl) ?_
            refine lv_iload_n hx hb dX_factor_53 rfl (lv_at hl 2 rfl) ?_
            refine lv_aload hx hb dX_factor_54 (lv_at hl 0 rfl) ?_
            refine hw_get (v := .ref (al (300 + f))) (C := RR) (T := TR) (N := 6) hx hb hts inR hown hK hW hobf rfl 4 (by decide) (hts _ bw_188) (fun _ h9 => h9) rfl dX_factor_56 ?_
            refine lv_iload_n hx hb dX_factor_59 rfl (lv_at hl 3 rfl) ?_
            refine lv_iconst (v := nI 3) hx hb dX_factor_60 (by decide) ?_
            refine lv_imul hx hb dX_factor_61 ?_
            refine tp_i (show (nI i) * (nI 3) = nI (i * 3) from pk_mul _ _) ?_
            refine lv_iload_n hx hb dX_factor_62 rfl (lv_at hl 4 rfl) ?_
            refine lv_iadd hx hb dX_factor_63 ?_
            refine tp_i (show (nI (i * 3)) + (nI pw) = nI ((i * 3) + pw) from nI_add _ _) ?_
            refine lv_lload hx hb dX_factor_64 (lv_at hl 5 rfl) ?_
            refine kc_SI (n := 1) (As := [.long v9]) (rest := [.int (nI ((i * 3) + pw)), .ref (al (300 + f)), .int (nI f), .ref (al 0)]) ⟨hx, hb, hml, hown, hts⟩ (c_X_reduce l D g ad tb sa w H.size v9) bw_253 bw_254 bw_1 bw_255 (by decide +kernel) ⟨by decide, by decide⟩ hW hK hk hS hAA rfl hl.1 rfl (Nat.le_of_ble_eq_true rfl) dX_factor_66 ⟨by decide, by decide⟩ (fun r5 w6 H locs hp hW hS => ?_)
            obtain ⟨hw9, hr9⟩ := hp
            rw [hw9] at hW
            subst hr9
            refine kc_VI (n := 4) (As := [.int (nI f), .ref (al (300 + f)), .int (nI ((i * 3) + pw)), .int (nI (rd v9.toInt))]) (rest := []) ⟨hx, hb, hml, hown, hts⟩ (c_X_replace l D g ad tb sa w H.size al ro σ cnt fh hc40 f (by omega) pt hX.2.2.1 hX.2.2.2.1 hX.ob (al (300 + f)) ((sP (σ f) + 1) * 3) (i * 3 + pw) (rd v9.toInt) (sF (σ f)) r3.1 (by rw [r3.2]; omega) (by omega) (by omega) (hsq.2.2.2.2.2.2.2.1 (i * 3 + pw) (by omega)) (rd_lt _)) bw_257 bw_259 bs_4 bw_1 bw_260 (by decide +kernel) rfl rfl hX.2.2.1.1 ⟨by decide, by decide⟩ hW hK hk hS hAA rfl hl.1 rfl (Nat.le_of_ble_eq_true rfl) dX_factor_69 ⟨by decide, by decide⟩ (fun r7 w8 H locs hp hW hS => ?_)
            have hend : r7 = nI (bz (decide (sF (σ f) (i * 3 + pw) ≠ rd v9.toInt))) ∧ xI g ad w8 ro (al 0) (va_up σ f (dF (σ f) (i * 3 + pw) (rd v9.toInt))) cnt γ ∧ kpM w ro w8 ro := by
              by_cases hv9 : sF (σ f) (i * 3 + pw) = rd v9.toInt
              · obtain ⟨z1, z2⟩ := hp.1 hv9
                rw [z1, z2, ← hv9, dF_me, va_up_me, decide_eq_false (by simp)]
                exact ⟨rfl, ⟨al, fh, T, pt, rfl, hX, hF, hT⟩, kpM.rf⟩
              · obtain ⟨z1, fh1, z2, z3, z4, z5⟩ := hp.2 hv9
                rw [decide_eq_true hv9]
                have hX1 := hX.ch hfc htf (d' := dF (σ f) (i * 3 + pw) (rd v9.toInt)) rfl rfl rfl rfl (ra := al (300 + f)) (Or.inl r3.2) z2 ⟨z3, r3.2⟩ ⟨by rw [z4 _ (Or.inr (by rw [r4.2]; omega)) (r4.ne r3 (by omega))]; exact r4.1, r4.2⟩ (up_lt hsq.2.2.2.2.2.2.2.1 (rd_lt _)) hsq.2.2.2.2.2.2.2.2 z4 z5
                have hq : ∀ y, ro y < 100 ∨ 1000 ≤ ro y → w8 y = w y := fun y hy => z4 y (by omega) (fun q9 => by have h7 := congrArg ro q9; rw [r3.2] at h7; omega)
                exact ⟨z1, ⟨al, fh1, T, pt, rfl, hX1, hF.kp (fun y _ h => hq y (by omega)), hT.kp (fun y _ h => hq y (by omega))⟩, kpM.of fun y hy => hq y (by omega)⟩
            rw [hend.1]
            refine W.widen (k := 3) (n := 18) (by decide) (by decide) ?_
            exact vx_ret (W.zret (ty := .boolean) (v := nI (bz (decide (sF (σ f) (i * 3 + pw) ≠ rd v9.toInt)))) hx hb hr (nar_bz _) (fun t ht hW9 => ⟨⟨nI (bz (decide (sF (σ f) (i * 3 + pw) ≠ rd v9.toInt))), w8, rfl, ⟨f, i, pw, hfc, ef, htf, hic, hpc, ei, ep, rfl, hend.2⟩, by rw [ht]; exact hW, va_K.moved hW9.alike hK⟩, hS.F ht⟩) hS.2.2 dX_factor_72)
          · have hno : ¬ inC 3 p9 := inC_big (by omega) (Nat.le_refl 3) (Int32.not_lt.mp n4)
            exact th_go (text := "the power is not 0 to 2") hx hb hl0 thA (by simp [sTx]) hown hts hk hK hW hS (hl.1.trans hml.symm) dX_factor_42 dX_factor_45 dX_factor_46 dX_factor_48 dX_factor_51 hout hlocks (by decide) (by decide) (by decide) (by decide) (by decide) (by decide) (⟨rfl, Or.inr ⟨rfl, f, hfc, ef, fun h9 => hno h9.2.2⟩⟩)
      · have hno : ¬ inC (sP (σ f) + 1) i9 := inC_nle (by omega) n2
        exact th_go (text := "no such factor") hx hb hl0 thA (by simp [sTx]) hown hts hk hK hW hS (hl.1.trans hml.symm) dX_factor_23 dX_factor_26 dX_factor_27 dX_factor_29 dX_factor_32 hout hlocks (by decide) (by decide) (by decide) (by decide) (by decide) (by decide) (⟨rfl, Or.inr ⟨rfl, f, hfc, ef, fun h9 => hno h9.2.1⟩⟩)
  · have hsq := hX.2.2.2.2 f hfc
    have hobf := hsq.1.1
    rw [sOb_1 htf] at hobf
    refine kx_SR (n := 1) (As := [.ref (al (100 + f))]) (rest := []) ⟨hx, hb, hml, hown, hts⟩ (c_X_recurrenceK l D g ad tb sa w H.size hl0 (al (100 + f)) _ hobf) bw_247 bw_248 bw_1 bw_249 (by decide +kernel) ⟨by decide, by decide⟩ hW hK hk hS hAA rfl hl.1 rfl (Nat.le_of_ble_eq_true rfl) dX_factor_5 ⟨by decide, by decide⟩ (fun E9 ce9 q9 w9 H9 locs9 hp9 hW9 hS9 hc1 hc2 hc3 => xo_go hout hlocks hK hS9 hW9 hc1 hc2 hc3 (⟨hp9.2, Or.inr ⟨hp9.1, f, hfc, ef, fun h9 => htf h9.1⟩⟩) (by decide) (by decide)) (fun r9 w10 H locs hp hW hS => ?_)
    exact hp.elim

set_option maxHeartbeats 1000000 in
set_option maxRecDepth 100000 in
theorem c_X_start (l : Launch) (D : va_G) (g : Nat → ClassId) (ad : Nat → Nat) (tb : Nat) (sa : Nat → Nat) (w : Wd) (sz : Nat) (hl0 : l.stackTraces = false) (ro : Nat → Nat) (a : Nat) (σ : Nat → SD) (cnt : Nat) (γ : GU) (hI : xI g ad w ro a σ cnt γ) (f9 n9 : Int32) (v9 : Int64) : XI l D g ad tb sa yX_start cX_start 6 (some (.boolean)) 7 112 3 18 w sz [.ref a, .int f9, .int n9, .long v9] (fun x9 w' => ∃ f n, f < cnt ∧ n < 64 ∧ f9 = nI f ∧ n9 = nI n ∧ sTg (σ f) = 0 ∧ x9 = nI (bz (decide (sS (σ f) n ≠ rd v9.toInt))) ∧ xI g ad w' ro a (va_up σ f (dS (σ f) n (rd v9.toInt))) cnt γ ∧ kpM w ro w' ro) (fun E w' => w' = w ∧ ((E = xNI ∧ ¬ (inC cnt f9 ∧ inC 64 n9)) ∨ (E = xNA ∧ inC 64 n9 ∧ ∃ f, f < cnt ∧ f9 = nI f ∧ sTg (σ f) ≠ 0))) := by
  obtain ⟨al, fh, T, pt, rfl, hX, hF, hT⟩ := hI
  refine hx_XI (by decide) (Nat.le_of_ble_eq_true rfl) ?_
  intro p e s m below meth c A ls hx hb hr hml hts hown hlocks hin hout hsz hW hK hk hS hAA hl
  have hl : lv_has ls 6 [(0, .ref (al 0)), (1, .int f9), (2, .int n9), (3, .long v9)] := hl
  have hc40 := hX.1
  refine lv_aload_n hx hb dX_start_0 rfl (lv_at hl 0 rfl) ?_
  refine lv_iload_n hx hb dX_start_1 rfl (lv_at hl 1 rfl) ?_
  refine kx_VR (n := 1) (As := [.int f9]) (rest := []) ⟨hx, hb, hml, hown, hts⟩ (c_X_existing l D g ad tb sa w s.heap.size hl0 (al 0) (al 1) (al 2) (al 32) cnt (fun i => al (100 + i)) hc40 hX.2.2.1.1 hX.2.2.2.1.1 f9) bw_227 bw_229 bs_3 bw_1 bw_230 (by decide +kernel) rfl rfl hX.2.2.1.1 ⟨by decide, by decide⟩ hW hK hk hS hAA rfl hl.1 rfl (Nat.le_of_ble_eq_true rfl) dX_start_2 ⟨by decide, by decide⟩ (fun E9 ce9 q9 w9 H9 locs9 hp9 hW9 hS9 hc1 hc2 hc3 => xo_go hout hlocks hK hS9 hW9 hc1 hc2 hc3 (⟨hp9.2.1, Or.inl ⟨hp9.1, fun h9 => hp9.2.2 h9.1⟩⟩) (by decide) (by decide)) (fun r1 w2 H locs hp hW hS => ?_)
  obtain ⟨hw9, f, hfc, ef, hr9⟩ := hp
  rw [hw9] at hW
  subst hr9
  refine lv_astore (lv' := [(5, .ref (al (100 + f))), (0, .ref (al 0)), (1, .int f9), (2, .int n9), (3, .long v9)]) hx hb dX_start_5 hl (by decide) rfl (fun ls hl => ?_)
  refine lv_iload_n hx hb dX_start_7 rfl (lv_at hl 3 rfl) ?_
  refine kx_SV (n := 1) (As := [.int n9]) (rest := []) ⟨hx, hb, hml, hown, hts⟩ (c_X_checkPlace l D g ad tb sa w H.size hl0 n9) bw_278 bw_279 bw_1 bw_280 (by decide +kernel) ⟨by decide, by decide⟩ hW hK hk hS hAA rfl hl.1 rfl (Nat.le_of_ble_eq_true rfl) dX_start_8 ⟨by decide, by decide⟩ (fun E9 ce9 q9 w9 H9 locs9 hp9 hW9 hS9 hc1 hc2 hc3 => xo_go hout hlocks hK hS9 hW9 hc1 hc2 hc3 (⟨hp9.2.1, Or.inl ⟨hp9.1, fun h9 => hp9.2.2 h9.2⟩⟩) (by decide) (by decide)) (fun w4 H locs hp hW hS => ?_)
  obtain ⟨hw9, n, hnc, en⟩ := hp
  rw [hw9] at hW
  rw [en] at hl
  rw [ef] at hl
  refine lv_aload_n hx hb dX_start_11 rfl (lv_at hl 1 rfl) ?_
  refine lv_iload_n hx hb dX_start_12 rfl (lv_at hl 2 rfl) ?_
  refine lv_aload hx hb dX_start_13 (lv_at hl 0 rfl) ?_
  by_cases htf : sTg (σ f) = 0
  · have hsq := hX.2.2.2.2 f hfc
    have hobf := hsq.1.1
    rw [sOb_0 htf] at hobf
    obtain ⟨r1, r2, r3, r4⟩ := hsq.2.2.2.2.2.1 htf
    refine kx_SR (n := 1) (As := [.ref (al (100 + f))]) (rest := [.int (nI f), .ref (al 0)]) ⟨hx, hb, hml, hown, hts⟩ (c_X_recurrenceR l D g ad tb sa w H.size hl0 (al (100 + f)) _ hobf) bw_247 bw_248 bw_1 bw_249 (by decide +kernel) ⟨by decide, by decide⟩ hW hK hk hS hAA rfl hl.1 rfl (Nat.le_of_ble_eq_true rfl) dX_start_15 ⟨by decide, by decide⟩ (fun E9 ce9 q9 w9 H9 locs9 hp9 hW9 hS9 hc1 hc2 hc3 => xo_go hout hlocks hK hS9 hW9 hc1 hc2 hc3 (hp9.elim) (by decide) (by decide)) (fun r5 w6 H locs hp hW hS => ?_)
    obtain ⟨hw9, hr9⟩ := hp
    rw [hw9] at hW
    subst hr9
    refine hw_get (v := .ref (al (400 + f))) (C := RR) (T := TR) (N := 6) hx hb hts inR hown hK hW hobf rfl 5 (by decide) (hts _ bw_190) (fun _ h9 => h9) rfl dX_start_18 ?_
    refine lv_iload_n hx hb dX_start_21 rfl (lv_at hl 3 rfl) ?_
    refine lv_lload_n hx hb dX_start_22 rfl (lv_at hl 4 rfl) ?_
    refine kc_SI (n := 1) (As := [.long v9]) (rest := [.int (nI n), .ref (al (400 + f)), .int (nI f), .ref (al 0)]) ⟨hx, hb, hml, hown, hts⟩ (c_X_reduce l D g ad tb sa w H.size v9) bw_253 bw_254 bw_1 bw_255 (by decide +kernel) ⟨by decide, by decide⟩ hW hK hk hS hAA rfl hl.1 rfl (Nat.le_of_ble_eq_true rfl) dX_start_23 ⟨by decide, by decide⟩ (fun r7 w8 H locs hp hW hS => ?_)
    obtain ⟨hw9, hr9⟩ := hp
    rw [hw9] at hW
    subst hr9
    refine kc_VI (n := 4) (As := [.int (nI f), .ref (al (400 + f)), .int (nI n), .int (nI (rd v9.toInt))]) (rest := []) ⟨hx, hb, hml, hown, hts⟩ (c_X_replace l D g ad tb sa w H.size al ro σ cnt fh hc40 f (by omega) pt hX.2.2.1 hX.2.2.2.1 hX.ob (al (400 + f)) (64) (n) (rd v9.toInt) (sS (σ f)) r4.1 (by rw [r4.2]; omega) (by omega) (by omega) (hsq.2.2.2.2.2.2.2.2 n hnc) (rd_lt _)) bw_257 bw_259 bs_4 bw_1 bw_260 (by decide +kernel) rfl rfl hX.2.2.1.1 ⟨by decide, by decide⟩ hW hK hk hS hAA rfl hl.1 rfl (Nat.le_of_ble_eq_true rfl) dX_start_26 ⟨by decide, by decide⟩ (fun r9 w10 H locs hp hW hS => ?_)
    have hend : r9 = nI (bz (decide (sS (σ f) (n) ≠ rd v9.toInt))) ∧ xI g ad w10 ro (al 0) (va_up σ f (dS (σ f) (n) (rd v9.toInt))) cnt γ ∧ kpM w ro w10 ro := by
      by_cases hv9 : sS (σ f) (n) = rd v9.toInt
      · obtain ⟨z1, z2⟩ := hp.1 hv9
        rw [z1, z2, ← hv9, dS_me, va_up_me, decide_eq_false (by simp)]
        exact ⟨rfl, ⟨al, fh, T, pt, rfl, hX, hF, hT⟩, kpM.rf⟩
      · obtain ⟨z1, fh1, z2, z3, z4, z5⟩ := hp.2 hv9
        rw [decide_eq_true hv9]
        have hX1 := hX.ch hfc htf (d' := dS (σ f) (n) (rd v9.toInt)) rfl rfl rfl rfl (ra := al (400 + f)) (Or.inr r4.2) z2 ⟨by rw [z4 _ (Or.inr (by rw [r3.2]; omega)) (r3.ne r4 (by omega))]; exact r3.1, r3.2⟩ ⟨z3, r4.2⟩ hsq.2.2.2.2.2.2.2.1 (up_lt hsq.2.2.2.2.2.2.2.2 (rd_lt _)) z4 z5
        have hq : ∀ y, ro y < 100 ∨ 1000 ≤ ro y → w10 y = w y := fun y hy => z4 y (by omega) (fun q9 => by have h7 := congrArg ro q9; rw [r4.2] at h7; omega)
        exact ⟨z1, ⟨al, fh1, T, pt, rfl, hX1, hF.kp (fun y _ h => hq y (by omega)), hT.kp (fun y _ h => hq y (by omega))⟩, kpM.of fun y hy => hq y (by omega)⟩
    rw [hend.1]
    refine W.widen (k := 3) (n := 18) (by decide) (by decide) ?_
    exact vx_ret (W.zret (ty := .boolean) (v := nI (bz (decide (sS (σ f) (n) ≠ rd v9.toInt)))) hx hb hr (nar_bz _) (fun t ht hW9 => ⟨⟨nI (bz (decide (sS (σ f) (n) ≠ rd v9.toInt))), w10, rfl, ⟨f, n, hfc, hnc, ef, en, htf, rfl, hend.2⟩, by rw [ht]; exact hW, va_K.moved hW9.alike hK⟩, hS.F ht⟩) hS.2.2 dX_start_29)
  · have hsq := hX.2.2.2.2 f hfc
    have hobf := hsq.1.1
    rw [sOb_1 htf] at hobf
    refine kx_SR (n := 1) (As := [.ref (al (100 + f))]) (rest := [.int (nI f), .ref (al 0)]) ⟨hx, hb, hml, hown, hts⟩ (c_X_recurrenceK l D g ad tb sa w H.size hl0 (al (100 + f)) _ hobf) bw_247 bw_248 bw_1 bw_249 (by decide +kernel) ⟨by decide, by decide⟩ hW hK hk hS hAA rfl hl.1 rfl (Nat.le_of_ble_eq_true rfl) dX_start_15 ⟨by decide, by decide⟩ (fun E9 ce9 q9 w9 H9 locs9 hp9 hW9 hS9 hc1 hc2 hc3 => xo_go hout hlocks hK hS9 hW9 hc1 hc2 hc3 (⟨hp9.2, Or.inr ⟨hp9.1, ⟨n, hnc, en⟩, f, hfc, ef, htf⟩⟩) (by decide) (by decide)) (fun r11 w12 H locs hp hW hS => ?_)
    exact hp.elim
