set_option maxHeartbeats 1000000 in
set_option maxRecDepth 100000 in
theorem c_X_guess (l : Launch) (D : va_G) (g : Nat → ClassId) (ad : Nat → Nat) (tb : Nat) (sa : Nat → Nat) (w : Wd) (sz : Nat) (hl0 : l.stackTraces = false) (ro : Nat → Nat) (a : Nat) (σ : Nat → SD) (cnt : Nat) (γ : GU) (hI : xI g ad w ro a σ cnt γ) (f9 o9 d9 : Int32) : XI l D g ad tb sa yX_guess cX_guess 5 (some (.int)) 7 117 2 12 w sz [.ref a, .int f9, .int o9, .int d9] (fun x9 w' => ∃ f o d, f < cnt ∧ o < 5 ∧ d < 4 ∧ f9 = nI f ∧ o9 = nI o ∧ d9 = nI d ∧ ∃ γ1 : GU, x9 = nI γ1.1 ∧ gsd (sval σ f) o d γ1 ∧ xI g ad w' ro a σ cnt γ1 ∧ kpM w ro w' ro) (fun E w' => w' = w ∧ ((E = xNI ∧ ¬ inC cnt f9) ∨ (E = xNA ∧ inC cnt f9 ∧ ¬ (inC 5 o9 ∧ inC 4 d9)))) := by
  obtain ⟨al, fh, T, pt, rfl, hX, hF, hT⟩ := hI
  refine hx_XI (by decide) (Nat.le_of_ble_eq_true rfl) ?_
  intro p e s m below meth c A ls hx hb hr hml hts hown hlocks hin hout hsz hW hK hk hS hAA hl
  have hl : lv_has ls 5 [(0, .ref (al 0)), (1, .int f9), (2, .int o9), (3, .int d9)] := hl
  have hc40 := hX.1
  refine lv_aload_n hx hb dX_guess_0 rfl (lv_at hl 0 rfl) ?_
  refine lv_iload_n hx hb dX_guess_1 rfl (lv_at hl 1 rfl) ?_
  refine kx_VR (n := 1) (As := [.int f9]) (rest := []) ⟨hx, hb, hml, hown, hts⟩ (c_X_existing l D g ad tb sa w s.heap.size hl0 (al 0) (al 1) (al 2) (al 32) cnt (fun i => al (100 + i)) hc40 hX.2.2.1.1 hX.2.2.2.1.1 f9) bw_227 bw_229 bs_3 bw_1 bw_230 (by decide +kernel) rfl rfl hX.2.2.1.1 ⟨by decide, by decide⟩ hW hK hk hS hAA rfl hl.1 rfl (Nat.le_of_ble_eq_true rfl) dX_guess_2 ⟨by decide, by decide⟩ (fun E9 ce9 q9 w9 H9 locs9 hp9 hW9 hS9 hc1 hc2 hc3 => xo_go hout hlocks hK hS9 hW9 hc1 hc2 hc3 (⟨hp9.2.1, Or.inl ⟨hp9.1, hp9.2.2⟩⟩) (by decide) (by decide)) (fun r1 w2 H locs hp hW hS => ?_)
  obtain ⟨hw9, f, hfc, ef, hr9⟩ := hp
  rw [hw9] at hW
  subst hr9
  refine lv_astore (lv' := [(4, .ref (al (100 + f))), (0, .ref (al 0)), (1, .int f9), (2, .int o9), (3, .int d9)]) hx hb dX_guess_5 hl (by decide) rfl (fun ls hl => ?_)
  refine lv_iload_n hx hb dX_guess_7 rfl (lv_at hl 3 rfl) ?_
  refine lv_if_lt (tgt := 16) hx hb dX_guess_8 (by decide) (fun n1 => ?_) (fun n1 => ?_)
  · have hno : ¬ inC 5 o9 := inC_neg (by omega) n1
    exact th_go (text := "the order is not 0 to 4") hx hb hl0 thA (by simp [sTx]) hown hts hk hK hW hS (hl.1.trans hml.symm) dX_guess_16 dX_guess_19 dX_guess_20 dX_guess_22 dX_guess_25 hout hlocks (by decide) (by decide) (by decide) (by decide) (by decide) (by decide) (⟨rfl, Or.inr ⟨rfl, ⟨f, hfc, ef⟩, fun h9 => hno h9.1⟩⟩)
  · refine lv_iload_n hx hb dX_guess_11 rfl (lv_at hl 3 rfl) ?_
    refine lv_iconst (v := nI 4) hx hb dX_guess_12 (by decide) ?_
    refine lv_icmp_le (tgt := 26) hx hb dX_guess_13 (by decide) (fun n2 => ?_) (fun n2 => ?_)
    · obtain ⟨o, hoc, eo⟩ := inC_le (n := 4) (by omega) n1 n2
      rw [eo] at hl
      refine lv_iload_n hx hb dX_guess_26 rfl (lv_at hl 4 rfl) ?_
      refine kx_SV (n := 1) (As := [.int d9]) (rest := []) ⟨hx, hb, hml, hown, hts⟩ (c_X_checkDegree l D g ad tb sa w H.size hl0 d9) bw_443 bw_444 bw_1 bw_445 (by decide +kernel) ⟨by decide, by decide⟩ hW hK hk hS hAA rfl hl.1 rfl (Nat.le_of_ble_eq_true rfl) dX_guess_27 ⟨by decide, by decide⟩ (fun E9 ce9 q9 w9 H9 locs9 hp9 hW9 hS9 hc1 hc2 hc3 => xo_go hout hlocks hK hS9 hW9 hc1 hc2 hc3 (⟨hp9.2.1, Or.inr ⟨hp9.1, ⟨f, hfc, ef⟩, fun h9 => hp9.2.2 h9.2⟩⟩) (by decide) (by decide)) (fun w4 H locs hp hW hS => ?_)
      obtain ⟨hw9, d, hdc, ed⟩ := hp
      rw [hw9] at hW
      rw [ed] at hl
      refine lv_aload_n hx hb dX_guess_30 rfl (lv_at hl 1 rfl) ?_
      refine hw_get (v := .ref (al 2)) (C := RX) (T := TX) (N := 4) hx hb hts inX hown hK hW hX.2.2.1.1 rfl 2 (by decide) (hts _ bw_64) (fun _ h9 => h9) rfl dX_guess_31 ?_
      refine lv_aload_n hx hb dX_guess_34 rfl (lv_at hl 1 rfl) ?_
      refine lv_aload hx hb dX_guess_35 (lv_at hl 0 rfl) ?_
      refine kc_VR (n := 1) (As := [.ref (al (100 + f))]) (rest := [.ref (al 2)]) ⟨hx, hb, hml, hown, hts⟩ (c_X_freshNumbers l D g ad tb sa w H.size al ro σ cnt fh T pt hX f hfc) bw_379 bw_381 bs_7 bw_1 bw_382 (by decide +kernel) rfl rfl hX.2.2.1.1 ⟨by decide, by decide⟩ hW hK hk hS hAA rfl hl.1 rfl (Nat.le_of_ble_eq_true rfl) dX_guess_37 ⟨by decide, by decide⟩ (fun r5 w6 H locs hp hW hS => ?_)
      obtain ⟨hr9, fh1, T1, hX1, hfr1, hTv1, hff1, hmo1⟩ := hp
      subst hr9
      obtain ⟨o0, dg0, cn0, mem0, M0, b0, r0, be0, hRX0, hR1, hR2, hR3⟩ := hF
      have hRX : ruX g w6 al ro 2 o0 dg0 cn0 mem0 M0 b0 r0 be0 := hRX0.mv (fun _ _ _ => rfl) (fun y e hy h3 h4 => ⟨by rw [hfr1 y (Or.inl (by omega))]; exact hy, rfl⟩)
      have hsf := hX1.2.2.2.2 f hfc
      refine lv_iload_n hx hb dX_guess_40 rfl (lv_at hl 3 rfl) ?_
      refine lv_iload_n hx hb dX_guess_41 rfl (lv_at hl 4 rfl) ?_
      refine kc_VI (n := 3) (As := [.ref (al (200 + f)), .int (nI o), .int (nI d)]) (rest := []) ⟨hx, hb, hml, hown, hts⟩ (c_U_find l D g ad tb sa w6 H.size (al 2) (al (2 + 1)) (al (2 + 2)) (al (2 + 3)) (al (2 + 4)) (fun i => al (2 + 8 + i)) o0 dg0 cn0 mem0 M0 b0 r0 be0 hRX.D (al (200 + f)) o d ((o + 1) * (d + 1)) (T1 f) (by omega) (by omega) rfl (fun q9 => by have h7 := congrArg ro q9; rw [hRX.2.1 2 (by omega), hsf.2.1.2] at h7; omega) hsf.2.2.1 hRX.1 hsf.2.1.1 hRX.2.2.2.1 hRX.2.2.2.2) bw_447 bw_448 bw_449 bw_2 bw_450 (by decide +kernel) rfl rfl hRX.1.1 ⟨by decide, by decide⟩ hW hK hk hS hAA rfl hl.1 rfl (Nat.le_of_ble_eq_true rfl) dX_guess_42 ⟨by decide, by decide⟩ (fun r7 w8 H locs hp hW hS => ?_)
      obtain ⟨mem1, M1, b1, r1, be1, hr9, hF9, hR9, hM9, hB9, hbs⟩ := hp
      subst hr9
      have hk9 : ∀ y, ro y < 2 ∨ 30 ≤ ro y → w8 y = w6 y := fun y hy => hRX.F hF9 (by omega)
      have hcb := base_cnt hbs
      have hc20 := we_cn (show o ≤ 4 by omega) (show d ≤ 3 by omega)
      exact vx_ret (W.iret (v := nI mem1) hx hb hr (fun t ht hW9 => ⟨⟨nI mem1, w8, rfl, ⟨f, o, d, hfc, by omega, by omega, ef, eo, ed, (mem1, o, d, fun k x => (evec b1 (eI M1) (be1 k) x).toNat), rfl, ⟨rfl, rfl, be1, _, base_cong (fun v => kerF_congr hTv1 v) hbs, fun _ _ _ _ => rfl⟩, ⟨al, fh1, T1, pt, rfl, hX1.kp (fun y hy => hk9 y (by omega)), ⟨o, d, _, mem1, M1, b1, r1, be1, ⟨hR9, hRX.2.1, hRX.2.2.1, hM9, hB9⟩, rfl, by omega, fun _ => ⟨by omega, by omega, rfl, rfl, rfl, fun k hk => ⟨hbs.1 k hk, fun _ _ => rfl⟩⟩⟩, (hT.kp (fun y _ h => hfr1 y (Or.inl (by omega)))).kp (fun y h _ => hk9 y (by omega))⟩, kpM.of fun y hy => (hk9 y (by omega)).trans (hfr1 y (Or.inr (by omega)))⟩, by rw [ht]; exact hW, va_K.moved hW9.alike hK⟩, hS.F ht⟩) hS.2.2 dX_guess_45)
    · have hno : ¬ inC 5 o9 := inC_nle (by omega) n2
      exact th_go (text := "the order is not 0 to 4") hx hb hl0 thA (by simp [sTx]) hown hts hk hK hW hS (hl.1.trans hml.symm) dX_guess_16 dX_guess_19 dX_guess_20 dX_guess_22 dX_guess_25 hout hlocks (by decide) (by decide) (by decide) (by decide) (by decide) (by decide) (⟨rfl, Or.inr ⟨rfl, ⟨f, hfc, ef⟩, fun h9 => hno h9.1⟩⟩)

set_option maxHeartbeats 1000000 in
set_option maxRecDepth 100000 in
theorem c_X_rule (l : Launch) (D : va_G) (g : Nat → ClassId) (ad : Nat → Nat) (tb : Nat) (sa : Nat → Nat) (w : Wd) (sz : Nat) (hl0 : l.stackTraces = false) (ro : Nat → Nat) (a : Nat) (σ : Nat → SD) (cnt : Nat) (γ : GU) (hI : xI g ad w ro a σ cnt γ) (k9 i9 j9 : Int32) : XI l D g ad tb sa yX_rule cX_rule 4 (some (.int)) 6 90 1 6 w sz [.ref a, .int k9, .int i9, .int j9] (fun x9 w' => ∃ k, k < γ.1 ∧ k9 = nI k ∧ (∀ i j : Nat, i ≤ γ.2.1 → j ≤ γ.2.2.1 → i9 = nI i → j9 = nI j → x9 = nI (γ.2.2.2 k (i * (γ.2.2.1 + 1) + j))) ∧ (i9 < 0 ∨ nI γ.2.1 < i9 ∨ j9 < 0 ∨ nI γ.2.2.1 < j9 → x9 = nI 0) ∧ w' = w) (fun E w' => E = xNI ∧ w' = w ∧ ¬ inC γ.1 k9) := by
  obtain ⟨al, fh, T, pt, rfl, hX, hF, hT⟩ := hI
  obtain ⟨o0, dg0, cn0, mem0, M0, b0, r0, be0, hRX, hR1, hR2, hR3⟩ := hF
  refine hx_XI (by decide) (Nat.le_of_ble_eq_true rfl) ?_
  intro p e s m below meth c A ls hx hb hr hml hts hown hlocks hin hout hsz hW hK hk hS hAA hl
  have hl : lv_has ls 4 [(0, .ref (al 0)), (1, .int k9), (2, .int i9), (3, .int j9)] := hl
  have hc40 := hX.1
  refine lv_iload_n hx hb dX_rule_0 rfl (lv_at hl 1 rfl) ?_
  refine lv_if_lt (tgt := 15) hx hb dX_rule_1 (by decide) (fun n1 => ?_) (fun n1 => ?_)
  · have hno : ¬ inC γ.1 k9 := by rw [hR1]; exact inC_neg (by omega) n1
    exact th_go (text := "no such member") hx hb hl0 thI (by simp [sTx]) hown hts hk hK hW hS (hl.1.trans hml.symm) dX_rule_15 dX_rule_18 dX_rule_19 dX_rule_21 dX_rule_24 hout hlocks (by decide) (by decide) (by decide) (by decide) (by decide) (by decide) (⟨rfl, rfl, hno⟩)
  · refine lv_iload_n hx hb dX_rule_4 rfl (lv_at hl 1 rfl) ?_
    refine lv_aload_n hx hb dX_rule_5 rfl (lv_at hl 0 rfl) ?_
    refine hw_get (v := .ref (al 2)) (C := RX) (T := TX) (N := 4) hx hb hts inX hown hK hW hX.2.2.1.1 rfl 2 (by decide) (hts _ bw_64) (fun _ h9 => h9) rfl dX_rule_6 ?_
    refine hw_getN (v := .int (nI mem0)) (C := RU) (T := TU) (N := 8) hx hb hts inU hown hK hW hRX.1.1 rfl 7 (by decide) (va_Nw.use rfl (hk.1 kw_42 (by simp [twL]))) (fun _ h9 => h9) rfl dX_rule_9 ?_
    refine lv_icmp_lt (tgt := 25) hx hb dX_rule_12 (by decide) (fun n2 => ?_) (fun n2 => ?_)
    · obtain ⟨k, hkc, ek⟩ := inC_of (n := mem0) (by omega) n1 (Int32.not_le.mpr n2)
      rw [ek] at hl
      obtain ⟨q1, q2, q3, q4, q5, q6⟩ := hR3 (by omega)
      refine lv_aload_n hx hb dX_rule_25 rfl (lv_at hl 0 rfl) ?_
      refine hw_get (v := .ref (al 2)) (C := RX) (T := TX) (N := 4) hx hb hts inX hown hK hW hX.2.2.1.1 rfl 2 (by decide) (hts _ bw_64) (fun _ h9 => h9) rfl dX_rule_26 ?_
      refine lv_iload_n hx hb dX_rule_29 rfl (lv_at hl 1 rfl) ?_
      refine lv_iload_n hx hb dX_rule_30 rfl (lv_at hl 2 rfl) ?_
      refine lv_iload_n hx hb dX_rule_31 rfl (lv_at hl 3 rfl) ?_
      refine kc_VI (n := 3) (As := [.int (nI k), .int i9, .int j9]) (rest := []) ⟨hx, hb, hml, hown, hts⟩ (c_U_numberOf l D g ad tb sa w s.heap.size (al 2) (al (2 + 1)) (al (2 + 2)) (al (2 + 3)) (al (2 + 4)) (fun i => al (2 + 8 + i)) o0 dg0 cn0 mem0 M0 b0 r0 be0 hRX.1 k i9 j9 q1 q2 q3 hRX.2.2.2.1 hkc hR2 (q6 k hkc).1) bw_486 bw_487 bw_488 bw_2 bw_489 (by decide +kernel) rfl rfl hRX.1.1 ⟨by decide, by decide⟩ hW hK hk hS hAA rfl hl.1 rfl (Nat.le_of_ble_eq_true rfl) dX_rule_32 ⟨by decide, by decide⟩ (fun r1 w2 H locs hp hW hS => ?_)
      obtain ⟨hw9, p1, p2⟩ := hp
      rw [hw9] at hW
      refine W.widen (k := 1) (n := 6) (by decide) (by decide) ?_
      exact vx_ret (W.iret (v := r1) hx hb hr (fun t ht hW9 => ⟨⟨r1, w, rfl, ⟨k, by rw [hR1]; exact hkc, ek, fun i j hi hj e1 e2 => by rw [q4] at hi; rw [q5] at hj ⊢; rw [(q6 k hkc).2 _ (by rw [q3]; exact we_idx hi hj)]; exact p1 i j hi hj e1 e2, by rw [q4, q5]; exact p2, rfl⟩, by rw [ht]; exact hW, va_K.moved hW9.alike hK⟩, hS.F ht⟩) hS.2.2 dX_rule_35)
    · have hno : ¬ inC γ.1 k9 := by rw [hR1]; exact inC_big (by omega) (Nat.le_refl _) (Int32.not_lt.mp n2)
      exact th_go (text := "no such member") hx hb hl0 thI (by simp [sTx]) hown hts hk hK hW hS (hl.1.trans hml.symm) dX_rule_15 dX_rule_18 dX_rule_19 dX_rule_21 dX_rule_24 hout hlocks (by decide) (by decide) (by decide) (by decide) (by decide) (by decide) (⟨rfl, rfl, hno⟩)

set_option maxHeartbeats 1000000 in
set_option maxRecDepth 100000 in
theorem lp_X_least {p : Program} {l : Launch} {e : Env} {s : State} {m : MethodId} {args : Array Value} {below : List Frame} {meth : Method} {c : Code} {Q : State → Prop} {D : va_G} {g : Nat → ClassId} {ad : Nat → Nat} {tb : Nat} {sa : Nat → Nat} {A : Nat → Prop} {w : Wd} {al ro : Nat → Nat} {cnt d f : Nat} {F : Nat → Nat} (hd : d < 4) (hc40 : f < 40) (h0 : cl9 w al ro 0 (.inr (0, [.ref (al 1), .int (nI cnt), .ref (al 2), .ref (al 32)]))) (hnu : cl9 w al ro (200 + f) (ia (g 0) 64 F)) (hFb : ∀ m, m < 64 → F m < 32003) (C0 : cx p s m args c A cX_least 6 RX D g ad tb sa) : ∀ (e9 : Nat) (o : Nat) (w1 : Wd), (o + e9 = 5) → (xT g w1 al ro) → (∀ y, ro y < 32 ∨ 60 ≤ ro y → w1 y = w y) → (∀ o', o' < o → hasB F o' d 0) → ∀ (H : Heap) (locs : List Loc), hw D vwCl A w1 H → va_S A s.heap H locs → ∀ ls : Array Slot, lv_has ls 6 [(0, .ref (al 0)), (2, .int (nI d)), (4, .ref (al (200 + f))), (5, .int (nI o))] → (∀ (o : Nat) (w1 : Wd), (o < 5) → (∃ n, 0 < n ∧ hasB F o d n) → (xT g w1 al ro) → (∀ y, ro y < 32 ∨ 60 ≤ ro y → w1 y = w y) → (∀ o', o' < o → hasB F o' d 0) → ∀ (H : Heap) (locs : List Loc), hw D vwCl A w1 H → va_S A s.heap H locs → ∀ ls : Array Slot, lv_has ls 6 [(5, .int (nI o))] → W p l e (rmL 7 117 2 12) s m args below meth c H locs 2 12 Q (F0 m 41 ls [])) → (∀ (w1 : Wd), (xT g w1 al ro) → (∀ y, ro y < 32 ∨ 60 ≤ ro y → w1 y = w y) → (∀ o', o' < 5 → hasB F o' d 0) → ∀ (H : Heap) (locs : List Loc), hw D vwCl A w1 H → va_S A s.heap H locs → ∀ ls : Array Slot, lv_has ls 6 [] → W p l e (rmL 7 117 2 12) s m args below meth c H locs 2 12 Q (F0 m 50 ls [])) → W p l e (rmL 7 117 2 12) s m args below meth c H locs 2 12 Q (F0 m 20 ls []) := by
  obtain ⟨hx, hb, hml, hts, hown, hK, hk, hAA⟩ := C0
  intro e9
  induction e9 with
  | zero =>
    intro o w1 ho hRT hfr hz H locs hW hS ls hl kk0 kk1
    refine lv_iload hx hb dX_least_20 (lv_at hl 3 rfl) ?_
    refine lv_iconst (v := nI 4) hx hb dX_least_22 (by decide) ?_
    refine nw_icmp_gt (tgt := 50) hx hb (by omega) (by omega) dX_least_23 (by decide) (fun c1 => ?_) (fun c1 => absurd c1 (by omega))
    exact kk1 w1 hRT hfr (fun o' ho' => hz o' (by omega)) H locs hW hS ls (lv_sub hl [] rfl)
  | succ e9 ih =>
    intro o w1 ho hRT hfr hz H locs hW hS ls hl kk0 kk1
    obtain ⟨o0, dg0, cn0, mem0, M0, b0, r0, be0, hRX⟩ := hRT
    have h0w : w1 (al 0) = some (.inr (0, [.ref (al 1), .int (nI cnt), .ref (al 2), .ref (al 32)])) := by rw [hfr _ (Or.inl (by rw [h0.2]; omega))]; exact h0.1
    have hnw : w1 (al (200 + f)) = some (ia (g 0) 64 F) := by rw [hfr _ (Or.inr (by rw [hnu.2]; omega))]; exact hnu.1
    have hc20 := we_cn (show o ≤ 4 by omega) (show d ≤ 3 by omega)
    refine lv_iload hx hb dX_least_20 (lv_at hl 3 rfl) ?_
    refine lv_iconst (v := nI 4) hx hb dX_least_22 (by decide) ?_
    refine nw_icmp_gt (tgt := 50) hx hb (by omega) (by omega) dX_least_23 (by decide) (fun c1 => absurd (show 4 < o from c1) (by omega)) (fun c1 => ?_)
    refine lv_aload_n hx hb dX_least_26 rfl (lv_at hl 0 rfl) ?_
    refine hw_get (v := .ref (al 32)) (C := RX) (T := TX) (N := 4) hx hb hts inX hown hK hW h0w rfl 3 (by decide) (hts _ bw_65) (fun _ h9 => h9) rfl dX_least_27 ?_
    refine lv_aload hx hb dX_least_30 (lv_at hl 2 rfl) ?_
    refine lv_iload hx hb dX_least_32 (lv_at hl 3 rfl) ?_
    refine lv_iload_n hx hb dX_least_34 rfl (lv_at hl 1 rfl) ?_
    refine kc_VI (n := 3) (As := [.ref (al (200 + f)), .int (nI o), .int (nI d)]) (rest := []) ⟨hx, hb, hml, hown, hts⟩ (c_U_find l D g ad tb sa w1 H.size (al 32) (al (32 + 1)) (al (32 + 2)) (al (32 + 3)) (al (32 + 4)) (fun i => al (32 + 8 + i)) o0 dg0 cn0 mem0 M0 b0 r0 be0 hRX.D (al (200 + f)) o d ((o + 1) * (d + 1)) (F) (by omega) (by omega) rfl (fun q9 => by have h7 := congrArg ro q9; rw [hRX.2.1 2 (by omega), hnu.2] at h7; omega) hFb hRX.1 hnw hRX.2.2.2.1 hRX.2.2.2.2) bw_447 bw_448 bw_449 bw_2 bw_450 (by decide +kernel) rfl rfl hRX.1.1 ⟨by decide, by decide⟩ hW hK hk hS hAA rfl hl.1 rfl (Nat.le_of_ble_eq_true rfl) dX_least_35 ⟨by decide, by decide⟩ (fun r2 w3 H locs hp hW hS => ?_)
    obtain ⟨mem1, M1, b1, r1, be1, hr9, hF9, hR9, hM9, hB9, hbs⟩ := hp
    subst hr9
    have hk9 : ∀ y, ro y < 32 ∨ 60 ≤ ro y → w3 y = w y := fun y hy => (hRX.F hF9 (by omega)).trans (hfr y hy)
    have hRT : xT g w3 al ro := ⟨o, d, _, mem1, M1, b1, r1, be1, hR9, hRX.2.1, hRX.2.2.1, hM9, hB9⟩
    have hcb := base_cnt hbs
    refine nw_if_le (tgt := 44) hx hb (by omega) dX_least_38 (by decide) (fun cm => ?_) (fun cm => ?_)
    · refine lv_iinc (v := nI (o + 1)) (lv' := [(5, .int (nI (o + 1))), (0, .ref (al 0)), (2, .int (nI d)), (4, .ref (al (200 + f)))]) hx hb dX_least_44 hl (k := 3) rfl (nI_1 _) (by decide) rfl (fun ls hl => ?_)
      refine lv_goto (tgt := 20) hx hb dX_least_47 (by decide) ?_
      exact ih (o + 1) w3 (by omega) hRT hk9 (fun o' ho' => by
        by_cases e8 : o' = o
        · rw [e8]; exact ⟨be1, _, by rw [show mem1 = 0 by omega] at hbs; exact hbs⟩
        · exact hz o' (by omega)) H locs hW hS ls (lv_sub hl [1, 2, 3, 0] rfl) kk0 kk1
    · exact kk0 o w3 (by omega) (⟨mem1, by omega, be1, _, hbs⟩) hRT hk9 hz H locs hW hS ls (lv_sub hl [3] rfl)

theorem hasB_congr {f f' : Nat → Nat} {o d n : Nat} (h : ∀ m, m < 64 → f m = f' m) (hb : hasB f o d n) : hasB f' o d n := by
  obtain ⟨be, vec, hb⟩ := hb
  exact ⟨be, vec, base_cong (fun v => kerF_congr h v) hb⟩

set_option maxHeartbeats 1000000 in
set_option maxRecDepth 100000 in
theorem c_X_least (l : Launch) (D : va_G) (g : Nat → ClassId) (ad : Nat → Nat) (tb : Nat) (sa : Nat → Nat) (w : Wd) (sz : Nat) (hl0 : l.stackTraces = false) (ro : Nat → Nat) (a : Nat) (σ : Nat → SD) (cnt : Nat) (γ : GU) (hI : xI g ad w ro a σ cnt γ) (f9 d9 : Int32) : XI l D g ad tb sa yX_least cX_least 6 (some (.int)) 7 117 2 12 w sz [.ref a, .int f9, .int d9] (fun x9 w' => ∃ f d, f < cnt ∧ d < 4 ∧ f9 = nI f ∧ d9 = nI d ∧ lst (sval σ f) d x9 ∧ xI g ad w' ro a σ cnt γ ∧ kpM w ro w' ro) (fun E w' => w' = w ∧ ((E = xNI ∧ ¬ inC cnt f9) ∨ (E = xNA ∧ inC cnt f9 ∧ ¬ inC 4 d9))) := by
  obtain ⟨al, fh, T, pt, rfl, hX, hF, hT⟩ := hI
  refine hx_XI (by decide) (Nat.le_of_ble_eq_true rfl) ?_
  intro p e s m below meth c A ls hx hb hr hml hts hown hlocks hin hout hsz hW hK hk hS hAA hl
  have hl : lv_has ls 6 [(0, .ref (al 0)), (1, .int f9), (2, .int d9)] := hl
  have hc40 := hX.1
  refine lv_aload_n hx hb dX_least_0 rfl (lv_at hl 0 rfl) ?_
  refine lv_iload_n hx hb dX_least_1 rfl (lv_at hl 1 rfl) ?_
  refine kx_VR (n := 1) (As := [.int f9]) (rest := []) ⟨hx, hb, hml, hown, hts⟩ (c_X_existing l D g ad tb sa w s.heap.size hl0 (al 0) (al 1) (al 2) (al 32) cnt (fun i => al (100 + i)) hc40 hX.2.2.1.1 hX.2.2.2.1.1 f9) bw_227 bw_229 bs_3 bw_1 bw_230 (by decide +kernel) rfl rfl hX.2.2.1.1 ⟨by decide, by decide⟩ hW hK hk hS hAA rfl hl.1 rfl (Nat.le_of_ble_eq_true rfl) dX_least_2 ⟨by decide, by decide⟩ (fun E9 ce9 q9 w9 H9 locs9 hp9 hW9 hS9 hc1 hc2 hc3 => xo_go hout hlocks hK hS9 hW9 hc1 hc2 hc3 (⟨hp9.2.1, Or.inl ⟨hp9.1, hp9.2.2⟩⟩) (by decide) (by decide)) (fun r1 w2 H locs hp hW hS => ?_)
  obtain ⟨hw9, f, hfc, ef, hr9⟩ := hp
  rw [hw9] at hW
  subst hr9
  refine lv_astore_n (lv' := [(3, .ref (al (100 + f))), (0, .ref (al 0)), (1, .int f9), (2, .int d9)]) hx hb dX_least_5 rfl hl (by decide) rfl (fun ls hl => ?_)
  refine lv_iload_n hx hb dX_least_6 rfl (lv_at hl 3 rfl) ?_
  refine kx_SV (n := 1) (As := [.int d9]) (rest := []) ⟨hx, hb, hml, hown, hts⟩ (c_X_checkDegree l D g ad tb sa w H.size hl0 d9) bw_443 bw_444 bw_1 bw_445 (by decide +kernel) ⟨by decide, by decide⟩ hW hK hk hS hAA rfl hl.1 rfl (Nat.le_of_ble_eq_true rfl) dX_least_7 ⟨by decide, by decide⟩ (fun E9 ce9 q9 w9 H9 locs9 hp9 hW9 hS9 hc1 hc2 hc3 => xo_go hout hlocks hK hS9 hW9 hc1 hc2 hc3 (⟨hp9.2.1, Or.inr ⟨hp9.1, ⟨f, hfc, ef⟩, hp9.2.2⟩⟩) (by decide) (by decide)) (fun w4 H locs hp hW hS => ?_)
  obtain ⟨hw9, d, hdc, ed⟩ := hp
  rw [hw9] at hW
  rw [ed] at hl
  refine lv_aload_n hx hb dX_least_10 rfl (lv_at hl 1 rfl) ?_
  refine lv_aload_n hx hb dX_least_11 rfl (lv_at hl 0 rfl) ?_
  refine kc_VR (n := 1) (As := [.ref (al (100 + f))]) (rest := []) ⟨hx, hb, hml, hown, hts⟩ (c_X_freshNumbers l D g ad tb sa w H.size al ro σ cnt fh T pt hX f hfc) bw_379 bw_381 bs_7 bw_1 bw_382 (by decide +kernel) rfl rfl hX.2.2.1.1 ⟨by decide, by decide⟩ hW hK hk hS hAA rfl hl.1 rfl (Nat.le_of_ble_eq_true rfl) dX_least_12 ⟨by decide, by decide⟩ (fun r5 w6 H locs hp hW hS => ?_)
  obtain ⟨hr9, fh1, T1, hX1, hfr1, hTv1, hff1, hmo1⟩ := hp
  subst hr9
  refine lv_astore (lv' := [(4, .ref (al (200 + f))), (3, .ref (al (100 + f))), (0, .ref (al 0)), (1, .int f9), (2, .int (nI d))]) hx hb dX_least_15 hl (by decide) rfl (fun ls hl => ?_)
  refine lv_iconst (v := nI 0) hx hb dX_least_17 (by decide) ?_
  refine lv_istore (lv' := [(5, .int (nI 0)), (4, .ref (al (200 + f))), (3, .ref (al (100 + f))), (0, .ref (al 0)), (1, .int f9), (2, .int (nI d))]) hx hb dX_least_18 hl (by decide) rfl (fun ls hl => ?_)
  have hsf := hX1.2.2.2.2 f hfc
  refine lp_X_least hdc (show f < 40 by omega) hX1.2.2.1 hsf.2.1 hsf.2.2.1 ⟨hx, hb, hml, hts, hown, hK, hk, hAA⟩ 5 0 w6 (by omega) (hT.kp (fun y _ h => hfr1 y (Or.inl (by omega)))) (fun _ _ => rfl) (fun o' h9 => absurd h9 (by omega)) _ _ hW hS ls (lv_sub hl [3, 5, 1, 0] rfl) ?_ ?_
  · intro o w1 ho hpos hRT hfr hz H locs hW hS ls hl
    refine lv_iload hx hb dX_least_41 (lv_at hl 0 rfl) ?_
    exact vx_ret (W.iret (v := nI o) hx hb hr (fun t ht hW9 => ⟨⟨nI o, w1, rfl, ⟨f, d, hfc, hdc, ef, ed, Or.inl ⟨o, ho, (let ⟨n9, h7, h8⟩ := hpos; ⟨n9, h7, hasB_congr hTv1 h8⟩), fun o' h9 => hasB_congr hTv1 (hz o' h9), rfl⟩, ⟨al, fh1, T1, pt, rfl, hX1.kp (fun y hy => hfr y (by omega)), (hF.kp (fun y _ h => hfr1 y (Or.inl (by omega)))).kp (fun y _ h => hfr y (by omega)), hRT⟩, kpM.of fun y hy => (hfr y (by omega)).trans (hfr1 y (Or.inr (by omega)))⟩, by rw [ht]; exact hW, va_K.moved hW9.alike hK⟩, hS.F ht⟩) hS.2.2 dX_least_43)
  · intro w1 hRT hfr hz H locs hW hS ls hl
    refine lv_iconst (v := (-1)) hx hb dX_least_50 (by decide) ?_
    exact vx_ret (W.iret (v := (-1)) hx hb hr (fun t ht hW9 => ⟨⟨(-1), w1, rfl, ⟨f, d, hfc, hdc, ef, ed, Or.inr ⟨fun o' h9 => hasB_congr hTv1 (hz o' h9), rfl⟩, ⟨al, fh1, T1, pt, rfl, hX1.kp (fun y hy => hfr y (by omega)), (hF.kp (fun y _ h => hfr1 y (Or.inl (by omega)))).kp (fun y _ h => hfr y (by omega)), hRT⟩, kpM.of fun y hy => (hfr y (by omega)).trans (hfr1 y (Or.inr (by omega)))⟩, by rw [ht]; exact hW, va_K.moved hW9.alike hK⟩, hS.F ht⟩) hS.2.2 dX_least_51)
