set_option maxHeartbeats 1000000 in
set_option maxRecDepth 100000 in
theorem c_X_combine (l : Launch) (D : va_G) (g : Nat → ClassId) (ad : Nat → Nat) (tb : Nat) (sa : Nat → Nat) (w : Wd) (sz : Nat) (hl0 : l.stackTraces = false) (ro : Nat → Nat) (a : Nat) (σ : Nat → SD) (cnt : Nat) (γ : GU) (hI : xI g ad w ro a σ cnt γ) (k : Nat) (hk7 : k < 7) (f9 g9 : Int32) : XI l D g ad tb sa yX_combine cX_combine 7 (some (.int)) 7 112 5 96 w sz [.ref a, .ref (ad k), .int f9, .int g9] (fun x9 w' => ∃ f h ro', f < cnt ∧ h < cnt ∧ f9 = nI f ∧ g9 = nI h ∧ cnt < 40 ∧ x9 = nI cnt ∧ xI g ad w' ro' a (va_up σ cnt (k + 1, f, h, 0, fun _ => 0, fun _ => 0)) (cnt + 1) γ ∧ kpM w ro w' ro') (fun E w' => w' = w ∧ ((E = xNI ∧ ¬ (inC cnt f9 ∧ inC cnt g9)) ∨ (E = xNS ∧ (inC cnt f9 ∧ inC cnt g9) ∧ ¬ cnt < 40))) := by
  obtain ⟨al, fh, T, pt, rfl, hX, hF, hT⟩ := hI
  refine hx_XI (by decide) (Nat.le_of_ble_eq_true rfl) ?_
  intro p e s m below meth c A ls hx hb hr hml hts hown hlocks hin hout hsz hW hK hk hS hAA hl
  have hl : lv_has ls 7 [(0, .ref (al 0)), (1, .ref (ad k)), (2, .int f9), (3, .int g9)] := hl
  have hc40 := hX.1
  refine lv_aload_n hx hb dX_combine_0 rfl (lv_at hl 0 rfl) ?_
  refine lv_iload_n hx hb dX_combine_1 rfl (lv_at hl 2 rfl) ?_
  refine kx_VR (n := 1) (As := [.int f9]) (rest := []) ⟨hx, hb, hml, hown, hts⟩ (c_X_existing l D g ad tb sa w s.heap.size hl0 (al 0) (al 1) (al 2) (al 32) cnt (fun i => al (100 + i)) hc40 hX.2.2.1.1 hX.2.2.2.1.1 f9) bw_227 bw_229 bs_3 bw_1 bw_230 (by decide +kernel) rfl rfl hX.2.2.1.1 ⟨by decide, by decide⟩ hW hK hk hS hAA rfl hl.1 rfl (Nat.le_of_ble_eq_true rfl) dX_combine_2 ⟨by decide, by decide⟩ (fun E9 ce9 q9 w9 H9 locs9 hp9 hW9 hS9 hc1 hc2 hc3 => xo_go hout hlocks hK hS9 hW9 hc1 hc2 hc3 (⟨hp9.2.1, Or.inl ⟨hp9.1, fun h9 => hp9.2.2 h9.1⟩⟩) (by decide) (by decide)) (fun r1 w2 H locs hp hW hS => ?_)
  obtain ⟨hw9, f, hfc, ef, hr9⟩ := hp
  rw [hw9] at hW
  subst hr9
  refine lv_astore (lv' := [(4, .ref (al (100 + f))), (0, .ref (al 0)), (1, .ref (ad k)), (2, .int f9), (3, .int g9)]) hx hb dX_combine_5 hl (by decide) rfl (fun ls hl => ?_)
  refine lv_aload_n hx hb dX_combine_7 rfl (lv_at hl 1 rfl) ?_
  refine lv_iload_n hx hb dX_combine_8 rfl (lv_at hl 4 rfl) ?_
  refine kx_VR (n := 1) (As := [.int g9]) (rest := []) ⟨hx, hb, hml, hown, hts⟩ (c_X_existing l D g ad tb sa w H.size hl0 (al 0) (al 1) (al 2) (al 32) cnt (fun i => al (100 + i)) hc40 hX.2.2.1.1 hX.2.2.2.1.1 g9) bw_227 bw_229 bs_3 bw_1 bw_230 (by decide +kernel) rfl rfl hX.2.2.1.1 ⟨by decide, by decide⟩ hW hK hk hS hAA rfl hl.1 rfl (Nat.le_of_ble_eq_true rfl) dX_combine_9 ⟨by decide, by decide⟩ (fun E9 ce9 q9 w9 H9 locs9 hp9 hW9 hS9 hc1 hc2 hc3 => xo_go hout hlocks hK hS9 hW9 hc1 hc2 hc3 (⟨hp9.2.1, Or.inl ⟨hp9.1, fun h9 => hp9.2.2 h9.2⟩⟩) (by decide) (by decide)) (fun r3 w4 H locs hp hW hS => ?_)
  obtain ⟨hw9, h, hhc, eh, hr9⟩ := hp
  rw [hw9] at hW
  subst hr9
  refine lv_astore (lv' := [(5, .ref (al (100 + h))), (4, .ref (al (100 + f))), (0, .ref (al 0)), (1, .ref (ad k)), (2, .int f9), (3, .int g9)]) hx hb dX_combine_12 hl (by decide) rfl (fun ls hl => ?_)
  refine lv_aload_n hx hb dX_combine_14 rfl (lv_at hl 2 rfl) ?_
  refine kx_VI (n := 0) (As := []) (rest := []) ⟨hx, hb, hml, hown, hts⟩ (c_X_freeNumber l D g ad tb sa w H.size hl0 (al 0) (al 1) (al 2) (al 32) cnt hc40 hX.2.2.1.1) bw_88 bw_90 bs_0 bw_1 bw_91 (by decide +kernel) rfl rfl hX.2.2.1.1 ⟨by decide, by decide⟩ hW hK hk hS hAA rfl hl.1 rfl (Nat.le_of_ble_eq_true rfl) dX_combine_15 ⟨by decide, by decide⟩ (fun E9 ce9 q9 w9 H9 locs9 hp9 hW9 hS9 hc1 hc2 hc3 => xo_go hout hlocks hK hS9 hW9 hc1 hc2 hc3 (⟨hp9.2.1, Or.inr ⟨hp9.1, ⟨⟨f, hfc, ef⟩, ⟨h, hhc, eh⟩⟩, hp9.2.2⟩⟩) (by decide) (by decide)) (fun r5 w6 H locs hp hW hS => ?_)
  obtain ⟨hw9, hr9, hc4⟩ := hp
  rw [hw9] at hW
  subst hr9
  refine lv_istore (lv' := [(6, .int (nI cnt)), (5, .ref (al (100 + h))), (4, .ref (al (100 + f))), (0, .ref (al 0)), (1, .ref (ad k)), (2, .int f9), (3, .int g9)]) hx hb dX_combine_18 hl (by decide) rfl (fun ls hl => ?_)
  refine lv_aload_n hx hb dX_combine_20 rfl (lv_at hl 3 rfl) ?_
  refine lv_iload hx hb dX_combine_21 (lv_at hl 0 rfl) ?_
  have hsf := hX.2.2.2.2 f hfc
  have hsg := hX.2.2.2.2 h hhc
  obtain ⟨cf, tf, hcf, hbf⟩ := sOb_any ad al f (σ f) (fh f) (pt f)
  obtain ⟨cg, tg, hcg, hbg⟩ := sOb_any ad al h (σ h) (fh h) (pt h)
  have obf := hsf.1.1
  rw [hbf] at obf
  have obg := hsg.1.1
  rw [hbg] at obg
  have zf := bz_le (fh f)
  have zg := bz_le (fh h)
  refine hw_new (C := RK) (T := TK) (N := 7) (ci := 2) (fs := [.null, .int (nI 0), .long (lN 0), .null, .null, .null, .int (nI 0)]) hx hb hts inK tyK tyK_ok hown (hts _ bw_295) (hts _ bw_296) (hts _ bw_14) hK hW hS hAA rfl (fun j hj => match j, hj with | 0, _ => rfl | 1, _ => rfl | 2, _ => rfl | 3, _ => rfl | 4, _ => rfl | 5, _ => rfl | 6, _ => rfl | j + 7, hj => absurd hj (by omega)) (by decide) (by decide) dX_combine_23 (fun q7 H hn_q7 hW hS => ?_)
  have z_q7 := hn_q7
  have ne8 : q7 ≠ (al 0) := fun h9 => by have h8 := hX.2.2.1.1; rw [← h9, hn_q7] at h8; cases h8
  have ne9 : q7 ≠ (al 1) := fun h9 => by have h8 := hX.2.2.2.1.1; rw [← h9, hn_q7] at h8; cases h8
  obtain ⟨w10, ew10⟩ : ∃ z, z = hwu w q7 (.inr (2, [.null, .int (nI 0), .long (lN 0), .null, .null, .null, .int (nI 0)])) := ⟨_, rfl⟩
  have hW : hw D vwCl A w10 H := by rw [ew10]; exact hW
  have hc11 : w10 (al 0) = some (.inr (0, [.ref (al 1), .int (nI cnt), .ref (al 2), .ref (al 32)])) := by rw [ew10]; exact hwu_old hn_q7 hX.2.2.1.1
  have hc12 : w10 (al 1) = some (qa (g 3) 40 (fun i => if i < cnt then some (al (100 + i)) else none)) := by rw [ew10]; exact hwu_old hn_q7 hX.2.2.2.1.1
  have hc13 : w10 q7 = some (.inr (2, [.null, .int (nI 0), .long (lN 0), .null, .null, .null, .int (nI 0)])) := by rw [ew10]; exact hwu_eq
  refine lv_dup hx hb dX_combine_26 rfl ?_
  refine lv_iload hx hb dX_combine_27 (lv_at hl 0 rfl) ?_
  refine lv_aload_n hx hb dX_combine_29 rfl (lv_at hl 4 rfl) ?_
  refine lv_aload hx hb dX_combine_30 (lv_at hl 2 rfl) ?_
  refine lv_aload hx hb dX_combine_32 (lv_at hl 1 rfl) ?_
  refine lv_iconst (v := nI 0) hx hb dX_combine_34 (by decide) ?_
  refine kc_IV (n := 5) (As := [.int (nI cnt), .ref (ad k), .ref (al (100 + f)), .ref (al (100 + h)), .int (nI 0)]) (rest := [.ref q7, .int (nI cnt), .ref (al 0)]) ⟨hx, hb, hml, hown, hts⟩ (c_K_init l D g ad tb sa w10 H.size q7 cnt k (al (100 + f)) (al (100 + h)) 0 cf cg (al (200 + f)) (al (200 + h)) (bz (fh f)) (bz (fh h)) (pt f) (pt h) tf tg hcf hcg (ne_none hn_q7 hsf.1.1) (ne_none hn_q7 hsg.1.1) hc13 (by rw [ew10]; exact hwu_old hn_q7 obf) (by rw [ew10]; exact hwu_old hn_q7 obg)) bw_297 bw_298 bw_14 bw_299 rfl (by decide +kernel) ⟨by decide, by decide⟩ hW hK hk hS hAA rfl hl.1 rfl (Nat.le_of_ble_eq_true rfl) dX_combine_35 ⟨by decide, by decide⟩ (fun w15 H locs hp hW hS => ?_)
  obtain ⟨qn, z1, g0, g1, gF⟩ := hp
  have k0 : w15 (al 0) = some (.inr (0, [.ref (al 1), .int (nI cnt), .ref (al 2), .ref (al 32)])) := (gF _ (ne_none hn_q7 hX.2.2.1.1) (ne_none z1 hc11)).trans hc11
  have k1 : w15 (al 1) = some (qa (g 3) 40 (fun i => if i < cnt then some (al (100 + i)) else none)) := (gF _ (ne_none hn_q7 hX.2.2.2.1.1) (ne_none z1 hc12)).trans hc12
  refine kc_VI (n := 2) (As := [.int (nI cnt), .ref q7]) (rest := []) ⟨hx, hb, hml, hown, hts⟩ (c_X_keepK l D g ad tb sa w15 H.size (al 0) (al 1) (al 2) (al 32) cnt (fun i => al (100 + i)) hc40 k0 k1 hc4 q7 _ (fun q9 => ne_none hn_q7 hX.2.2.1.1 q9.symm) g0) bw_215 bw_217 bs_2 bw_1 bw_218 (by decide +kernel) rfl rfl k0 ⟨by decide, by decide⟩ hW hK hk hS hAA rfl hl.1 rfl (Nat.le_of_ble_eq_true rfl) dX_combine_38 ⟨by decide, by decide⟩ (fun r16 w17 H locs hp hW hS => ?_)
  obtain ⟨hr9, ew9⟩ := hp
  subst hr9
  rw [ew10] at z1
  obtain ⟨qnb, z1⟩ := hwu_none z1
  have h0b := ne_none hn_q7 hX.2.2.1.1
  have h1b := ne_none hn_q7 hX.2.2.2.1.1
  have h01 : al 1 ≠ al 0 := hX.2.2.2.1.ne hX.2.2.1 (by decide)
  have old : ∀ y e, w y = some e → y ≠ q7 ∧ y ≠ qn := fun y e hy => ⟨ne_none hn_q7 hy, ne_none z1 hy⟩
  have hkp : ∀ y e, w y = some e → ro y ≠ 0 → ro y ≠ 1 → w17 y = some e ∧ roN ro cnt q7 qn q7 q7 y = ro y := fun y e hy e0 e1 => ⟨by rw [ew9, hwu_ne (fr_at hX.2.2.1.2 e0), hwu_ne (fr_at hX.2.2.2.1.2 e1), gF y (old y e hy).1 (old y e hy).2, ew10, hwu_ne (old y e hy).1]; exact hy, roN_o (old y e hy).1 (old y e hy).2 (old y e hy).1 (old y e hy).1⟩
  have n_q7 := (show w17 q7 = w15 q7 by rw [ew9, hwu_ne (ne_none hn_q7 hX.2.2.1.1).symm, hwu_ne (ne_none hn_q7 hX.2.2.2.1.1).symm]).trans g0
  have n_qn := (show w17 qn = w15 qn by rw [ew9, hwu_ne (ne_none z1 hX.2.2.1.1).symm, hwu_ne (ne_none z1 hX.2.2.2.1.1).symm]).trans g1
  have hfin := xI.add (d := (k + 1, f, h, 0, fun _ => 0, fun _ => 0)) (al' := alN al cnt q7 qn q7 q7) (ro' := roN ro cnt q7 qn q7 q7) hX hF hT hc4 (fun r h9 => alN_o hc4 h9) hkp (by rw [ew9, hwu_eq]) (by rw [roN_o h0b (ne_none z1 hX.2.2.1.1) h0b h0b]; exact hX.2.2.1.2) (by rw [ew9, hwu_ne h01, hwu_eq, alN_b]) (by rw [roN_o h1b (ne_none z1 hX.2.2.2.1.1) h1b h1b]; exact hX.2.2.2.1.2) (fun _ => ⟨hfc, hhc⟩) (p := ((pt f ||| pt h) ||| (lN 1 <<< ((nI cnt).toInt64 &&& 63)))) (by
      unfold seqI
      rw [va_up_eq]
      refine ⟨⟨by rw [alN_b, sOb_1 (d := (k + 1, f, h, 0, fun _ => 0, fun _ => 0)) (Nat.succ_ne_zero k)]; show _ = some (Sum.inr (2, [Value.ref (alN al cnt q7 qn q7 q7 (200 + cnt)), .int (nI (bz false)), .long _, .ref (ad (k + 1 - 1)), .ref (alN al cnt q7 qn q7 q7 (200 + f)), .ref (alN al cnt q7 qn q7 q7 (200 + h)), .int (nI 0)])); rw [alN_q, alN_o hc4 (Or.inr (by omega)), alN_o hc4 (Or.inr (by omega))]; exact n_q7, by rw [alN_b, roN_b]⟩, ⟨by rw [alN_q]; exact n_qn, by rw [alN_q, roN_q qnb]⟩, fun _ _ => (by decide : 0 < 32003), fun h9 => absurd h9 (by decide), bitK hc4 hfc hhc (Nat.succ_ne_zero k) rfl rfl hsf.2.2.2.2.1 hsg.2.2.2.2.1, fun h9 => absurd h9 (Nat.succ_ne_zero k), fun _ => ⟨by show k + 1 ≤ 7; omega, by show 0 ≤ 8; omega⟩, fun _ _ => (by decide : 0 < 32003), fun _ _ => (by decide : 0 < 32003)⟩)
  refine W.widen (k := 5) (n := 96) (by decide) (by decide) ?_
  exact vx_ret (W.iret (v := nI cnt) hx hb hr (fun t ht hW9 => ⟨⟨nI cnt, w17, rfl, ⟨f, h, _, hfc, hhc, ef, eh, hc4, rfl, hfin⟩, by rw [ht]; exact hW, va_K.moved hW9.alike hK⟩, hS.F ht⟩) hS.2.2 dX_combine_41)

set_option maxHeartbeats 1000000 in
set_option maxRecDepth 100000 in
theorem c_X_add (l : Launch) (D : va_G) (g : Nat → ClassId) (ad : Nat → Nat) (tb : Nat) (sa : Nat → Nat) (w : Wd) (sz : Nat) (hl0 : l.stackTraces = false) (ro : Nat → Nat) (a : Nat) (σ : Nat → SD) (cnt : Nat) (γ : GU) (hI : xI g ad w ro a σ cnt γ) (f9 g9 : Int32) : XI l D g ad tb sa yX_add cX_add 3 (some (.int)) 8 138 5 96 w sz [.ref a, .int f9, .int g9] (fun x9 w' => ∃ f h ro', f < cnt ∧ h < cnt ∧ f9 = nI f ∧ g9 = nI h ∧ cnt < 40 ∧ x9 = nI cnt ∧ xI g ad w' ro' a (va_up σ cnt (0 + 1, f, h, 0, fun _ => 0, fun _ => 0)) (cnt + 1) γ ∧ kpM w ro w' ro') (fun E w' => w' = w ∧ ((E = xNI ∧ ¬ (inC cnt f9 ∧ inC cnt g9)) ∨ (E = xNS ∧ (inC cnt f9 ∧ inC cnt g9) ∧ ¬ cnt < 40))) := by
  obtain ⟨al, fh, T, pt, rfl, hX, hF, hT⟩ := hI
  refine hx_XI (by decide) (Nat.le_of_ble_eq_true rfl) ?_
  intro p e s m below meth c A ls hx hb hr hml hts hown hlocks hin hout hsz hW hK hk hS hAA hl
  have hl : lv_has ls 3 [(0, .ref (al 0)), (1, .int f9), (2, .int g9)] := hl
  have hc40 := hX.1
  refine lv_aload_n hx hb dX_add_0 rfl (lv_at hl 0 rfl) ?_
  refine va_gets hx hb (hk.2.1.1 0 (by decide)).1 hS hown (hts _ bw_289) (fun _ h9 => h9) dX_add_1 ?_
  refine lv_iload_n hx hb dX_add_4 rfl (lv_at hl 1 rfl) ?_
  refine lv_iload_n hx hb dX_add_5 rfl (lv_at hl 2 rfl) ?_
  refine kx_VI (n := 3) (As := [.ref (ad 0), .int f9, .int g9]) (rest := []) ⟨hx, hb, hml, hown, hts⟩ (c_X_combine l D g ad tb sa w s.heap.size hl0 ro (al 0) σ cnt γ ⟨al, fh, T, pt, rfl, hX, hF, hT⟩ 0 (by decide) f9 g9) bw_291 bw_293 bs_6 bw_1 bw_294 (by decide +kernel) rfl rfl hX.2.2.1.1 ⟨by decide, by decide⟩ hW hK hk hS hAA rfl hl.1 rfl (Nat.le_of_ble_eq_true rfl) dX_add_6 ⟨by decide, by decide⟩ (fun E9 ce9 q9 w9 H9 locs9 hp9 hW9 hS9 hc1 hc2 hc3 => xo_go hout hlocks hK hS9 hW9 hc1 hc2 hc3 (hp9) (by decide) (by decide)) (fun r1 w2 H locs hp hW hS => ?_)
  exact vx_ret (W.iret (v := r1) hx hb hr (fun t ht hW9 => ⟨⟨r1, w2, rfl, hp, by rw [ht]; exact hW, va_K.moved hW9.alike hK⟩, hS.F ht⟩) hS.2.2 dX_add_9)

set_option maxHeartbeats 1000000 in
set_option maxRecDepth 100000 in
theorem c_X_times (l : Launch) (D : va_G) (g : Nat → ClassId) (ad : Nat → Nat) (tb : Nat) (sa : Nat → Nat) (w : Wd) (sz : Nat) (hl0 : l.stackTraces = false) (ro : Nat → Nat) (a : Nat) (σ : Nat → SD) (cnt : Nat) (γ : GU) (hI : xI g ad w ro a σ cnt γ) (f9 g9 : Int32) : XI l D g ad tb sa yX_times cX_times 3 (some (.int)) 8 138 5 96 w sz [.ref a, .int f9, .int g9] (fun x9 w' => ∃ f h ro', f < cnt ∧ h < cnt ∧ f9 = nI f ∧ g9 = nI h ∧ cnt < 40 ∧ x9 = nI cnt ∧ xI g ad w' ro' a (va_up σ cnt (1 + 1, f, h, 0, fun _ => 0, fun _ => 0)) (cnt + 1) γ ∧ kpM w ro w' ro') (fun E w' => w' = w ∧ ((E = xNI ∧ ¬ (inC cnt f9 ∧ inC cnt g9)) ∨ (E = xNS ∧ (inC cnt f9 ∧ inC cnt g9) ∧ ¬ cnt < 40))) := by
  obtain ⟨al, fh, T, pt, rfl, hX, hF, hT⟩ := hI
  refine hx_XI (by decide) (Nat.le_of_ble_eq_true rfl) ?_
  intro p e s m below meth c A ls hx hb hr hml hts hown hlocks hin hout hsz hW hK hk hS hAA hl
  have hl : lv_has ls 3 [(0, .ref (al 0)), (1, .int f9), (2, .int g9)] := hl
  have hc40 := hX.1
  refine lv_aload_n hx hb dX_times_0 rfl (lv_at hl 0 rfl) ?_
  refine va_gets hx hb (hk.2.1.1 1 (by decide)).1 hS hown (hts _ bw_324) (fun _ h9 => h9) dX_times_1 ?_
  refine lv_iload_n hx hb dX_times_4 rfl (lv_at hl 1 rfl) ?_
  refine lv_iload_n hx hb dX_times_5 rfl (lv_at hl 2 rfl) ?_
  refine kx_VI (n := 3) (As := [.ref (ad 1), .int f9, .int g9]) (rest := []) ⟨hx, hb, hml, hown, hts⟩ (c_X_combine l D g ad tb sa w s.heap.size hl0 ro (al 0) σ cnt γ ⟨al, fh, T, pt, rfl, hX, hF, hT⟩ 1 (by decide) f9 g9) bw_291 bw_293 bs_6 bw_1 bw_294 (by decide +kernel) rfl rfl hX.2.2.1.1 ⟨by decide, by decide⟩ hW hK hk hS hAA rfl hl.1 rfl (Nat.le_of_ble_eq_true rfl) dX_times_6 ⟨by decide, by decide⟩ (fun E9 ce9 q9 w9 H9 locs9 hp9 hW9 hS9 hc1 hc2 hc3 => xo_go hout hlocks hK hS9 hW9 hc1 hc2 hc3 (hp9) (by decide) (by decide)) (fun r1 w2 H locs hp hW hS => ?_)
  exact vx_ret (W.iret (v := r1) hx hb hr (fun t ht hW9 => ⟨⟨r1, w2, rfl, hp, by rw [ht]; exact hW, va_K.moved hW9.alike hK⟩, hS.F ht⟩) hS.2.2 dX_times_9)

set_option maxHeartbeats 1000000 in
set_option maxRecDepth 100000 in
theorem c_X_convolve (l : Launch) (D : va_G) (g : Nat → ClassId) (ad : Nat → Nat) (tb : Nat) (sa : Nat → Nat) (w : Wd) (sz : Nat) (hl0 : l.stackTraces = false) (ro : Nat → Nat) (a : Nat) (σ : Nat → SD) (cnt : Nat) (γ : GU) (hI : xI g ad w ro a σ cnt γ) (f9 g9 : Int32) : XI l D g ad tb sa yX_convolve cX_convolve 3 (some (.int)) 8 138 5 96 w sz [.ref a, .int f9, .int g9] (fun x9 w' => ∃ f h ro', f < cnt ∧ h < cnt ∧ f9 = nI f ∧ g9 = nI h ∧ cnt < 40 ∧ x9 = nI cnt ∧ xI g ad w' ro' a (va_up σ cnt (2 + 1, f, h, 0, fun _ => 0, fun _ => 0)) (cnt + 1) γ ∧ kpM w ro w' ro') (fun E w' => w' = w ∧ ((E = xNI ∧ ¬ (inC cnt f9 ∧ inC cnt g9)) ∨ (E = xNS ∧ (inC cnt f9 ∧ inC cnt g9) ∧ ¬ cnt < 40))) := by
  obtain ⟨al, fh, T, pt, rfl, hX, hF, hT⟩ := hI
  refine hx_XI (by decide) (Nat.le_of_ble_eq_true rfl) ?_
  intro p e s m below meth c A ls hx hb hr hml hts hown hlocks hin hout hsz hW hK hk hS hAA hl
  have hl : lv_has ls 3 [(0, .ref (al 0)), (1, .int f9), (2, .int g9)] := hl
  have hc40 := hX.1
  refine lv_aload_n hx hb dX_convolve_0 rfl (lv_at hl 0 rfl) ?_
  refine va_gets hx hb (hk.2.1.1 2 (by decide)).1 hS hown (hts _ bw_333) (fun _ h9 => h9) dX_convolve_1 ?_
  refine lv_iload_n hx hb dX_convolve_4 rfl (lv_at hl 1 rfl) ?_
  refine lv_iload_n hx hb dX_convolve_5 rfl (lv_at hl 2 rfl) ?_
  refine kx_VI (n := 3) (As := [.ref (ad 2), .int f9, .int g9]) (rest := []) ⟨hx, hb, hml, hown, hts⟩ (c_X_combine l D g ad tb sa w s.heap.size hl0 ro (al 0) σ cnt γ ⟨al, fh, T, pt, rfl, hX, hF, hT⟩ 2 (by decide) f9 g9) bw_291 bw_293 bs_6 bw_1 bw_294 (by decide +kernel) rfl rfl hX.2.2.1.1 ⟨by decide, by decide⟩ hW hK hk hS hAA rfl hl.1 rfl (Nat.le_of_ble_eq_true rfl) dX_convolve_6 ⟨by decide, by decide⟩ (fun E9 ce9 q9 w9 H9 locs9 hp9 hW9 hS9 hc1 hc2 hc3 => xo_go hout hlocks hK hS9 hW9 hc1 hc2 hc3 (hp9) (by decide) (by decide)) (fun r1 w2 H locs hp hW hS => ?_)
  exact vx_ret (W.iret (v := r1) hx hb hr (fun t ht hW9 => ⟨⟨r1, w2, rfl, hp, by rw [ht]; exact hW, va_K.moved hW9.alike hK⟩, hS.F ht⟩) hS.2.2 dX_convolve_9)

set_option maxHeartbeats 1000000 in
set_option maxRecDepth 100000 in
theorem c_X_weave (l : Launch) (D : va_G) (g : Nat → ClassId) (ad : Nat → Nat) (tb : Nat) (sa : Nat → Nat) (w : Wd) (sz : Nat) (hl0 : l.stackTraces = false) (ro : Nat → Nat) (a : Nat) (σ : Nat → SD) (cnt : Nat) (γ : GU) (hI : xI g ad w ro a σ cnt γ) (f9 g9 : Int32) : XI l D g ad tb sa yX_weave cX_weave 3 (some (.int)) 8 138 5 96 w sz [.ref a, .int f9, .int g9] (fun x9 w' => ∃ f h ro', f < cnt ∧ h < cnt ∧ f9 = nI f ∧ g9 = nI h ∧ cnt < 40 ∧ x9 = nI cnt ∧ xI g ad w' ro' a (va_up σ cnt (3 + 1, f, h, 0, fun _ => 0, fun _ => 0)) (cnt + 1) γ ∧ kpM w ro w' ro') (fun E w' => w' = w ∧ ((E = xNI ∧ ¬ (inC cnt f9 ∧ inC cnt g9)) ∨ (E = xNS ∧ (inC cnt f9 ∧ inC cnt g9) ∧ ¬ cnt < 40))) := by
  obtain ⟨al, fh, T, pt, rfl, hX, hF, hT⟩ := hI
  refine hx_XI (by decide) (Nat.le_of_ble_eq_true rfl) ?_
  intro p e s m below meth c A ls hx hb hr hml hts hown hlocks hin hout hsz hW hK hk hS hAA hl
  have hl : lv_has ls 3 [(0, .ref (al 0)), (1, .int f9), (2, .int g9)] := hl
  have hc40 := hX.1
  refine lv_aload_n hx hb dX_weave_0 rfl (lv_at hl 0 rfl) ?_
  refine va_gets hx hb (hk.2.1.1 3 (by decide)).1 hS hown (hts _ bw_342) (fun _ h9 => h9) dX_weave_1 ?_
  refine lv_iload_n hx hb dX_weave_4 rfl (lv_at hl 1 rfl) ?_
  refine lv_iload_n hx hb dX_weave_5 rfl (lv_at hl 2 rfl) ?_
  refine kx_VI (n := 3) (As := [.ref (ad 3), .int f9, .int g9]) (rest := []) ⟨hx, hb, hml, hown, hts⟩ (c_X_combine l D g ad tb sa w s.heap.size hl0 ro (al 0) σ cnt γ ⟨al, fh, T, pt, rfl, hX, hF, hT⟩ 3 (by decide) f9 g9) bw_291 bw_293 bs_6 bw_1 bw_294 (by decide +kernel) rfl rfl hX.2.2.1.1 ⟨by decide, by decide⟩ hW hK hk hS hAA rfl hl.1 rfl (Nat.le_of_ble_eq_true rfl) dX_weave_6 ⟨by decide, by decide⟩ (fun E9 ce9 q9 w9 H9 locs9 hp9 hW9 hS9 hc1 hc2 hc3 => xo_go hout hlocks hK hS9 hW9 hc1 hc2 hc3 (hp9) (by decide) (by decide)) (fun r1 w2 H locs hp hW hS => ?_)
  exact vx_ret (W.iret (v := r1) hx hb hr (fun t ht hW9 => ⟨⟨r1, w2, rfl, hp, by rw [ht]; exact hW, va_K.moved hW9.alike hK⟩, hS.F ht⟩) hS.2.2 dX_weave_9)

set_option maxHeartbeats 1000000 in
set_option maxRecDepth 100000 in
theorem c_X_sums (l : Launch) (D : va_G) (g : Nat → ClassId) (ad : Nat → Nat) (tb : Nat) (sa : Nat → Nat) (w : Wd) (sz : Nat) (hl0 : l.stackTraces = false) (ro : Nat → Nat) (a : Nat) (σ : Nat → SD) (cnt : Nat) (γ : GU) (hI : xI g ad w ro a σ cnt γ) (f9 : Int32) : XI l D g ad tb sa yX_sums cX_sums 2 (some (.int)) 8 138 5 96 w sz [.ref a, .int f9] (fun x9 w' => ∃ f h ro', f < cnt ∧ h < cnt ∧ f9 = nI f ∧ f9 = nI h ∧ cnt < 40 ∧ x9 = nI cnt ∧ xI g ad w' ro' a (va_up σ cnt (5 + 1, f, h, 0, fun _ => 0, fun _ => 0)) (cnt + 1) γ ∧ kpM w ro w' ro') (fun E w' => w' = w ∧ ((E = xNI ∧ ¬ (inC cnt f9 ∧ inC cnt f9)) ∨ (E = xNS ∧ (inC cnt f9 ∧ inC cnt f9) ∧ ¬ cnt < 40))) := by
  obtain ⟨al, fh, T, pt, rfl, hX, hF, hT⟩ := hI
  refine hx_XI (by decide) (Nat.le_of_ble_eq_true rfl) ?_
  intro p e s m below meth c A ls hx hb hr hml hts hown hlocks hin hout hsz hW hK hk hS hAA hl
  have hl : lv_has ls 2 [(0, .ref (al 0)), (1, .int f9)] := hl
  have hc40 := hX.1
  refine lv_aload_n hx hb dX_sums_0 rfl (lv_at hl 0 rfl) ?_
  refine va_gets hx hb (hk.2.1.1 5 (by decide)).1 hS hown (hts _ bw_361) (fun _ h9 => h9) dX_sums_1 ?_
  refine lv_iload_n hx hb dX_sums_4 rfl (lv_at hl 1 rfl) ?_
  refine lv_iload_n hx hb dX_sums_5 rfl (lv_at hl 1 rfl) ?_
  refine kx_VI (n := 3) (As := [.ref (ad 5), .int f9, .int f9]) (rest := []) ⟨hx, hb, hml, hown, hts⟩ (c_X_combine l D g ad tb sa w s.heap.size hl0 ro (al 0) σ cnt γ ⟨al, fh, T, pt, rfl, hX, hF, hT⟩ 5 (by decide) f9 f9) bw_291 bw_293 bs_6 bw_1 bw_294 (by decide +kernel) rfl rfl hX.2.2.1.1 ⟨by decide, by decide⟩ hW hK hk hS hAA rfl hl.1 rfl (Nat.le_of_ble_eq_true rfl) dX_sums_6 ⟨by decide, by decide⟩ (fun E9 ce9 q9 w9 H9 locs9 hp9 hW9 hS9 hc1 hc2 hc3 => xo_go hout hlocks hK hS9 hW9 hc1 hc2 hc3 (hp9) (by decide) (by decide)) (fun r1 w2 H locs hp hW hS => ?_)
  exact vx_ret (W.iret (v := r1) hx hb hr (fun t ht hW9 => ⟨⟨r1, w2, rfl, hp, by rw [ht]; exact hW, va_K.moved hW9.alike hK⟩, hS.F ht⟩) hS.2.2 dX_sums_9)

set_option maxHeartbeats 1000000 in
set_option maxRecDepth 100000 in
theorem c_X_derive (l : Launch) (D : va_G) (g : Nat → ClassId) (ad : Nat → Nat) (tb : Nat) (sa : Nat → Nat) (w : Wd) (sz : Nat) (hl0 : l.stackTraces = false) (ro : Nat → Nat) (a : Nat) (σ : Nat → SD) (cnt : Nat) (γ : GU) (hI : xI g ad w ro a σ cnt γ) (f9 : Int32) : XI l D g ad tb sa yX_derive cX_derive 2 (some (.int)) 8 138 5 96 w sz [.ref a, .int f9] (fun x9 w' => ∃ f h ro', f < cnt ∧ h < cnt ∧ f9 = nI f ∧ f9 = nI h ∧ cnt < 40 ∧ x9 = nI cnt ∧ xI g ad w' ro' a (va_up σ cnt (6 + 1, f, h, 0, fun _ => 0, fun _ => 0)) (cnt + 1) γ ∧ kpM w ro w' ro') (fun E w' => w' = w ∧ ((E = xNI ∧ ¬ (inC cnt f9 ∧ inC cnt f9)) ∨ (E = xNS ∧ (inC cnt f9 ∧ inC cnt f9) ∧ ¬ cnt < 40))) := by
  obtain ⟨al, fh, T, pt, rfl, hX, hF, hT⟩ := hI
  refine hx_XI (by decide) (Nat.le_of_ble_eq_true rfl) ?_
  intro p e s m below meth c A ls hx hb hr hml hts hown hlocks hin hout hsz hW hK hk hS hAA hl
  have hl : lv_has ls 2 [(0, .ref (al 0)), (1, .int f9)] := hl
  have hc40 := hX.1
  refine lv_aload_n hx hb dX_derive_0 rfl (lv_at hl 0 rfl) ?_
  refine va_gets hx hb (hk.2.1.1 6 (by decide)).1 hS hown (hts _ bw_370) (fun _ h9 => h9) dX_derive_1 ?_
  refine lv_iload_n hx hb dX_derive_4 rfl (lv_at hl 1 rfl) ?_
  refine lv_iload_n hx hb dX_derive_5 rfl (lv_at hl 1 rfl) ?_
  refine kx_VI (n := 3) (As := [.ref (ad 6), .int f9, .int f9]) (rest := []) ⟨hx, hb, hml, hown, hts⟩ (c_X_combine l D g ad tb sa w s.heap.size hl0 ro (al 0) σ cnt γ ⟨al, fh, T, pt, rfl, hX, hF, hT⟩ 6 (by decide) f9 f9) bw_291 bw_293 bs_6 bw_1 bw_294 (by decide +kernel) rfl rfl hX.2.2.1.1 ⟨by decide, by decide⟩ hW hK hk hS hAA rfl hl.1 rfl (Nat.le_of_ble_eq_true rfl) dX_derive_6 ⟨by decide, by decide⟩ (fun E9 ce9 q9 w9 H9 locs9 hp9 hW9 hS9 hc1 hc2 hc3 => xo_go hout hlocks hK hS9 hW9 hc1 hc2 hc3 (hp9) (by decide) (by decide)) (fun r1 w2 H locs hp hW hS => ?_)
  exact vx_ret (W.iret (v := r1) hx hb hr (fun t ht hW9 => ⟨⟨r1, w2, rfl, hp, by rw [ht]; exact hW, va_K.moved hW9.alike hK⟩, hS.F ht⟩) hS.2.2 dX_derive_9)

set_option maxHeartbeats 1000000 in
set_option maxRecDepth 100000 in
theorem c_X_shift (l : Launch) (D : va_G) (g : Nat → ClassId) (ad : Nat → Nat) (tb : Nat) (sa : Nat → Nat) (w : Wd) (sz : Nat) (hl0 : l.stackTraces = false) (ro : Nat → Nat) (a : Nat) (σ : Nat → SD) (cnt : Nat) (γ : GU) (hI : xI g ad w ro a σ cnt γ) (f9 k9 : Int32) : XI l D g ad tb sa yX_shift cX_shift 5 (some (.int)) 7 112 4 90 w sz [.ref a, .int f9, .int k9] (fun x9 w' => ∃ f di ro', f < cnt ∧ f9 = nI f ∧ di < 9 ∧ k9 = nI di ∧ cnt < 40 ∧ x9 = nI cnt ∧ xI g ad w' ro' a (va_up σ cnt (4 + 1, f, f, di, fun _ => 0, fun _ => 0)) (cnt + 1) γ ∧ kpM w ro w' ro') (fun E w' => w' = w ∧ ((E = xNI ∧ ¬ inC cnt f9) ∨ (E = xNS ∧ inC cnt f9 ∧ ¬ cnt < 40) ∨ (E = xNA ∧ inC cnt f9 ∧ cnt < 40 ∧ ¬ inC 9 k9))) := by
  obtain ⟨al, fh, T, pt, rfl, hX, hF, hT⟩ := hI
  refine hx_XI (by decide) (Nat.le_of_ble_eq_true rfl) ?_
  intro p e s m below meth c A ls hx hb hr hml hts hown hlocks hin hout hsz hW hK hk hS hAA hl
  have hl : lv_has ls 5 [(0, .ref (al 0)), (1, .int f9), (2, .int k9)] := hl
  have hc40 := hX.1
  refine lv_aload_n hx hb dX_shift_0 rfl (lv_at hl 0 rfl) ?_
  refine lv_iload_n hx hb dX_shift_1 rfl (lv_at hl 1 rfl) ?_
  refine kx_VR (n := 1) (As := [.int f9]) (rest := []) ⟨hx, hb, hml, hown, hts⟩ (c_X_existing l D g ad tb sa w s.heap.size hl0 (al 0) (al 1) (al 2) (al 32) cnt (fun i => al (100 + i)) hc40 hX.2.2.1.1 hX.2.2.2.1.1 f9) bw_227 bw_229 bs_3 bw_1 bw_230 (by decide +kernel) rfl rfl hX.2.2.1.1 ⟨by decide, by decide⟩ hW hK hk hS hAA rfl hl.1 rfl (Nat.le_of_ble_eq_true rfl) dX_shift_2 ⟨by decide, by decide⟩ (fun E9 ce9 q9 w9 H9 locs9 hp9 hW9 hS9 hc1 hc2 hc3 => xo_go hout hlocks hK hS9 hW9 hc1 hc2 hc3 (⟨hp9.2.1, Or.inl ⟨hp9.1, hp9.2.2⟩⟩) (by decide) (by decide)) (fun r1 w2 H locs hp hW hS => ?_)
  obtain ⟨hw9, f, hfc, ef, hr9⟩ := hp
  rw [hw9] at hW
  subst hr9
  refine lv_astore_n (lv' := [(3, .ref (al (100 + f))), (0, .ref (al 0)), (1, .int f9), (2, .int k9)]) hx hb dX_shift_5 rfl hl (by decide) rfl (fun ls hl => ?_)
  refine lv_aload_n hx hb dX_shift_6 rfl (lv_at hl 1 rfl) ?_
  refine kx_VI (n := 0) (As := []) (rest := []) ⟨hx, hb, hml, hown, hts⟩ (c_X_freeNumber l D g ad tb sa w H.size hl0 (al 0) (al 1) (al 2) (al 32) cnt hc40 hX.2.2.1.1) bw_88 bw_90 bs_0 bw_1 bw_91 (by decide +kernel) rfl rfl hX.2.2.1.1 ⟨by decide, by decide⟩ hW hK hk hS hAA rfl hl.1 rfl (Nat.le_of_ble_eq_true rfl) dX_shift_7 ⟨by decide, by decide⟩ (fun E9 ce9 q9 w9 H9 locs9 hp9 hW9 hS9 hc1 hc2 hc3 => xo_go hout hlocks hK hS9 hW9 hc1 hc2 hc3 (⟨hp9.2.1, Or.inr (Or.inl ⟨hp9.1, ⟨f, hfc, ef⟩, hp9.2.2⟩)⟩) (by decide) (by decide)) (fun r3 w4 H locs hp hW hS => ?_)
  obtain ⟨hw9, hr9, hc4⟩ := hp
  rw [hw9] at hW
  subst hr9
  refine lv_istore (lv' := [(4, .int (nI cnt)), (3, .ref (al (100 + f))), (0, .ref (al 0)), (1, .int f9), (2, .int k9)]) hx hb dX_shift_10 hl (by decide) rfl (fun ls hl => ?_)
  refine lv_iload_n hx hb dX_shift_12 rfl (lv_at hl 4 rfl) ?_
  refine lv_if_lt (tgt := 22) hx hb dX_shift_13 (by decide) (fun n1 => ?_) (fun n1 => ?_)
  · have hno : ¬ inC 9 k9 := inC_neg (by omega) n1
    exact th_go (text := "the shift is not 0 to 8") hx hb hl0 thA (by simp [sTx]) hown hts hk hK hW hS (hl.1.trans hml.symm) dX_shift_22 dX_shift_25 dX_shift_26 dX_shift_28 dX_shift_31 hout hlocks (by decide) (by decide) (by decide) (by decide) (by decide) (by decide) (⟨rfl, Or.inr (Or.inr ⟨rfl, ⟨f, hfc, ef⟩, hc4, hno⟩)⟩)
  · refine lv_iload_n hx hb dX_shift_16 rfl (lv_at hl 4 rfl) ?_
    refine lv_bipush (v := nI 8) hx hb dX_shift_17 (by decide) ?_
    refine lv_icmp_le (tgt := 32) hx hb dX_shift_19 (by decide) (fun n2 => ?_) (fun n2 => ?_)
    · obtain ⟨di, hdc, edi⟩ := inC_le (n := 8) (by omega) n1 n2
      rw [edi] at hl
      refine lv_aload_n hx hb dX_shift_32 rfl (lv_at hl 2 rfl) ?_
      refine lv_iload hx hb dX_shift_33 (lv_at hl 0 rfl) ?_
      have hsf := hX.2.2.2.2 f hfc
      have hsg := hX.2.2.2.2 f hfc
      obtain ⟨cf, tf, hcf, hbf⟩ := sOb_any ad al f (σ f) (fh f) (pt f)
      obtain ⟨cg, tg, hcg, hbg⟩ := sOb_any ad al f (σ f) (fh f) (pt f)
      have obf := hsf.1.1
      rw [hbf] at obf
      have obg := hsg.1.1
      rw [hbg] at obg
      have zf := bz_le (fh f)
      have zg := bz_le (fh f)
      refine hw_new (C := RK) (T := TK) (N := 7) (ci := 2) (fs := [.null, .int (nI 0), .long (lN 0), .null, .null, .null, .int (nI 0)]) hx hb hts inK tyK tyK_ok hown (hts _ bw_295) (hts _ bw_296) (hts _ bw_14) hK hW hS hAA rfl (fun j hj => match j, hj with | 0, _ => rfl | 1, _ => rfl | 2, _ => rfl | 3, _ => rfl | 4, _ => rfl | 5, _ => rfl | 6, _ => rfl | j + 7, hj => absurd hj (by omega)) (by decide) (by decide) dX_shift_35 (fun q5 H hn_q5 hW hS => ?_)
      have z_q5 := hn_q5
      have ne6 : q5 ≠ (al 0) := fun h9 => by have h8 := hX.2.2.1.1; rw [← h9, hn_q5] at h8; cases h8
      have ne7 : q5 ≠ (al 1) := fun h9 => by have h8 := hX.2.2.2.1.1; rw [← h9, hn_q5] at h8; cases h8
      obtain ⟨w8, ew8⟩ : ∃ z, z = hwu w q5 (.inr (2, [.null, .int (nI 0), .long (lN 0), .null, .null, .null, .int (nI 0)])) := ⟨_, rfl⟩
      have hW : hw D vwCl A w8 H := by rw [ew8]; exact hW
      have hc9 : w8 (al 0) = some (.inr (0, [.ref (al 1), .int (nI cnt), .ref (al 2), .ref (al 32)])) := by rw [ew8]; exact hwu_old hn_q5 hX.2.2.1.1
      have hc10 : w8 (al 1) = some (qa (g 3) 40 (fun i => if i < cnt then some (al (100 + i)) else none)) := by rw [ew8]; exact hwu_old hn_q5 hX.2.2.2.1.1
      have hc11 : w8 q5 = some (.inr (2, [.null, .int (nI 0), .long (lN 0), .null, .null, .null, .int (nI 0)])) := by rw [ew8]; exact hwu_eq
      refine lv_dup hx hb dX_shift_38 rfl ?_
      refine lv_iload hx hb dX_shift_39 (lv_at hl 0 rfl) ?_
      refine va_gets hx hb (hk.2.1.1 4 (by decide)).1 hS hown (hts _ bw_352) (fun _ h9 => h9) dX_shift_41 ?_
      refine lv_aload_n hx hb dX_shift_44 rfl (lv_at hl 1 rfl) ?_
      refine lv_aload_n hx hb dX_shift_45 rfl (lv_at hl 1 rfl) ?_
      refine lv_iload_n hx hb dX_shift_46 rfl (lv_at hl 4 rfl) ?_
      refine kc_IV (n := 5) (As := [.int (nI cnt), .ref (ad 4), .ref (al (100 + f)), .ref (al (100 + f)), .int (nI di)]) (rest := [.ref q5, .int (nI cnt), .ref (al 0)]) ⟨hx, hb, hml, hown, hts⟩ (c_K_init l D g ad tb sa w8 H.size q5 cnt 4 (al (100 + f)) (al (100 + f)) di cf cg (al (200 + f)) (al (200 + f)) (bz (fh f)) (bz (fh f)) (pt f) (pt f) tf tg hcf hcg (ne_none hn_q5 hsf.1.1) (ne_none hn_q5 hsg.1.1) hc11 (by rw [ew8]; exact hwu_old hn_q5 obf) (by rw [ew8]; exact hwu_old hn_q5 obg)) bw_297 bw_298 bw_14 bw_299 rfl (by decide +kernel) ⟨by decide, by decide⟩ hW hK hk hS hAA rfl hl.1 rfl (Nat.le_of_ble_eq_true rfl) dX_shift_47 ⟨by decide, by decide⟩ (fun w13 H locs hp hW hS => ?_)
      obtain ⟨qn, z1, g0, g1, gF⟩ := hp
      have k0 : w13 (al 0) = some (.inr (0, [.ref (al 1), .int (nI cnt), .ref (al 2), .ref (al 32)])) := (gF _ (ne_none hn_q5 hX.2.2.1.1) (ne_none z1 hc9)).trans hc9
      have k1 : w13 (al 1) = some (qa (g 3) 40 (fun i => if i < cnt then some (al (100 + i)) else none)) := (gF _ (ne_none hn_q5 hX.2.2.2.1.1) (ne_none z1 hc10)).trans hc10
      refine kc_VI (n := 2) (As := [.int (nI cnt), .ref q5]) (rest := []) ⟨hx, hb, hml, hown, hts⟩ (c_X_keepK l D g ad tb sa w13 H.size (al 0) (al 1) (al 2) (al 32) cnt (fun i => al (100 + i)) hc40 k0 k1 hc4 q5 _ (fun q9 => ne_none hn_q5 hX.2.2.1.1 q9.symm) g0) bw_215 bw_217 bs_2 bw_1 bw_218 (by decide +kernel) rfl rfl k0 ⟨by decide, by decide⟩ hW hK hk hS hAA rfl hl.1 rfl (Nat.le_of_ble_eq_true rfl) dX_shift_50 ⟨by decide, by decide⟩ (fun r14 w15 H locs hp hW hS => ?_)
      obtain ⟨hr9, ew9⟩ := hp
      subst hr9
      rw [ew8] at z1
      obtain ⟨qnb, z1⟩ := hwu_none z1
      have h0b := ne_none hn_q5 hX.2.2.1.1
      have h1b := ne_none hn_q5 hX.2.2.2.1.1
      have h01 : al 1 ≠ al 0 := hX.2.2.2.1.ne hX.2.2.1 (by decide)
      have old : ∀ y e, w y = some e → y ≠ q5 ∧ y ≠ qn := fun y e hy => ⟨ne_none hn_q5 hy, ne_none z1 hy⟩
      have hkp : ∀ y e, w y = some e → ro y ≠ 0 → ro y ≠ 1 → w15 y = some e ∧ roN ro cnt q5 qn q5 q5 y = ro y := fun y e hy e0 e1 => ⟨by rw [ew9, hwu_ne (fr_at hX.2.2.1.2 e0), hwu_ne (fr_at hX.2.2.2.1.2 e1), gF y (old y e hy).1 (old y e hy).2, ew8, hwu_ne (old y e hy).1]; exact hy, roN_o (old y e hy).1 (old y e hy).2 (old y e hy).1 (old y e hy).1⟩
      have n_q5 := (show w15 q5 = w13 q5 by rw [ew9, hwu_ne (ne_none hn_q5 hX.2.2.1.1).symm, hwu_ne (ne_none hn_q5 hX.2.2.2.1.1).symm]).trans g0
      have n_qn := (show w15 qn = w13 qn by rw [ew9, hwu_ne (ne_none z1 hX.2.2.1.1).symm, hwu_ne (ne_none z1 hX.2.2.2.1.1).symm]).trans g1
      have hfin := xI.add (d := (4 + 1, f, f, di, fun _ => 0, fun _ => 0)) (al' := alN al cnt q5 qn q5 q5) (ro' := roN ro cnt q5 qn q5 q5) hX hF hT hc4 (fun r h9 => alN_o hc4 h9) hkp (by rw [ew9, hwu_eq]) (by rw [roN_o h0b (ne_none z1 hX.2.2.1.1) h0b h0b]; exact hX.2.2.1.2) (by rw [ew9, hwu_ne h01, hwu_eq, alN_b]) (by rw [roN_o h1b (ne_none z1 hX.2.2.2.1.1) h1b h1b]; exact hX.2.2.2.1.2) (fun _ => ⟨hfc, hfc⟩) (p := ((pt f ||| pt f) ||| (lN 1 <<< ((nI cnt).toInt64 &&& 63)))) (by
          unfold seqI
          rw [va_up_eq]
          refine ⟨⟨by rw [alN_b, sOb_1 (d := (4 + 1, f, f, di, fun _ => 0, fun _ => 0)) (Nat.succ_ne_zero 4)]; show _ = some (Sum.inr (2, [Value.ref (alN al cnt q5 qn q5 q5 (200 + cnt)), .int (nI (bz false)), .long _, .ref (ad 4), .ref (alN al cnt q5 qn q5 q5 (200 + f)), .ref (alN al cnt q5 qn q5 q5 (200 + f)), .int (nI di)])); rw [alN_q, alN_o hc4 (Or.inr (by omega))]; exact n_q5, by rw [alN_b, roN_b]⟩, ⟨by rw [alN_q]; exact n_qn, by rw [alN_q, roN_q qnb]⟩, fun _ _ => (by decide : 0 < 32003), fun h9 => absurd h9 (by decide), bitK hc4 hfc hfc (Nat.succ_ne_zero 4) rfl rfl hsf.2.2.2.2.1 hsg.2.2.2.2.1, fun h9 => absurd h9 (Nat.succ_ne_zero 4), fun _ => ⟨by show 4 + 1 ≤ 7; omega, by show di ≤ 8; omega⟩, fun _ _ => (by decide : 0 < 32003), fun _ _ => (by decide : 0 < 32003)⟩)
      refine W.widen (k := 4) (n := 90) (by decide) (by decide) ?_
      exact vx_ret (W.iret (v := nI cnt) hx hb hr (fun t ht hW9 => ⟨⟨nI cnt, w15, rfl, ⟨f, di, _, hfc, ef, hdc, edi, hc4, rfl, hfin⟩, by rw [ht]; exact hW, va_K.moved hW9.alike hK⟩, hS.F ht⟩) hS.2.2 dX_shift_53)
    · have hno : ¬ inC 9 k9 := inC_nle (by omega) n2
      exact th_go (text := "the shift is not 0 to 8") hx hb hl0 thA (by simp [sTx]) hown hts hk hK hW hS (hl.1.trans hml.symm) dX_shift_22 dX_shift_25 dX_shift_26 dX_shift_28 dX_shift_31 hout hlocks (by decide) (by decide) (by decide) (by decide) (by decide) (by decide) (⟨rfl, Or.inr (Or.inr ⟨rfl, ⟨f, hfc, ef⟩, hc4, hno⟩)⟩)
