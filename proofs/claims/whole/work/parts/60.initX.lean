set_option maxHeartbeats 1000000 in
set_option maxRecDepth 100000 in
theorem c_X_init (l : Launch) (D : va_G) (g : Nat → ClassId) (ad : Nat → Nat) (tb : Nat) (sa : Nat → Nat) (w : Wd) (sz : Nat) (ro : Nat → Nat) (σ : Nat → SD) (a : Nat) (hra : ro a < 10000) (ha : w a = some (.inr (0, [.null, .int (nI 0), .null, .null]))) : MV l D g ad tb sa yX_init cX_init 1 none 2 32 53 1100 w sz [.ref a] (fun w' => ∃ ro', xI g ad w' ro' a σ 0 (0, 0, 0, fun _ _ => 0) ∧ kpM w ro w' ro') := by
  refine hm_MV (by decide) (Nat.le_of_ble_eq_true rfl) ?_
  intro p e s m below meth c A ls hx hb hr hml hts hown hlocks hin hout hsz hW hK hk hS hAA hl
  have hl : lv_has ls 1 [(0, .ref a)] := hl
  refine lv_aload_n hx hb dX_init_0 rfl (lv_at hl 0 rfl) ?_
  refine W.objInit (rest := []) hx hb hown (hts _ bw_21) (hts _ bw_22) (hts _ bw_23) rfl (hl.1.trans hml.symm) rfl dX_init_1 (Nat.le_of_ble_eq_true rfl) (Nat.le_of_ble_eq_true rfl) ?_
  show W _ _ _ _ _ _ _ _ _ _ _ _ _ _ _ (F0 m 4 ls [])
  refine lv_aload_n hx hb dX_init_4 rfl (lv_at hl 0 rfl) ?_
  refine lv_bipush (v := nI 40) hx hb dX_init_5 (by decide) ?_
  refine hw_newq (N' := 40) hx hb hown (hts _ bw_24) hk.2.2.2.2.2.2.2.1 hK hW hS hAA 3 rfl (nI_nneg (by omega)) (nI_clamp (by omega)) (by decide) (by decide) (by decide) dX_init_7 (fun q1 H hn_q1 hW hS => ?_)
  have z_q1 := hn_q1
  have ne2 : q1 ≠ a := fun h9 => by have h8 := ha; rw [← h9, hn_q1] at h8; cases h8
  obtain ⟨w3, ew3⟩ : ∃ z, z = hwu w q1 (qa (g 3) 40 (fun _ => none)) := ⟨_, rfl⟩
  have hW : hw D vwCl A w3 H := by rw [ew3]; exact hW
  have hc4 : w3 a = some (.inr (0, [.null, .int (nI 0), .null, .null])) := by rw [ew3]; exact hwu_old hn_q1 ha
  have hc5 : w3 q1 = some (qa (g 3) 40 (fun _ => none)) := by rw [ew3]; exact hwu_eq
  refine hw_putF (v := .ref q1) (ty := .array (.object "HolonomicRows$Sequence")) (C := RX) (T := TX) (N := 4) hx hb hts inX tyX tyX_ok nmX hown hK hW hS hc4 rfl 0 (by decide) (hts _ bw_62) (fun _ h9 => h9) rfl hin rfl (by decide +kernel) rfl rfl (Nat.le_of_ble_eq_true rfl) dX_init_10 (fun H locs hW hS => ?_)
  have hW : hw D vwCl A (hwu w3 a (.inr (0, [.ref q1, .int (nI 0), .null, .null]))) H := hW
  obtain ⟨w6, ew6⟩ : ∃ z, z = hwu w3 a (.inr (0, [.ref q1, .int (nI 0), .null, .null])) := ⟨_, rfl⟩
  rw [← ew6] at hW
  have hc7 : w6 q1 = some (qa (g 3) 40 (fun _ => none)) := by rw [ew6, hwu_ne ne2]; exact hc5
  have hc8 : w6 a = some (.inr (0, [.ref q1, .int (nI 0), .null, .null])) := by rw [ew6]; exact hwu_eq
  refine lv_aload_n hx hb dX_init_13 rfl (lv_at hl 0 rfl) ?_
  refine hw_new (C := RU) (T := TU) (N := 8) (ci := 3) (fs := [.null, .null, .null, .null, .int (nI 0), .int (nI 0), .int (nI 0), .int (nI 0)]) hx hb hts inU tyU tyU_ok hown (hts _ bw_26) (hts _ bw_27) (hts _ bw_2) hK hW hS hAA rfl (fun j hj => match j, hj with | 0, _ => rfl | 1, _ => rfl | 2, _ => rfl | 3, _ => rfl | 4, _ => rfl | 5, _ => rfl | 6, _ => rfl | 7, _ => rfl | j + 8, hj => absurd hj (by omega)) (by decide) (by decide) dX_init_14 (fun q9 H hn_q9 hW hS => ?_)
  have z_q9 := hn_q9
  have ne10 : q9 ≠ a := fun h9 => by have h8 := hc8; rw [← h9, hn_q9] at h8; cases h8
  have ne11 : q9 ≠ q1 := fun h9 => by have h8 := hc7; rw [← h9, hn_q9] at h8; cases h8
  obtain ⟨w12, ew12⟩ : ∃ z, z = hwu w6 q9 (.inr (3, [.null, .null, .null, .null, .int (nI 0), .int (nI 0), .int (nI 0), .int (nI 0)])) := ⟨_, rfl⟩
  have hW : hw D vwCl A w12 H := by rw [ew12]; exact hW
  have hc13 : w12 a = some (.inr (0, [.ref q1, .int (nI 0), .null, .null])) := by rw [ew12]; exact hwu_old hn_q9 hc8
  have hc14 : w12 q1 = some (qa (g 3) 40 (fun _ => none)) := by rw [ew12]; exact hwu_old hn_q9 hc7
  have hc15 : w12 q9 = some (.inr (3, [.null, .null, .null, .null, .int (nI 0), .int (nI 0), .int (nI 0), .int (nI 0)])) := by rw [ew12]; exact hwu_eq
  refine lv_dup hx hb dX_init_17 rfl ?_
  refine kc_NIV (n := 0) (As := []) (rest := [.ref q9, .ref a]) ⟨hx, hb, hml, hown, hts⟩ (c_U_init l D g ad tb sa w12 H.size q9 hc15) (hk.1 kw_28 (by simp [twL])) bw_29 bw_2 bw_30 rfl (by decide +kernel) ⟨by decide, by decide⟩ hW hK hk hS hAA rfl hl.1 rfl (Nat.le_of_ble_eq_true rfl) dX_init_18 ⟨by decide, by decide⟩ (fun w17 H locs hp hW hS => ?_)
  obtain ⟨eq1, la1, rw1, bg1, er1, e1_1, e2_1, e3_1, e4_1, e5_1, hR1, hD1, hE1, gF1⟩ := hp
  have hc18 : w17 a = some (.inr (0, [.ref q1, .int (nI 0), .null, .null])) := (gF1 _ (Ne.symm ne10) (ne_none e1_1 hc13) (ne_none e2_1 hc13) (ne_none e3_1 hc13) (ne_none e4_1 hc13) (fun i hi => ne_none (e5_1 i hi) hc13)).trans hc13
  have hc19 : w17 q1 = some (qa (g 3) 40 (fun _ => none)) := (gF1 _ (Ne.symm ne11) (ne_none e1_1 hc14) (ne_none e2_1 hc14) (ne_none e3_1 hc14) (ne_none e4_1 hc14) (fun i hi => ne_none (e5_1 i hi) hc14)).trans hc14
  have hc20 : w17 q9 = some (.inr (3, [.ref eq1, .ref la1, .ref rw1, .ref bg1, .int (nI 0), .int (nI 0), .int (nI 0), .int (nI 0)])) := hR1.1
  refine hw_putF (v := .ref q9) (ty := .object "HolonomicRows$Rules") (C := RX) (T := TX) (N := 4) hx hb hts inX tyX tyX_ok nmX hown hK hW hS hc18 rfl 2 (by decide) (hts _ bw_64) (fun _ h9 => h9) rfl hin rfl (by decide +kernel) rfl rfl (Nat.le_of_ble_eq_true rfl) dX_init_21 (fun H locs hW hS => ?_)
  have hW : hw D vwCl A (hwu w17 a (.inr (0, [.ref q1, .int (nI 0), .ref q9, .null]))) H := hW
  obtain ⟨w21, ew21⟩ : ∃ z, z = hwu w17 a (.inr (0, [.ref q1, .int (nI 0), .ref q9, .null])) := ⟨_, rfl⟩
  rw [← ew21] at hW
  have hc22 : w21 q1 = some (qa (g 3) 40 (fun _ => none)) := by rw [ew21, hwu_ne ne2]; exact hc19
  have hc23 : w21 q9 = some (.inr (3, [.ref eq1, .ref la1, .ref rw1, .ref bg1, .int (nI 0), .int (nI 0), .int (nI 0), .int (nI 0)])) := by rw [ew21, hwu_ne ne10]; exact hc20
  have hc24 : w21 a = some (.inr (0, [.ref q1, .int (nI 0), .ref q9, .null])) := by rw [ew21]; exact hwu_eq
  refine lv_aload_n hx hb dX_init_24 rfl (lv_at hl 0 rfl) ?_
  refine hw_new (C := RU) (T := TU) (N := 8) (ci := 3) (fs := [.null, .null, .null, .null, .int (nI 0), .int (nI 0), .int (nI 0), .int (nI 0)]) hx hb hts inU tyU tyU_ok hown (hts _ bw_26) (hts _ bw_27) (hts _ bw_2) hK hW hS hAA rfl (fun j hj => match j, hj with | 0, _ => rfl | 1, _ => rfl | 2, _ => rfl | 3, _ => rfl | 4, _ => rfl | 5, _ => rfl | 6, _ => rfl | 7, _ => rfl | j + 8, hj => absurd hj (by omega)) (by decide) (by decide) dX_init_25 (fun q25 H hn_q25 hW hS => ?_)
  have z_q25 := hn_q25
  have ne26 : q25 ≠ a := fun h9 => by have h8 := hc24; rw [← h9, hn_q25] at h8; cases h8
  have ne27 : q25 ≠ q1 := fun h9 => by have h8 := hc22; rw [← h9, hn_q25] at h8; cases h8
  have ne28 : q25 ≠ q9 := fun h9 => by have h8 := hc23; rw [← h9, hn_q25] at h8; cases h8
  obtain ⟨w29, ew29⟩ : ∃ z, z = hwu w21 q25 (.inr (3, [.null, .null, .null, .null, .int (nI 0), .int (nI 0), .int (nI 0), .int (nI 0)])) := ⟨_, rfl⟩
  have hW : hw D vwCl A w29 H := by rw [ew29]; exact hW
  have hc30 : w29 a = some (.inr (0, [.ref q1, .int (nI 0), .ref q9, .null])) := by rw [ew29]; exact hwu_old hn_q25 hc24
  have hc31 : w29 q1 = some (qa (g 3) 40 (fun _ => none)) := by rw [ew29]; exact hwu_old hn_q25 hc22
  have hc32 : w29 q9 = some (.inr (3, [.ref eq1, .ref la1, .ref rw1, .ref bg1, .int (nI 0), .int (nI 0), .int (nI 0), .int (nI 0)])) := by rw [ew29]; exact hwu_old hn_q25 hc23
  have hc33 : w29 q25 = some (.inr (3, [.null, .null, .null, .null, .int (nI 0), .int (nI 0), .int (nI 0), .int (nI 0)])) := by rw [ew29]; exact hwu_eq
  refine lv_dup hx hb dX_init_28 rfl ?_
  refine kc_NIV (n := 0) (As := []) (rest := [.ref q25, .ref a]) ⟨hx, hb, hml, hown, hts⟩ (c_U_init l D g ad tb sa w29 H.size q25 hc33) (hk.1 kw_28 (by simp [twL])) bw_29 bw_2 bw_30 rfl (by decide +kernel) ⟨by decide, by decide⟩ hW hK hk hS hAA rfl hl.1 rfl (Nat.le_of_ble_eq_true rfl) dX_init_29 ⟨by decide, by decide⟩ (fun w35 H locs hp hW hS => ?_)
  obtain ⟨eq2, la2, rw2, bg2, er2, e1_2, e2_2, e3_2, e4_2, e5_2, hR2, hD2, hE2, gF2⟩ := hp
  have hc36 : w35 a = some (.inr (0, [.ref q1, .int (nI 0), .ref q9, .null])) := (gF2 _ (Ne.symm ne26) (ne_none e1_2 hc30) (ne_none e2_2 hc30) (ne_none e3_2 hc30) (ne_none e4_2 hc30) (fun i hi => ne_none (e5_2 i hi) hc30)).trans hc30
  have hc37 : w35 q1 = some (qa (g 3) 40 (fun _ => none)) := (gF2 _ (Ne.symm ne27) (ne_none e1_2 hc31) (ne_none e2_2 hc31) (ne_none e3_2 hc31) (ne_none e4_2 hc31) (fun i hi => ne_none (e5_2 i hi) hc31)).trans hc31
  have hc38 : w35 q9 = some (.inr (3, [.ref eq1, .ref la1, .ref rw1, .ref bg1, .int (nI 0), .int (nI 0), .int (nI 0), .int (nI 0)])) := (gF2 _ (Ne.symm ne28) (ne_none e1_2 hc32) (ne_none e2_2 hc32) (ne_none e3_2 hc32) (ne_none e4_2 hc32) (fun i hi => ne_none (e5_2 i hi) hc32)).trans hc32
  have hc39 : w35 q25 = some (.inr (3, [.ref eq2, .ref la2, .ref rw2, .ref bg2, .int (nI 0), .int (nI 0), .int (nI 0), .int (nI 0)])) := hR2.1
  refine hw_putF (v := .ref q25) (ty := .object "HolonomicRows$Rules") (C := RX) (T := TX) (N := 4) hx hb hts inX tyX tyX_ok nmX hown hK hW hS hc36 rfl 3 (by decide) (hts _ bw_65) (fun _ h9 => h9) rfl hin rfl (by decide +kernel) rfl rfl (Nat.le_of_ble_eq_true rfl) dX_init_32 (fun H locs hW hS => ?_)
  have hW : hw D vwCl A (hwu w35 a (.inr (0, [.ref q1, .int (nI 0), .ref q9, .ref q25]))) H := hW
  obtain ⟨w40, ew40⟩ : ∃ z, z = hwu w35 a (.inr (0, [.ref q1, .int (nI 0), .ref q9, .ref q25])) := ⟨_, rfl⟩
  rw [← ew40] at hW
  have hc41 : w40 q1 = some (qa (g 3) 40 (fun _ => none)) := by rw [ew40, hwu_ne ne2]; exact hc37
  have hc42 : w40 q9 = some (.inr (3, [.ref eq1, .ref la1, .ref rw1, .ref bg1, .int (nI 0), .int (nI 0), .int (nI 0), .int (nI 0)])) := by rw [ew40, hwu_ne ne10]; exact hc38
  have hc43 : w40 q25 = some (.inr (3, [.ref eq2, .ref la2, .ref rw2, .ref bg2, .int (nI 0), .int (nI 0), .int (nI 0), .int (nI 0)])) := by rw [ew40, hwu_ne ne26]; exact hc39
  have hc44 : w40 a = some (.inr (0, [.ref q1, .int (nI 0), .ref q9, .ref q25])) := by rw [ew40]; exact hwu_eq
  have hsa : q1 ≠ a := ne2
  have hua : q9 ≠ a := ne10
  have hva : q25 ≠ a := ne26
  have hus : q9 ≠ q1 := ne11
  have hvs : q25 ≠ q1 := ne27
  obtain ⟨ro1, x1, o1⟩ := ruN (al := fun r => if r = 0 then a else q1) (ro := va_up (va_up ro q1 1) a 0) (B := 2) hR1 hD1 hE1 e1_1 e2_1 e3_1 e4_1 e5_1 (fun _ _ _ _ => (by decide : 0 < 32003)) (fun _ _ => (by decide : 0 < 32003))
  obtain ⟨ro2, x2, o2⟩ := ruN (al := bkN (fun r => if r = 0 then a else q1) 2 q9 eq1 la1 rw1 bg1 er1) (ro := ro1) (B := 32) hR2 hD2 hE2 e1_2 e2_2 e3_2 e4_2 e5_2 (fun _ _ _ _ => (by decide : 0 < 32003)) (fun _ _ => (by decide : 0 < 32003))
  have st1 : ∀ y e, w12 y = some e → y ≠ q9 → y ≠ a → w17 y = some e ∧ ro1 y = va_up (va_up ro q1 1) a 0 y := fun y e hy h1 h2 => ⟨(gF1 y h1 (ne_none e1_1 hy) (ne_none e2_1 hy) (ne_none e3_1 hy) (ne_none e4_1 hy) (fun i hi => ne_none (e5_1 i hi) hy)).trans hy, o1 y e hy h1⟩
  have st2 : ∀ y e, w17 y = some e → y ≠ a → w40 y = some e ∧ ro2 y = ro1 y := fun y e hy h2 => by
    have h5 : w21 y = some e := by rw [ew21, hwu_ne h2]; exact hy
    have h6 : w29 y = some e := by rw [ew29]; exact hwu_old hn_q25 h5
    have hyu : y ≠ q25 := ne_none hn_q25 h5
    have h7 : w35 y = some e := (gF2 y hyu (ne_none e1_2 h6) (ne_none e2_2 h6) (ne_none e3_2 h6) (ne_none e4_2 h6) (fun i hi => ne_none (e5_2 i hi) h6)).trans h6
    exact ⟨by rw [ew40, hwu_ne h2]; exact h7, o2 y e h6 hyu⟩
  have ra1 : ro1 a = 0 := by rw [o1 a _ (show w12 a = some _ from by rw [ew12]; exact hwu_old hn_q9 (by rw [ew6]; exact hwu_eq)) (Ne.symm hua), va_up_eq]
  have ra2 : ro2 a = 0 := by rw [o2 a _ (show w29 a = some _ from by rw [ew29]; exact hwu_old hn_q25 (by rw [ew21]; exact hwu_eq)) (Ne.symm hva), ra1]
  have hq3 : w12 q1 = some (qa (g 3) 40 (fun _ => none)) := by rw [ew12]; exact hwu_old hn_q9 (by rw [ew6, hwu_ne hsa, ew3]; exact hwu_eq)
  have s1 := st1 _ _ hq3 (Ne.symm hus) hsa
  have s2 := st2 _ _ s1.1 hsa
  have b0 : bkN (bkN (fun r => if r = 0 then a else q1) 2 q9 eq1 la1 rw1 bg1 er1) 32 q25 eq2 la2 rw2 bg2 er2 0 = a := by rw [bkN_o (by omega), bkN_o (by omega)]; rfl
  have b1 : bkN (bkN (fun r => if r = 0 then a else q1) 2 q9 eq1 la1 rw1 bg1 er1) 32 q25 eq2 la2 rw2 bg2 er2 1 = q1 := by rw [bkN_o (by omega), bkN_o (by omega)]; rfl
  have b2 : bkN (bkN (fun r => if r = 0 then a else q1) 2 q9 eq1 la1 rw1 bg1 er1) 32 q25 eq2 la2 rw2 bg2 er2 2 = q9 := by rw [bkN_o (by omega)]; exact bkN_0
  have hend : xI g ad w40 ro2 a σ 0 (0, 0, 0, fun _ _ => 0) ∧ kpM w ro w40 ro2 := by
    refine ⟨⟨bkN (bkN (fun r => if r = 0 then a else q1) 2 q9 eq1 la1 rw1 bg1 er1) 32 q25 eq2 la2 rw2 bg2 er2, fun _ => false, fun _ _ => 0, fun _ => 0, b0, ⟨by omega, fun i hi => absurd hi (by omega), ⟨?_, by rw [b0]; exact ra2⟩, ⟨?_, ?_⟩, fun i hi => absurd hi (by omega)⟩, ?_, ?_⟩, fun y e hy hr9 => ?_⟩
    · rw [b0, b1, b2, bkN_0]; exact hc44
    · rw [b1, s2.1]; rfl
    · rw [b1, s2.2, s1.2, va_up_no hsa, va_up_eq]
    · exact ⟨0, 0, 0, 0, _, _, _, _, x1.mv (fun r h8 h9 => bkN_o (by omega)) (fun y e hy h8 h9 => st2 y e hy (fun q9 => by rw [q9, ra1] at h8; omega)), rfl, by omega, fun h9 => absurd h9 (by omega)⟩
    · exact ⟨0, 0, 0, 0, _, _, _, _, x2.mv (fun _ _ _ => rfl) (fun y e hy h8 h9 => ⟨by rw [ew40, hwu_ne (fun q9 => by rw [q9, ra2] at h8; omega)]; exact hy, rfl⟩)⟩
    · have hya : y ≠ a := fun q9 => by rw [q9] at hr9; omega
      have h1 : w12 y = some e := by rw [ew12]; exact hwu_old hn_q9 (by rw [ew6, hwu_ne hya, ew3]; exact hwu_old hn_q1 hy)
      have t1 := st1 y e h1 (ne_none hn_q9 (by rw [ew6, hwu_ne hya, ew3]; exact hwu_old hn_q1 hy)) hya
      have t2 := st2 y e t1.1 hya
      exact ⟨t2.1, by rw [t2.2, t1.2, va_up_no hya, va_up_no (ne_none hn_q1 hy)]⟩
  refine W.widen (k := 53) (n := 1100) (by decide) (by decide) ?_
  exact W.vret hx hb hr (fun t ht hW9 => ⟨⟨w40, rfl, ⟨ro2, hend⟩, by rw [ht]; exact hW, va_K.moved hW9.alike hK⟩, hS.F ht⟩) hS.2.2 dX_init_35
