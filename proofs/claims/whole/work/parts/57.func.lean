def inO (i : Int32) : Prop := ∃ o, 1 ≤ o ∧ o ≤ 3 ∧ i = nI o
theorem inO_lt {i : Int32} (h : i < nI 1) : ¬ inO i := by
  rintro ⟨o, h1, h3, rfl⟩
  rw [Int32.lt_iff_toInt_lt, nI_toInt (by omega), nI_toInt (by omega)] at h
  omega
theorem inO_gt {i : Int32} (h : ¬ i ≤ nI 3) : ¬ inO i := by
  rintro ⟨o, h1, h3, rfl⟩
  exact h ((nI_leI (by omega) (by omega)).mpr h3)
theorem inO_of {i : Int32} (h1 : ¬ i < nI 1) (h2 : i ≤ nI 3) : inO i := by
  rw [Int32.lt_iff_toInt_lt, nI_toInt (by omega)] at h1
  rw [Int32.le_iff_toInt_le, nI_toInt (by omega)] at h2
  refine ⟨i.toInt.toNat, by omega, by omega, i_eq ?_⟩
  rw [nI_toInt (by omega)]
  omega

set_option maxHeartbeats 1000000 in
set_option maxRecDepth 100000 in
theorem c_X_function (l : Launch) (D : va_G) (g : Nat → ClassId) (ad : Nat → Nat) (tb : Nat) (sa : Nat → Nat) (w : Wd) (sz : Nat) (hl0 : l.stackTraces = false) (ro : Nat → Nat) (a : Nat) (σ : Nat → SD) (cnt : Nat) (γ : GU) (hI : xI g ad w ro a σ cnt γ) (o9 : Int32) : XI l D g ad tb sa yX_function cX_function 3 (some (.int)) 7 110 5 160 w sz [.ref a, .int o9] (fun x9 w' => ∃ o ro', o9 = nI o ∧ 1 ≤ o ∧ o ≤ 3 ∧ cnt < 40 ∧ x9 = nI cnt ∧ xI g ad w' ro' a (va_up σ cnt (0, o, 0, 0, fun _ => 0, fun _ => 0)) (cnt + 1) γ ∧ kpM w ro w' ro') (fun E w' => w' = w ∧ ((E = xNS ∧ ¬ cnt < 40) ∨ (E = xNA ∧ cnt < 40 ∧ ¬ inO o9))) := by
  obtain ⟨al, fh, T, pt, rfl, hX, hF, hT⟩ := hI
  refine hx_XI (by decide) (Nat.le_of_ble_eq_true rfl) ?_
  intro p e s m below meth c A ls hx hb hr hml hts hown hlocks hin hout hsz hW hK hk hS hAA hl
  have hl : lv_has ls 3 [(0, .ref (al 0)), (1, .int o9)] := hl
  have hc40 := hX.1
  refine lv_aload_n hx hb dX_function_0 rfl (lv_at hl 0 rfl) ?_
  refine kx_VI (n := 0) (As := []) (rest := []) ⟨hx, hb, hml, hown, hts⟩ (c_X_freeNumber l D g ad tb sa w s.heap.size hl0 (al 0) (al 1) (al 2) (al 32) cnt hc40 hX.2.2.1.1) bw_88 bw_90 bs_0 bw_1 bw_91 (by decide +kernel) rfl rfl hX.2.2.1.1 ⟨by decide, by decide⟩ hW hK hk hS hAA rfl hl.1 rfl (Nat.le_of_ble_eq_true rfl) dX_function_1 ⟨by decide, by decide⟩ (fun E9 ce9 q9 w9 H9 locs9 hp9 hW9 hS9 hc1 hc2 hc3 => xo_go hout hlocks hK hS9 hW9 hc1 hc2 hc3 (⟨hp9.2.1, Or.inl ⟨hp9.1, hp9.2.2⟩⟩) (by decide) (by decide)) (fun r1 w2 H locs hp hW hS => ?_)
  obtain ⟨hw9, hr9, hc4⟩ := hp
  rw [hw9] at hW
  subst hr9
  refine lv_istore_n (lv' := [(2, .int (nI cnt)), (0, .ref (al 0)), (1, .int o9)]) hx hb dX_function_4 rfl hl (by decide) rfl (fun ls hl => ?_)
  refine lv_iload_n hx hb dX_function_5 rfl (lv_at hl 2 rfl) ?_
  refine lv_iconst (v := nI 1) hx hb dX_function_6 (by decide) ?_
  refine lv_icmp_lt (tgt := 15) hx hb dX_function_7 (by decide) (fun n1 => ?_) (fun n1 => ?_)
  · have hno : ¬ inO o9 := inO_lt n1
    exact th_go (text := "the order is not 1 to 3") hx hb hl0 thA (by simp [sTx]) hown hts hk hK hW hS (hl.1.trans hml.symm) dX_function_15 dX_function_18 dX_function_19 dX_function_21 dX_function_24 hout hlocks (by decide) (by decide) (by decide) (by decide) (by decide) (by decide) (⟨rfl, Or.inr ⟨rfl, hc4, hno⟩⟩)
  · refine lv_iload_n hx hb dX_function_10 rfl (lv_at hl 2 rfl) ?_
    refine lv_iconst (v := nI 3) hx hb dX_function_11 (by decide) ?_
    refine lv_icmp_le (tgt := 25) hx hb dX_function_12 (by decide) (fun n2 => ?_) (fun n2 => ?_)
    · obtain ⟨o, ho1, ho3, eo⟩ := inO_of n1 n2
      rw [eo] at hl
      refine lv_aload_n hx hb dX_function_25 rfl (lv_at hl 1 rfl) ?_
      refine lv_iload_n hx hb dX_function_26 rfl (lv_at hl 0 rfl) ?_
      refine hw_new (C := RR) (T := TR) (N := 6) (ci := 1) (fs := [.null, .int (nI 0), .long (lN 0), .int (nI 0), .null, .null]) hx hb hts inR tyR tyR_ok hown (hts _ bw_176) (hts _ bw_177) (hts _ bw_10) hK hW hS hAA rfl (fun j hj => match j, hj with | 0, _ => rfl | 1, _ => rfl | 2, _ => rfl | 3, _ => rfl | 4, _ => rfl | 5, _ => rfl | j + 6, hj => absurd hj (by omega)) (by decide) (by decide) dX_function_27 (fun q3 H hn_q3 hW hS => ?_)
      have z_q3 := hn_q3
      have ne4 : q3 ≠ (al 0) := fun h9 => by have h8 := hX.2.2.1.1; rw [← h9, hn_q3] at h8; cases h8
      have ne5 : q3 ≠ (al 1) := fun h9 => by have h8 := hX.2.2.2.1.1; rw [← h9, hn_q3] at h8; cases h8
      obtain ⟨w6, ew6⟩ : ∃ z, z = hwu w q3 (.inr (1, [.null, .int (nI 0), .long (lN 0), .int (nI 0), .null, .null])) := ⟨_, rfl⟩
      have hW : hw D vwCl A w6 H := by rw [ew6]; exact hW
      have hc7 : w6 (al 0) = some (.inr (0, [.ref (al 1), .int (nI cnt), .ref (al 2), .ref (al 32)])) := by rw [ew6]; exact hwu_old hn_q3 hX.2.2.1.1
      have hc8 : w6 (al 1) = some (qa (g 3) 40 (fun i => if i < cnt then some (al (100 + i)) else none)) := by rw [ew6]; exact hwu_old hn_q3 hX.2.2.2.1.1
      have hc9 : w6 q3 = some (.inr (1, [.null, .int (nI 0), .long (lN 0), .int (nI 0), .null, .null])) := by rw [ew6]; exact hwu_eq
      refine lv_dup hx hb dX_function_30 rfl ?_
      refine lv_iload_n hx hb dX_function_31 rfl (lv_at hl 0 rfl) ?_
      refine lv_iload_n hx hb dX_function_32 rfl (lv_at hl 2 rfl) ?_
      refine kc_IV (n := 2) (As := [.int (nI cnt), .int (nI o)]) (rest := [.ref q3, .int (nI cnt), .ref (al 0)]) ⟨hx, hb, hml, hown, hts⟩ (c_R_init l D g ad tb sa w6 H.size q3 cnt o ho3 hc9) bw_178 bw_179 bw_10 bw_180 rfl (by decide +kernel) ⟨by decide, by decide⟩ hW hK hk hS hAA rfl hl.1 rfl (Nat.le_of_ble_eq_true rfl) dX_function_33 ⟨by decide, by decide⟩ (fun w11 H locs hp hW hS => ?_)
      obtain ⟨qn, tn, fn, z1, z2, z3, y1, y2, y3, g0, g1, g2, g3, gF⟩ := hp
      have k0 : w11 (al 0) = some (.inr (0, [.ref (al 1), .int (nI cnt), .ref (al 2), .ref (al 32)])) := (gF _ (ne_none hn_q3 hX.2.2.1.1) (ne_none z1 hc7) (ne_none z2 hc7) (ne_none z3 hc7)).trans hc7
      have k1 : w11 (al 1) = some (qa (g 3) 40 (fun i => if i < cnt then some (al (100 + i)) else none)) := (gF _ (ne_none hn_q3 hX.2.2.2.1.1) (ne_none z1 hc8) (ne_none z2 hc8) (ne_none z3 hc8)).trans hc8
      refine kc_VI (n := 2) (As := [.int (nI cnt), .ref q3]) (rest := []) ⟨hx, hb, hml, hown, hts⟩ (c_X_keepR l D g ad tb sa w11 H.size (al 0) (al 1) (al 2) (al 32) cnt (fun i => al (100 + i)) hc40 k0 k1 hc4 q3 _ (fun q9 => ne_none hn_q3 hX.2.2.1.1 q9.symm) g0) bw_215 bw_217 bs_2 bw_1 bw_218 (by decide +kernel) rfl rfl k0 ⟨by decide, by decide⟩ hW hK hk hS hAA rfl hl.1 rfl (Nat.le_of_ble_eq_true rfl) dX_function_36 ⟨by decide, by decide⟩ (fun r12 w13 H locs hp hW hS => ?_)
      obtain ⟨hr9, ew9⟩ := hp
      subst hr9
      rw [ew6] at z1
      obtain ⟨qnb, z1⟩ := hwu_none z1
      rw [ew6] at z2
      obtain ⟨tnb, z2⟩ := hwu_none z2
      rw [ew6] at z3
      obtain ⟨fnb, z3⟩ := hwu_none z3
      have h0b := ne_none hn_q3 hX.2.2.1.1
      have h1b := ne_none hn_q3 hX.2.2.2.1.1
      have h01 : al 1 ≠ al 0 := hX.2.2.2.1.ne hX.2.2.1 (by decide)
      have old : ∀ y e, w y = some e → y ≠ q3 ∧ y ≠ qn ∧ y ≠ tn ∧ y ≠ fn := fun y e hy => ⟨ne_none hn_q3 hy, ne_none z1 hy, ne_none z2 hy, ne_none z3 hy⟩
      have hkp : ∀ y e, w y = some e → ro y ≠ 0 → ro y ≠ 1 → w13 y = some e ∧ roN ro cnt q3 qn fn tn y = ro y := fun y e hy e0 e1 => ⟨by rw [ew9, hwu_ne (fr_at hX.2.2.1.2 e0), hwu_ne (fr_at hX.2.2.2.1.2 e1), gF y (old y e hy).1 (old y e hy).2.1 (old y e hy).2.2.1 (old y e hy).2.2.2, ew6, hwu_ne (old y e hy).1]; exact hy, roN_o (old y e hy).1 (old y e hy).2.1 (old y e hy).2.2.2 (old y e hy).2.2.1⟩
      have n_q3 := (show w13 q3 = w11 q3 by rw [ew9, hwu_ne (ne_none hn_q3 hX.2.2.1.1).symm, hwu_ne (ne_none hn_q3 hX.2.2.2.1.1).symm]).trans g0
      have n_qn := (show w13 qn = w11 qn by rw [ew9, hwu_ne (ne_none z1 hX.2.2.1.1).symm, hwu_ne (ne_none z1 hX.2.2.2.1.1).symm]).trans g1
      have n_tn := (show w13 tn = w11 tn by rw [ew9, hwu_ne (ne_none z2 hX.2.2.1.1).symm, hwu_ne (ne_none z2 hX.2.2.2.1.1).symm]).trans g2
      have n_fn := (show w13 fn = w11 fn by rw [ew9, hwu_ne (ne_none z3 hX.2.2.1.1).symm, hwu_ne (ne_none z3 hX.2.2.2.1.1).symm]).trans g3
      have hfin := xI.add (d := (0, o, 0, 0, fun _ => 0, fun _ => 0)) (al' := alN al cnt q3 qn fn tn) (ro' := roN ro cnt q3 qn fn tn) hX hF hT hc4 (fun r h9 => alN_o hc4 h9) hkp (by rw [ew9, hwu_eq]) (by rw [roN_o h0b (ne_none z1 hX.2.2.1.1) (ne_none z3 hX.2.2.1.1) (ne_none z2 hX.2.2.1.1)]; exact hX.2.2.1.2) (by rw [ew9, hwu_ne h01, hwu_eq, alN_b]) (by rw [roN_o h1b (ne_none z1 hX.2.2.2.1.1) (ne_none z3 hX.2.2.2.1.1) (ne_none z2 hX.2.2.2.1.1)]; exact hX.2.2.2.1.2) (fun h9 => absurd rfl h9) (p := (lN 0 ||| (lN 1 <<< ((nI cnt).toInt64 &&& 63)))) (by
          unfold seqI
          rw [va_up_eq]
          refine ⟨⟨by rw [alN_b, sOb_0 rfl, alN_q, alN_f, alN_t]; exact n_q3, by rw [alN_b, roN_b]⟩, ⟨by rw [alN_q]; exact n_qn, by rw [alN_q, roN_q qnb]⟩, fun _ _ => (by decide : 0 < 32003), fun h9 => absurd h9 (by decide), bitR hc4 rfl, fun _ => ⟨ho1, ho3, ⟨by rw [alN_f]; exact n_fn, by rw [alN_f, roN_f fnb y2]⟩, ⟨by rw [alN_t]; exact n_tn, by rw [alN_t, roN_t tnb y1 y3.symm]⟩⟩, fun h9 => absurd rfl h9, fun _ _ => (by decide : 0 < 32003), fun _ _ => (by decide : 0 < 32003)⟩)
      refine W.widen (k := 5) (n := 160) (by decide) (by decide) ?_
      exact vx_ret (W.iret (v := nI cnt) hx hb hr (fun t ht hW9 => ⟨⟨nI cnt, w13, rfl, ⟨o, _, eo, ho1, ho3, hc4, rfl, hfin⟩, by rw [ht]; exact hW, va_K.moved hW9.alike hK⟩, hS.F ht⟩) hS.2.2 dX_function_39)
    · have hno : ¬ inO o9 := inO_gt n2
      exact th_go (text := "the order is not 1 to 3") hx hb hl0 thA (by simp [sTx]) hown hts hk hK hW hS (hl.1.trans hml.symm) dX_function_15 dX_function_18 dX_function_19 dX_function_21 dX_function_24 hout hlocks (by decide) (by decide) (by decide) (by decide) (by decide) (by decide) (⟨rfl, Or.inr ⟨rfl, hc4, hno⟩⟩)
