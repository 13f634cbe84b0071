set_option maxHeartbeats 1000000 in
set_option maxRecDepth 100000 in
theorem c_Q_initR (l : Launch) (D : va_G) (g : Nat → ClassId) (ad : Nat → Nat) (tb : Nat) (sa : Nat → Nat) (w : Wd) (sz : Nat) (a n : Nat) (pt0 : Int64) (ha : w a = some (.inr (1, [.null, .int (nI 0), .long (lN 0), .int (nI 0), .null, .null]))) : MV l D g ad tb sa yQ_init cQ_init 4 none 1 12 1 64 w sz [.ref a, .int (nI n), .long pt0] (fun w' => ∃ q, w q = none ∧ w' = hwu (hwu w q (ia (g 0) 64 (fun _ => 0))) a (.inr (1, [.ref q, .int (nI 0), .long (pt0 ||| (lN 1 <<< ((nI n).toInt64 &&& 63))), .int (nI 0), .null, .null]))) := by
  refine hm_MV (by decide) (Nat.le_of_ble_eq_true rfl) ?_
  intro p e s m below meth c A ls hx hb hr hml hts hown hlocks hin hout hsz hW hK hk hS hAA hl
  have hl : lv_has ls 4 [(0, .ref a), (1, .int (nI n)), (2, .long pt0)] := hl
  refine lv_aload_n hx hb dQ_init_0 rfl (lv_at hl 0 rfl) ?_
  refine W.objInit (rest := []) hx hb hown (hts _ bw_184) (hts _ bw_22) (hts _ bw_23) rfl (hl.1.trans hml.symm) rfl dQ_init_1 (Nat.le_of_ble_eq_true rfl) (Nat.le_of_ble_eq_true rfl) ?_
  show W _ _ _ _ _ _ _ _ _ _ _ _ _ _ _ (F0 m 4 ls [])
  refine lv_aload_n hx hb dQ_init_4 rfl (lv_at hl 0 rfl) ?_
  refine lv_bipush (v := nI 64) hx hb dQ_init_5 (by decide) ?_
  refine hw_newa (atype := .int) (N' := 64) (a0 := (64, .inl (ni (fun _ => 0)))) hx hb (hts _ bw_60) rfl hK hW hS hAA 0 rfl (fun c9 => rfl) (nI_nneg (by omega)) (nI_clamp (by omega)) (by show _ * 4 ≤ _; omega) (by decide) (by decide) dQ_init_7 (fun q1 H hn_q1 hW hS => ?_)
  obtain ⟨w2, ew2⟩ : ∃ z, z = hwu w q1 (ia (g 0) 64 (fun _ => 0)) := ⟨_, rfl⟩
  have hW : hw D vwCl A w2 H := by rw [ew2]; exact hW
  have hc3 : w2 a = some (.inr (1, [.null, .int (nI 0), .long (lN 0), .int (nI 0), .null, .null])) := by rw [ew2]; exact hwu_old hn_q1 ha
  have hc4 : w2 q1 = some (ia (g 0) 64 (fun _ => 0)) := by rw [ew2]; exact hwu_eq
  refine hw_putF (v := .ref q1) (ty := .array .int) (C := RR) (T := TR) (N := 6) hx hb hts inR tyR tyR_ok nmR hown hK hW hS hc3 rfl 0 (by decide) (hts _ bw_191) (fun _ h9 => h9) rfl hin rfl (by decide +kernel) rfl rfl (Nat.le_of_ble_eq_true rfl) dQ_init_9 (fun H locs hW hS => ?_)
  have hW : hw D vwCl A (hwu w2 a (.inr (1, [.ref q1, .int (nI 0), .long (lN 0), .int (nI 0), .null, .null]))) H := hW
  obtain ⟨w5, ew5⟩ : ∃ z, z = hwu w2 a (.inr (1, [.ref q1, .int (nI 0), .long (lN 0), .int (nI 0), .null, .null])) := ⟨_, rfl⟩
  rw [← ew5] at hW
  have hc6 : w5 q1 = some (ia (g 0) 64 (fun _ => 0)) := by rw [ew5, hwu_ne (hw_apart hc3 hc4 (by intro q; first | cases q | exact absurd q ia_ne_qa | exact absurd q.symm ia_ne_qa))]; exact hc4
  have hc7 : w5 a = some (.inr (1, [.ref q1, .int (nI 0), .long (lN 0), .int (nI 0), .null, .null])) := by rw [ew5]; exact hwu_eq
  refine lv_aload_n hx hb dQ_init_12 rfl (lv_at hl 0 rfl) ?_
  refine lv_lload_n hx hb dQ_init_13 rfl (lv_at hl 2 rfl) ?_
  refine lv_lconst (v := lN 1) hx hb dQ_init_14 (by decide) ?_
  refine lv_iload_n hx hb dQ_init_15 rfl (lv_at hl 1 rfl) ?_
  refine lv_lshl hx hb dQ_init_16 rfl ?_
  refine lv_lor hx hb dQ_init_17 ?_
  refine hw_putF (v := .long (pt0 ||| ((lN 1) <<< ((nI n).toInt64 &&& 63)))) (ty := .long) (C := RR) (T := TR) (N := 6) hx hb hts inR tyR tyR_ok nmR hown hK hW hS hc7 rfl 2 (by decide) (hts _ bw_201) (fun _ h9 => h9) rfl hin rfl (by decide +kernel) rfl rfl (Nat.le_of_ble_eq_true rfl) dQ_init_18 (fun H locs hW hS => ?_)
  have hW : hw D vwCl A (hwu w5 a (.inr (1, [.ref q1, .int (nI 0), .long (pt0 ||| ((lN 1) <<< ((nI n).toInt64 &&& 63))), .int (nI 0), .null, .null]))) H := hW
  obtain ⟨w8, ew8⟩ : ∃ z, z = hwu w5 a (.inr (1, [.ref q1, .int (nI 0), .long (pt0 ||| ((lN 1) <<< ((nI n).toInt64 &&& 63))), .int (nI 0), .null, .null])) := ⟨_, rfl⟩
  rw [← ew8] at hW
  have hc9 : w8 q1 = some (ia (g 0) 64 (fun _ => 0)) := by rw [ew8, hwu_ne (hw_apart hc7 hc6 (by intro q; first | cases q | exact absurd q ia_ne_qa | exact absurd q.symm ia_ne_qa))]; exact hc6
  have hc10 : w8 a = some (.inr (1, [.ref q1, .int (nI 0), .long (pt0 ||| ((lN 1) <<< ((nI n).toInt64 &&& 63))), .int (nI 0), .null, .null])) := by rw [ew8]; exact hwu_eq
  exact W.vret hx hb hr (fun t ht hW9 => ⟨⟨w8, rfl, ⟨q1, hn_q1, by rw [ew8, ew5, hwu_two, ew2]⟩, by rw [ht]; exact hW, va_K.moved hW9.alike hK⟩, hS.F ht⟩) hS.2.2 dQ_init_21

set_option maxHeartbeats 1000000 in
set_option maxRecDepth 100000 in
theorem c_Q_initK (l : Launch) (D : va_G) (g : Nat → ClassId) (ad : Nat → Nat) (tb : Nat) (sa : Nat → Nat) (w : Wd) (sz : Nat) (a n : Nat) (pt0 : Int64) (ha : w a = some (.inr (2, [.null, .int (nI 0), .long (lN 0), .null, .null, .null, .int (nI 0)]))) : MV l D g ad tb sa yQ_init cQ_init 4 none 1 12 1 64 w sz [.ref a, .int (nI n), .long pt0] (fun w' => ∃ q, w q = none ∧ w' = hwu (hwu w q (ia (g 0) 64 (fun _ => 0))) a (.inr (2, [.ref q, .int (nI 0), .long (pt0 ||| (lN 1 <<< ((nI n).toInt64 &&& 63))), .null, .null, .null, .int (nI 0)]))) := by
  refine hm_MV (by decide) (Nat.le_of_ble_eq_true rfl) ?_
  intro p e s m below meth c A ls hx hb hr hml hts hown hlocks hin hout hsz hW hK hk hS hAA hl
  have hl : lv_has ls 4 [(0, .ref a), (1, .int (nI n)), (2, .long pt0)] := hl
  refine lv_aload_n hx hb dQ_init_0 rfl (lv_at hl 0 rfl) ?_
  refine W.objInit (rest := []) hx hb hown (hts _ bw_184) (hts _ bw_22) (hts _ bw_23) rfl (hl.1.trans hml.symm) rfl dQ_init_1 (Nat.le_of_ble_eq_true rfl) (Nat.le_of_ble_eq_true rfl) ?_
  show W _ _ _ _ _ _ _ _ _ _ _ _ _ _ _ (F0 m 4 ls [])
  refine lv_aload_n hx hb dQ_init_4 rfl (lv_at hl 0 rfl) ?_
  refine lv_bipush (v := nI 64) hx hb dQ_init_5 (by decide) ?_
  refine hw_newa (atype := .int) (N' := 64) (a0 := (64, .inl (ni (fun _ => 0)))) hx hb (hts _ bw_60) rfl hK hW hS hAA 0 rfl (fun c9 => rfl) (nI_nneg (by omega)) (nI_clamp (by omega)) (by show _ * 4 ≤ _; omega) (by decide) (by decide) dQ_init_7 (fun q1 H hn_q1 hW hS => ?_)
  obtain ⟨w2, ew2⟩ : ∃ z, z = hwu w q1 (ia (g 0) 64 (fun _ => 0)) := ⟨_, rfl⟩
  have hW : hw D vwCl A w2 H := by rw [ew2]; exact hW
  have hc3 : w2 a = some (.inr (2, [.null, .int (nI 0), .long (lN 0), .null, .null, .null, .int (nI 0)])) := by rw [ew2]; exact hwu_old hn_q1 ha
  have hc4 : w2 q1 = some (ia (g 0) 64 (fun _ => 0)) := by rw [ew2]; exact hwu_eq
  refine hw_putF (v := .ref q1) (ty := .array .int) (C := RK) (T := TK) (N := 7) hx hb hts inK tyK tyK_ok nmK hown hK hW hS hc3 rfl 0 (by decide) (hts _ bw_191) (fun _ h9 => h9) rfl hin rfl (by decide +kernel) rfl rfl (Nat.le_of_ble_eq_true rfl) dQ_init_9 (fun H locs hW hS => ?_)
  have hW : hw D vwCl A (hwu w2 a (.inr (2, [.ref q1, .int (nI 0), .long (lN 0), .null, .null, .null, .int (nI 0)]))) H := hW
  obtain ⟨w5, ew5⟩ : ∃ z, z = hwu w2 a (.inr (2, [.ref q1, .int (nI 0), .long (lN 0), .null, .null, .null, .int (nI 0)])) := ⟨_, rfl⟩
  rw [← ew5] at hW
  have hc6 : w5 q1 = some (ia (g 0) 64 (fun _ => 0)) := by rw [ew5, hwu_ne (hw_apart hc3 hc4 (by intro q; first | cases q | exact absurd q ia_ne_qa | exact absurd q.symm ia_ne_qa))]; exact hc4
  have hc7 : w5 a = some (.inr (2, [.ref q1, .int (nI 0), .long (lN 0), .null, .null, .null, .int (nI 0)])) := by rw [ew5]; exact hwu_eq
  refine lv_aload_n hx hb dQ_init_12 rfl (lv_at hl 0 rfl) ?_
  refine lv_lload_n hx hb dQ_init_13 rfl (lv_at hl 2 rfl) ?_
  refine lv_lconst (v := lN 1) hx hb dQ_init_14 (by decide) ?_
  refine lv_iload_n hx hb dQ_init_15 rfl (lv_at hl 1 rfl) ?_
  refine lv_lshl hx hb dQ_init_16 rfl ?_
  refine lv_lor hx hb dQ_init_17 ?_
  refine hw_putF (v := .long (pt0 ||| ((lN 1) <<< ((nI n).toInt64 &&& 63)))) (ty := .long) (C := RK) (T := TK) (N := 7) hx hb hts inK tyK tyK_ok nmK hown hK hW hS hc7 rfl 2 (by decide) (hts _ bw_201) (fun _ h9 => h9) rfl hin rfl (by decide +kernel) rfl rfl (Nat.le_of_ble_eq_true rfl) dQ_init_18 (fun H locs hW hS => ?_)
  have hW : hw D vwCl A (hwu w5 a (.inr (2, [.ref q1, .int (nI 0), .long (pt0 ||| ((lN 1) <<< ((nI n).toInt64 &&& 63))), .null, .null, .null, .int (nI 0)]))) H := hW
  obtain ⟨w8, ew8⟩ : ∃ z, z = hwu w5 a (.inr (2, [.ref q1, .int (nI 0), .long (pt0 ||| ((lN 1) <<< ((nI n).toInt64 &&& 63))), .null, .null, .null, .int (nI 0)])) := ⟨_, rfl⟩
  rw [← ew8] at hW
  have hc9 : w8 q1 = some (ia (g 0) 64 (fun _ => 0)) := by rw [ew8, hwu_ne (hw_apart hc7 hc6 (by intro q; first | cases q | exact absurd q ia_ne_qa | exact absurd q.symm ia_ne_qa))]; exact hc6
  have hc10 : w8 a = some (.inr (2, [.ref q1, .int (nI 0), .long (pt0 ||| ((lN 1) <<< ((nI n).toInt64 &&& 63))), .null, .null, .null, .int (nI 0)])) := by rw [ew8]; exact hwu_eq
  exact W.vret hx hb hr (fun t ht hW9 => ⟨⟨w8, rfl, ⟨q1, hn_q1, by rw [ew8, ew5, hwu_two, ew2]⟩, by rw [ht]; exact hW, va_K.moved hW9.alike hK⟩, hS.F ht⟩) hS.2.2 dQ_init_21
