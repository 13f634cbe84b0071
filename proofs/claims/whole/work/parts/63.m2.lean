set_option maxHeartbeats 1000000 in
set_option maxRecDepth 100000 in
theorem c_M_init (l : Launch) (D : va_G) (g : Nat → ClassId) (ad : Nat → Nat) (tb : Nat) (sa : Nat → Nat) (w : Wd) (sz : Nat) (a : Nat) (ha : w a = some (.inr (4, [.int (nI 0), .int (nI 0), .null, .null, .null, .null, .null, .null, .null, .int (nI 0), .int (nI 0), .int (nI 0), .null, .null, .null, .null]))) : MV l D g ad tb sa yM_init cM_init 1 none 1 12 11 9000 w sz [.ref a] (fun w' => ∃ ml, moD ml ∧ moW g w' a ml 0 0 (fun _ => 0) (fun _ => 0) (fun _ => 0) (fun _ => 0) (fun _ => 0) (fun _ => 0) (fun _ => 0) 0 0 0 (fun _ => 0) (fun _ => 0) (fun _ => 0) (fun _ => false) ∧ (∀ i, i < 11 → w (ml i) = none) ∧ moF a ml w w') := by
  refine hm_MV (by decide) (Nat.le_of_ble_eq_true rfl) ?_
  intro p e s m below meth c A ls hx hb hr hml hts hown hlocks hin hout hsz hW hK hk hS hAA hl
  have hl : lv_has ls 1 [(0, .ref a)] := hl
  refine lv_aload_n hx hb dM_init_0 rfl (lv_at hl 0 rfl) ?_
  refine W.objInit (rest := []) hx hb hown (hts _ bw_516) (hts _ bw_22) (hts _ bw_23) rfl (hl.1.trans hml.symm) rfl dM_init_1 (Nat.le_of_ble_eq_true rfl) (Nat.le_of_ble_eq_true rfl) ?_
  show W _ _ _ _ _ _ _ _ _ _ _ _ _ _ _ (F0 m 4 ls [])
  refine lv_aload_n hx hb dM_init_4 rfl (lv_at hl 0 rfl) ?_
  refine lv_bipush (v := nI 40) hx hb dM_init_5 (by decide) ?_
  refine hw_newa (atype := .int) (N' := 40) (a0 := (40, .inl (ni (fun _ => 0)))) hx hb (hts _ bw_60) rfl hK hW hS hAA 0 rfl (fun c9 => rfl) (nI_nneg (by omega)) (nI_clamp (by omega)) (by show _ * 4 ≤ _; omega) (by decide) (by decide) dM_init_7 (fun q1 H hn_q1 hW hS => ?_)
  have z_q1 := hn_q1
  have ne2 : q1 ≠ a := fun h9 => by have h8 := ha; rw [← h9, hn_q1] at h8; cases h8
  obtain ⟨w3, ew3⟩ : ∃ z, z = hwu w q1 (ia (g 0) 40 (fun _ => 0)) := ⟨_, rfl⟩
  have hW : hw D vwCl A w3 H := by rw [ew3]; exact hW
  have hc4 : w3 a = some (.inr (4, [.int (nI 0), .int (nI 0), .null, .null, .null, .null, .null, .null, .null, .int (nI 0), .int (nI 0), .int (nI 0), .null, .null, .null, .null])) := by rw [ew3]; exact hwu_old hn_q1 ha
  have hc5 : w3 q1 = some (ia (g 0) 40 (fun _ => 0)) := by rw [ew3]; exact hwu_eq
  refine hw_putF (v := .ref q1) (ty := .array .int) (C := RM) (T := TM) (N := 16) hx hb hts inM tyM tyM_ok nmM hown hK hW hS hc4 rfl 2 (by decide) (hts _ bw_519) (fun _ h9 => h9) rfl hin rfl (by decide +kernel) rfl rfl (Nat.le_of_ble_eq_true rfl) dM_init_9 (fun H locs hW hS => ?_)
  have hW : hw D vwCl A (hwu w3 a (.inr (4, [.int (nI 0), .int (nI 0), .ref q1, .null, .null, .null, .null, .null, .null, .int (nI 0), .int (nI 0), .int (nI 0), .null, .null, .null, .null]))) H := hW
  obtain ⟨w6, ew6⟩ : ∃ z, z = hwu w3 a (.inr (4, [.int (nI 0), .int (nI 0), .ref q1, .null, .null, .null, .null, .null, .null, .int (nI 0), .int (nI 0), .int (nI 0), .null, .null, .null, .null])) := ⟨_, rfl⟩
  rw [← ew6] at hW
  have hc7 : w6 q1 = some (ia (g 0) 40 (fun _ => 0)) := by rw [ew6, hwu_ne ne2]; exact hc5
  have hc8 : w6 a = some (.inr (4, [.int (nI 0), .int (nI 0), .ref q1, .null, .null, .null, .null, .null, .null, .int (nI 0), .int (nI 0), .int (nI 0), .null, .null, .null, .null])) := by rw [ew6]; exact hwu_eq
  refine lv_aload_n hx hb dM_init_12 rfl (lv_at hl 0 rfl) ?_
  refine lv_bipush (v := nI 40) hx hb dM_init_13 (by decide) ?_
  refine hw_newa (atype := .int) (N' := 40) (a0 := (40, .inl (ni (fun _ => 0)))) hx hb (hts _ bw_60) rfl hK hW hS hAA 0 rfl (fun c9 => rfl) (nI_nneg (by omega)) (nI_clamp (by omega)) (by show _ * 4 ≤ _; omega) (by decide) (by decide) dM_init_15 (fun q9 H hn_q9 hW hS => ?_)
  have z_q9 := hn_q9
  rw [ew6] at z_q9
  obtain ⟨ne10, z_q9⟩ := hwu_none z_q9
  rw [ew3] at z_q9
  obtain ⟨ne11, z_q9⟩ := hwu_none z_q9
  obtain ⟨w12, ew12⟩ : ∃ z, z = hwu w6 q9 (ia (g 0) 40 (fun _ => 0)) := ⟨_, rfl⟩
  have hW : hw D vwCl A w12 H := by rw [ew12]; exact hW
  have hc13 : w12 a = some (.inr (4, [.int (nI 0), .int (nI 0), .ref q1, .null, .null, .null, .null, .null, .null, .int (nI 0), .int (nI 0), .int (nI 0), .null, .null, .null, .null])) := by rw [ew12]; exact hwu_old hn_q9 hc8
  have hc14 : w12 q1 = some (ia (g 0) 40 (fun _ => 0)) := by rw [ew12]; exact hwu_old hn_q9 hc7
  have hc15 : w12 q9 = some (ia (g 0) 40 (fun _ => 0)) := by rw [ew12]; exact hwu_eq
  refine hw_putF (v := .ref q9) (ty := .array .int) (C := RM) (T := TM) (N := 16) hx hb hts inM tyM tyM_ok nmM hown hK hW hS hc13 rfl 3 (by decide) (hts _ bw_520) (fun _ h9 => h9) rfl hin rfl (by decide +kernel) rfl rfl (Nat.le_of_ble_eq_true rfl) dM_init_17 (fun H locs hW hS => ?_)
  have hW : hw D vwCl A (hwu w12 a (.inr (4, [.int (nI 0), .int (nI 0), .ref q1, .ref q9, .null, .null, .null, .null, .null, .int (nI 0), .int (nI 0), .int (nI 0), .null, .null, .null, .null]))) H := hW
  obtain ⟨w16, ew16⟩ : ∃ z, z = hwu w12 a (.inr (4, [.int (nI 0), .int (nI 0), .ref q1, .ref q9, .null, .null, .null, .null, .null, .int (nI 0), .int (nI 0), .int (nI 0), .null, .null, .null, .null])) := ⟨_, rfl⟩
  rw [← ew16] at hW
  have hc17 : w16 q1 = some (ia (g 0) 40 (fun _ => 0)) := by rw [ew16, hwu_ne ne2]; exact hc14
  have hc18 : w16 q9 = some (ia (g 0) 40 (fun _ => 0)) := by rw [ew16, hwu_ne ne10]; exact hc15
  have hc19 : w16 a = some (.inr (4, [.int (nI 0), .int (nI 0), .ref q1, .ref q9, .null, .null, .null, .null, .null, .int (nI 0), .int (nI 0), .int (nI 0), .null, .null, .null, .null])) := by rw [ew16]; exact hwu_eq
  refine lv_aload_n hx hb dM_init_20 rfl (lv_at hl 0 rfl) ?_
  refine lv_bipush (v := nI 40) hx hb dM_init_21 (by decide) ?_
  refine hw_newa (atype := .int) (N' := 40) (a0 := (40, .inl (ni (fun _ => 0)))) hx hb (hts _ bw_60) rfl hK hW hS hAA 0 rfl (fun c9 => rfl) (nI_nneg (by omega)) (nI_clamp (by omega)) (by show _ * 4 ≤ _; omega) (by decide) (by decide) dM_init_23 (fun q20 H hn_q20 hW hS => ?_)
  have z_q20 := hn_q20
  rw [ew16] at z_q20
  obtain ⟨ne21, z_q20⟩ := hwu_none z_q20
  rw [ew12] at z_q20
  obtain ⟨ne22, z_q20⟩ := hwu_none z_q20
  rw [ew6] at z_q20
  obtain ⟨ne23, z_q20⟩ := hwu_none z_q20
  rw [ew3] at z_q20
  obtain ⟨ne24, z_q20⟩ := hwu_none z_q20
  obtain ⟨w25, ew25⟩ : ∃ z, z = hwu w16 q20 (ia (g 0) 40 (fun _ => 0)) := ⟨_, rfl⟩
  have hW : hw D vwCl A w25 H := by rw [ew25]; exact hW
  have hc26 : w25 a = some (.inr (4, [.int (nI 0), .int (nI 0), .ref q1, .ref q9, .null, .null, .null, .null, .null, .int (nI 0), .int (nI 0), .int (nI 0), .null, .null, .null, .null])) := by rw [ew25]; exact hwu_old hn_q20 hc19
  have hc27 : w25 q1 = some (ia (g 0) 40 (fun _ => 0)) := by rw [ew25]; exact hwu_old hn_q20 hc17
  have hc28 : w25 q9 = some (ia (g 0) 40 (fun _ => 0)) := by rw [ew25]; exact hwu_old hn_q20 hc18
  have hc29 : w25 q20 = some (ia (g 0) 40 (fun _ => 0)) := by rw [ew25]; exact hwu_eq
  refine hw_putF (v := .ref q20) (ty := .array .int) (C := RM) (T := TM) (N := 16) hx hb hts inM tyM tyM_ok nmM hown hK hW hS hc26 rfl 4 (by decide) (hts _ bw_521) (fun _ h9 => h9) rfl hin rfl (by decide +kernel) rfl rfl (Nat.le_of_ble_eq_true rfl) dM_init_25 (fun H locs hW hS => ?_)
  have hW : hw D vwCl A (hwu w25 a (.inr (4, [.int (nI 0), .int (nI 0), .ref q1, .ref q9, .ref q20, .null, .null, .null, .null, .int (nI 0), .int (nI 0), .int (nI 0), .null, .null, .null, .null]))) H := hW
  obtain ⟨w30, ew30⟩ : ∃ z, z = hwu w25 a (.inr (4, [.int (nI 0), .int (nI 0), .ref q1, .ref q9, .ref q20, .null, .null, .null, .null, .int (nI 0), .int (nI 0), .int (nI 0), .null, .null, .null, .null])) := ⟨_, rfl⟩
  rw [← ew30] at hW
  have hc31 : w30 q1 = some (ia (g 0) 40 (fun _ => 0)) := by rw [ew30, hwu_ne ne2]; exact hc27
  have hc32 : w30 q9 = some (ia (g 0) 40 (fun _ => 0)) := by rw [ew30, hwu_ne ne10]; exact hc28
  have hc33 : w30 q20 = some (ia (g 0) 40 (fun _ => 0)) := by rw [ew30, hwu_ne ne23]; exact hc29
  have hc34 : w30 a = some (.inr (4, [.int (nI 0), .int (nI 0), .ref q1, .ref q9, .ref q20, .null, .null, .null, .null, .int (nI 0), .int (nI 0), .int (nI 0), .null, .null, .null, .null])) := by rw [ew30]; exact hwu_eq
  refine lv_aload_n hx hb dM_init_28 rfl (lv_at hl 0 rfl) ?_
  refine lv_bipush (v := nI 40) hx hb dM_init_29 (by decide) ?_
  refine hw_newa (atype := .int) (N' := 40) (a0 := (40, .inl (ni (fun _ => 0)))) hx hb (hts _ bw_60) rfl hK hW hS hAA 0 rfl (fun c9 => rfl) (nI_nneg (by omega)) (nI_clamp (by omega)) (by show _ * 4 ≤ _; omega) (by decide) (by decide) dM_init_31 (fun q35 H hn_q35 hW hS => ?_)
  have z_q35 := hn_q35
  rw [ew30] at z_q35
  obtain ⟨ne36, z_q35⟩ := hwu_none z_q35
  rw [ew25] at z_q35
  obtain ⟨ne37, z_q35⟩ := hwu_none z_q35
  rw [ew16] at z_q35
  obtain ⟨ne38, z_q35⟩ := hwu_none z_q35
  rw [ew12] at z_q35
  obtain ⟨ne39, z_q35⟩ := hwu_none z_q35
  rw [ew6] at z_q35
  obtain ⟨ne40, z_q35⟩ := hwu_none z_q35
  rw [ew3] at z_q35
  obtain ⟨ne41, z_q35⟩ := hwu_none z_q35
  obtain ⟨w42, ew42⟩ : ∃ z, z = hwu w30 q35 (ia (g 0) 40 (fun _ => 0)) := ⟨_, rfl⟩
  have hW : hw D vwCl A w42 H := by rw [ew42]; exact hW
  have hc43 : w42 a = some (.inr (4, [.int (nI 0), .int (nI 0), .ref q1, .ref q9, .ref q20, .null, .null, .null, .null, .int (nI 0), .int (nI 0), .int (nI 0), .null, .null, .null, .null])) := by rw [ew42]; exact hwu_old hn_q35 hc34
  have hc44 : w42 q1 = some (ia (g 0) 40 (fun _ => 0)) := by rw [ew42]; exact hwu_old hn_q35 hc31
  have hc45 : w42 q9 = some (ia (g 0) 40 (fun _ => 0)) := by rw [ew42]; exact hwu_old hn_q35 hc32
  have hc46 : w42 q20 = some (ia (g 0) 40 (fun _ => 0)) := by rw [ew42]; exact hwu_old hn_q35 hc33
  have hc47 : w42 q35 = some (ia (g 0) 40 (fun _ => 0)) := by rw [ew42]; exact hwu_eq
  refine hw_putF (v := .ref q35) (ty := .array .int) (C := RM) (T := TM) (N := 16) hx hb hts inM tyM tyM_ok nmM hown hK hW hS hc43 rfl 5 (by decide) (hts _ bw_522) (fun _ h9 => h9) rfl hin rfl (by decide +kernel) rfl rfl (Nat.le_of_ble_eq_true rfl) dM_init_33 (fun H locs hW hS => ?_)
  have hW : hw D vwCl A (hwu w42 a (.inr (4, [.int (nI 0), .int (nI 0), .ref q1, .ref q9, .ref q20, .ref q35, .null, .null, .null, .int (nI 0), .int (nI 0), .int (nI 0), .null, .null, .null, .null]))) H := hW
  obtain ⟨w48, ew48⟩ : ∃ z, z = hwu w42 a (.inr (4, [.int (nI 0), .int (nI 0), .ref q1, .ref q9, .ref q20, .ref q35, .null, .null, .null, .int (nI 0), .int (nI 0), .int (nI 0), .null, .null, .null, .null])) := ⟨_, rfl⟩
  rw [← ew48] at hW
  have hc49 : w48 q1 = some (ia (g 0) 40 (fun _ => 0)) := by rw [ew48, hwu_ne ne2]; exact hc44
  have hc50 : w48 q9 = some (ia (g 0) 40 (fun _ => 0)) := by rw [ew48, hwu_ne ne10]; exact hc45
  have hc51 : w48 q20 = some (ia (g 0) 40 (fun _ => 0)) := by rw [ew48, hwu_ne ne23]; exact hc46
  have hc52 : w48 q35 = some (ia (g 0) 40 (fun _ => 0)) := by rw [ew48, hwu_ne ne40]; exact hc47
  have hc53 : w48 a = some (.inr (4, [.int (nI 0), .int (nI 0), .ref q1, .ref q9, .ref q20, .ref q35, .null, .null, .null, .int (nI 0), .int (nI 0), .int (nI 0), .null, .null, .null, .null])) := by rw [ew48]; exact hwu_eq
  refine lv_aload_n hx hb dM_init_36 rfl (lv_at hl 0 rfl) ?_
  refine lv_sipush (v := nI 480) hx hb dM_init_37 (by decide) ?_
  refine hw_newa (atype := .int) (N' := 480) (a0 := (480, .inl (ni (fun _ => 0)))) hx hb (hts _ bw_60) rfl hK hW hS hAA 0 rfl (fun c9 => rfl) (nI_nneg (by omega)) (nI_clamp (by omega)) (by show _ * 4 ≤ _; omega) (by decide) (by decide) dM_init_40 (fun q54 H hn_q54 hW hS => ?_)
  have z_q54 := hn_q54
  rw [ew48] at z_q54
  obtain ⟨ne55, z_q54⟩ := hwu_none z_q54
  rw [ew42] at z_q54
  obtain ⟨ne56, z_q54⟩ := hwu_none z_q54
  rw [ew30] at z_q54
  obtain ⟨ne57, z_q54⟩ := hwu_none z_q54
  rw [ew25] at z_q54
  obtain ⟨ne58, z_q54⟩ := hwu_none z_q54
  rw [ew16] at z_q54
  obtain ⟨ne59, z_q54⟩ := hwu_none z_q54
  rw [ew12] at z_q54
  obtain ⟨ne60, z_q54⟩ := hwu_none z_q54
  rw [ew6] at z_q54
  obtain ⟨ne61, z_q54⟩ := hwu_none z_q54
  rw [ew3] at z_q54
  obtain ⟨ne62, z_q54⟩ := hwu_none z_q54
  obtain ⟨w63, ew63⟩ : ∃ z, z = hwu w48 q54 (ia (g 0) 480 (fun _ => 0)) := ⟨_, rfl⟩
  have hW : hw D vwCl A w63 H := by rw [ew63]; exact hW
  have hc64 : w63 a = some (.inr (4, [.int (nI 0), .int (nI 0), .ref q1, .ref q9, .ref q20, .ref q35, .null, .null, .null, .int (nI 0), .int (nI 0), .int (nI 0), .null, .null, .null, .null])) := by rw [ew63]; exact hwu_old hn_q54 hc53
  have hc65 : w63 q1 = some (ia (g 0) 40 (fun _ => 0)) := by rw [ew63]; exact hwu_old hn_q54 hc49
  have hc66 : w63 q9 = some (ia (g 0) 40 (fun _ => 0)) := by rw [ew63]; exact hwu_old hn_q54 hc50
  have hc67 : w63 q20 = some (ia (g 0) 40 (fun _ => 0)) := by rw [ew63]; exact hwu_old hn_q54 hc51
  have hc68 : w63 q35 = some (ia (g 0) 40 (fun _ => 0)) := by rw [ew63]; exact hwu_old hn_q54 hc52
  have hc69 : w63 q54 = some (ia (g 0) 480 (fun _ => 0)) := by rw [ew63]; exact hwu_eq
  refine hw_putF (v := .ref q54) (ty := .array .int) (C := RM) (T := TM) (N := 16) hx hb hts inM tyM tyM_ok nmM hown hK hW hS hc64 rfl 6 (by decide) (hts _ bw_523) (fun _ h9 => h9) rfl hin rfl (by decide +kernel) rfl rfl (Nat.le_of_ble_eq_true rfl) dM_init_42 (fun H locs hW hS => ?_)
  have hW : hw D vwCl A (hwu w63 a (.inr (4, [.int (nI 0), .int (nI 0), .ref q1, .ref q9, .ref q20, .ref q35, .ref q54, .null, .null, .int (nI 0), .int (nI 0), .int (nI 0), .null, .null, .null, .null]))) H := hW
  obtain ⟨w70, ew70⟩ : ∃ z, z = hwu w63 a (.inr (4, [.int (nI 0), .int (nI 0), .ref q1, .ref q9, .ref q20, .ref q35, .ref q54, .null, .null, .int (nI 0), .int (nI 0), .int (nI 0), .null, .null, .null, .null])) := ⟨_, rfl⟩
  rw [← ew70] at hW
  have hc71 : w70 q1 = some (ia (g 0) 40 (fun _ => 0)) := by rw [ew70, hwu_ne ne2]; exact hc65
  have hc72 : w70 q9 = some (ia (g 0) 40 (fun _ => 0)) := by rw [ew70, hwu_ne ne10]; exact hc66
  have hc73 : w70 q20 = some (ia (g 0) 40 (fun _ => 0)) := by rw [ew70, hwu_ne ne23]; exact hc67
  have hc74 : w70 q35 = some (ia (g 0) 40 (fun _ => 0)) := by rw [ew70, hwu_ne ne40]; exact hc68
  have hc75 : w70 q54 = some (ia (g 0) 480 (fun _ => 0)) := by rw [ew70, hwu_ne ne61]; exact hc69
  have hc76 : w70 a = some (.inr (4, [.int (nI 0), .int (nI 0), .ref q1, .ref q9, .ref q20, .ref q35, .ref q54, .null, .null, .int (nI 0), .int (nI 0), .int (nI 0), .null, .null, .null, .null])) := by rw [ew70]; exact hwu_eq
  refine lv_aload_n hx hb dM_init_45 rfl (lv_at hl 0 rfl) ?_
  refine lv_sipush (v := nI 2560) hx hb dM_init_46 (by decide) ?_
  refine hw_newa (atype := .int) (N' := 2560) (a0 := (2560, .inl (ni (fun _ => 0)))) hx hb (hts _ bw_60) rfl hK hW hS hAA 0 rfl (fun c9 => rfl) (nI_nneg (by omega)) (nI_clamp (by omega)) (by show _ * 4 ≤ _; omega) (by decide) (by decide) dM_init_49 (fun q77 H hn_q77 hW hS => ?_)
  have z_q77 := hn_q77
  rw [ew70] at z_q77
  obtain ⟨ne78, z_q77⟩ := hwu_none z_q77
  rw [ew63] at z_q77
  obtain ⟨ne79, z_q77⟩ := hwu_none z_q77
  rw [ew48] at z_q77
  obtain ⟨ne80, z_q77⟩ := hwu_none z_q77
  rw [ew42] at z_q77
  obtain ⟨ne81, z_q77⟩ := hwu_none z_q77
  rw [ew30] at z_q77
  obtain ⟨ne82, z_q77⟩ := hwu_none z_q77
  rw [ew25] at z_q77
  obtain ⟨ne83, z_q77⟩ := hwu_none z_q77
  rw [ew16] at z_q77
  obtain ⟨ne84, z_q77⟩ := hwu_none z_q77
  rw [ew12] at z_q77
  obtain ⟨ne85, z_q77⟩ := hwu_none z_q77
  rw [ew6] at z_q77
  obtain ⟨ne86, z_q77⟩ := hwu_none z_q77
  rw [ew3] at z_q77
  obtain ⟨ne87, z_q77⟩ := hwu_none z_q77
  obtain ⟨w88, ew88⟩ : ∃ z, z = hwu w70 q77 (ia (g 0) 2560 (fun _ => 0)) := ⟨_, rfl⟩
  have hW : hw D vwCl A w88 H := by rw [ew88]; exact hW
  have hc89 : w88 a = some (.inr (4, [.int (nI 0), .int (nI 0), .ref q1, .ref q9, .ref q20, .ref q35, .ref q54, .null, .null, .int (nI 0), .int (nI 0), .int (nI 0), .null, .null, .null, .null])) := by rw [ew88]; exact hwu_old hn_q77 hc76
  have hc90 : w88 q1 = some (ia (g 0) 40 (fun _ => 0)) := by rw [ew88]; exact hwu_old hn_q77 hc71
  have hc91 : w88 q9 = some (ia (g 0) 40 (fun _ => 0)) := by rw [ew88]; exact hwu_old hn_q77 hc72
  have hc92 : w88 q20 = some (ia (g 0) 40 (fun _ => 0)) := by rw [ew88]; exact hwu_old hn_q77 hc73
  have hc93 : w88 q35 = some (ia (g 0) 40 (fun _ => 0)) := by rw [ew88]; exact hwu_old hn_q77 hc74
  have hc94 : w88 q54 = some (ia (g 0) 480 (fun _ => 0)) := by rw [ew88]; exact hwu_old hn_q77 hc75
  have hc95 : w88 q77 = some (ia (g 0) 2560 (fun _ => 0)) := by rw [ew88]; exact hwu_eq
  refine hw_putF (v := .ref q77) (ty := .array .int) (C := RM) (T := TM) (N := 16) hx hb hts inM tyM tyM_ok nmM hown hK hW hS hc89 rfl 7 (by decide) (hts _ bw_524) (fun _ h9 => h9) rfl hin rfl (by decide +kernel) rfl rfl (Nat.le_of_ble_eq_true rfl) dM_init_51 (fun H locs hW hS => ?_)
  have hW : hw D vwCl A (hwu w88 a (.inr (4, [.int (nI 0), .int (nI 0), .ref q1, .ref q9, .ref q20, .ref q35, .ref q54, .ref q77, .null, .int (nI 0), .int (nI 0), .int (nI 0), .null, .null, .null, .null]))) H := hW
  obtain ⟨w96, ew96⟩ : ∃ z, z = hwu w88 a (.inr (4, [.int (nI 0), .int (nI 0), .ref q1, .ref q9, .ref q20, .ref q35, .ref q54, .ref q77, .null, .int (nI 0), .int (nI 0), .int (nI 0), .null, .null, .null, .null])) := ⟨_, rfl⟩
  rw [← ew96] at hW
  have hc97 : w96 q1 = some (ia (g 0) 40 (fun _ => 0)) := by rw [ew96, hwu_ne ne2]; exact hc90
  have hc98 : w96 q9 = some (ia (g 0) 40 (fun _ => 0)) := by rw [ew96, hwu_ne ne10]; exact hc91
  have hc99 : w96 q20 = some (ia (g 0) 40 (fun _ => 0)) := by rw [ew96, hwu_ne ne23]; exact hc92
  have hc100 : w96 q35 = some (ia (g 0) 40 (fun _ => 0)) := by rw [ew96, hwu_ne ne40]; exact hc93
  have hc101 : w96 q54 = some (ia (g 0) 480 (fun _ => 0)) := by rw [ew96, hwu_ne ne61]; exact hc94
  have hc102 : w96 q77 = some (ia (g 0) 2560 (fun _ => 0)) := by rw [ew96, hwu_ne ne86]; exact hc95
  have hc103 : w96 a = some (.inr (4, [.int (nI 0), .int (nI 0), .ref q1, .ref q9, .ref q20, .ref q35, .ref q54, .ref q77, .null, .int (nI 0), .int (nI 0), .int (nI 0), .null, .null, .null, .null])) := by rw [ew96]; exact hwu_eq
  refine lv_aload_n hx hb dM_init_54 rfl (lv_at hl 0 rfl) ?_
  refine lv_sipush (v := nI 2560) hx hb dM_init_55 (by decide) ?_
  refine hw_newa (atype := .long) (N' := 2560) (a0 := (2560, .inr (.inl (fun _ => 0)))) hx hb (hts _ bw_566) rfl hK hW hS hAA 2 rfl (fun c9 => rfl) (nI_nneg (by omega)) (nI_clamp (by omega)) (by show _ * 8 ≤ _; omega) (by decide) (by decide) dM_init_58 (fun q104 H hn_q104 hW hS => ?_)
  have z_q104 := hn_q104
  rw [ew96] at z_q104
  obtain ⟨ne105, z_q104⟩ := hwu_none z_q104
  rw [ew88] at z_q104
  obtain ⟨ne106, z_q104⟩ := hwu_none z_q104
  rw [ew70] at z_q104
  obtain ⟨ne107, z_q104⟩ := hwu_none z_q104
  rw [ew63] at z_q104
  obtain ⟨ne108, z_q104⟩ := hwu_none z_q104
  rw [ew48] at z_q104
  obtain ⟨ne109, z_q104⟩ := hwu_none z_q104
  rw [ew42] at z_q104
  obtain ⟨ne110, z_q104⟩ := hwu_none z_q104
  rw [ew30] at z_q104
  obtain ⟨ne111, z_q104⟩ := hwu_none z_q104
  rw [ew25] at z_q104
  obtain ⟨ne112, z_q104⟩ := hwu_none z_q104
  rw [ew16] at z_q104
  obtain ⟨ne113, z_q104⟩ := hwu_none z_q104
  rw [ew12] at z_q104
  obtain ⟨ne114, z_q104⟩ := hwu_none z_q104
  rw [ew6] at z_q104
  obtain ⟨ne115, z_q104⟩ := hwu_none z_q104
  rw [ew3] at z_q104
  obtain ⟨ne116, z_q104⟩ := hwu_none z_q104
  obtain ⟨w117, ew117⟩ : ∃ z, z = hwu w96 q104 (la (g 2) 2560 (fun _ => 0)) := ⟨_, rfl⟩
  have hW : hw D vwCl A w117 H := by rw [ew117]; exact hW
  have hc118 : w117 a = some (.inr (4, [.int (nI 0), .int (nI 0), .ref q1, .ref q9, .ref q20, .ref q35, .ref q54, .ref q77, .null, .int (nI 0), .int (nI 0), .int (nI 0), .null, .null, .null, .null])) := by rw [ew117]; exact hwu_old hn_q104 hc103
  have hc119 : w117 q1 = some (ia (g 0) 40 (fun _ => 0)) := by rw [ew117]; exact hwu_old hn_q104 hc97
  have hc120 : w117 q9 = some (ia (g 0) 40 (fun _ => 0)) := by rw [ew117]; exact hwu_old hn_q104 hc98
  have hc121 : w117 q20 = some (ia (g 0) 40 (fun _ => 0)) := by rw [ew117]; exact hwu_old hn_q104 hc99
  have hc122 : w117 q35 = some (ia (g 0) 40 (fun _ => 0)) := by rw [ew117]; exact hwu_old hn_q104 hc100
  have hc123 : w117 q54 = some (ia (g 0) 480 (fun _ => 0)) := by rw [ew117]; exact hwu_old hn_q104 hc101
  have hc124 : w117 q77 = some (ia (g 0) 2560 (fun _ => 0)) := by rw [ew117]; exact hwu_old hn_q104 hc102
  have hc125 : w117 q104 = some (la (g 2) 2560 (fun _ => 0)) := by rw [ew117]; exact hwu_eq
  refine hw_putF (v := .ref q104) (ty := .array .long) (C := RM) (T := TM) (N := 16) hx hb hts inM tyM tyM_ok nmM hown hK hW hS hc118 rfl 8 (by decide) (hts _ bw_525) (fun _ h9 => h9) rfl hin rfl (by decide +kernel) rfl rfl (Nat.le_of_ble_eq_true rfl) dM_init_60 (fun H locs hW hS => ?_)
  have hW : hw D vwCl A (hwu w117 a (.inr (4, [.int (nI 0), .int (nI 0), .ref q1, .ref q9, .ref q20, .ref q35, .ref q54, .ref q77, .ref q104, .int (nI 0), .int (nI 0), .int (nI 0), .null, .null, .null, .null]))) H := hW
  obtain ⟨w126, ew126⟩ : ∃ z, z = hwu w117 a (.inr (4, [.int (nI 0), .int (nI 0), .ref q1, .ref q9, .ref q20, .ref q35, .ref q54, .ref q77, .ref q104, .int (nI 0), .int (nI 0), .int (nI 0), .null, .null, .null, .null])) := ⟨_, rfl⟩
  rw [← ew126] at hW
  have hc127 : w126 q1 = some (ia (g 0) 40 (fun _ => 0)) := by rw [ew126, hwu_ne ne2]; exact hc119
  have hc128 : w126 q9 = some (ia (g 0) 40 (fun _ => 0)) := by rw [ew126, hwu_ne ne10]; exact hc120
  have hc129 : w126 q20 = some (ia (g 0) 40 (fun _ => 0)) := by rw [ew126, hwu_ne ne23]; exact hc121
  have hc130 : w126 q35 = some (ia (g 0) 40 (fun _ => 0)) := by rw [ew126, hwu_ne ne40]; exact hc122
  have hc131 : w126 q54 = some (ia (g 0) 480 (fun _ => 0)) := by rw [ew126, hwu_ne ne61]; exact hc123
  have hc132 : w126 q77 = some (ia (g 0) 2560 (fun _ => 0)) := by rw [ew126, hwu_ne ne86]; exact hc124
  have hc133 : w126 q104 = some (la (g 2) 2560 (fun _ => 0)) := by rw [ew126, hwu_ne ne115]; exact hc125
  have hc134 : w126 a = some (.inr (4, [.int (nI 0), .int (nI 0), .ref q1, .ref q9, .ref q20, .ref q35, .ref q54, .ref q77, .ref q104, .int (nI 0), .int (nI 0), .int (nI 0), .null, .null, .null, .null])) := by rw [ew126]; exact hwu_eq
  refine lv_aload_n hx hb dM_init_63 rfl (lv_at hl 0 rfl) ?_
  refine lv_sipush (v := nI 400) hx hb dM_init_64 (by decide) ?_
  refine hw_newa (atype := .long) (N' := 400) (a0 := (400, .inr (.inl (fun _ => 0)))) hx hb (hts _ bw_566) rfl hK hW hS hAA 2 rfl (fun c9 => rfl) (nI_nneg (by omega)) (nI_clamp (by omega)) (by show _ * 8 ≤ _; omega) (by decide) (by decide) dM_init_67 (fun q135 H hn_q135 hW hS => ?_)
  have z_q135 := hn_q135
  rw [ew126] at z_q135
  obtain ⟨ne136, z_q135⟩ := hwu_none z_q135
  rw [ew117] at z_q135
  obtain ⟨ne137, z_q135⟩ := hwu_none z_q135
  rw [ew96] at z_q135
  obtain ⟨ne138, z_q135⟩ := hwu_none z_q135
  rw [ew88] at z_q135
  obtain ⟨ne139, z_q135⟩ := hwu_none z_q135
  rw [ew70] at z_q135
  obtain ⟨ne140, z_q135⟩ := hwu_none z_q135
  rw [ew63] at z_q135
  obtain ⟨ne141, z_q135⟩ := hwu_none z_q135
  rw [ew48] at z_q135
  obtain ⟨ne142, z_q135⟩ := hwu_none z_q135
  rw [ew42] at z_q135
  obtain ⟨ne143, z_q135⟩ := hwu_none z_q135
  rw [ew30] at z_q135
  obtain ⟨ne144, z_q135⟩ := hwu_none z_q135
  rw [ew25] at z_q135
  obtain ⟨ne145, z_q135⟩ := hwu_none z_q135
  rw [ew16] at z_q135
  obtain ⟨ne146, z_q135⟩ := hwu_none z_q135
  rw [ew12] at z_q135
  obtain ⟨ne147, z_q135⟩ := hwu_none z_q135
  rw [ew6] at z_q135
  obtain ⟨ne148, z_q135⟩ := hwu_none z_q135
  rw [ew3] at z_q135
  obtain ⟨ne149, z_q135⟩ := hwu_none z_q135
  obtain ⟨w150, ew150⟩ : ∃ z, z = hwu w126 q135 (la (g 2) 400 (fun _ => 0)) := ⟨_, rfl⟩
  have hW : hw D vwCl A w150 H := by rw [ew150]; exact hW
  have hc151 : w150 a = some (.inr (4, [.int (nI 0), .int (nI 0), .ref q1, .ref q9, .ref q20, .ref q35, .ref q54, .ref q77, .ref q104, .int (nI 0), .int (nI 0), .int (nI 0), .null, .null, .null, .null])) := by rw [ew150]; exact hwu_old hn_q135 hc134
  have hc152 : w150 q1 = some (ia (g 0) 40 (fun _ => 0)) := by rw [ew150]; exact hwu_old hn_q135 hc127
  have hc153 : w150 q9 = some (ia (g 0) 40 (fun _ => 0)) := by rw [ew150]; exact hwu_old hn_q135 hc128
  have hc154 : w150 q20 = some (ia (g 0) 40 (fun _ => 0)) := by rw [ew150]; exact hwu_old hn_q135 hc129
  have hc155 : w150 q35 = some (ia (g 0) 40 (fun _ => 0)) := by rw [ew150]; exact hwu_old hn_q135 hc130
  have hc156 : w150 q54 = some (ia (g 0) 480 (fun _ => 0)) := by rw [ew150]; exact hwu_old hn_q135 hc131
  have hc157 : w150 q77 = some (ia (g 0) 2560 (fun _ => 0)) := by rw [ew150]; exact hwu_old hn_q135 hc132
  have hc158 : w150 q104 = some (la (g 2) 2560 (fun _ => 0)) := by rw [ew150]; exact hwu_old hn_q135 hc133
  have hc159 : w150 q135 = some (la (g 2) 400 (fun _ => 0)) := by rw [ew150]; exact hwu_eq
  refine hw_putF (v := .ref q135) (ty := .array .long) (C := RM) (T := TM) (N := 16) hx hb hts inM tyM tyM_ok nmM hown hK hW hS hc151 rfl 12 (by decide) (hts _ bw_529) (fun _ h9 => h9) rfl hin rfl (by decide +kernel) rfl rfl (Nat.le_of_ble_eq_true rfl) dM_init_69 (fun H locs hW hS => ?_)
  have hW : hw D vwCl A (hwu w150 a (.inr (4, [.int (nI 0), .int (nI 0), .ref q1, .ref q9, .ref q20, .ref q35, .ref q54, .ref q77, .ref q104, .int (nI 0), .int (nI 0), .int (nI 0), .ref q135, .null, .null, .null]))) H := hW
  obtain ⟨w160, ew160⟩ : ∃ z, z = hwu w150 a (.inr (4, [.int (nI 0), .int (nI 0), .ref q1, .ref q9, .ref q20, .ref q35, .ref q54, .ref q77, .ref q104, .int (nI 0), .int (nI 0), .int (nI 0), .ref q135, .null, .null, .null])) := ⟨_, rfl⟩
  rw [← ew160] at hW
  have hc161 : w160 q1 = some (ia (g 0) 40 (fun _ => 0)) := by rw [ew160, hwu_ne ne2]; exact hc152
  have hc162 : w160 q9 = some (ia (g 0) 40 (fun _ => 0)) := by rw [ew160, hwu_ne ne10]; exact hc153
  have hc163 : w160 q20 = some (ia (g 0) 40 (fun _ => 0)) := by rw [ew160, hwu_ne ne23]; exact hc154
  have hc164 : w160 q35 = some (ia (g 0) 40 (fun _ => 0)) := by rw [ew160, hwu_ne ne40]; exact hc155
  have hc165 : w160 q54 = some (ia (g 0) 480 (fun _ => 0)) := by rw [ew160, hwu_ne ne61]; exact hc156
  have hc166 : w160 q77 = some (ia (g 0) 2560 (fun _ => 0)) := by rw [ew160, hwu_ne ne86]; exact hc157
  have hc167 : w160 q104 = some (la (g 2) 2560 (fun _ => 0)) := by rw [ew160, hwu_ne ne115]; exact hc158
  have hc168 : w160 q135 = some (la (g 2) 400 (fun _ => 0)) := by rw [ew160, hwu_ne ne148]; exact hc159
  have hc169 : w160 a = some (.inr (4, [.int (nI 0), .int (nI 0), .ref q1, .ref q9, .ref q20, .ref q35, .ref q54, .ref q77, .ref q104, .int (nI 0), .int (nI 0), .int (nI 0), .ref q135, .null, .null, .null])) := by rw [ew160]; exact hwu_eq
  refine lv_aload_n hx hb dM_init_72 rfl (lv_at hl 0 rfl) ?_
  refine lv_sipush (v := nI 1280) hx hb dM_init_73 (by decide) ?_
  refine hw_newa (atype := .long) (N' := 1280) (a0 := (1280, .inr (.inl (fun _ => 0)))) hx hb (hts _ bw_566) rfl hK hW hS hAA 2 rfl (fun c9 => rfl) (nI_nneg (by omega)) (nI_clamp (by omega)) (by show _ * 8 ≤ _; omega) (by decide) (by decide) dM_init_76 (fun q170 H hn_q170 hW hS => ?_)
  have z_q170 := hn_q170
  rw [ew160] at z_q170
  obtain ⟨ne171, z_q170⟩ := hwu_none z_q170
  rw [ew150] at z_q170
  obtain ⟨ne172, z_q170⟩ := hwu_none z_q170
  rw [ew126] at z_q170
  obtain ⟨ne173, z_q170⟩ := hwu_none z_q170
  rw [ew117] at z_q170
  obtain ⟨ne174, z_q170⟩ := hwu_none z_q170
  rw [ew96] at z_q170
  obtain ⟨ne175, z_q170⟩ := hwu_none z_q170
  rw [ew88] at z_q170
  obtain ⟨ne176, z_q170⟩ := hwu_none z_q170
  rw [ew70] at z_q170
  obtain ⟨ne177, z_q170⟩ := hwu_none z_q170
  rw [ew63] at z_q170
  obtain ⟨ne178, z_q170⟩ := hwu_none z_q170
  rw [ew48] at z_q170
  obtain ⟨ne179, z_q170⟩ := hwu_none z_q170
  rw [ew42] at z_q170
  obtain ⟨ne180, z_q170⟩ := hwu_none z_q170
  rw [ew30] at z_q170
  obtain ⟨ne181, z_q170⟩ := hwu_none z_q170
  rw [ew25] at z_q170
  obtain ⟨ne182, z_q170⟩ := hwu_none z_q170
  rw [ew16] at z_q170
  obtain ⟨ne183, z_q170⟩ := hwu_none z_q170
  rw [ew12] at z_q170
  obtain ⟨ne184, z_q170⟩ := hwu_none z_q170
  rw [ew6] at z_q170
  obtain ⟨ne185, z_q170⟩ := hwu_none z_q170
  rw [ew3] at z_q170
  obtain ⟨ne186, z_q170⟩ := hwu_none z_q170
  obtain ⟨w187, ew187⟩ : ∃ z, z = hwu w160 q170 (la (g 2) 1280 (fun _ => 0)) := ⟨_, rfl⟩
  have hW : hw D vwCl A w187 H := by rw [ew187]; exact hW
  have hc188 : w187 a = some (.inr (4, [.int (nI 0), .int (nI 0), .ref q1, .ref q9, .ref q20, .ref q35, .ref q54, .ref q77, .ref q104, .int (nI 0), .int (nI 0), .int (nI 0), .ref q135, .null, .null, .null])) := by rw [ew187]; exact hwu_old hn_q170 hc169
  have hc189 : w187 q1 = some (ia (g 0) 40 (fun _ => 0)) := by rw [ew187]; exact hwu_old hn_q170 hc161
  have hc190 : w187 q9 = some (ia (g 0) 40 (fun _ => 0)) := by rw [ew187]; exact hwu_old hn_q170 hc162
  have hc191 : w187 q20 = some (ia (g 0) 40 (fun _ => 0)) := by rw [ew187]; exact hwu_old hn_q170 hc163
  have hc192 : w187 q35 = some (ia (g 0) 40 (fun _ => 0)) := by rw [ew187]; exact hwu_old hn_q170 hc164
  have hc193 : w187 q54 = some (ia (g 0) 480 (fun _ => 0)) := by rw [ew187]; exact hwu_old hn_q170 hc165
  have hc194 : w187 q77 = some (ia (g 0) 2560 (fun _ => 0)) := by rw [ew187]; exact hwu_old hn_q170 hc166
  have hc195 : w187 q104 = some (la (g 2) 2560 (fun _ => 0)) := by rw [ew187]; exact hwu_old hn_q170 hc167
  have hc196 : w187 q135 = some (la (g 2) 400 (fun _ => 0)) := by rw [ew187]; exact hwu_old hn_q170 hc168
  have hc197 : w187 q170 = some (la (g 2) 1280 (fun _ => 0)) := by rw [ew187]; exact hwu_eq
  refine hw_putF (v := .ref q170) (ty := .array .long) (C := RM) (T := TM) (N := 16) hx hb hts inM tyM tyM_ok nmM hown hK hW hS hc188 rfl 13 (by decide) (hts _ bw_530) (fun _ h9 => h9) rfl hin rfl (by decide +kernel) rfl rfl (Nat.le_of_ble_eq_true rfl) dM_init_78 (fun H locs hW hS => ?_)
  have hW : hw D vwCl A (hwu w187 a (.inr (4, [.int (nI 0), .int (nI 0), .ref q1, .ref q9, .ref q20, .ref q35, .ref q54, .ref q77, .ref q104, .int (nI 0), .int (nI 0), .int (nI 0), .ref q135, .ref q170, .null, .null]))) H := hW
  obtain ⟨w198, ew198⟩ : ∃ z, z = hwu w187 a (.inr (4, [.int (nI 0), .int (nI 0), .ref q1, .ref q9, .ref q20, .ref q35, .ref q54, .ref q77, .ref q104, .int (nI 0), .int (nI 0), .int (nI 0), .ref q135, .ref q170, .null, .null])) := ⟨_, rfl⟩
  rw [← ew198] at hW
  have hc199 : w198 q1 = some (ia (g 0) 40 (fun _ => 0)) := by rw [ew198, hwu_ne ne2]; exact hc189
  have hc200 : w198 q9 = some (ia (g 0) 40 (fun _ => 0)) := by rw [ew198, hwu_ne ne10]; exact hc190
  have hc201 : w198 q20 = some (ia (g 0) 40 (fun _ => 0)) := by rw [ew198, hwu_ne ne23]; exact hc191
  have hc202 : w198 q35 = some (ia (g 0) 40 (fun _ => 0)) := by rw [ew198, hwu_ne ne40]; exact hc192
  have hc203 : w198 q54 = some (ia (g 0) 480 (fun _ => 0)) := by rw [ew198, hwu_ne ne61]; exact hc193
  have hc204 : w198 q77 = some (ia (g 0) 2560 (fun _ => 0)) := by rw [ew198, hwu_ne ne86]; exact hc194
  have hc205 : w198 q104 = some (la (g 2) 2560 (fun _ => 0)) := by rw [ew198, hwu_ne ne115]; exact hc195
  have hc206 : w198 q135 = some (la (g 2) 400 (fun _ => 0)) := by rw [ew198, hwu_ne ne148]; exact hc196
  have hc207 : w198 q170 = some (la (g 2) 1280 (fun _ => 0)) := by rw [ew198, hwu_ne ne185]; exact hc197
  have hc208 : w198 a = some (.inr (4, [.int (nI 0), .int (nI 0), .ref q1, .ref q9, .ref q20, .ref q35, .ref q54, .ref q77, .ref q104, .int (nI 0), .int (nI 0), .int (nI 0), .ref q135, .ref q170, .null, .null])) := by rw [ew198]; exact hwu_eq
  refine lv_aload_n hx hb dM_init_81 rfl (lv_at hl 0 rfl) ?_
  refine lv_bipush (v := nI 20) hx hb dM_init_82 (by decide) ?_
  refine hw_newa (atype := .int) (N' := 20) (a0 := (20, .inl (ni (fun _ => 0)))) hx hb (hts _ bw_60) rfl hK hW hS hAA 0 rfl (fun c9 => rfl) (nI_nneg (by omega)) (nI_clamp (by omega)) (by show _ * 4 ≤ _; omega) (by decide) (by decide) dM_init_84 (fun q209 H hn_q209 hW hS => ?_)
  have z_q209 := hn_q209
  rw [ew198] at z_q209
  obtain ⟨ne210, z_q209⟩ := hwu_none z_q209
  rw [ew187] at z_q209
  obtain ⟨ne211, z_q209⟩ := hwu_none z_q209
  rw [ew160] at z_q209
  obtain ⟨ne212, z_q209⟩ := hwu_none z_q209
  rw [ew150] at z_q209
  obtain ⟨ne213, z_q209⟩ := hwu_none z_q209
  rw [ew126] at z_q209
  obtain ⟨ne214, z_q209⟩ := hwu_none z_q209
  rw [ew117] at z_q209
  obtain ⟨ne215, z_q209⟩ := hwu_none z_q209
  rw [ew96] at z_q209
  obtain ⟨ne216, z_q209⟩ := hwu_none z_q209
  rw [ew88] at z_q209
  obtain ⟨ne217, z_q209⟩ := hwu_none z_q209
  rw [ew70] at z_q209
  obtain ⟨ne218, z_q209⟩ := hwu_none z_q209
  rw [ew63] at z_q209
  obtain ⟨ne219, z_q209⟩ := hwu_none z_q209
  rw [ew48] at z_q209
  obtain ⟨ne220, z_q209⟩ := hwu_none z_q209
  rw [ew42] at z_q209
  obtain ⟨ne221, z_q209⟩ := hwu_none z_q209
  rw [ew30] at z_q209
  obtain ⟨ne222, z_q209⟩ := hwu_none z_q209
  rw [ew25] at z_q209
  obtain ⟨ne223, z_q209⟩ := hwu_none z_q209
  rw [ew16] at z_q209
  obtain ⟨ne224, z_q209⟩ := hwu_none z_q209
  rw [ew12] at z_q209
  obtain ⟨ne225, z_q209⟩ := hwu_none z_q209
  rw [ew6] at z_q209
  obtain ⟨ne226, z_q209⟩ := hwu_none z_q209
  rw [ew3] at z_q209
  obtain ⟨ne227, z_q209⟩ := hwu_none z_q209
  obtain ⟨w228, ew228⟩ : ∃ z, z = hwu w198 q209 (ia (g 0) 20 (fun _ => 0)) := ⟨_, rfl⟩
  have hW : hw D vwCl A w228 H := by rw [ew228]; exact hW
  have hc229 : w228 a = some (.inr (4, [.int (nI 0), .int (nI 0), .ref q1, .ref q9, .ref q20, .ref q35, .ref q54, .ref q77, .ref q104, .int (nI 0), .int (nI 0), .int (nI 0), .ref q135, .ref q170, .null, .null])) := by rw [ew228]; exact hwu_old hn_q209 hc208
  have hc230 : w228 q1 = some (ia (g 0) 40 (fun _ => 0)) := by rw [ew228]; exact hwu_old hn_q209 hc199
  have hc231 : w228 q9 = some (ia (g 0) 40 (fun _ => 0)) := by rw [ew228]; exact hwu_old hn_q209 hc200
  have hc232 : w228 q20 = some (ia (g 0) 40 (fun _ => 0)) := by rw [ew228]; exact hwu_old hn_q209 hc201
  have hc233 : w228 q35 = some (ia (g 0) 40 (fun _ => 0)) := by rw [ew228]; exact hwu_old hn_q209 hc202
  have hc234 : w228 q54 = some (ia (g 0) 480 (fun _ => 0)) := by rw [ew228]; exact hwu_old hn_q209 hc203
  have hc235 : w228 q77 = some (ia (g 0) 2560 (fun _ => 0)) := by rw [ew228]; exact hwu_old hn_q209 hc204
  have hc236 : w228 q104 = some (la (g 2) 2560 (fun _ => 0)) := by rw [ew228]; exact hwu_old hn_q209 hc205
  have hc237 : w228 q135 = some (la (g 2) 400 (fun _ => 0)) := by rw [ew228]; exact hwu_old hn_q209 hc206
  have hc238 : w228 q170 = some (la (g 2) 1280 (fun _ => 0)) := by rw [ew228]; exact hwu_old hn_q209 hc207
  have hc239 : w228 q209 = some (ia (g 0) 20 (fun _ => 0)) := by rw [ew228]; exact hwu_eq
  refine hw_putF (v := .ref q209) (ty := .array .int) (C := RM) (T := TM) (N := 16) hx hb hts inM tyM tyM_ok nmM hown hK hW hS hc229 rfl 14 (by decide) (hts _ bw_531) (fun _ h9 => h9) rfl hin rfl (by decide +kernel) rfl rfl (Nat.le_of_ble_eq_true rfl) dM_init_86 (fun H locs hW hS => ?_)
  have hW : hw D vwCl A (hwu w228 a (.inr (4, [.int (nI 0), .int (nI 0), .ref q1, .ref q9, .ref q20, .ref q35, .ref q54, .ref q77, .ref q104, .int (nI 0), .int (nI 0), .int (nI 0), .ref q135, .ref q170, .ref q209, .null]))) H := hW
  obtain ⟨w240, ew240⟩ : ∃ z, z = hwu w228 a (.inr (4, [.int (nI 0), .int (nI 0), .ref q1, .ref q9, .ref q20, .ref q35, .ref q54, .ref q77, .ref q104, .int (nI 0), .int (nI 0), .int (nI 0), .ref q135, .ref q170, .ref q209, .null])) := ⟨_, rfl⟩
  rw [← ew240] at hW
  have hc241 : w240 q1 = some (ia (g 0) 40 (fun _ => 0)) := by rw [ew240, hwu_ne ne2]; exact hc230
  have hc242 : w240 q9 = some (ia (g 0) 40 (fun _ => 0)) := by rw [ew240, hwu_ne ne10]; exact hc231
  have hc243 : w240 q20 = some (ia (g 0) 40 (fun _ => 0)) := by rw [ew240, hwu_ne ne23]; exact hc232
  have hc244 : w240 q35 = some (ia (g 0) 40 (fun _ => 0)) := by rw [ew240, hwu_ne ne40]; exact hc233
  have hc245 : w240 q54 = some (ia (g 0) 480 (fun _ => 0)) := by rw [ew240, hwu_ne ne61]; exact hc234
  have hc246 : w240 q77 = some (ia (g 0) 2560 (fun _ => 0)) := by rw [ew240, hwu_ne ne86]; exact hc235
  have hc247 : w240 q104 = some (la (g 2) 2560 (fun _ => 0)) := by rw [ew240, hwu_ne ne115]; exact hc236
  have hc248 : w240 q135 = some (la (g 2) 400 (fun _ => 0)) := by rw [ew240, hwu_ne ne148]; exact hc237
  have hc249 : w240 q170 = some (la (g 2) 1280 (fun _ => 0)) := by rw [ew240, hwu_ne ne185]; exact hc238
  have hc250 : w240 q209 = some (ia (g 0) 20 (fun _ => 0)) := by rw [ew240, hwu_ne ne226]; exact hc239
  have hc251 : w240 a = some (.inr (4, [.int (nI 0), .int (nI 0), .ref q1, .ref q9, .ref q20, .ref q35, .ref q54, .ref q77, .ref q104, .int (nI 0), .int (nI 0), .int (nI 0), .ref q135, .ref q170, .ref q209, .null])) := by rw [ew240]; exact hwu_eq
  refine lv_aload_n hx hb dM_init_89 rfl (lv_at hl 0 rfl) ?_
  refine lv_bipush (v := nI 40) hx hb dM_init_90 (by decide) ?_
  refine hw_newa (atype := .boolean) (N' := 40) (a0 := (40, .inl (ni (bn (fun _ => false))))) hx hb (hts _ bw_61) rfl hK hW hS hAA 1 rfl (fun c9 => rfl) (nI_nneg (by omega)) (nI_clamp (by omega)) (by show _ * 1 ≤ _; omega) (by decide) (by decide) dM_init_92 (fun q252 H hn_q252 hW hS => ?_)
  have z_q252 := hn_q252
  rw [ew240] at z_q252
  obtain ⟨ne253, z_q252⟩ := hwu_none z_q252
  rw [ew228] at z_q252
  obtain ⟨ne254, z_q252⟩ := hwu_none z_q252
  rw [ew198] at z_q252
  obtain ⟨ne255, z_q252⟩ := hwu_none z_q252
  rw [ew187] at z_q252
  obtain ⟨ne256, z_q252⟩ := hwu_none z_q252
  rw [ew160] at z_q252
  obtain ⟨ne257, z_q252⟩ := hwu_none z_q252
  rw [ew150] at z_q252
  obtain ⟨ne258, z_q252⟩ := hwu_none z_q252
  rw [ew126] at z_q252
  obtain ⟨ne259, z_q252⟩ := hwu_none z_q252
  rw [ew117] at z_q252
  obtain ⟨ne260, z_q252⟩ := hwu_none z_q252
  rw [ew96] at z_q252
  obtain ⟨ne261, z_q252⟩ := hwu_none z_q252
  rw [ew88] at z_q252
  obtain ⟨ne262, z_q252⟩ := hwu_none z_q252
  rw [ew70] at z_q252
  obtain ⟨ne263, z_q252⟩ := hwu_none z_q252
  rw [ew63] at z_q252
  obtain ⟨ne264, z_q252⟩ := hwu_none z_q252
  rw [ew48] at z_q252
  obtain ⟨ne265, z_q252⟩ := hwu_none z_q252
  rw [ew42] at z_q252
  obtain ⟨ne266, z_q252⟩ := hwu_none z_q252
  rw [ew30] at z_q252
  obtain ⟨ne267, z_q252⟩ := hwu_none z_q252
  rw [ew25] at z_q252
  obtain ⟨ne268, z_q252⟩ := hwu_none z_q252
  rw [ew16] at z_q252
  obtain ⟨ne269, z_q252⟩ := hwu_none z_q252
  rw [ew12] at z_q252
  obtain ⟨ne270, z_q252⟩ := hwu_none z_q252
  rw [ew6] at z_q252
  obtain ⟨ne271, z_q252⟩ := hwu_none z_q252
  rw [ew3] at z_q252
  obtain ⟨ne272, z_q252⟩ := hwu_none z_q252
  obtain ⟨w273, ew273⟩ : ∃ z, z = hwu w240 q252 (ia (g 1) 40 (bn (fun _ => false))) := ⟨_, rfl⟩
  have hW : hw D vwCl A w273 H := by rw [ew273]; exact hW
  have hc274 : w273 a = some (.inr (4, [.int (nI 0), .int (nI 0), .ref q1, .ref q9, .ref q20, .ref q35, .ref q54, .ref q77, .ref q104, .int (nI 0), .int (nI 0), .int (nI 0), .ref q135, .ref q170, .ref q209, .null])) := by rw [ew273]; exact hwu_old hn_q252 hc251
  have hc275 : w273 q1 = some (ia (g 0) 40 (fun _ => 0)) := by rw [ew273]; exact hwu_old hn_q252 hc241
  have hc276 : w273 q9 = some (ia (g 0) 40 (fun _ => 0)) := by rw [ew273]; exact hwu_old hn_q252 hc242
  have hc277 : w273 q20 = some (ia (g 0) 40 (fun _ => 0)) := by rw [ew273]; exact hwu_old hn_q252 hc243
  have hc278 : w273 q35 = some (ia (g 0) 40 (fun _ => 0)) := by rw [ew273]; exact hwu_old hn_q252 hc244
  have hc279 : w273 q54 = some (ia (g 0) 480 (fun _ => 0)) := by rw [ew273]; exact hwu_old hn_q252 hc245
  have hc280 : w273 q77 = some (ia (g 0) 2560 (fun _ => 0)) := by rw [ew273]; exact hwu_old hn_q252 hc246
  have hc281 : w273 q104 = some (la (g 2) 2560 (fun _ => 0)) := by rw [ew273]; exact hwu_old hn_q252 hc247
  have hc282 : w273 q135 = some (la (g 2) 400 (fun _ => 0)) := by rw [ew273]; exact hwu_old hn_q252 hc248
  have hc283 : w273 q170 = some (la (g 2) 1280 (fun _ => 0)) := by rw [ew273]; exact hwu_old hn_q252 hc249
  have hc284 : w273 q209 = some (ia (g 0) 20 (fun _ => 0)) := by rw [ew273]; exact hwu_old hn_q252 hc250
  have hc285 : w273 q252 = some (ia (g 1) 40 (bn (fun _ => false))) := by rw [ew273]; exact hwu_eq
  refine hw_putF (v := .ref q252) (ty := .array .boolean) (C := RM) (T := TM) (N := 16) hx hb hts inM tyM tyM_ok nmM hown hK hW hS hc274 rfl 15 (by decide) (hts _ bw_532) (fun _ h9 => h9) rfl hin rfl (by decide +kernel) rfl rfl (Nat.le_of_ble_eq_true rfl) dM_init_94 (fun H locs hW hS => ?_)
  have hW : hw D vwCl A (hwu w273 a (.inr (4, [.int (nI 0), .int (nI 0), .ref q1, .ref q9, .ref q20, .ref q35, .ref q54, .ref q77, .ref q104, .int (nI 0), .int (nI 0), .int (nI 0), .ref q135, .ref q170, .ref q209, .ref q252]))) H := hW
  obtain ⟨w286, ew286⟩ : ∃ z, z = hwu w273 a (.inr (4, [.int (nI 0), .int (nI 0), .ref q1, .ref q9, .ref q20, .ref q35, .ref q54, .ref q77, .ref q104, .int (nI 0), .int (nI 0), .int (nI 0), .ref q135, .ref q170, .ref q209, .ref q252])) := ⟨_, rfl⟩
  rw [← ew286] at hW
  have hc287 : w286 q1 = some (ia (g 0) 40 (fun _ => 0)) := by rw [ew286, hwu_ne ne2]; exact hc275
  have hc288 : w286 q9 = some (ia (g 0) 40 (fun _ => 0)) := by rw [ew286, hwu_ne ne10]; exact hc276
  have hc289 : w286 q20 = some (ia (g 0) 40 (fun _ => 0)) := by rw [ew286, hwu_ne ne23]; exact hc277
  have hc290 : w286 q35 = some (ia (g 0) 40 (fun _ => 0)) := by rw [ew286, hwu_ne ne40]; exact hc278
  have hc291 : w286 q54 = some (ia (g 0) 480 (fun _ => 0)) := by rw [ew286, hwu_ne ne61]; exact hc279
  have hc292 : w286 q77 = some (ia (g 0) 2560 (fun _ => 0)) := by rw [ew286, hwu_ne ne86]; exact hc280
  have hc293 : w286 q104 = some (la (g 2) 2560 (fun _ => 0)) := by rw [ew286, hwu_ne ne115]; exact hc281
  have hc294 : w286 q135 = some (la (g 2) 400 (fun _ => 0)) := by rw [ew286, hwu_ne ne148]; exact hc282
  have hc295 : w286 q170 = some (la (g 2) 1280 (fun _ => 0)) := by rw [ew286, hwu_ne ne185]; exact hc283
  have hc296 : w286 q209 = some (ia (g 0) 20 (fun _ => 0)) := by rw [ew286, hwu_ne ne226]; exact hc284
  have hc297 : w286 q252 = some (ia (g 1) 40 (bn (fun _ => false))) := by rw [ew286, hwu_ne ne271]; exact hc285
  have hc298 : w286 a = some (.inr (4, [.int (nI 0), .int (nI 0), .ref q1, .ref q9, .ref q20, .ref q35, .ref q54, .ref q77, .ref q104, .int (nI 0), .int (nI 0), .int (nI 0), .ref q135, .ref q170, .ref q209, .ref q252])) := by rw [ew286]; exact hwu_eq
  refine W.widen (k := 11) (n := 9000) (by decide) (by decide) ?_
  have hD9 : moD (fun i => [q1, q9, q20, q35, q54, q77, q104, q135, q170, q209, q252].getD i 0) := by
    intro i j hi hj h9
    rcases (show i = 0 ∨ i = 1 ∨ i = 2 ∨ i = 3 ∨ i = 4 ∨ i = 5 ∨ i = 6 ∨ i = 7 ∨ i = 8 ∨ i = 9 ∨ i = 10 by omega) with rfl | rfl | rfl | rfl | rfl | rfl | rfl | rfl | rfl | rfl | rfl <;> rcases (show j = 0 ∨ j = 1 ∨ j = 2 ∨ j = 3 ∨ j = 4 ∨ j = 5 ∨ j = 6 ∨ j = 7 ∨ j = 8 ∨ j = 9 ∨ j = 10 by omega) with rfl | rfl | rfl | rfl | rfl | rfl | rfl | rfl | rfl | rfl | rfl <;> first | rfl | exact absurd h9 ne11 | exact absurd h9.symm ne11 | exact absurd h9 ne24 | exact absurd h9.symm ne24 | exact absurd h9 ne22 | exact absurd h9.symm ne22 | exact absurd h9 ne41 | exact absurd h9.symm ne41 | exact absurd h9 ne39 | exact absurd h9.symm ne39 | exact absurd h9 ne37 | exact absurd h9.symm ne37 | exact absurd h9 ne62 | exact absurd h9.symm ne62 | exact absurd h9 ne60 | exact absurd h9.symm ne60 | exact absurd h9 ne58 | exact absurd h9.symm ne58 | exact absurd h9 ne56 | exact absurd h9.symm ne56 | exact absurd h9 ne87 | exact absurd h9.symm ne87 | exact absurd h9 ne85 | exact absurd h9.symm ne85 | exact absurd h9 ne83 | exact absurd h9.symm ne83 | exact absurd h9 ne81 | exact absurd h9.symm ne81 | exact absurd h9 ne79 | exact absurd h9.symm ne79 | exact absurd h9 ne116 | exact absurd h9.symm ne116 | exact absurd h9 ne114 | exact absurd h9.symm ne114 | exact absurd h9 ne112 | exact absurd h9.symm ne112 | exact absurd h9 ne110 | exact absurd h9.symm ne110 | exact absurd h9 ne108 | exact absurd h9.symm ne108 | exact absurd h9 ne106 | exact absurd h9.symm ne106 | exact absurd h9 ne149 | exact absurd h9.symm ne149 | exact absurd h9 ne147 | exact absurd h9.symm ne147 | exact absurd h9 ne145 | exact absurd h9.symm ne145 | exact absurd h9 ne143 | exact absurd h9.symm ne143 | exact absurd h9 ne141 | exact absurd h9.symm ne141 | exact absurd h9 ne139 | exact absurd h9.symm ne139 | exact absurd h9 ne137 | exact absurd h9.symm ne137 | exact absurd h9 ne186 | exact absurd h9.symm ne186 | exact absurd h9 ne184 | exact absurd h9.symm ne184 | exact absurd h9 ne182 | exact absurd h9.symm ne182 | exact absurd h9 ne180 | exact absurd h9.symm ne180 | exact absurd h9 ne178 | exact absurd h9.symm ne178 | exact absurd h9 ne176 | exact absurd h9.symm ne176 | exact absurd h9 ne174 | exact absurd h9.symm ne174 | exact absurd h9 ne172 | exact absurd h9.symm ne172 | exact absurd h9 ne227 | exact absurd h9.symm ne227 | exact absurd h9 ne225 | exact absurd h9.symm ne225 | exact absurd h9 ne223 | exact absurd h9.symm ne223 | exact absurd h9 ne221 | exact absurd h9.symm ne221 | exact absurd h9 ne219 | exact absurd h9.symm ne219 | exact absurd h9 ne217 | exact absurd h9.symm ne217 | exact absurd h9 ne215 | exact absurd h9.symm ne215 | exact absurd h9 ne213 | exact absurd h9.symm ne213 | exact absurd h9 ne211 | exact absurd h9.symm ne211 | exact absurd h9 ne272 | exact absurd h9.symm ne272 | exact absurd h9 ne270 | exact absurd h9.symm ne270 | exact absurd h9 ne268 | exact absurd h9.symm ne268 | exact absurd h9 ne266 | exact absurd h9.symm ne266 | exact absurd h9 ne264 | exact absurd h9.symm ne264 | exact absurd h9 ne262 | exact absurd h9.symm ne262 | exact absurd h9 ne260 | exact absurd h9.symm ne260 | exact absurd h9 ne258 | exact absurd h9.symm ne258 | exact absurd h9 ne256 | exact absurd h9.symm ne256 | exact absurd h9 ne254 | exact absurd h9.symm ne254
  have hN9 : ∀ i, i < 11 → w ([q1, q9, q20, q35, q54, q77, q104, q135, q170, q209, q252].getD i 0) = none := by
    intro i hi
    rcases (show i = 0 ∨ i = 1 ∨ i = 2 ∨ i = 3 ∨ i = 4 ∨ i = 5 ∨ i = 6 ∨ i = 7 ∨ i = 8 ∨ i = 9 ∨ i = 10 by omega) with rfl | rfl | rfl | rfl | rfl | rfl | rfl | rfl | rfl | rfl | rfl
    · exact z_q1
    · exact z_q9
    · exact z_q20
    · exact z_q35
    · exact z_q54
    · exact z_q77
    · exact z_q104
    · exact z_q135
    · exact z_q170
    · exact z_q209
    · exact z_q252
  exact W.vret hx hb hr (fun t ht hW9 => ⟨⟨w286, rfl, ⟨fun i => [q1, q9, q20, q35, q54, q77, q104, q135, q170, q209, q252].getD i 0, hD9, ⟨hc298, hc287, hc288, hc289, hc290, hc291, hc292, hc293, hc294, hc295, hc296, hc297⟩, hN9, fun x x0 x1 => by rw [ew286, hwu_ne x0, ew273, hwu_ne (show x ≠ q252 from x1 10 (by decide)), ew240, hwu_ne x0, ew228, hwu_ne (show x ≠ q209 from x1 9 (by decide)), ew198, hwu_ne x0, ew187, hwu_ne (show x ≠ q170 from x1 8 (by decide)), ew160, hwu_ne x0, ew150, hwu_ne (show x ≠ q135 from x1 7 (by decide)), ew126, hwu_ne x0, ew117, hwu_ne (show x ≠ q104 from x1 6 (by decide)), ew96, hwu_ne x0, ew88, hwu_ne (show x ≠ q77 from x1 5 (by decide)), ew70, hwu_ne x0, ew63, hwu_ne (show x ≠ q54 from x1 4 (by decide)), ew48, hwu_ne x0, ew42, hwu_ne (show x ≠ q35 from x1 3 (by decide)), ew30, hwu_ne x0, ew25, hwu_ne (show x ≠ q20 from x1 2 (by decide)), ew16, hwu_ne x0, ew12, hwu_ne (show x ≠ q9 from x1 1 (by decide)), ew6, hwu_ne x0, ew3, hwu_ne (show x ≠ q1 from x1 0 (by decide))]⟩, by rw [ht]; exact hW, va_K.moved hW9.alike hK⟩, hS.F ht⟩) hS.2.2 dM_init_97
