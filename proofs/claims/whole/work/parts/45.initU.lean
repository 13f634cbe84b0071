set_option maxHeartbeats 1000000 in
set_option maxRecDepth 100000 in
theorem c_U_init (l : Launch) (D : va_G) (g : Nat → ClassId) (ad : Nat → Nat) (tb : Nat) (sa : Nat → Nat) (w : Wd) (sz : Nat) (a : Nat) (ha : w a = some (.inr (3, [.null, .null, .null, .null, .int (nI 0), .int (nI 0), .int (nI 0), .int (nI 0)]))) : MV l D g ad tb sa yU_init cU_init 1 none 1 12 24 480 w sz [.ref a] (fun w' => ∃ eq la rw bg er, w eq = none ∧ w la = none ∧ w rw = none ∧ w bg = none ∧ (∀ i, i < 20 → w (er i) = none) ∧ ruW g w' a eq la rw bg er 0 0 0 0 (fun _ _ => 0) (fun _ => false) (fun _ => 0) (fun _ => 0) ∧ ruD la rw bg er ∧ (eq ≠ la ∧ eq ≠ rw ∧ eq ≠ bg ∧ ∀ i, i < 20 → er i ≠ eq) ∧ ∀ x, x ≠ a → x ≠ eq → x ≠ la → x ≠ rw → x ≠ bg → (∀ i, i < 20 → x ≠ er i) → w' x = w x) := by
  refine hm_MV (by decide) (Nat.le_of_ble_eq_true rfl) ?_
  intro p e s m below meth c A ls hx hb hr hml hts hown hlocks hin hout hsz hW hK hk hS hAA hl
  have hl : lv_has ls 1 [(0, .ref a)] := hl
  refine lv_aload_n hx hb dU_init_0 rfl (lv_at hl 0 rfl) ?_
  refine W.objInit (rest := []) hx hb hown (hts _ bw_31) (hts _ bw_22) (hts _ bw_23) rfl (hl.1.trans hml.symm) rfl dU_init_1 (Nat.le_of_ble_eq_true rfl) (Nat.le_of_ble_eq_true rfl) ?_
  show W _ _ _ _ _ _ _ _ _ _ _ _ _ _ _ (F0 m 4 ls [])
  refine lv_aload_n hx hb dU_init_4 rfl (lv_at hl 0 rfl) ?_
  refine lv_bipush (v := nI 20) hx hb dU_init_5 (by decide) ?_
  refine lv_bipush (v := nI 20) hx hb dU_init_7 (by decide) ?_
  refine hw_mna (N' := 20) (K' := 20) hx hb hown (hts _ bw_32) hk.2.2.2.2.2.2.2.2.1 (hts _ bw_60) hK hW hS hAA 0 4 rfl rfl (nI_nneg (by omega)) (nI_nneg (by omega)) (nI_clamp (by omega)) (nI_clamp (by omega)) (by decide) (by decide) (by decide) (by decide) dU_init_9 (fun eq er H hneq hner ner nei hW hS => ?_)
  have hra : ∀ i, i < 20 → er i ≠ a := fun i hi h9 => by have h8 := hner i hi; rw [h9, ha] at h8; cases h8
  have hqa : eq ≠ a := fun h9 => by have h8 := hneq; rw [h9, ha] at h8; cases h8
  obtain ⟨w91, ew91⟩ : ∃ z, z = hwu w eq (qa (g 4) 20 (fun i => if i < 20 then some (er i) else none)) := ⟨_, rfl⟩
  rw [← ew91] at hW
  obtain ⟨w92, ew92⟩ : ∃ z, z = hwr w91 ((List.range 20).map er) (ia (g 0) 20 (fun _ => 0)) := ⟨_, rfl⟩
  rw [← ew92] at hW
  have hca : w92 a = some (.inr (3, [.null, .null, .null, .null, .int (nI 0), .int (nI 0), .int (nI 0), .int (nI 0)])) := by rw [ew92, hwr_ne (er_out (fun i hi => (hra i hi).symm)), ew91, hwu_ne hqa.symm]; exact ha
  have hceq : w92 eq = some (qa (g 4) 20 (fun i => if i < 20 then some (er i) else none)) := by rw [ew92, hwr_ne (er_out (fun i hi => (ner i hi).symm)), ew91]; exact hwu_eq
  refine hw_putF (v := .ref eq) (ty := .array (.array .int)) (C := RU) (T := TU) (N := 8) hx hb hts inU tyU tyU_ok nmU hown hK hW hS hca rfl 0 (by decide) (hts _ bw_34) (fun _ h9 => h9) rfl hin rfl (by decide +kernel) rfl rfl (Nat.le_of_ble_eq_true rfl) dU_init_13 (fun H locs hW hS => ?_)
  have hW : hw D vwCl A (hwu w92 a (.inr (3, [.ref eq, .null, .null, .null, .int (nI 0), .int (nI 0), .int (nI 0), .int (nI 0)]))) H := hW
  obtain ⟨w1, ew1⟩ : ∃ z, z = hwu w92 a (.inr (3, [.ref eq, .null, .null, .null, .int (nI 0), .int (nI 0), .int (nI 0), .int (nI 0)])) := ⟨_, rfl⟩
  rw [← ew1] at hW
  have hc2 : w1 eq = some (qa (g 4) 20 (fun i => if i < 20 then some (er i) else none)) := by rw [ew1, hwu_ne hqa]; exact hceq
  have hc3 : w1 a = some (.inr (3, [.ref eq, .null, .null, .null, .int (nI 0), .int (nI 0), .int (nI 0), .int (nI 0)])) := by rw [ew1]; exact hwu_eq
  refine lv_aload_n hx hb dU_init_16 rfl (lv_at hl 0 rfl) ?_
  refine lv_bipush (v := nI 20) hx hb dU_init_17 (by decide) ?_
  refine hw_newa (atype := .boolean) (N' := 20) (a0 := (20, .inl (ni (bn (fun _ => false))))) hx hb (hts _ bw_61) rfl hK hW hS hAA 1 rfl (fun c9 => rfl) (nI_nneg (by omega)) (nI_clamp (by omega)) (by show _ * 1 ≤ _; omega) (by decide) (by decide) dU_init_19 (fun q4 H hn_q4 hW hS => ?_)
  have z_q4 := hn_q4
  rw [ew1] at z_q4
  obtain ⟨ne5, z_q4⟩ := hwu_none z_q4
  rw [ew92] at z_q4
  obtain ⟨ne6, z_q4⟩ := hwr_none z_q4
  rw [ew91] at z_q4
  obtain ⟨ne7, z_q4⟩ := hwu_none z_q4
  obtain ⟨w8, ew8⟩ : ∃ z, z = hwu w1 q4 (ia (g 1) 20 (bn (fun _ => false))) := ⟨_, rfl⟩
  have hW : hw D vwCl A w8 H := by rw [ew8]; exact hW
  have hc9 : w8 a = some (.inr (3, [.ref eq, .null, .null, .null, .int (nI 0), .int (nI 0), .int (nI 0), .int (nI 0)])) := by rw [ew8]; exact hwu_old hn_q4 hc3
  have hc10 : w8 eq = some (qa (g 4) 20 (fun i => if i < 20 then some (er i) else none)) := by rw [ew8]; exact hwu_old hn_q4 hc2
  have hc11 : w8 q4 = some (ia (g 1) 20 (bn (fun _ => false))) := by rw [ew8]; exact hwu_eq
  refine hw_putF (v := .ref q4) (ty := .array .boolean) (C := RU) (T := TU) (N := 8) hx hb hts inU tyU tyU_ok nmU hown hK hW hS hc9 rfl 1 (by decide) (hts _ bw_35) (fun _ h9 => h9) rfl hin rfl (by decide +kernel) rfl rfl (Nat.le_of_ble_eq_true rfl) dU_init_21 (fun H locs hW hS => ?_)
  have hW : hw D vwCl A (hwu w8 a (.inr (3, [.ref eq, .ref q4, .null, .null, .int (nI 0), .int (nI 0), .int (nI 0), .int (nI 0)]))) H := hW
  obtain ⟨w12, ew12⟩ : ∃ z, z = hwu w8 a (.inr (3, [.ref eq, .ref q4, .null, .null, .int (nI 0), .int (nI 0), .int (nI 0), .int (nI 0)])) := ⟨_, rfl⟩
  rw [← ew12] at hW
  have hc13 : w12 eq = some (qa (g 4) 20 (fun i => if i < 20 then some (er i) else none)) := by rw [ew12, hwu_ne hqa]; exact hc10
  have hc14 : w12 q4 = some (ia (g 1) 20 (bn (fun _ => false))) := by rw [ew12, hwu_ne ne5]; exact hc11
  have hc15 : w12 a = some (.inr (3, [.ref eq, .ref q4, .null, .null, .int (nI 0), .int (nI 0), .int (nI 0), .int (nI 0)])) := by rw [ew12]; exact hwu_eq
  refine lv_aload_n hx hb dU_init_24 rfl (lv_at hl 0 rfl) ?_
  refine lv_bipush (v := nI 20) hx hb dU_init_25 (by decide) ?_
  refine hw_newa (atype := .int) (N' := 20) (a0 := (20, .inl (ni (fun _ => 0)))) hx hb (hts _ bw_60) rfl hK hW hS hAA 0 rfl (fun c9 => rfl) (nI_nneg (by omega)) (nI_clamp (by omega)) (by show _ * 4 ≤ _; omega) (by decide) (by decide) dU_init_27 (fun q16 H hn_q16 hW hS => ?_)
  have z_q16 := hn_q16
  rw [ew12] at z_q16
  obtain ⟨ne17, z_q16⟩ := hwu_none z_q16
  rw [ew8] at z_q16
  obtain ⟨ne18, z_q16⟩ := hwu_none z_q16
  rw [ew1] at z_q16
  obtain ⟨ne19, z_q16⟩ := hwu_none z_q16
  rw [ew92] at z_q16
  obtain ⟨ne20, z_q16⟩ := hwr_none z_q16
  rw [ew91] at z_q16
  obtain ⟨ne21, z_q16⟩ := hwu_none z_q16
  obtain ⟨w22, ew22⟩ : ∃ z, z = hwu w12 q16 (ia (g 0) 20 (fun _ => 0)) := ⟨_, rfl⟩
  have hW : hw D vwCl A w22 H := by rw [ew22]; exact hW
  have hc23 : w22 a = some (.inr (3, [.ref eq, .ref q4, .null, .null, .int (nI 0), .int (nI 0), .int (nI 0), .int (nI 0)])) := by rw [ew22]; exact hwu_old hn_q16 hc15
  have hc24 : w22 eq = some (qa (g 4) 20 (fun i => if i < 20 then some (er i) else none)) := by rw [ew22]; exact hwu_old hn_q16 hc13
  have hc25 : w22 q4 = some (ia (g 1) 20 (bn (fun _ => false))) := by rw [ew22]; exact hwu_old hn_q16 hc14
  have hc26 : w22 q16 = some (ia (g 0) 20 (fun _ => 0)) := by rw [ew22]; exact hwu_eq
  refine hw_putF (v := .ref q16) (ty := .array .int) (C := RU) (T := TU) (N := 8) hx hb hts inU tyU tyU_ok nmU hown hK hW hS hc23 rfl 2 (by decide) (hts _ bw_36) (fun _ h9 => h9) rfl hin rfl (by decide +kernel) rfl rfl (Nat.le_of_ble_eq_true rfl) dU_init_29 (fun H locs hW hS => ?_)
  have hW : hw D vwCl A (hwu w22 a (.inr (3, [.ref eq, .ref q4, .ref q16, .null, .int (nI 0), .int (nI 0), .int (nI 0), .int (nI 0)]))) H := hW
  obtain ⟨w27, ew27⟩ : ∃ z, z = hwu w22 a (.inr (3, [.ref eq, .ref q4, .ref q16, .null, .int (nI 0), .int (nI 0), .int (nI 0), .int (nI 0)])) := ⟨_, rfl⟩
  rw [← ew27] at hW
  have hc28 : w27 eq = some (qa (g 4) 20 (fun i => if i < 20 then some (er i) else none)) := by rw [ew27, hwu_ne hqa]; exact hc24
  have hc29 : w27 q4 = some (ia (g 1) 20 (bn (fun _ => false))) := by rw [ew27, hwu_ne ne5]; exact hc25
  have hc30 : w27 q16 = some (ia (g 0) 20 (fun _ => 0)) := by rw [ew27, hwu_ne ne19]; exact hc26
  have hc31 : w27 a = some (.inr (3, [.ref eq, .ref q4, .ref q16, .null, .int (nI 0), .int (nI 0), .int (nI 0), .int (nI 0)])) := by rw [ew27]; exact hwu_eq
  refine lv_aload_n hx hb dU_init_32 rfl (lv_at hl 0 rfl) ?_
  refine lv_bipush (v := nI 20) hx hb dU_init_33 (by decide) ?_
  refine hw_newa (atype := .int) (N' := 20) (a0 := (20, .inl (ni (fun _ => 0)))) hx hb (hts _ bw_60) rfl hK hW hS hAA 0 rfl (fun c9 => rfl) (nI_nneg (by omega)) (nI_clamp (by omega)) (by show _ * 4 ≤ _; omega) (by decide) (by decide) dU_init_35 (fun q32 H hn_q32 hW hS => ?_)
  have z_q32 := hn_q32
  rw [ew27] at z_q32
  obtain ⟨ne33, z_q32⟩ := hwu_none z_q32
  rw [ew22] at z_q32
  obtain ⟨ne34, z_q32⟩ := hwu_none z_q32
  rw [ew12] at z_q32
  obtain ⟨ne35, z_q32⟩ := hwu_none z_q32
  rw [ew8] at z_q32
  obtain ⟨ne36, z_q32⟩ := hwu_none z_q32
  rw [ew1] at z_q32
  obtain ⟨ne37, z_q32⟩ := hwu_none z_q32
  rw [ew92] at z_q32
  obtain ⟨ne38, z_q32⟩ := hwr_none z_q32
  rw [ew91] at z_q32
  obtain ⟨ne39, z_q32⟩ := hwu_none z_q32
  obtain ⟨w40, ew40⟩ : ∃ z, z = hwu w27 q32 (ia (g 0) 20 (fun _ => 0)) := ⟨_, rfl⟩
  have hW : hw D vwCl A w40 H := by rw [ew40]; exact hW
  have hc41 : w40 a = some (.inr (3, [.ref eq, .ref q4, .ref q16, .null, .int (nI 0), .int (nI 0), .int (nI 0), .int (nI 0)])) := by rw [ew40]; exact hwu_old hn_q32 hc31
  have hc42 : w40 eq = some (qa (g 4) 20 (fun i => if i < 20 then some (er i) else none)) := by rw [ew40]; exact hwu_old hn_q32 hc28
  have hc43 : w40 q4 = some (ia (g 1) 20 (bn (fun _ => false))) := by rw [ew40]; exact hwu_old hn_q32 hc29
  have hc44 : w40 q16 = some (ia (g 0) 20 (fun _ => 0)) := by rw [ew40]; exact hwu_old hn_q32 hc30
  have hc45 : w40 q32 = some (ia (g 0) 20 (fun _ => 0)) := by rw [ew40]; exact hwu_eq
  refine hw_putF (v := .ref q32) (ty := .array .int) (C := RU) (T := TU) (N := 8) hx hb hts inU tyU tyU_ok nmU hown hK hW hS hc41 rfl 3 (by decide) (hts _ bw_37) (fun _ h9 => h9) rfl hin rfl (by decide +kernel) rfl rfl (Nat.le_of_ble_eq_true rfl) dU_init_37 (fun H locs hW hS => ?_)
  have hW : hw D vwCl A (hwu w40 a (.inr (3, [.ref eq, .ref q4, .ref q16, .ref q32, .int (nI 0), .int (nI 0), .int (nI 0), .int (nI 0)]))) H := hW
  obtain ⟨w46, ew46⟩ : ∃ z, z = hwu w40 a (.inr (3, [.ref eq, .ref q4, .ref q16, .ref q32, .int (nI 0), .int (nI 0), .int (nI 0), .int (nI 0)])) := ⟨_, rfl⟩
  rw [← ew46] at hW
  have hc47 : w46 eq = some (qa (g 4) 20 (fun i => if i < 20 then some (er i) else none)) := by rw [ew46, hwu_ne hqa]; exact hc42
  have hc48 : w46 q4 = some (ia (g 1) 20 (bn (fun _ => false))) := by rw [ew46, hwu_ne ne5]; exact hc43
  have hc49 : w46 q16 = some (ia (g 0) 20 (fun _ => 0)) := by rw [ew46, hwu_ne ne19]; exact hc44
  have hc50 : w46 q32 = some (ia (g 0) 20 (fun _ => 0)) := by rw [ew46, hwu_ne ne37]; exact hc45
  have hc51 : w46 a = some (.inr (3, [.ref eq, .ref q4, .ref q16, .ref q32, .int (nI 0), .int (nI 0), .int (nI 0), .int (nI 0)])) := by rw [ew46]; exact hwu_eq
  refine W.widen (k := 24) (n := 480) (by decide) (by decide) ?_
  exact W.vret hx hb hr (fun t ht hW9 => ⟨⟨w46, rfl, ⟨eq, q4, q16, q32, er, hneq, z_q4, z_q16, z_q32, hner, ⟨hc51, hc47, hc48, hc49, hc50, fun i hi => by rw [ew46, hwu_ne (hra i hi), ew40, hwu_ne (er_ne ne38 hi), ew27, hwu_ne (hra i hi), ew22, hwu_ne (er_ne ne20 hi), ew12, hwu_ne (hra i hi), ew8, hwu_ne (er_ne ne6 hi), ew1, hwu_ne (hra i hi), ew92]; exact hwr_in (er_in hi)⟩, ⟨Ne.symm ne18, Ne.symm ne36, Ne.symm ne34, fun i hi => ⟨(er_ne ne6 hi), (er_ne ne20 hi), (er_ne ne38 hi)⟩, nei⟩, ⟨(ne7).symm, (ne21).symm, (ne39).symm, ner⟩, fun x x0 x1 x2 x3 x4 x5 => by rw [ew46, hwu_ne x0, ew40, hwu_ne x4, ew27, hwu_ne x0, ew22, hwu_ne x3, ew12, hwu_ne x0, ew8, hwu_ne x2, ew1, hwu_ne x0, ew92, hwr_ne (er_out x5), ew91, hwu_ne x1]⟩, by rw [ht]; exact hW, va_K.moved hW9.alike hK⟩, hS.F ht⟩) hS.2.2 dU_init_40
