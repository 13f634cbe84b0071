set_option maxHeartbeats 1000000 in
set_option maxRecDepth 100000 in
theorem c_R_init (l : Launch) (D : va_G) (g : Nat → ClassId) (ad : Nat → Nat) (tb : Nat) (sa : Nat → Nat) (w : Wd) (sz : Nat) (a n o : Nat) (ho : o ≤ 3) (ha : w a = some (.inr (1, [.null, .int (nI 0), .long (lN 0), .int (nI 0), .null, .null]))) : MV l D g ad tb sa yR_init cR_init 3 none 2 35 3 140 w sz [.ref a, .int (nI n), .int (nI o)] (fun w' => ∃ q t f, w q = none ∧ w t = none ∧ w f = none ∧ t ≠ q ∧ f ≠ q ∧ f ≠ t ∧ w' a = some (.inr (1, [.ref q, .int (nI 0), .long ((lN 0) ||| (lN 1 <<< ((nI n).toInt64 &&& 63))), .int (nI o), .ref f, .ref t])) ∧ w' q = some (ia (g 0) 64 (fun _ => 0)) ∧ w' t = some (ia (g 0) 64 (fun _ => 0)) ∧ w' f = some (ia (g 0) ((o + 1) * 3) (fun _ => 0)) ∧ ∀ x, x ≠ a → x ≠ q → x ≠ t → x ≠ f → w' x = w x) := by
  refine hm_MV (by decide) (Nat.le_of_ble_eq_true rfl) ?_
  intro p e s m below meth c A ls hx hb hr hml hts hown hlocks hin hout hsz hW hK hk hS hAA hl
  have hl : lv_has ls 3 [(0, .ref a), (1, .int (nI n)), (2, .int (nI o))] := hl
  refine lv_aload_n hx hb dR_init_0 rfl (lv_at hl 0 rfl) ?_
  refine lv_iload_n hx hb dR_init_1 rfl (lv_at hl 1 rfl) ?_
  refine lv_lconst (v := lN 0) hx hb dR_init_2 (by decide) ?_
  refine kc_IV (n := 2) (As := [.int (nI n), .long (lN 0)]) (rest := []) ⟨hx, hb, hml, hown, hts⟩ (c_Q_initR l D g ad tb sa w s.heap.size a (n) (lN 0) ha) bw_181 bw_182 bw_9 bw_183 rfl (by decide +kernel) ⟨by decide, by decide⟩ hW hK hk hS hAA rfl hl.1 rfl (Nat.le_of_ble_eq_true rfl) dR_init_3 ⟨by decide, by decide⟩ (fun w2 H locs hp hW hS => ?_)
  obtain ⟨q0, hq0, ew9⟩ := hp
  have z_q0 := hq0
  have ne3 : q0 ≠ a := fun h9 => by have h8 := ha; rw [← h9, hq0] at h8; cases h8
  have hc4 : w2 a = some (.inr (1, [.ref q0, .int (nI 0), .long ((lN 0) ||| (lN 1 <<< ((nI n).toInt64 &&& 63))), .int (nI 0), .null, .null])) := by rw [ew9]; exact hwu_eq
  have hc5 : w2 q0 = some (ia (g 0) 64 (fun _ => 0)) := by rw [ew9, hwu_ne ne3]; exact hwu_eq
  obtain ⟨w6, ew6⟩ : ∃ z, z = hwu w q0 (ia (g 0) 64 (fun _ => 0)) := ⟨_, rfl⟩
  rw [← ew6] at ew9
  refine lv_aload_n hx hb dR_init_6 rfl (lv_at hl 0 rfl) ?_
  refine lv_bipush (v := nI 64) hx hb dR_init_7 (by decide) ?_
  refine hw_newa (atype := .int) (N' := 64) (a0 := (64, .inl (ni (fun _ => 0)))) hx hb (hts _ bw_60) rfl hK hW hS hAA 0 rfl (fun c9 => rfl) (nI_nneg (by omega)) (nI_clamp (by omega)) (by show _ * 4 ≤ _; omega) (by decide) (by decide) dR_init_9 (fun q7 H hn_q7 hW hS => ?_)
  have z_q7 := hn_q7
  rw [ew9] at z_q7
  obtain ⟨ne8, z_q7⟩ := hwu_none z_q7
  rw [ew6] at z_q7
  obtain ⟨ne9, z_q7⟩ := hwu_none z_q7
  obtain ⟨w10, ew10⟩ : ∃ z, z = hwu w2 q7 (ia (g 0) 64 (fun _ => 0)) := ⟨_, rfl⟩
  have hW : hw D vwCl A w10 H := by rw [ew10]; exact hW
  have hc11 : w10 a = some (.inr (1, [.ref q0, .int (nI 0), .long ((lN 0) ||| (lN 1 <<< ((nI n).toInt64 &&& 63))), .int (nI 0), .null, .null])) := by rw [ew10]; exact hwu_old hn_q7 hc4
  have hc12 : w10 q0 = some (ia (g 0) 64 (fun _ => 0)) := by rw [ew10]; exact hwu_old hn_q7 hc5
  have hc13 : w10 q7 = some (ia (g 0) 64 (fun _ => 0)) := by rw [ew10]; exact hwu_eq
  refine hw_putF (v := .ref q7) (ty := .array .int) (C := RR) (T := TR) (N := 6) hx hb hts inR tyR tyR_ok nmR hown hK hW hS hc11 rfl 5 (by decide) (hts _ bw_189) (fun _ h9 => h9) rfl hin rfl (by decide +kernel) rfl rfl (Nat.le_of_ble_eq_true rfl) dR_init_11 (fun H locs hW hS => ?_)
  have hW : hw D vwCl A (hwu w10 a (.inr (1, [.ref q0, .int (nI 0), .long ((lN 0) ||| (lN 1 <<< ((nI n).toInt64 &&& 63))), .int (nI 0), .null, .ref q7]))) H := hW
  obtain ⟨w14, ew14⟩ : ∃ z, z = hwu w10 a (.inr (1, [.ref q0, .int (nI 0), .long ((lN 0) ||| (lN 1 <<< ((nI n).toInt64 &&& 63))), .int (nI 0), .null, .ref q7])) := ⟨_, rfl⟩
  rw [← ew14] at hW
  have hc15 : w14 q0 = some (ia (g 0) 64 (fun _ => 0)) := by rw [ew14, hwu_ne ne3]; exact hc12
  have hc16 : w14 q7 = some (ia (g 0) 64 (fun _ => 0)) := by rw [ew14, hwu_ne ne8]; exact hc13
  have hc17 : w14 a = some (.inr (1, [.ref q0, .int (nI 0), .long ((lN 0) ||| (lN 1 <<< ((nI n).toInt64 &&& 63))), .int (nI 0), .null, .ref q7])) := by rw [ew14]; exact hwu_eq
  refine lv_aload_n hx hb dR_init_14 rfl (lv_at hl 0 rfl) ?_
  refine lv_iload_n hx hb dR_init_15 rfl (lv_at hl 2 rfl) ?_
  refine hw_putF (v := .int (nI o)) (ty := .int) (C := RR) (T := TR) (N := 6) hx hb hts inR tyR tyR_ok nmR hown hK hW hS hc17 rfl 3 (by decide) (hts _ bw_185) (fun _ h9 => h9) rfl hin rfl (by decide +kernel) rfl rfl (Nat.le_of_ble_eq_true rfl) dR_init_16 (fun H locs hW hS => ?_)
  have hW : hw D vwCl A (hwu w14 a (.inr (1, [.ref q0, .int (nI 0), .long ((lN 0) ||| (lN 1 <<< ((nI n).toInt64 &&& 63))), .int (nI o), .null, .ref q7]))) H := hW
  obtain ⟨w18, ew18⟩ : ∃ z, z = hwu w14 a (.inr (1, [.ref q0, .int (nI 0), .long ((lN 0) ||| (lN 1 <<< ((nI n).toInt64 &&& 63))), .int (nI o), .null, .ref q7])) := ⟨_, rfl⟩
  rw [← ew18] at hW
  have hc19 : w18 q0 = some (ia (g 0) 64 (fun _ => 0)) := by rw [ew18, hwu_ne ne3]; exact hc15
  have hc20 : w18 q7 = some (ia (g 0) 64 (fun _ => 0)) := by rw [ew18, hwu_ne ne8]; exact hc16
  have hc21 : w18 a = some (.inr (1, [.ref q0, .int (nI 0), .long ((lN 0) ||| (lN 1 <<< ((nI n).toInt64 &&& 63))), .int (nI o), .null, .ref q7])) := by rw [ew18]; exact hwu_eq
  refine lv_aload_n hx hb dR_init_19 rfl (lv_at hl 0 rfl) ?_
  refine lv_iload_n hx hb dR_init_20 rfl (lv_at hl 2 rfl) ?_
  refine lv_iconst (v := nI 1) hx hb dR_init_21 (by decide) ?_
  refine lv_iadd hx hb dR_init_22 ?_
  refine tp_i (show (nI o) + (nI 1) = nI (o + 1) from nI_add _ _) ?_
  refine lv_iconst (v := nI 3) hx hb dR_init_23 (by decide) ?_
  refine lv_imul hx hb dR_init_24 ?_
  refine tp_i (show (nI (o + 1)) * (nI 3) = nI ((o + 1) * 3) from pk_mul _ _) ?_
  refine hw_newa (atype := .int) (N' := (o + 1) * 3) (a0 := ((o + 1) * 3, .inl (ni (fun _ => 0)))) hx hb (hts _ bw_60) rfl hK hW hS hAA 0 rfl (fun c9 => rfl) (nI_nneg (by omega)) (nI_clamp (by omega)) (by show _ * 4 ≤ _; omega) (by decide) (by show _ ≤ _; simp only [rmL]; omega) dR_init_25 (fun q22 H hn_q22 hW hS => ?_)
  have z_q22 := hn_q22
  rw [ew18] at z_q22
  obtain ⟨ne23, z_q22⟩ := hwu_none z_q22
  rw [ew14] at z_q22
  obtain ⟨ne24, z_q22⟩ := hwu_none z_q22
  rw [ew10] at z_q22
  obtain ⟨ne25, z_q22⟩ := hwu_none z_q22
  rw [ew9] at z_q22
  obtain ⟨ne26, z_q22⟩ := hwu_none z_q22
  rw [ew6] at z_q22
  obtain ⟨ne27, z_q22⟩ := hwu_none z_q22
  obtain ⟨w28, ew28⟩ : ∃ z, z = hwu w18 q22 (ia (g 0) ((o + 1) * 3) (fun _ => 0)) := ⟨_, rfl⟩
  have hW : hw D vwCl A w28 H := by rw [ew28]; exact hW
  have hc29 : w28 a = some (.inr (1, [.ref q0, .int (nI 0), .long ((lN 0) ||| (lN 1 <<< ((nI n).toInt64 &&& 63))), .int (nI o), .null, .ref q7])) := by rw [ew28]; exact hwu_old hn_q22 hc21
  have hc30 : w28 q0 = some (ia (g 0) 64 (fun _ => 0)) := by rw [ew28]; exact hwu_old hn_q22 hc19
  have hc31 : w28 q7 = some (ia (g 0) 64 (fun _ => 0)) := by rw [ew28]; exact hwu_old hn_q22 hc20
  have hc32 : w28 q22 = some (ia (g 0) ((o + 1) * 3) (fun _ => 0)) := by rw [ew28]; exact hwu_eq
  refine hw_putF (v := .ref q22) (ty := .array .int) (C := RR) (T := TR) (N := 6) hx hb hts inR tyR tyR_ok nmR hown hK hW hS hc29 rfl 4 (by decide) (hts _ bw_187) (fun _ h9 => h9) rfl hin rfl (by decide +kernel) rfl rfl (Nat.le_of_ble_eq_true rfl) dR_init_27 (fun H locs hW hS => ?_)
  have hW : hw D vwCl A (hwu w28 a (.inr (1, [.ref q0, .int (nI 0), .long ((lN 0) ||| (lN 1 <<< ((nI n).toInt64 &&& 63))), .int (nI o), .ref q22, .ref q7]))) H := hW
  obtain ⟨w33, ew33⟩ : ∃ z, z = hwu w28 a (.inr (1, [.ref q0, .int (nI 0), .long ((lN 0) ||| (lN 1 <<< ((nI n).toInt64 &&& 63))), .int (nI o), .ref q22, .ref q7])) := ⟨_, rfl⟩
  rw [← ew33] at hW
  have hc34 : w33 q0 = some (ia (g 0) 64 (fun _ => 0)) := by rw [ew33, hwu_ne ne3]; exact hc30
  have hc35 : w33 q7 = some (ia (g 0) 64 (fun _ => 0)) := by rw [ew33, hwu_ne ne8]; exact hc31
  have hc36 : w33 q22 = some (ia (g 0) ((o + 1) * 3) (fun _ => 0)) := by rw [ew33, hwu_ne ne26]; exact hc32
  have hc37 : w33 a = some (.inr (1, [.ref q0, .int (nI 0), .long ((lN 0) ||| (lN 1 <<< ((nI n).toInt64 &&& 63))), .int (nI o), .ref q22, .ref q7])) := by rw [ew33]; exact hwu_eq
  refine W.widen (k := 3) (n := 140) (by decide) (by omega) ?_
  exact W.vret hx hb hr (fun t ht hW9 => ⟨⟨w33, rfl, ⟨q0, q7, q22, z_q0, z_q7, z_q22, ne9, ne27, ne25, hc37, hc34, hc35, hc36, fun x x0 x1 x2 x3 => by rw [ew33, hwu_ne x0, ew28, hwu_ne x3, ew18, hwu_ne x0, ew14, hwu_ne x0, ew10, hwu_ne x2, ew9, hwu_ne x0, ew6, hwu_ne x1]⟩, by rw [ht]; exact hW, va_K.moved hW9.alike hK⟩, hS.F ht⟩) hS.2.2 dR_init_30

set_option maxHeartbeats 1000000 in
set_option maxRecDepth 100000 in
theorem c_K_init (l : Launch) (D : va_G) (g : Nat → ClassId) (ad : Nat → Nat) (tb : Nat) (sa : Nat → Nat) (w : Wd) (sz : Nat) (a n k s1 s2 di ci1 ci2 nu1 nu2 fh1 fh2 : Nat) (pt1 pt2 : Int64) (tl1 tl2 : List Value) (hci1 : ci1 = 1 ∨ ci1 = 2) (hci2 : ci2 = 1 ∨ ci2 = 2) (n1 : s1 ≠ a) (n2 : s2 ≠ a) (ha : w a = some (.inr (2, [.null, .int (nI 0), .long (lN 0), .null, .null, .null, .int (nI 0)]))) (h1 : w s1 = some (.inr (ci1, .ref nu1 :: .int (nI fh1) :: .long pt1 :: tl1))) (h2 : w s2 = some (.inr (ci2, .ref nu2 :: .int (nI fh2) :: .long pt2 :: tl2))) : MV l D g ad tb sa yK_init cK_init 6 none 2 35 1 64 w sz [.ref a, .int (nI n), .ref (ad k), .ref s1, .ref s2, .int (nI di)] (fun w' => ∃ q, w q = none ∧ w' a = some (.inr (2, [.ref q, .int (nI 0), .long ((pt1 ||| pt2) ||| (lN 1 <<< ((nI n).toInt64 &&& 63))), .ref (ad k), .ref nu1, .ref nu2, .int (nI di)])) ∧ w' q = some (ia (g 0) 64 (fun _ => 0)) ∧ ∀ x, x ≠ a → x ≠ q → w' x = w x) := by
  refine hm_MV (by decide) (Nat.le_of_ble_eq_true rfl) ?_
  intro p e s m below meth c A ls hx hb hr hml hts hown hlocks hin hout hsz hW hK hk hS hAA hl
  have hl : lv_has ls 6 [(0, .ref a), (1, .int (nI n)), (2, .ref (ad k)), (3, .ref s1), (4, .ref s2), (5, .int (nI di))] := hl
  refine lv_aload_n hx hb dK_init_0 rfl (lv_at hl 0 rfl) ?_
  refine lv_iload_n hx hb dK_init_1 rfl (lv_at hl 1 rfl) ?_
  refine lv_aload_n hx hb dK_init_2 rfl (lv_at hl 3 rfl) ?_
  refine hw_getQ (v := .long pt1) hx hb hts hown hK hW h1 hci1 2 (by decide) (hts _ bw_200) (fun _ h9 => h9) rfl dK_init_3 ?_
  refine lv_aload hx hb dK_init_6 (lv_at hl 4 rfl) ?_
  refine hw_getQ (v := .long pt2) hx hb hts hown hK hW h2 hci2 2 (by decide) (hts _ bw_200) (fun _ h9 => h9) rfl dK_init_8 ?_
  refine lv_lor hx hb dK_init_11 ?_
  refine kc_IV (n := 2) (As := [.int (nI n), .long (pt1 ||| pt2)]) (rest := []) ⟨hx, hb, hml, hown, hts⟩ (c_Q_initK l D g ad tb sa w s.heap.size a (n) (pt1 ||| pt2) ha) bw_300 bw_182 bw_9 bw_183 rfl (by decide +kernel) ⟨by decide, by decide⟩ hW hK hk hS hAA rfl hl.1 rfl (Nat.le_of_ble_eq_true rfl) dK_init_12 ⟨by decide, by decide⟩ (fun w2 H locs hp hW hS => ?_)
  obtain ⟨q0, hq0, ew9⟩ := hp
  have z_q0 := hq0
  have ne3 : q0 ≠ a := fun h9 => by have h8 := ha; rw [← h9, hq0] at h8; cases h8
  have ne4 : q0 ≠ s1 := fun h9 => by have h8 := h1; rw [← h9, hq0] at h8; cases h8
  have ne5 : q0 ≠ s2 := fun h9 => by have h8 := h2; rw [← h9, hq0] at h8; cases h8
  have hc6 : w2 a = some (.inr (2, [.ref q0, .int (nI 0), .long ((pt1 ||| pt2) ||| (lN 1 <<< ((nI n).toInt64 &&& 63))), .null, .null, .null, .int (nI 0)])) := by rw [ew9]; exact hwu_eq
  have hc7 : w2 s1 = some (.inr (ci1, .ref nu1 :: .int (nI fh1) :: .long pt1 :: tl1)) := by rw [ew9, hwu_ne n1]; exact hwu_old hq0 h1
  have hc8 : w2 s2 = some (.inr (ci2, .ref nu2 :: .int (nI fh2) :: .long pt2 :: tl2)) := by rw [ew9, hwu_ne n2]; exact hwu_old hq0 h2
  have hc9 : w2 q0 = some (ia (g 0) 64 (fun _ => 0)) := by rw [ew9, hwu_ne ne3]; exact hwu_eq
  obtain ⟨w10, ew10⟩ : ∃ z, z = hwu w q0 (ia (g 0) 64 (fun _ => 0)) := ⟨_, rfl⟩
  rw [← ew10] at ew9
  refine lv_aload_n hx hb dK_init_15 rfl (lv_at hl 0 rfl) ?_
  refine lv_aload_n hx hb dK_init_16 rfl (lv_at hl 2 rfl) ?_
  refine hw_putF (v := .ref (ad k)) (ty := .object "HolonomicRows$Kind") (C := RK) (T := TK) (N := 7) hx hb hts inK tyK tyK_ok nmK hown hK hW hS hc6 rfl 3 (by decide) (hts _ bw_301) (fun _ h9 => h9) rfl hin rfl (by decide +kernel) rfl rfl (Nat.le_of_ble_eq_true rfl) dK_init_17 (fun H locs hW hS => ?_)
  have hW : hw D vwCl A (hwu w2 a (.inr (2, [.ref q0, .int (nI 0), .long ((pt1 ||| pt2) ||| (lN 1 <<< ((nI n).toInt64 &&& 63))), .ref (ad k), .null, .null, .int (nI 0)]))) H := hW
  obtain ⟨w11, ew11⟩ : ∃ z, z = hwu w2 a (.inr (2, [.ref q0, .int (nI 0), .long ((pt1 ||| pt2) ||| (lN 1 <<< ((nI n).toInt64 &&& 63))), .ref (ad k), .null, .null, .int (nI 0)])) := ⟨_, rfl⟩
  rw [← ew11] at hW
  have hc12 : w11 s1 = some (.inr (ci1, .ref nu1 :: .int (nI fh1) :: .long pt1 :: tl1)) := by rw [ew11, hwu_ne n1]; exact hc7
  have hc13 : w11 s2 = some (.inr (ci2, .ref nu2 :: .int (nI fh2) :: .long pt2 :: tl2)) := by rw [ew11, hwu_ne n2]; exact hc8
  have hc14 : w11 q0 = some (ia (g 0) 64 (fun _ => 0)) := by rw [ew11, hwu_ne ne3]; exact hc9
  have hc15 : w11 a = some (.inr (2, [.ref q0, .int (nI 0), .long ((pt1 ||| pt2) ||| (lN 1 <<< ((nI n).toInt64 &&& 63))), .ref (ad k), .null, .null, .int (nI 0)])) := by rw [ew11]; exact hwu_eq
  refine lv_aload_n hx hb dK_init_20 rfl (lv_at hl 0 rfl) ?_
  refine lv_aload_n hx hb dK_init_21 rfl (lv_at hl 3 rfl) ?_
  refine hw_getQ (v := .ref nu1) hx hb hts hown hK hW hc12 hci1 0 (by decide) (hts _ bw_192) (fun _ h9 => h9) rfl dK_init_22 ?_
  refine hw_putF (v := .ref nu1) (ty := .array .int) (C := RK) (T := TK) (N := 7) hx hb hts inK tyK tyK_ok nmK hown hK hW hS hc15 rfl 4 (by decide) (hts _ bw_302) (fun _ h9 => h9) rfl hin rfl (by decide +kernel) rfl rfl (Nat.le_of_ble_eq_true rfl) dK_init_25 (fun H locs hW hS => ?_)
  have hW : hw D vwCl A (hwu w11 a (.inr (2, [.ref q0, .int (nI 0), .long ((pt1 ||| pt2) ||| (lN 1 <<< ((nI n).toInt64 &&& 63))), .ref (ad k), .ref nu1, .null, .int (nI 0)]))) H := hW
  obtain ⟨w16, ew16⟩ : ∃ z, z = hwu w11 a (.inr (2, [.ref q0, .int (nI 0), .long ((pt1 ||| pt2) ||| (lN 1 <<< ((nI n).toInt64 &&& 63))), .ref (ad k), .ref nu1, .null, .int (nI 0)])) := ⟨_, rfl⟩
  rw [← ew16] at hW
  have hc17 : w16 s1 = some (.inr (ci1, .ref nu1 :: .int (nI fh1) :: .long pt1 :: tl1)) := by rw [ew16, hwu_ne n1]; exact hc12
  have hc18 : w16 s2 = some (.inr (ci2, .ref nu2 :: .int (nI fh2) :: .long pt2 :: tl2)) := by rw [ew16, hwu_ne n2]; exact hc13
  have hc19 : w16 q0 = some (ia (g 0) 64 (fun _ => 0)) := by rw [ew16, hwu_ne ne3]; exact hc14
  have hc20 : w16 a = some (.inr (2, [.ref q0, .int (nI 0), .long ((pt1 ||| pt2) ||| (lN 1 <<< ((nI n).toInt64 &&& 63))), .ref (ad k), .ref nu1, .null, .int (nI 0)])) := by rw [ew16]; exact hwu_eq
  refine lv_aload_n hx hb dK_init_28 rfl (lv_at hl 0 rfl) ?_
  refine lv_aload hx hb dK_init_29 (lv_at hl 4 rfl) ?_
  refine hw_getQ (v := .ref nu2) hx hb hts hown hK hW hc18 hci2 0 (by decide) (hts _ bw_192) (fun _ h9 => h9) rfl dK_init_31 ?_
  refine hw_putF (v := .ref nu2) (ty := .array .int) (C := RK) (T := TK) (N := 7) hx hb hts inK tyK tyK_ok nmK hown hK hW hS hc20 rfl 5 (by decide) (hts _ bw_303) (fun _ h9 => h9) rfl hin rfl (by decide +kernel) rfl rfl (Nat.le_of_ble_eq_true rfl) dK_init_34 (fun H locs hW hS => ?_)
  have hW : hw D vwCl A (hwu w16 a (.inr (2, [.ref q0, .int (nI 0), .long ((pt1 ||| pt2) ||| (lN 1 <<< ((nI n).toInt64 &&& 63))), .ref (ad k), .ref nu1, .ref nu2, .int (nI 0)]))) H := hW
  obtain ⟨w21, ew21⟩ : ∃ z, z = hwu w16 a (.inr (2, [.ref q0, .int (nI 0), .long ((pt1 ||| pt2) ||| (lN 1 <<< ((nI n).toInt64 &&& 63))), .ref (ad k), .ref nu1, .ref nu2, .int (nI 0)])) := ⟨_, rfl⟩
  rw [← ew21] at hW
  have hc22 : w21 s1 = some (.inr (ci1, .ref nu1 :: .int (nI fh1) :: .long pt1 :: tl1)) := by rw [ew21, hwu_ne n1]; exact hc17
  have hc23 : w21 s2 = some (.inr (ci2, .ref nu2 :: .int (nI fh2) :: .long pt2 :: tl2)) := by rw [ew21, hwu_ne n2]; exact hc18
  have hc24 : w21 q0 = some (ia (g 0) 64 (fun _ => 0)) := by rw [ew21, hwu_ne ne3]; exact hc19
  have hc25 : w21 a = some (.inr (2, [.ref q0, .int (nI 0), .long ((pt1 ||| pt2) ||| (lN 1 <<< ((nI n).toInt64 &&& 63))), .ref (ad k), .ref nu1, .ref nu2, .int (nI 0)])) := by rw [ew21]; exact hwu_eq
  refine lv_aload_n hx hb dK_init_37 rfl (lv_at hl 0 rfl) ?_
  refine lv_iload hx hb dK_init_38 (lv_at hl 5 rfl) ?_
  refine hw_putF (v := .int (nI di)) (ty := .int) (C := RK) (T := TK) (N := 7) hx hb hts inK tyK tyK_ok nmK hown hK hW hS hc25 rfl 6 (by decide) (hts _ bw_304) (fun _ h9 => h9) rfl hin rfl (by decide +kernel) rfl rfl (Nat.le_of_ble_eq_true rfl) dK_init_40 (fun H locs hW hS => ?_)
  have hW : hw D vwCl A (hwu w21 a (.inr (2, [.ref q0, .int (nI 0), .long ((pt1 ||| pt2) ||| (lN 1 <<< ((nI n).toInt64 &&& 63))), .ref (ad k), .ref nu1, .ref nu2, .int (nI di)]))) H := hW
  obtain ⟨w26, ew26⟩ : ∃ z, z = hwu w21 a (.inr (2, [.ref q0, .int (nI 0), .long ((pt1 ||| pt2) ||| (lN 1 <<< ((nI n).toInt64 &&& 63))), .ref (ad k), .ref nu1, .ref nu2, .int (nI di)])) := ⟨_, rfl⟩
  rw [← ew26] at hW
  have hc27 : w26 s1 = some (.inr (ci1, .ref nu1 :: .int (nI fh1) :: .long pt1 :: tl1)) := by rw [ew26, hwu_ne n1]; exact hc22
  have hc28 : w26 s2 = some (.inr (ci2, .ref nu2 :: .int (nI fh2) :: .long pt2 :: tl2)) := by rw [ew26, hwu_ne n2]; exact hc23
  have hc29 : w26 q0 = some (ia (g 0) 64 (fun _ => 0)) := by rw [ew26, hwu_ne ne3]; exact hc24
  have hc30 : w26 a = some (.inr (2, [.ref q0, .int (nI 0), .long ((pt1 ||| pt2) ||| (lN 1 <<< ((nI n).toInt64 &&& 63))), .ref (ad k), .ref nu1, .ref nu2, .int (nI di)])) := by rw [ew26]; exact hwu_eq
  exact W.vret hx hb hr (fun t ht hW9 => ⟨⟨w26, rfl, ⟨q0, z_q0, hc30, hc29, fun x x0 x1 => by rw [ew26, hwu_ne x0, ew21, hwu_ne x0, ew16, hwu_ne x0, ew11, hwu_ne x0, ew9, hwu_ne x0, ew10, hwu_ne x1]⟩, by rw [ht]; exact hW, va_K.moved hW9.alike hK⟩, hS.F ht⟩) hS.2.2 dK_init_43
