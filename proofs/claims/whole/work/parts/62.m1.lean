theorem cp_lt {x y : Int64} : lg_cmp x y < 0 ↔ x.toInt < y.toInt := by
  unfold lg_cmp
  simp only [gt_iff_lt, Int64.lt_iff_toInt_lt, ← Int64.toInt_inj]
  repeat' split
  · exact ⟨fun h => absurd h (by decide), fun h => by omega⟩
  · exact ⟨fun h => absurd h (by decide), fun h => by omega⟩
  · exact ⟨fun _ => by omega, fun _ => by decide⟩
theorem cp_gt {x y : Int64} : 0 < lg_cmp x y ↔ y.toInt < x.toInt := by
  unfold lg_cmp
  simp only [gt_iff_lt, Int64.lt_iff_toInt_lt, ← Int64.toInt_inj]
  repeat' split
  · rename_i h; exact ⟨fun _ => h, fun _ => by decide⟩
  · exact ⟨fun h => absurd h (by decide), fun h => by omega⟩
  · exact ⟨fun h => absurd h (by decide), fun h => by omega⟩
theorem cp_eq {x y : Int64} : lg_cmp x y = 0 ↔ x.toInt = y.toInt := by
  unfold lg_cmp
  simp only [gt_iff_lt, Int64.lt_iff_toInt_lt, ← Int64.toInt_inj]
  repeat' split
  · exact ⟨fun h => absurd h (by decide), fun h => by omega⟩
  · rename_i h; exact ⟨fun _ => h, fun _ => by decide⟩
  · exact ⟨fun h => absurd h (by decide), fun h => by omega⟩
theorem cp_eqN {a b : Nat} (ha : a < 2 ^ 62) (hb : b < 2 ^ 62) : lg_cmp (lN a) (lN b) = 0 ↔ a = b := by
  rw [cp_eq, pk_lT (by omega), pk_lT (by omega)]
  omega
theorem cp_gtN {a b : Nat} (ha : a < 2 ^ 62) (hb : b < 2 ^ 62) : 0 < lg_cmp (lN a) (lN b) ↔ b < a := by
  rw [cp_gt, pk_lT (by omega), pk_lT (by omega)]
  omega

set_option maxHeartbeats 1000000 in
set_option maxRecDepth 100000 in
theorem c_M_in (l : Launch) (D : va_G) (g : Nat → ClassId) (ad : Nat → Nat) (tb : Nat) (sa : Nat → Nat) (w : Wd) (sz : Nat) (v lo hi : Int64) : MI l D g ad tb sa yM_in cM_in 6 (some (.boolean)) 0 0 0 0 w sz [.long v, .long lo, .long hi] (fun r w' => w' = w ∧ r = nI (bz (decide (lo.toInt ≤ v.toInt ∧ v.toInt ≤ hi.toInt)))) := by
  refine hm_MI (by decide) (Nat.le_of_ble_eq_true rfl) ?_
  intro p e s m below meth c A ls hx hb hr hml hts hown hlocks hin hout hsz hW hK hk hS hAA hl
  have hl : lv_has ls 6 [(0, .long v), (2, .long lo), (4, .long hi)] := hl
  refine lv_lload_n hx hb dM_in_0 rfl (lv_at hl 0 rfl) ?_
  refine lv_lload_n hx hb dM_in_1 rfl (lv_at hl 1 rfl) ?_
  refine W.lcmp hx hb dM_in_2 ?_
  refine lv_if_lt (tgt := 17) hx hb dM_in_3 (by decide) (fun c1 => ?_) (fun c1 => ?_)
  · refine lv_iconst (v := nI 0) hx hb dM_in_17 (by decide) ?_
    exact W.zret (ty := .boolean) (v := nI 0) hx hb hr (by decide) (fun t ht hW9 => ⟨⟨nI 0, w, rfl, ⟨rfl, by rw [decide_eq_false (by first | exact fun h9 => absurd h9.1 (Int.not_le.mpr (cp_lt.mp c1)) | exact fun h9 => absurd h9.2 (Int.not_le.mpr (cp_gt.mp c2)))]; rfl⟩, by rw [ht]; exact hW, va_K.moved hW9.alike hK⟩, hS.F ht⟩) hS.2.2 dM_in_18
  · refine lv_lload_n hx hb dM_in_6 rfl (lv_at hl 0 rfl) ?_
    refine lv_lload hx hb dM_in_7 (lv_at hl 2 rfl) ?_
    refine W.lcmp hx hb dM_in_9 ?_
    refine lv_if_gt (tgt := 17) hx hb dM_in_10 (by decide) (fun c2 => ?_) (fun c2 => ?_)
    · refine lv_iconst (v := nI 0) hx hb dM_in_17 (by decide) ?_
      exact W.zret (ty := .boolean) (v := nI 0) hx hb hr (by decide) (fun t ht hW9 => ⟨⟨nI 0, w, rfl, ⟨rfl, by rw [decide_eq_false (by first | exact fun h9 => absurd h9.1 (Int.not_le.mpr (cp_lt.mp c1)) | exact fun h9 => absurd h9.2 (Int.not_le.mpr (cp_gt.mp c2)))]; rfl⟩, by rw [ht]; exact hW, va_K.moved hW9.alike hK⟩, hS.F ht⟩) hS.2.2 dM_in_18
    · refine lv_iconst (v := nI 1) hx hb dM_in_13 (by decide) ?_
      refine lv_goto (tgt := 18) hx hb dM_in_14 (by decide) ?_
      exact W.zret (ty := .boolean) (v := nI 1) hx hb hr (by decide) (fun t ht hW9 => ⟨⟨nI 1, w, rfl, ⟨rfl, by rw [decide_eq_true ⟨Int.not_lt.mp (fun h9 => c1 (cp_lt.mpr h9)), Int.not_lt.mp (fun h9 => c2 (cp_gt.mpr h9))⟩]; rfl⟩, by rw [ht]; exact hW, va_K.moved hW9.alike hK⟩, hS.F ht⟩) hS.2.2 dM_in_18

theorem mo_pos {v : Int64} (h : 0 ≤ lg_cmp (v - v / lN 32003 * lN 32003) (lN 0)) : v - v / lN 32003 * lN 32003 = lN (rd v.toInt) := by
  have e : lN 32003 = 32003 := by decide
  rw [lg_cmp_ge, Int64.le_iff_toInt_le, e, lrem_int] at h
  have h0 : (lN 0).toInt = 0 := rfl
  have hr := rd_lt v.toInt
  refine l_eq ?_
  rw [e, lrem_int, pk_lT (by omega), rd_int]
  by_cases hv : 0 ≤ v.toInt
  · rw [td_pos hv]; omega
  · rw [td_neg (by omega)] at h ⊢; omega
theorem mo_neg {v : Int64} (h : ¬ 0 ≤ lg_cmp (v - v / lN 32003 * lN 32003) (lN 0)) : v - v / lN 32003 * lN 32003 + lN 32003 = lN (rd v.toInt) := by
  have e : lN 32003 = 32003 := by decide
  rw [lg_cmp_ge, Int64.le_iff_toInt_le, e, lrem_int] at h
  have h0 : (lN 0).toInt = 0 := rfl
  have h1 : (32003 : Int64).toInt = 32003 := rfl
  have hr := rd_lt v.toInt
  refine l_eq ?_
  rw [e, Int64.toInt_add, lrem_int, h1, pk_lT (by omega), rd_int]
  by_cases hv : 0 ≤ v.toInt
  · rw [td_pos hv] at h; omega
  · rw [td_neg (by omega)] at h ⊢
    rw [bm64 (by omega) (by omega)]
    omega

set_option maxHeartbeats 1000000 in
set_option maxRecDepth 100000 in
theorem c_M_modulo (l : Launch) (D : va_G) (g : Nat → ClassId) (ad : Nat → Nat) (tb : Nat) (sa : Nat → Nat) (w : Wd) (sz : Nat) (v : Int64) : ML l D g ad tb sa yM_modulo cM_modulo 4 (some (.long)) 0 0 0 0 w sz [.long v] (fun r w' => w' = w ∧ r = lN (rd v.toInt)) := by
  refine hm_ML (by decide) (Nat.le_of_ble_eq_true rfl) ?_
  intro p e s m below meth c A ls hx hb hr hml hts hown hlocks hin hout hsz hW hK hk hS hAA hl
  have hl : lv_has ls 4 [(0, .long v)] := hl
  refine lv_lload_n hx hb dM_modulo_0 rfl (lv_at hl 0 rfl) ?_
  refine lv_ldc2 (v := 32003) hx hb hown (hts _ bw_595) dM_modulo_1 ?_
  refine tp_l (show (32003 : Int64) = lN 32003 by decide) ?_
  refine lv_lrem hx hb dM_modulo_4 (by decide) ?_
  refine lv_lstore_n (lv' := [(2, .long (v - v / (lN 32003) * (lN 32003))), (0, .long v)]) hx hb dM_modulo_5 rfl hl (by decide) rfl (fun ls hl => ?_)
  refine lv_lload_n hx hb dM_modulo_6 rfl (lv_at hl 0 rfl) ?_
  refine lv_lconst (v := lN 0) hx hb dM_modulo_7 (by decide) ?_
  refine W.lcmp hx hb dM_modulo_8 ?_
  refine lv_if_ge (tgt := 20) hx hb dM_modulo_9 (by decide) (fun c1 => ?_) (fun c1 => ?_)
  · refine lv_lload_n hx hb dM_modulo_20 rfl (lv_at hl 0 rfl) ?_
    exact W.lret (v := v - v / (lN 32003) * (lN 32003)) hx hb hr (fun t ht hW9 => ⟨⟨v - v / (lN 32003) * (lN 32003), w, rfl, ⟨rfl, mo_pos c1⟩, by rw [ht]; exact hW, va_K.moved hW9.alike hK⟩, hS.F ht⟩) hS.2.2 dM_modulo_21
  · refine lv_lload_n hx hb dM_modulo_12 rfl (lv_at hl 0 rfl) ?_
    refine lv_ldc2 (v := 32003) hx hb hown (hts _ bw_595) dM_modulo_13 ?_
    refine tp_l (show (32003 : Int64) = lN 32003 by decide) ?_
    refine lv_ladd hx hb dM_modulo_16 ?_
    refine lv_goto (tgt := 21) hx hb dM_modulo_17 (by decide) ?_
    exact W.lret (v := (v - v / (lN 32003) * (lN 32003)) + (lN 32003)) hx hb hr (fun t ht hW9 => ⟨⟨(v - v / (lN 32003) * (lN 32003)) + (lN 32003), w, rfl, ⟨rfl, mo_neg c1⟩, by rw [ht]; exact hW, va_K.moved hW9.alike hK⟩, hS.F ht⟩) hS.2.2 dM_modulo_21

set_option maxHeartbeats 1000000 in
set_option maxRecDepth 100000 in
theorem lp_M_inverse {p : Program} {l : Launch} {e : Env} {s : State} {m : MethodId} {args : Array Value} {below : List Frame} {meth : Method} {c : Code} {Q : State → Prop} {D : va_G} {g : Nat → ClassId} {ad : Nat → Nat} {tb : Nat} {sa : Nat → Nat} {A : Nat → Prop} {w : Wd} {Z : Nat} (C0 : cx p s m args c A cM_inverse 7 RM D g ad tb sa) : ∀ (e9 : Nat) (r1 s1 e1 : Nat) (w1 : Wd), (e1 < e9) → (r1 < 32003) → (s1 < 32003) → (e1 < 32003) → (r1 * s1 ^ e1 % 32003 = Z) → (w1 = w) → ∀ (H : Heap) (locs : List Loc), hw D vwCl A w1 H → va_S A s.heap H locs → ∀ ls : Array Slot, lv_has ls 7 [(2, .long (lN r1)), (4, .long (lN s1)), (6, .int (nI e1))] → (∀ (w1 : Wd), (w1 = w) → ∀ (H : Heap) (locs : List Loc), hw D vwCl A w1 H → va_S A s.heap H locs → ∀ ls : Array Slot, lv_has ls 7 [(2, .long (lN Z))] → W p l e (rmL 0 0 0 0) s m args below meth c H locs 0 0 Q (F0 m 56 ls [])) → W p l e (rmL 0 0 0 0) s m args below meth c H locs 0 0 Q (F0 m 10 ls []) := by
  obtain ⟨hx, hb, hml, hts, hown, hK, hk, hAA⟩ := C0
  intro e9
  induction e9 with
  | zero =>
    intro r1 s1 e1 w1 he hr1 hs1 he1 hZ ew H locs hW hS ls hl kk0
    omega
  | succ e9 ih =>
    intro r1 s1 e1 w1 he hr1 hs1 he1 hZ ew H locs hW hS ls hl kk0
    have hm1 := mul_small hr1 hs1
    have hm2 := mul_small hs1 hs1
    refine lv_iload hx hb dM_inverse_10 (lv_at hl 2 rfl) ?_
    refine nw_if_le (tgt := 56) hx hb (by omega) dM_inverse_12 (by decide) (fun c0 => ?_) (fun c0 => ?_)
    · have hr : r1 = Z := by rw [← hZ, show e1 = 0 by omega, Nat.pow_zero, Nat.mul_one, Nat.mod_eq_of_lt hr1]
      rw [hr] at hl
      exact kk0 w1 ew H locs hW hS ls (lv_sub hl [0] rfl)
    · refine lv_iload hx hb dM_inverse_15 (lv_at hl 2 rfl) ?_
      refine lv_iconst (v := nI 2) hx hb dM_inverse_17 (by decide) ?_
      refine lv_irem hx hb dM_inverse_18 (by decide) ?_
      refine tp_i (show (nI e1) - (nI e1) / (nI 2) * (nI 2) = nI (e1 % 2) from pk_rem (by omega) (by decide) (by decide)) ?_
      refine lv_iconst (v := nI 1) hx hb dM_inverse_19 (by decide) ?_
      refine nw_icmp_ne (tgt := 34) hx hb (by omega) (by omega) dM_inverse_20 (by decide) (fun c2 => ?_) (fun c2 => ?_)
      · refine lv_lload_n hx hb dM_inverse_34 rfl (lv_at hl 0 rfl) ?_
        refine lv_lstore_n (lv' := [(2, .long (lN r1)), (4, .long (lN s1)), (6, .int (nI e1))]) hx hb dM_inverse_35 rfl hl (by decide) rfl (fun ls hl => ?_)
        refine lv_lload hx hb dM_inverse_36 (lv_at hl 1 rfl) ?_
        refine lv_lload hx hb dM_inverse_38 (lv_at hl 1 rfl) ?_
        refine lv_lmul hx hb dM_inverse_40 ?_
        refine tp_l (show (lN s1) * (lN s1) = lN (s1 * s1) from lN_mul _ _) ?_
        refine lv_ldc2 (v := 32003) hx hb hown (hts _ bw_595) dM_inverse_41 ?_
        refine tp_l (show (32003 : Int64) = lN 32003 by decide) ?_
        refine lv_lrem hx hb dM_inverse_44 (by decide) ?_
        refine tp_l (show (lN (s1 * s1)) - (lN (s1 * s1)) / (lN 32003) * (lN 32003) = lN (s1 * s1 % 32003) from lrem_lN (by omega)) ?_
        refine lv_lstore (lv' := [(4, .long (lN (s1 * s1 % 32003))), (2, .long (lN r1)), (6, .int (nI e1))]) hx hb dM_inverse_45 hl (by decide) rfl (fun ls hl => ?_)
        refine lv_iload hx hb dM_inverse_47 (lv_at hl 2 rfl) ?_
        refine lv_iconst (v := nI 2) hx hb dM_inverse_49 (by decide) ?_
        refine lv_idiv hx hb dM_inverse_50 (by decide) ?_
        refine tp_i (show (nI e1) / (nI 2) = nI (e1 / 2) from pk_div (by omega) (by decide) (by decide)) ?_
        refine lv_istore (lv' := [(6, .int (nI (e1 / 2))), (4, .long (lN (s1 * s1 % 32003))), (2, .long (lN r1))]) hx hb dM_inverse_51 hl (by decide) rfl (fun ls hl => ?_)
        refine lv_goto (tgt := 10) hx hb dM_inverse_53 (by decide) ?_
        exact ih r1 (s1 * s1 % 32003) (e1 / 2) w1 (by omega) hr1 (Nat.mod_lt _ (by decide)) (by omega) (by rw [pw_even (by omega)]; exact hZ) ew H locs hW hS ls (lv_sub hl [2, 1, 0] rfl) kk0
      · refine lv_lload_n hx hb dM_inverse_23 rfl (lv_at hl 0 rfl) ?_
        refine lv_lload hx hb dM_inverse_24 (lv_at hl 1 rfl) ?_
        refine lv_lmul hx hb dM_inverse_26 ?_
        refine tp_l (show (lN r1) * (lN s1) = lN (r1 * s1) from lN_mul _ _) ?_
        refine lv_ldc2 (v := 32003) hx hb hown (hts _ bw_595) dM_inverse_27 ?_
        refine tp_l (show (32003 : Int64) = lN 32003 by decide) ?_
        refine lv_lrem hx hb dM_inverse_30 (by decide) ?_
        refine tp_l (show (lN (r1 * s1)) - (lN (r1 * s1)) / (lN 32003) * (lN 32003) = lN (r1 * s1 % 32003) from lrem_lN (by omega)) ?_
        refine lv_goto (tgt := 35) hx hb dM_inverse_31 (by decide) ?_
        refine lv_lstore_n (lv' := [(2, .long (lN (r1 * s1 % 32003))), (4, .long (lN s1)), (6, .int (nI e1))]) hx hb dM_inverse_35 rfl hl (by decide) rfl (fun ls hl => ?_)
        refine lv_lload hx hb dM_inverse_36 (lv_at hl 1 rfl) ?_
        refine lv_lload hx hb dM_inverse_38 (lv_at hl 1 rfl) ?_
        refine lv_lmul hx hb dM_inverse_40 ?_
        refine tp_l (show (lN s1) * (lN s1) = lN (s1 * s1) from lN_mul _ _) ?_
        refine lv_ldc2 (v := 32003) hx hb hown (hts _ bw_595) dM_inverse_41 ?_
        refine tp_l (show (32003 : Int64) = lN 32003 by decide) ?_
        refine lv_lrem hx hb dM_inverse_44 (by decide) ?_
        refine tp_l (show (lN (s1 * s1)) - (lN (s1 * s1)) / (lN 32003) * (lN 32003) = lN (s1 * s1 % 32003) from lrem_lN (by omega)) ?_
        refine lv_lstore (lv' := [(4, .long (lN (s1 * s1 % 32003))), (2, .long (lN (r1 * s1 % 32003))), (6, .int (nI e1))]) hx hb dM_inverse_45 hl (by decide) rfl (fun ls hl => ?_)
        refine lv_iload hx hb dM_inverse_47 (lv_at hl 2 rfl) ?_
        refine lv_iconst (v := nI 2) hx hb dM_inverse_49 (by decide) ?_
        refine lv_idiv hx hb dM_inverse_50 (by decide) ?_
        refine tp_i (show (nI e1) / (nI 2) = nI (e1 / 2) from pk_div (by omega) (by decide) (by decide)) ?_
        refine lv_istore (lv' := [(6, .int (nI (e1 / 2))), (4, .long (lN (s1 * s1 % 32003))), (2, .long (lN (r1 * s1 % 32003)))]) hx hb dM_inverse_51 hl (by decide) rfl (fun ls hl => ?_)
        refine lv_goto (tgt := 10) hx hb dM_inverse_53 (by decide) ?_
        exact ih (r1 * s1 % 32003) (s1 * s1 % 32003) (e1 / 2) w1 (by omega) (Nat.mod_lt _ (by decide)) (Nat.mod_lt _ (by decide)) (by omega) (by rw [pw_odd (by omega)]; exact hZ) ew H locs hW hS ls (lv_sub hl [2, 1, 0] rfl) kk0

set_option maxHeartbeats 1000000 in
set_option maxRecDepth 100000 in
theorem c_M_inverse (l : Launch) (D : va_G) (g : Nat → ClassId) (ad : Nat → Nat) (tb : Nat) (sa : Nat → Nat) (w : Wd) (sz : Nat) (v : Nat) (hv : v < 32003) : ML l D g ad tb sa yM_inverse cM_inverse 7 (some (.long)) 0 0 0 0 w sz [.long (lN v)] (fun r w' => w' = w ∧ r = lN (iv v)) := by
  refine hm_ML (by decide) (Nat.le_of_ble_eq_true rfl) ?_
  intro p e s m below meth c A ls hx hb hr hml hts hown hlocks hin hout hsz hW hK hk hS hAA hl
  have hl : lv_has ls 7 [(0, .long (lN v))] := hl
  refine lv_lconst (v := lN 1) hx hb dM_inverse_0 (by decide) ?_
  refine lv_lstore_n (lv' := [(2, .long (lN 1)), (0, .long (lN v))]) hx hb dM_inverse_1 rfl hl (by decide) rfl (fun ls hl => ?_)
  refine lv_lload_n hx hb dM_inverse_2 rfl (lv_at hl 1 rfl) ?_
  refine lv_lstore (lv' := [(4, .long (lN v)), (2, .long (lN 1)), (0, .long (lN v))]) hx hb dM_inverse_3 hl (by decide) rfl (fun ls hl => ?_)
  refine lv_sipush (v := nI 32001) hx hb dM_inverse_5 (by decide) ?_
  refine lv_istore (lv' := [(6, .int (nI 32001)), (4, .long (lN v)), (2, .long (lN 1)), (0, .long (lN v))]) hx hb dM_inverse_8 hl (by decide) rfl (fun ls hl => ?_)
  refine lp_M_inverse (Z := iv v) ⟨hx, hb, hml, hts, hown, hK, hk, hAA⟩ 32002 1 v 32001 w (by omega) (by omega) hv (by omega) (by rw [Nat.one_mul]; rfl) rfl _ _ hW hS ls (lv_sub hl [2, 1, 0] rfl) ?_
  intro w1 ew H locs hW hS ls hl
  rw [ew] at hW
  refine lv_lload_n hx hb dM_inverse_56 rfl (lv_at hl 0 rfl) ?_
  exact W.lret (v := lN (iv v)) hx hb hr (fun t ht hW9 => ⟨⟨lN (iv v), w, rfl, ⟨rfl, rfl⟩, by rw [ht]; exact hW, va_K.moved hW9.alike hK⟩, hS.F ht⟩) hS.2.2 dM_inverse_57
