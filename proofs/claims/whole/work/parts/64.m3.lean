set_option maxHeartbeats 1000000 in
set_option maxRecDepth 100000 in
theorem c_M_thrown (l : Launch) (D : va_G) (g : Nat → ClassId) (ad : Nat → Nat) (tb : Nat) (sa : Nat → Nat) (w : Wd) (sz : Nat) (mo : Nat) (ml : Nat → Nat) (cd mn : Nat) (ki on tw od fa st rs : Nat → Nat) (me fo fd : Nat) (ba ta by9 : Nat → Nat) (nd : Nat → Bool) (hM0 : moW g w mo ml cd mn ki on tw od fa st rs me fo fd ba ta by9 nd) : MI l D g ad tb sa yM_thrown cM_thrown 1 (some (.int)) 0 0 0 0 w sz [.ref mo] (fun r w' => w' = w ∧ r = nI cd) := by
  refine hm_MI (by decide) (Nat.le_of_ble_eq_true rfl) ?_
  intro p e s m below meth c A ls hx hb hr hml hts hown hlocks hin hout hsz hW hK hk hS hAA hl
  have hl : lv_has ls 1 [(0, .ref mo)] := hl
  have hM := hM0
  refine lv_aload_n hx hb dM_thrown_0 rfl (lv_at hl 0 rfl) ?_
  refine hw_get (v := .int (nI cd)) (C := RM) (T := TM) (N := 16) hx hb hts inM hown hK hW hM.1 rfl 0 (by decide) (hts _ bw_517) (fun _ h9 => h9) rfl dM_thrown_1 ?_
  exact W.iret (v := nI cd) hx hb hr (fun t ht hW9 => ⟨⟨nI cd, w, rfl, ⟨rfl, rfl⟩, by rw [ht]; exact hW, va_K.moved hW9.alike hK⟩, hS.F ht⟩) hS.2.2 dM_thrown_4

set_option maxHeartbeats 1000000 in
set_option maxRecDepth 100000 in
theorem c_M_count (l : Launch) (D : va_G) (g : Nat → ClassId) (ad : Nat → Nat) (tb : Nat) (sa : Nat → Nat) (w : Wd) (sz : Nat) (mo : Nat) (ml : Nat → Nat) (cd mn : Nat) (ki on tw od fa st rs : Nat → Nat) (me fo fd : Nat) (ba ta by9 : Nat → Nat) (nd : Nat → Bool) (hD : moD ml) (hM0 : moW g w mo ml cd mn ki on tw od fa st rs me fo fd ba ta by9 nd) : MI l D g ad tb sa yM_count cM_count 1 (some (.int)) 0 0 0 0 w sz [.ref mo] (fun r w' => moF mo ml w w' ∧ moW g w' mo ml 0 mn ki on tw od fa st rs me fo fd ba ta by9 nd ∧ r = nI mn) := by
  refine hm_MI (by decide) (Nat.le_of_ble_eq_true rfl) ?_
  intro p e s m below meth c A ls hx hb hr hml hts hown hlocks hin hout hsz hW hK hk hS hAA hl
  have hl : lv_has ls 1 [(0, .ref mo)] := hl
  have hM := hM0
  have hFr : moF mo ml w w := moF.rf
  refine lv_aload_n hx hb dM_count_0 rfl (lv_at hl 0 rfl) ?_
  refine lv_iconst (v := nI 0) hx hb dM_count_1 (by decide) ?_
  refine hw_put (v := .int (nI 0)) (ty := .int) (C := RM) (T := TM) (N := 16) hx hb hts inM tyM tyM_ok nmM hown hK hW hS hM.1 rfl 0 (by decide) (hts _ bw_517) (fun _ h9 => h9) rfl (by decide +kernel) rfl rfl (Nat.le_of_ble_eq_true rfl) dM_count_2 (fun H locs hW hS => ?_)
  have hW : hw D vwCl A (hwu w mo (.inr (4, [.int (nI 0), .int (nI mn), .ref (ml 0), .ref (ml 1), .ref (ml 2), .ref (ml 3), .ref (ml 4), .ref (ml 5), .ref (ml 6), .int (nI me), .int (nI fo), .int (nI fd), .ref (ml 7), .ref (ml 8), .ref (ml 9), .ref (ml 10)]))) H := hW
  obtain ⟨w1, ew1⟩ : ∃ z, z = hwu w mo (.inr (4, [.int (nI 0), .int (nI mn), .ref (ml 0), .ref (ml 1), .ref (ml 2), .ref (ml 3), .ref (ml 4), .ref (ml 5), .ref (ml 6), .int (nI me), .int (nI fo), .int (nI fd), .ref (ml 7), .ref (ml 8), .ref (ml 9), .ref (ml 10)])) := ⟨_, rfl⟩
  rw [← ew1] at hW
  have hM : moW g w1 mo ml 0 mn ki on tw od fa st rs me fo fd ba ta by9 nd := by rw [ew1]; exact hM.set_m _ _ _ _ _
  have hFr : moF mo ml w w1 := hFr.tr (by rw [ew1]; exact moF_m)
  refine lv_aload_n hx hb dM_count_5 rfl (lv_at hl 0 rfl) ?_
  refine hw_get (v := .int (nI mn)) (C := RM) (T := TM) (N := 16) hx hb hts inM hown hK hW hM.1 rfl 1 (by decide) (hts _ bw_518) (fun _ h9 => h9) rfl dM_count_6 ?_
  exact W.iret (v := nI mn) hx hb hr (fun t ht hW9 => ⟨⟨nI mn, w1, rfl, ⟨hFr, hM, rfl⟩, by rw [ht]; exact hW, va_K.moved hW9.alike hK⟩, hS.F ht⟩) hS.2.2 dM_count_9

set_option maxHeartbeats 1000000 in
set_option maxRecDepth 100000 in
theorem c_M_raise (l : Launch) (D : va_G) (g : Nat → ClassId) (ad : Nat → Nat) (tb : Nat) (sa : Nat → Nat) (w : Wd) (sz : Nat) (mo : Nat) (ml : Nat → Nat) (cd mn : Nat) (ki on tw od fa st rs : Nat → Nat) (me fo fd : Nat) (ba ta by9 : Nat → Nat) (nd : Nat → Bool) (hD : moD ml) (hM0 : moW g w mo ml cd mn ki on tw od fa st rs me fo fd ba ta by9 nd) (k : Nat) : MI l D g ad tb sa yM_raise cM_raise 2 (some (.int)) 0 0 0 0 w sz [.ref mo, .int (nI k)] (fun r w' => moF mo ml w w' ∧ moW g w' mo ml k mn ki on tw od fa st rs me fo fd ba ta by9 nd ∧ r = nI 0) := by
  refine hm_MI (by decide) (Nat.le_of_ble_eq_true rfl) ?_
  intro p e s m below meth c A ls hx hb hr hml hts hown hlocks hin hout hsz hW hK hk hS hAA hl
  have hl : lv_has ls 2 [(0, .ref mo), (1, .int (nI k))] := hl
  have hM := hM0
  have hFr : moF mo ml w w := moF.rf
  refine lv_aload_n hx hb dM_raise_0 rfl (lv_at hl 0 rfl) ?_
  refine lv_iload_n hx hb dM_raise_1 rfl (lv_at hl 1 rfl) ?_
  refine hw_put (v := .int (nI k)) (ty := .int) (C := RM) (T := TM) (N := 16) hx hb hts inM tyM tyM_ok nmM hown hK hW hS hM.1 rfl 0 (by decide) (hts _ bw_517) (fun _ h9 => h9) rfl (by decide +kernel) rfl rfl (Nat.le_of_ble_eq_true rfl) dM_raise_2 (fun H locs hW hS => ?_)
  have hW : hw D vwCl A (hwu w mo (.inr (4, [.int (nI k), .int (nI mn), .ref (ml 0), .ref (ml 1), .ref (ml 2), .ref (ml 3), .ref (ml 4), .ref (ml 5), .ref (ml 6), .int (nI me), .int (nI fo), .int (nI fd), .ref (ml 7), .ref (ml 8), .ref (ml 9), .ref (ml 10)]))) H := hW
  obtain ⟨w1, ew1⟩ : ∃ z, z = hwu w mo (.inr (4, [.int (nI k), .int (nI mn), .ref (ml 0), .ref (ml 1), .ref (ml 2), .ref (ml 3), .ref (ml 4), .ref (ml 5), .ref (ml 6), .int (nI me), .int (nI fo), .int (nI fd), .ref (ml 7), .ref (ml 8), .ref (ml 9), .ref (ml 10)])) := ⟨_, rfl⟩
  rw [← ew1] at hW
  have hM : moW g w1 mo ml k mn ki on tw od fa st rs me fo fd ba ta by9 nd := by rw [ew1]; exact hM.set_m _ _ _ _ _
  have hFr : moF mo ml w w1 := hFr.tr (by rw [ew1]; exact moF_m)
  refine lv_iconst (v := nI 0) hx hb dM_raise_5 (by decide) ?_
  exact W.iret (v := nI 0) hx hb hr (fun t ht hW9 => ⟨⟨nI 0, w1, rfl, ⟨hFr, hM, rfl⟩, by rw [ht]; exact hW, va_K.moved hW9.alike hK⟩, hS.F ht⟩) hS.2.2 dM_raise_6


theorem i64_i (x : Int32) : x.toInt64.toInt = x.toInt := Int32.toInt_toInt64 x
theorem in_iff {x : Int32} {n : Nat} (hn : n < 2 ^ 30) : (0 ≤ x.toInt ∧ x.toInt ≤ (n : Int)) ↔ inC (n + 1) x := by
  constructor
  · rintro ⟨h1, h2⟩
    refine ⟨x.toInt.toNat, by omega, i_eq ?_⟩
    rw [nI_toInt (by omega)]
    omega
  · rintro ⟨k, hk, rfl⟩
    rw [nI_toInt (by omega)]
    omega
def inB (n : Nat) (x : Int32) : Bool := decide (0 ≤ x.toInt ∧ x.toInt < (n : Int))
theorem inB_iff {x : Int32} {n : Nat} (hn : n < 2 ^ 30) : inB n x = true ↔ inC n x := by
  unfold inB
  rw [decide_eq_true_iff]
  cases n with
  | zero =>
    constructor
    · rintro ⟨h1, h2⟩; omega
    · rintro ⟨k, hk, -⟩; omega
  | succ n =>
    rw [← in_iff (by omega)]
    omega
theorem inB_f {x : Int32} {n : Nat} (hn : n < 2 ^ 30) : inB n x = false ↔ ¬ inC n x := by
  rw [← inB_iff hn, Bool.not_eq_true]
theorem in_mn {x : Int32} {n : Nat} (hn : n ≤ 40) : decide ((lN 0).toInt ≤ x.toInt64.toInt ∧ x.toInt64.toInt ≤ (nI n - nI 1).toInt64.toInt) = inB n x := by
  unfold inB
  refine decide_eq_decide.mpr ?_
  rw [i64_i, i64_i, pk_sub_toInt (by omega) (by omega)]
  have h0 : (lN 0).toInt = 0 := rfl
  omega
theorem in_le {x : Int32} {n : Nat} (hn : n < 2 ^ 30) : decide ((lN 0).toInt ≤ x.toInt64.toInt ∧ x.toInt64.toInt ≤ (lN n).toInt) = inB (n + 1) x := by
  unfold inB
  refine decide_eq_decide.mpr ?_
  rw [i64_i, pk_lT (show n < 2 ^ 63 by omega)]
  have h0 : (lN 0).toInt = 0 := rfl
  omega
theorem in_mnX {x : Int32} {n : Nat} (hn : n ≤ 40) : ((lN 0).toInt ≤ x.toInt64.toInt ∧ x.toInt64.toInt ≤ (nI n - nI 1).toInt64.toInt) ↔ inC n x := by
  rw [i64_i, i64_i, pk_sub_toInt (by omega) (by omega)]
  have h0 : (lN 0).toInt = 0 := rfl
  cases n with
  | zero =>
    constructor
    · rintro ⟨h1, h2⟩; omega
    · rintro ⟨k, hk, -⟩; omega
  | succ n =>
    rw [← in_iff (by omega), h0]
    omega

set_option maxHeartbeats 1000000 in
set_option maxRecDepth 100000 in
theorem c_M_isThere (l : Launch) (D : va_G) (g : Nat → ClassId) (ad : Nat → Nat) (tb : Nat) (sa : Nat → Nat) (w : Wd) (sz : Nat) (mo : Nat) (ml : Nat → Nat) (cd mn : Nat) (ki on tw od fa st rs : Nat → Nat) (me fo fd : Nat) (ba ta by9 : Nat → Nat) (nd : Nat → Bool) (hM : moW g w mo ml cd mn ki on tw od fa st rs me fo fd ba ta by9 nd) (hmn : mn ≤ 40) (f9 : Int32) : MI l D g ad tb sa yM_isThere cM_isThere 2 (some (.boolean)) 1 25 0 0 w sz [.ref mo, .int f9] (fun r w' => w' = w ∧ r = nI (bz (inB mn f9))) := by
  refine hm_MI (by decide) (Nat.le_of_ble_eq_true rfl) ?_
  intro p e s m below meth c A ls hx hb hr hml hts hown hlocks hin hout hsz hW hK hk hS hAA hl
  have hl : lv_has ls 2 [(0, .ref mo), (1, .int f9)] := hl
  refine lv_iload_n hx hb dM_isThere_0 rfl (lv_at hl 1 rfl) ?_
  refine lv_i2l hx hb dM_isThere_1 rfl ?_
  refine lv_lconst (v := lN 0) hx hb dM_isThere_2 (by decide) ?_
  refine lv_aload_n hx hb dM_isThere_3 rfl (lv_at hl 0 rfl) ?_
  refine hw_get (v := .int (nI mn)) (C := RM) (T := TM) (N := 16) hx hb hts inM hown hK hW hM.1 rfl 1 (by decide) (hts _ bw_518) (fun _ h9 => h9) rfl dM_isThere_4 ?_
  refine lv_iconst (v := nI 1) hx hb dM_isThere_7 (by decide) ?_
  refine lv_isub hx hb dM_isThere_8 ?_
  refine lv_i2l hx hb dM_isThere_9 rfl ?_
  refine kc_SI (n := 3) (As := [.long f9.toInt64, .long (lN 0), .long (((nI mn) - (nI 1)).toInt64)]) (rest := []) ⟨hx, hb, hml, hown, hts⟩ (c_M_in l D g ad tb sa w s.heap.size (f9.toInt64) (lN 0) (((nI mn) - (nI 1)).toInt64)) bw_576 bw_577 bw_3 bw_578 (by decide +kernel) ⟨by decide, by decide⟩ hW hK hk hS hAA rfl hl.1 rfl (Nat.le_of_ble_eq_true rfl) dM_isThere_10 ⟨by decide, by decide⟩ (fun r1 w2 H locs hp hW hS => ?_)
  obtain ⟨hw9, hr9⟩ := hp
  rw [hw9] at hW
  subst hr9
  refine tp_i (show nI (bz (decide ((lN 0).toInt ≤ f9.toInt64.toInt ∧ f9.toInt64.toInt ≤ (((nI mn) - (nI 1)).toInt64).toInt))) = nI (bz (inB mn f9)) from by rw [in_mn hmn]) ?_
  exact W.zret (ty := .boolean) (v := nI (bz (inB mn f9))) hx hb hr (nar_bz _) (fun t ht hW9 => ⟨⟨nI (bz (inB mn f9)), w, rfl, ⟨rfl, rfl⟩, by rw [ht]; exact hW, va_K.moved hW9.alike hK⟩, hS.F ht⟩) hS.2.2 dM_isThere_13
