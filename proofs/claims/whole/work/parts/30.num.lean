/-- what stands through a method's walk -/
def cx (p : Program) (s : State) (m : MethodId) (args : Array Value) (c : Code) (A : Nat → Prop) (cc : ByteArray) (nL : Nat) (own : String) (D : va_G) (g : Nat → ClassId) (ad : Nat → Nat) (tb : Nat) (sa : Nat → Nat) : Prop :=
  p.tables.exec = Jvm.exec ∧ c.code = cc ∧ c.maxLocals = nL ∧ (∀ x ∈ big, x.before args s = true) ∧ s.vm.findClass own = some m.cls ∧ va_K D vwCl (tyL g) s ∧ kn ad tb sa A s s.heap ∧ ∀ q, s.heap.size ≤ q → A q

set_option maxHeartbeats 1000000 in
set_option maxRecDepth 100000 in
theorem c_X_reduce (l : Launch) (D : va_G) (g : Nat → ClassId) (ad : Nat → Nat) (tb : Nat) (sa : Nat → Nat) (w : Wd) (sz : Nat) (v : Int64) : MI l D g ad tb sa yX_reduce cX_reduce 3 (some (.int)) 0 0 0 0 w sz [.long v] (fun r w' => w' = w ∧ r = nI (rd v.toInt)) := by

  refine hm_MI (by decide) (Nat.le_of_ble_eq_true rfl) ?_
  intro p e s m below meth c A ls hx hb hr hml hts hown hlocks hin hout hsz hW hK hk hS hAA hl
  have hl : lv_has ls 3 [(0, .long v)] := hl
  refine lv_lload_n hx hb dX_reduce_0 rfl (lv_at hl 0 rfl) ?_
  refine lv_ldc2 (v := 32003) hx hb hown (hts _ bw_256) dX_reduce_1 ?_
  refine tp_l (show (32003 : Int64) = lN 32003 by decide) ?_
  refine lv_lrem hx hb dX_reduce_4 (by decide) ?_
  refine lv_l2i hx hb dX_reduce_5 rfl ?_
  refine lv_istore_n (lv' := [(2, .int ((v - v / (lN 32003) * (lN 32003)).toInt32)), (0, .long v)]) hx hb dX_reduce_6 rfl hl (by decide) rfl (fun ls hl => ?_)
  refine lv_iload_n hx hb dX_reduce_7 rfl (lv_at hl 0 rfl) ?_
  refine lv_if_ge (tgt := 19) hx hb dX_reduce_8 (by decide) (fun c1 => ?_) (fun c1 => ?_)
  · refine lv_iload_n hx hb dX_reduce_19 rfl (lv_at hl 0 rfl) ?_
    exact W.iret (v := (v - v / (lN 32003) * (lN 32003)).toInt32) hx hb hr (fun t ht hW9 => ⟨⟨(v - v / (lN 32003) * (lN 32003)).toInt32, w, rfl, ⟨rfl, by rw [← l32003] at c1 ⊢; exact red_pos (fun q => absurd (Int32.le_iff_toInt_le.mp c1) (by have := Int32.lt_iff_toInt_lt.mp q; omega))⟩, by rw [ht]; exact hW, va_K.moved hW9.alike hK⟩, hS.F ht⟩) hS.2.2 dX_reduce_20
  · refine lv_iload_n hx hb dX_reduce_11 rfl (lv_at hl 0 rfl) ?_
    refine lv_sipush (v := nI 32003) hx hb dX_reduce_12 (by decide) ?_
    refine lv_iadd hx hb dX_reduce_15 ?_
    refine lv_goto (tgt := 20) hx hb dX_reduce_16 (by decide) ?_
    exact W.iret (v := ((v - v / (lN 32003) * (lN 32003)).toInt32) + (nI 32003)) hx hb hr (fun t ht hW9 => ⟨⟨((v - v / (lN 32003) * (lN 32003)).toInt32) + (nI 32003), w, rfl, ⟨rfl, by rw [← l32003] at c1 ⊢; exact red_neg (Int32.not_le.mp c1)⟩, by rw [ht]; exact hW, va_K.moved hW9.alike hK⟩, hS.F ht⟩) hS.2.2 dX_reduce_20

set_option maxHeartbeats 1000000 in
set_option maxRecDepth 100000 in
theorem c_X_product (l : Launch) (D : va_G) (g : Nat → ClassId) (ad : Nat → Nat) (tb : Nat) (sa : Nat → Nat) (w : Wd) (sz : Nat) (a b : Nat) (ha9 : a < 2 ^ 31) (hb9 : b < 2 ^ 31) : MI l D g ad tb sa yX_product cX_product 2 (some (.int)) 0 0 0 0 w sz [.int (nI a), .int (nI b)] (fun r w' => w' = w ∧ r = nI (a * b % 32003)) := by

  refine hm_MI (by decide) (Nat.le_of_ble_eq_true rfl) ?_
  intro p e s m below meth c A ls hx hb hr hml hts hown hlocks hin hout hsz hW hK hk hS hAA hl
  have hl : lv_has ls 2 [(0, .int (nI a)), (1, .int (nI b))] := hl
  have hab : a * b < 2 ^ 63 := by
    have : a * b ≤ 2147483647 * 2147483647 := Nat.mul_le_mul (by omega) (by omega)
    omega
  refine lv_iload_n hx hb dX_product_0 rfl (lv_at hl 0 rfl) ?_
  refine lv_i2l (v := lN a) hx hb dX_product_1 (nI_l (by omega)) ?_
  refine lv_iload_n hx hb dX_product_2 rfl (lv_at hl 1 rfl) ?_
  refine lv_i2l (v := lN b) hx hb dX_product_3 (nI_l (by omega)) ?_
  refine lv_lmul hx hb dX_product_4 ?_
  refine tp_l (show (lN a) * (lN b) = lN (a * b) from lN_mul _ _) ?_
  refine lv_ldc2 (v := 32003) hx hb hown (hts _ bw_256) dX_product_5 ?_
  refine tp_l (show (32003 : Int64) = lN 32003 by decide) ?_
  refine lv_lrem hx hb dX_product_8 (by decide) ?_
  refine tp_l (show (lN (a * b)) - (lN (a * b)) / (lN 32003) * (lN 32003) = lN (a * b % 32003) from pk_lRem hab (by decide) (by decide)) ?_
  refine lv_l2i (v := nI (a * b % 32003)) hx hb dX_product_9 (lN_i _) ?_
  exact W.iret (v := nI (a * b % 32003)) hx hb hr (fun t ht hW9 => ⟨⟨nI (a * b % 32003), w, rfl, ⟨rfl, rfl⟩, by rw [ht]; exact hW, va_K.moved hW9.alike hK⟩, hS.F ht⟩) hS.2.2 dX_product_10

set_option maxHeartbeats 1000000 in
set_option maxRecDepth 100000 in
theorem lp_X_inverse {p : Program} {l : Launch} {e : Env} {s : State} {m : MethodId} {args : Array Value} {below : List Frame} {meth : Method} {c : Code} {Q : State → Prop} {D : va_G} {g : Nat → ClassId} {ad : Nat → Nat} {tb : Nat} {sa : Nat → Nat} {A : Nat → Prop} {w : Wd} {Z : Nat} (C0 : cx p s m args c A cX_inverse 4 RX D g ad tb sa) : ∀ (n r1 s1 e1 : Nat), e1 < n → r1 < 32003 → s1 < 32003 → e1 < 32003 → r1 * s1 ^ e1 % 32003 = Z → ∀ (H : Heap) (locs : List Loc), hw D vwCl A w H → va_S A s.heap H locs → ∀ ls : Array Slot, lv_has ls 4 [(1, .int (nI r1)), (2, .int (nI s1)), (3, .int (nI e1))] → (∀ (H : Heap) (locs : List Loc) (ls : Array Slot) (s2 e2 : Nat), hw D vwCl A w H → va_S A s.heap H locs → lv_has ls 4 [(1, .int (nI Z)), (2, .int (nI s2)), (3, .int (nI e2))] → W p l e (rmL 1 21 0 0) s m args below meth c H locs 0 0 Q (F0 m 38 ls [])) → W p l e (rmL 1 21 0 0) s m args below meth c H locs 0 0 Q (F0 m 8 ls []) := by
  obtain ⟨hx, hb, hml, hts, hown, hK, hk, hAA⟩ := C0
  intro n
  induction n with
  | zero => intro r1 s1 e1 h1; omega
  | succ n ih =>
    intro r1 s1 e1 h1 h2 h3 h4 h5 H locs hW hS ls hl kk

    refine lv_iload_n hx hb dX_inverse_8 rfl (lv_at hl 2 rfl) ?_
    refine nw_if_le (tgt := 38) hx hb (by omega) dX_inverse_9 (by decide) (fun c1 => ?_) (fun c1 => ?_)
    · subst c1
      rw [Nat.pow_zero, Nat.mul_one, Nat.mod_eq_of_lt h2] at h5
      subst h5
      exact kk H locs ls _ _ hW hS (lv_sub hl [0, 1, 2] rfl)
    · refine lv_iload_n hx hb dX_inverse_12 rfl (lv_at hl 2 rfl) ?_
      refine lv_iconst (v := nI 1) hx hb dX_inverse_13 (by decide) ?_
      refine lv_iand hx hb dX_inverse_14 ?_
      refine tp_i (show (nI e1) &&& (nI 1) = nI (e1 % 2) from pk_andN (by omega) 1 (by decide)) ?_
      refine lv_iconst (v := nI 1) hx hb dX_inverse_15 (by decide) ?_
      refine nw_icmp_ne (tgt := 25) hx hb (by omega) (by omega) dX_inverse_16 (by decide) (fun c2 => ?_) (fun c2 => ?_)
      · refine lv_iload_n hx hb dX_inverse_25 rfl (lv_at hl 1 rfl) ?_
        refine lv_iload_n hx hb dX_inverse_26 rfl (lv_at hl 1 rfl) ?_
        refine kc_SI (n := 2) (As := [.int (nI s1), .int (nI s1)]) (rest := []) ⟨hx, hb, hml, hown, hts⟩ (c_X_product l D g ad tb sa w H.size s1 s1 (by omega) (by omega)) bw_422 bw_405 bw_1 bw_406 (by decide +kernel) ⟨by decide, by decide⟩ hW hK hk hS hAA rfl hl.1 rfl (Nat.le_of_ble_eq_true rfl) dX_inverse_27 ⟨by decide, by decide⟩ (fun r1 w2 H locs hp hW hS => ?_)
        obtain ⟨hw9, hr9⟩ := hp
        rw [hw9] at hW
        subst hr9
        refine lv_istore_n (lv' := [(2, .int (nI (s1 * s1 % 32003))), (1, .int (nI r1)), (3, .int (nI e1))]) hx hb dX_inverse_30 rfl hl (by decide) rfl (fun ls hl => ?_)
        refine lv_iload_n hx hb dX_inverse_31 rfl (lv_at hl 2 rfl) ?_
        refine lv_iconst (v := nI 1) hx hb dX_inverse_32 (by decide) ?_
        refine lv_ishr hx hb dX_inverse_33 ?_
        refine tp_i (show (nI e1) >>> ((nI 1) &&& 31) = nI (e1 / 2) from pk_shrN (by omega) _ 1 (by decide)) ?_
        refine lv_istore_n (lv' := [(3, .int (nI (e1 / 2))), (2, .int (nI (s1 * s1 % 32003))), (1, .int (nI r1))]) hx hb dX_inverse_34 rfl hl (by decide) rfl (fun ls hl => ?_)
        refine lv_goto (tgt := 8) hx hb dX_inverse_35 (by decide) ?_
        exact ih r1 (s1 * s1 % 32003) (e1 / 2) (by omega) (h2) (Nat.mod_lt _ (by decide)) (by omega) (by rw [← h5]; exact pw_even (by omega)) H locs hW hS ls (lv_sub hl [2, 1, 0] rfl) kk
      · refine lv_iload_n hx hb dX_inverse_19 rfl (lv_at hl 0 rfl) ?_
        refine lv_iload_n hx hb dX_inverse_20 rfl (lv_at hl 1 rfl) ?_
        refine kc_SI (n := 2) (As := [.int (nI r1), .int (nI s1)]) (rest := []) ⟨hx, hb, hml, hown, hts⟩ (c_X_product l D g ad tb sa w H.size r1 s1 (by omega) (by omega)) bw_422 bw_405 bw_1 bw_406 (by decide +kernel) ⟨by decide, by decide⟩ hW hK hk hS hAA rfl hl.1 rfl (Nat.le_of_ble_eq_true rfl) dX_inverse_21 ⟨by decide, by decide⟩ (fun r3 w4 H locs hp hW hS => ?_)
        obtain ⟨hw9, hr9⟩ := hp
        rw [hw9] at hW
        subst hr9
        refine lv_istore_n (lv' := [(1, .int (nI (r1 * s1 % 32003))), (2, .int (nI s1)), (3, .int (nI e1))]) hx hb dX_inverse_24 rfl hl (by decide) rfl (fun ls hl => ?_)
        refine lv_iload_n hx hb dX_inverse_25 rfl (lv_at hl 1 rfl) ?_
        refine lv_iload_n hx hb dX_inverse_26 rfl (lv_at hl 1 rfl) ?_
        refine kc_SI (n := 2) (As := [.int (nI s1), .int (nI s1)]) (rest := []) ⟨hx, hb, hml, hown, hts⟩ (c_X_product l D g ad tb sa w H.size s1 s1 (by omega) (by omega)) bw_422 bw_405 bw_1 bw_406 (by decide +kernel) ⟨by decide, by decide⟩ hW hK hk hS hAA rfl hl.1 rfl (Nat.le_of_ble_eq_true rfl) dX_inverse_27 ⟨by decide, by decide⟩ (fun r5 w6 H locs hp hW hS => ?_)
        obtain ⟨hw9, hr9⟩ := hp
        rw [hw9] at hW
        subst hr9
        refine lv_istore_n (lv' := [(2, .int (nI (s1 * s1 % 32003))), (1, .int (nI (r1 * s1 % 32003))), (3, .int (nI e1))]) hx hb dX_inverse_30 rfl hl (by decide) rfl (fun ls hl => ?_)
        refine lv_iload_n hx hb dX_inverse_31 rfl (lv_at hl 2 rfl) ?_
        refine lv_iconst (v := nI 1) hx hb dX_inverse_32 (by decide) ?_
        refine lv_ishr hx hb dX_inverse_33 ?_
        refine tp_i (show (nI e1) >>> ((nI 1) &&& 31) = nI (e1 / 2) from pk_shrN (by omega) _ 1 (by decide)) ?_
        refine lv_istore_n (lv' := [(3, .int (nI (e1 / 2))), (2, .int (nI (s1 * s1 % 32003))), (1, .int (nI (r1 * s1 % 32003)))]) hx hb dX_inverse_34 rfl hl (by decide) rfl (fun ls hl => ?_)
        refine lv_goto (tgt := 8) hx hb dX_inverse_35 (by decide) ?_
        exact ih (r1 * s1 % 32003) (s1 * s1 % 32003) (e1 / 2) (by omega) (Nat.mod_lt _ (by decide)) (Nat.mod_lt _ (by decide)) (by omega) (by rw [← h5]; exact pw_odd c2) H locs hW hS ls (lv_sub hl [2, 1, 0] rfl) kk

set_option maxHeartbeats 1000000 in
set_option maxRecDepth 100000 in
theorem c_X_inverse (l : Launch) (D : va_G) (g : Nat → ClassId) (ad : Nat → Nat) (tb : Nat) (sa : Nat → Nat) (w : Wd) (sz : Nat) (a : Nat) (ha9 : a < 32003) : MI l D g ad tb sa yX_inverse cX_inverse 4 (some (.int)) 1 21 0 0 w sz [.int (nI a)] (fun r w' => w' = w ∧ r = nI (iv a)) := by

  refine hm_MI (by decide) (Nat.le_of_ble_eq_true rfl) ?_
  intro p e s m below meth c A ls hx hb hr hml hts hown hlocks hin hout hsz hW hK hk hS hAA hl
  have hl : lv_has ls 4 [(0, .int (nI a))] := hl
  refine lv_iconst (v := nI 1) hx hb dX_inverse_0 (by decide) ?_
  refine lv_istore_n (lv' := [(1, .int (nI 1)), (0, .int (nI a))]) hx hb dX_inverse_1 rfl hl (by decide) rfl (fun ls hl => ?_)
  refine lv_iload_n hx hb dX_inverse_2 rfl (lv_at hl 1 rfl) ?_
  refine lv_istore_n (lv' := [(2, .int (nI a)), (1, .int (nI 1)), (0, .int (nI a))]) hx hb dX_inverse_3 rfl hl (by decide) rfl (fun ls hl => ?_)
  refine lv_sipush (v := nI 32001) hx hb dX_inverse_4 (by decide) ?_
  refine lv_istore_n (lv' := [(3, .int (nI 32001)), (2, .int (nI a)), (1, .int (nI 1)), (0, .int (nI a))]) hx hb dX_inverse_7 rfl hl (by decide) rfl (fun ls hl => ?_)
  refine lp_X_inverse ⟨hx, hb, hml, hts, hown, hK, hk, hAA⟩ 32002 1 a 32001 (by decide) (by decide) ha9 (by decide) (by rw [Nat.one_mul]) _ _ hW hS ls (lv_sub hl [2, 1, 0] rfl) ?_
  intro H locs ls s2 e2 hW hS hl
  refine lv_iload_n hx hb dX_inverse_38 rfl (lv_at hl 0 rfl) ?_
  exact W.iret (v := nI (iv a)) hx hb hr (fun t ht hW9 => ⟨⟨nI (iv a), w, rfl, ⟨rfl, rfl⟩, by rw [ht]; exact hW, va_K.moved hW9.alike hK⟩, hS.F ht⟩) hS.2.2 dX_inverse_39
