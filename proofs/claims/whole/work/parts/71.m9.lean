set_option maxHeartbeats 1000000 in
set_option maxRecDepth 100000 in
theorem lp_M_work_i {p : Program} {l : Launch} {e : Env} {s : State} {m : MethodId} {args : Array Value} {below : List Frame} {meth : Method} {c : Code} {Q : State → Prop} {D : va_G} {g : Nat → ClassId} {ad : Nat → Nat} {tb : Nat} {sa : Nat → Nat} {A : Nat → Prop} {w : Wd} {mo : Nat} {ml : Nat → Nat} {cd mn : Nat} {ki on tw od fa st : Nat → Nat} {me fo fd : Nat} {ba ta by9 : Nat → Nat} {nd : Nat → Bool} (hD : moD ml) {σ : Nat → SD} (hS9 : mS σ mn ki on tw od fa st) {f : Nat} (hfc : f < mn) {s9 : Nat} (hsf : s9 ≤ f) (C0 : cx p s m args c A cM_work 4 RM D g ad tb sa) : ∀ (e9 : Nat) (n : Nat) (rs1 : Nat → Nat) (w1 : Wd), (n + e9 = 64) → (moW g w1 mo ml cd mn ki on tw od fa st rs1 me fo fd ba ta by9 nd) → (moF mo ml w w1) → (∀ x, x < 2560 → rs1 x < 32003) → (∀ j, j < s9 → ∀ m, m < 64 → rs1 (64 * j + m) = sval σ j m) → (∀ m, m < n → rs1 (64 * s9 + m) = sval σ s9 m) → ∀ (H : Heap) (locs : List Loc), hw D vwCl A w1 H → va_S A s.heap H locs → ∀ ls : Array Slot, lv_has ls 4 [(0, .ref mo), (1, .int (nI f)), (2, .int (nI s9)), (3, .int (nI n))] → (∀ (rs1 : Nat → Nat) (w1 : Wd), (moW g w1 mo ml cd mn ki on tw od fa st rs1 me fo fd ba ta by9 nd) → (moF mo ml w w1) → (∀ x, x < 2560 → rs1 x < 32003) → (∀ j, j < s9 + 1 → ∀ m, m < 64 → rs1 (64 * j + m) = sval σ j m) → ∀ (H : Heap) (locs : List Loc), hw D vwCl A w1 H → va_S A s.heap H locs → ∀ ls : Array Slot, lv_has ls 4 [(0, .ref mo), (1, .int (nI f)), (2, .int (nI s9))] → W p l e (rmL 3 82 0 0) s m args below meth c H locs 0 0 Q (F0 m 38 ls [])) → W p l e (rmL 3 82 0 0) s m args below meth c H locs 0 0 Q (F0 m 9 ls []) := by
  obtain ⟨hx, hb, hml, hts, hown, hK, hk, hAA⟩ := C0
  intro e9
  induction e9 with
  | zero =>
    intro n rs1 w1 hn9 hM hFr hb9 hp9 hq9 H locs hW hS ls hl kk0
    refine lv_iload_n hx hb dM_work_9 rfl (lv_at hl 3 rfl) ?_
    refine lv_bipush (v := nI 64) hx hb dM_work_10 (by decide) ?_
    refine nw_icmp_ge (tgt := 38) hx hb (by omega) (by omega) dM_work_12 (by decide) (fun c1 => ?_) (fun c1 => absurd (show n < 64 from c1) (by omega))
    exact kk0 rs1 w1 hM hFr hb9 (fun j hj m hm => by
      by_cases e8 : j = s9
      · rw [e8]; exact hq9 m (by omega)
      · exact hp9 j (by omega) m hm) H locs hW hS ls (lv_sub hl [0, 1, 2] rfl)
  | succ e9 ih =>
    intro n rs1 w1 hn9 hM hFr hb9 hp9 hq9 H locs hW hS ls hl kk0
    have hmn := hS9.1
    have hvl := sval_lt hS9.2.1 (fun i hi => (hS9.2.2 i hi).2.2.2.2.2) (s9 + 1) s9 (by omega) (show s9 < mn by omega) n (by omega)
    refine lv_iload_n hx hb dM_work_9 rfl (lv_at hl 3 rfl) ?_
    refine lv_bipush (v := nI 64) hx hb dM_work_10 (by decide) ?_
    refine nw_icmp_ge (tgt := 38) hx hb (by omega) (by omega) dM_work_12 (by decide) (fun c1 => absurd (show 64 ≤ n from c1) (by omega)) (fun c1 => ?_)
    refine lv_aload_n hx hb dM_work_15 rfl (lv_at hl 0 rfl) ?_
    refine hw_get (v := .ref (ml 6)) (C := RM) (T := TM) (N := 16) hx hb hts inM hown hK hW hM.1 rfl 8 (by decide) (hts _ bw_525) (fun _ h9 => h9) rfl dM_work_16 ?_
    refine lv_bipush (v := nI 64) hx hb dM_work_19 (by decide) ?_
    refine lv_iload_n hx hb dM_work_21 rfl (lv_at hl 2 rfl) ?_
    refine lv_imul hx hb dM_work_22 ?_
    refine tp_i (show (nI 64) * (nI s9) = nI (64 * s9) from pk_mul _ _) ?_
    refine lv_iload_n hx hb dM_work_23 rfl (lv_at hl 3 rfl) ?_
    refine lv_iadd hx hb dM_work_24 ?_
    refine tp_i (show (nI (64 * s9)) + (nI n) = nI ((64 * s9) + n) from nI_add _ _) ?_
    refine lv_aload_n hx hb dM_work_25 rfl (lv_at hl 0 rfl) ?_
    refine lv_iload_n hx hb dM_work_26 rfl (lv_at hl 2 rfl) ?_
    refine lv_iload_n hx hb dM_work_27 rfl (lv_at hl 3 rfl) ?_
    refine kc_VL (n := 2) (As := [.int (nI s9), .int (nI n)]) (rest := [.int (nI ((64 * s9) + n)), .ref (ml 6)]) ⟨hx, hb, hml, hown, hts⟩ (c_M_numberOf l D g ad tb sa w1 H.size mo ml cd mn ki on tw od fa st rs1 me fo fd ba ta by9 nd hM σ hS9 s9 n (by omega) (by omega) hb9 hp9 hq9) bw_646 bw_648 bs_21 bw_3 bw_649 (by decide +kernel) rfl rfl hM.1 ⟨by decide, by decide⟩ hW hK hk hS hAA rfl hl.1 rfl (Nat.le_of_ble_eq_true rfl) dM_work_28 ⟨by decide, by decide⟩ (fun r2 w3 H locs hp hW hS => ?_)
    obtain ⟨hw9, hr9⟩ := hp
    rw [hw9] at hW
    subst hr9
    refine hw_last hx hb hK hW hS 2 hM.2.2.2.2.2.2.2.1 rfl (vp_in_nI (show (64 * s9) + n < 2560 by omega) (by omega)) dM_work_31 (fun H locs hW hS => ?_)
    rw [nI_clamp (show (64 * s9) + n < 2 ^ 31 by omega), nl_upd] at hW
    have hW : hw D vwCl A (hwu w1 (ml 6) (la (g 2) 2560 (va_up rs1 ((64 * s9) + n) (sval σ s9 n)))) H := hW
    obtain ⟨w4, ew4⟩ : ∃ z, z = hwu w1 (ml 6) (la (g 2) 2560 (va_up rs1 ((64 * s9) + n) (sval σ s9 n))) := ⟨_, rfl⟩
    rw [← ew4] at hW
    have hM : moW g w4 mo ml cd mn ki on tw od fa st (va_up rs1 ((64 * s9) + n) (sval σ s9 n)) me fo fd ba ta by9 nd := by rw [ew4]; exact hM.set_rs hD _
    have hFr : moF mo ml w w4 := hFr.tr (by rw [ew4]; exact moF_a (by decide))
    refine lv_iinc (v := nI (n + 1)) (lv' := [(3, .int (nI (n + 1))), (0, .ref mo), (1, .int (nI f)), (2, .int (nI s9))]) hx hb dM_work_32 hl (k := 3) rfl (nI_1 _) (by decide) rfl (fun ls hl => ?_)
    refine lv_goto (tgt := 9) hx hb dM_work_35 (by decide) ?_
    exact ih (n + 1) (va_up rs1 ((64 * s9) + n) (sval σ s9 n)) w4 (by omega) hM hFr (up_lt hb9 hvl) (fun j hj m hm => by rw [va_up_no (by omega)]; exact hp9 j hj m hm) (fun m hm => by
      by_cases e8 : m = n
      · rw [e8, va_up_eq]
      · rw [va_up_no (by omega)]; exact hq9 m (by omega)) H locs hW hS ls (lv_sub hl [1, 2, 3, 0] rfl) kk0

set_option maxHeartbeats 1000000 in
set_option maxRecDepth 100000 in
theorem lp_M_work_o {p : Program} {l : Launch} {e : Env} {s : State} {m : MethodId} {args : Array Value} {below : List Frame} {meth : Method} {c : Code} {Q : State → Prop} {D : va_G} {g : Nat → ClassId} {ad : Nat → Nat} {tb : Nat} {sa : Nat → Nat} {A : Nat → Prop} {w : Wd} {mo : Nat} {ml : Nat → Nat} {cd mn : Nat} {ki on tw od fa st : Nat → Nat} {me fo fd : Nat} {ba ta by9 : Nat → Nat} {nd : Nat → Bool} (hD : moD ml) {σ : Nat → SD} (hS9 : mS σ mn ki on tw od fa st) {f : Nat} (hfc : f < mn) (C0 : cx p s m args c A cM_work 4 RM D g ad tb sa) : ∀ (e9 : Nat) (s9 : Nat) (rs1 : Nat → Nat) (w1 : Wd), (s9 + e9 = f + 1) → (moW g w1 mo ml cd mn ki on tw od fa st rs1 me fo fd ba ta by9 nd) → (moF mo ml w w1) → (∀ x, x < 2560 → rs1 x < 32003) → (∀ j, j < s9 → ∀ m, m < 64 → rs1 (64 * j + m) = sval σ j m) → ∀ (H : Heap) (locs : List Loc), hw D vwCl A w1 H → va_S A s.heap H locs → ∀ ls : Array Slot, lv_has ls 4 [(0, .ref mo), (1, .int (nI f)), (2, .int (nI s9))] → (∀ (rs1 : Nat → Nat) (w1 : Wd), (moW g w1 mo ml cd mn ki on tw od fa st rs1 me fo fd ba ta by9 nd) → (moF mo ml w w1) → (∀ x, x < 2560 → rs1 x < 32003) → (∀ j, j ≤ f → ∀ m, m < 64 → rs1 (64 * j + m) = sval σ j m) → ∀ (H : Heap) (locs : List Loc), hw D vwCl A w1 H → va_S A s.heap H locs → ∀ ls : Array Slot, lv_has ls 4 [] → W p l e (rmL 3 82 0 0) s m args below meth c H locs 0 0 Q (F0 m 44 ls [])) → W p l e (rmL 3 82 0 0) s m args below meth c H locs 0 0 Q (F0 m 2 ls []) := by
  obtain ⟨hx, hb, hml, hts, hown, hK, hk, hAA⟩ := C0
  intro e9
  induction e9 with
  | zero =>
    intro s9 rs1 w1 hs9 hM hFr hb9 hp9 H locs hW hS ls hl kk0
    have hmn := hS9.1
    refine lv_iload_n hx hb dM_work_2 rfl (lv_at hl 2 rfl) ?_
    refine lv_iload_n hx hb dM_work_3 rfl (lv_at hl 1 rfl) ?_
    refine nw_icmp_gt (tgt := 44) hx hb (by omega) (by omega) dM_work_4 (by decide) (fun c1 => ?_) (fun c1 => absurd c1 (by omega))
    exact kk0 rs1 w1 hM hFr hb9 (fun j hj m hm => hp9 j (by omega) m hm) H locs hW hS ls (lv_sub hl [] rfl)
  | succ e9 ih =>
    intro s9 rs1 w1 hs9 hM hFr hb9 hp9 H locs hW hS ls hl kk0
    have hmn := hS9.1
    refine lv_iload_n hx hb dM_work_2 rfl (lv_at hl 2 rfl) ?_
    refine lv_iload_n hx hb dM_work_3 rfl (lv_at hl 1 rfl) ?_
    refine nw_icmp_gt (tgt := 44) hx hb (by omega) (by omega) dM_work_4 (by decide) (fun c1 => absurd (show f < s9 from c1) (by omega)) (fun c1 => ?_)
    refine lv_iconst (v := nI 0) hx hb dM_work_7 (by decide) ?_
    refine lv_istore_n (lv' := [(3, .int (nI 0)), (0, .ref mo), (1, .int (nI f)), (2, .int (nI s9))]) hx hb dM_work_8 rfl hl (by decide) rfl (fun ls hl => ?_)
    refine lp_M_work_i hD hS9 hfc (show s9 ≤ f by omega) ⟨hx, hb, hml, hts, hown, hK, hk, hAA⟩ 64 0 rs1 w1 (by omega) hM hFr hb9 hp9 (fun m hm => absurd hm (by omega)) _ _ hW hS ls (lv_sub hl [1, 2, 3, 0] rfl) ?_
    intro rs1 w1 hM hFr hb9 hp9 H locs hW hS ls hl
    refine lv_iinc (v := nI (s9 + 1)) (lv' := [(2, .int (nI (s9 + 1))), (0, .ref mo), (1, .int (nI f))]) hx hb dM_work_38 hl (k := 2) rfl (nI_1 _) (by decide) rfl (fun ls hl => ?_)
    refine lv_goto (tgt := 2) hx hb dM_work_41 (by decide) ?_
    exact ih (s9 + 1) rs1 w1 (by omega) hM hFr hb9 hp9 H locs hW hS ls (lv_sub hl [1, 2, 0] rfl) kk0

set_option maxHeartbeats 1000000 in
set_option maxRecDepth 100000 in
theorem c_M_work (l : Launch) (D : va_G) (g : Nat → ClassId) (ad : Nat → Nat) (tb : Nat) (sa : Nat → Nat) (w : Wd) (sz : Nat) (mo : Nat) (ml : Nat → Nat) (cd mn : Nat) (ki on tw od fa st rs : Nat → Nat) (me fo fd : Nat) (ba ta by9 : Nat → Nat) (nd : Nat → Bool) (hD : moD ml) (hM0 : moW g w mo ml cd mn ki on tw od fa st rs me fo fd ba ta by9 nd) (σ : Nat → SD) (hS9 : mS σ mn ki on tw od fa st) (f : Nat) (hfc : f < mn) (hrs : ∀ x, x < 2560 → rs x < 32003) : MV l D g ad tb sa yM_work cM_work 4 none 3 82 0 0 w sz [.ref mo, .int (nI f)] (fun w' => ∃ rs1, moF mo ml w w' ∧ moW g w' mo ml cd mn ki on tw od fa st rs1 me fo fd ba ta by9 nd ∧ (∀ x, x < 2560 → rs1 x < 32003) ∧ ∀ j, j ≤ f → ∀ m, m < 64 → rs1 (64 * j + m) = sval σ j m) := by
  refine hm_MV (by decide) (Nat.le_of_ble_eq_true rfl) ?_
  intro p e s m below meth c A ls hx hb hr hml hts hown hlocks hin hout hsz hW hK hk hS hAA hl
  have hl : lv_has ls 4 [(0, .ref mo), (1, .int (nI f))] := hl
  have hM := hM0
  have hFr : moF mo ml w w := moF.rf
  refine lv_iconst (v := nI 0) hx hb dM_work_0 (by decide) ?_
  refine lv_istore_n (lv' := [(2, .int (nI 0)), (0, .ref mo), (1, .int (nI f))]) hx hb dM_work_1 rfl hl (by decide) rfl (fun ls hl => ?_)
  refine lp_M_work_o hD hS9 hfc ⟨hx, hb, hml, hts, hown, hK, hk, hAA⟩ (f + 1) 0 rs w (by omega) hM hFr hrs (fun j hj => absurd hj (by omega)) _ _ hW hS ls (lv_sub hl [1, 2, 0] rfl) ?_
  intro rs1 w1 hM hFr hb9 hp9 H locs hW hS ls hl
  exact W.vret hx hb hr (fun t ht hW9 => ⟨⟨w1, rfl, ⟨rs1, hFr, hM, hb9, hp9⟩, by rw [ht]; exact hW, va_K.moved hW9.alike hK⟩, hS.F ht⟩) hS.2.2 dM_work_44

set_option maxHeartbeats 1000000 in
set_option maxRecDepth 100000 in
theorem c_M_value (l : Launch) (D : va_G) (g : Nat → ClassId) (ad : Nat → Nat) (tb : Nat) (sa : Nat → Nat) (w : Wd) (sz : Nat) (mo : Nat) (ml : Nat → Nat) (cd mn : Nat) (ki on tw od fa st rs : Nat → Nat) (me fo fd : Nat) (ba ta by9 : Nat → Nat) (nd : Nat → Bool) (hD : moD ml) (hM0 : moW g w mo ml cd mn ki on tw od fa st rs me fo fd ba ta by9 nd) (σ : Nat → SD) (hS9 : mS σ mn ki on tw od fa st) (hrs : ∀ x, x < 2560 → rs x < 32003) (f9 n9 : Int32) : MI l D g ad tb sa yM_value cM_value 3 (some (.int)) 4 105 0 0 w sz [.ref mo, .int f9, .int n9] (fun r w' => moF mo ml w w' ∧ ((¬ (inC mn f9 ∧ inC 64 n9) ∧ moW g w' mo ml 1 mn ki on tw od fa st rs me fo fd ba ta by9 nd) ∨ ∃ f n rs1, f < mn ∧ n < 64 ∧ f9 = nI f ∧ n9 = nI n ∧ r = nI (sval σ f n) ∧ moW g w' mo ml 0 mn ki on tw od fa st rs1 me fo fd ba ta by9 nd ∧ ∀ x, x < 2560 → rs1 x < 32003)) := by
  refine hm_MI (by decide) (Nat.le_of_ble_eq_true rfl) ?_
  intro p e s m below meth c A ls hx hb hr hml hts hown hlocks hin hout hsz hW hK hk hS hAA hl
  have hl : lv_has ls 3 [(0, .ref mo), (1, .int f9), (2, .int n9)] := hl
  have hM := hM0
  have hFr : moF mo ml w w := moF.rf
  have hmn := hS9.1
  have hb1 := bz_le (inB mn f9)
  refine lv_aload_n hx hb dM_value_0 rfl (lv_at hl 0 rfl) ?_
  refine lv_aload_n hx hb dM_value_1 rfl (lv_at hl 0 rfl) ?_
  refine lv_iload_n hx hb dM_value_2 rfl (lv_at hl 1 rfl) ?_
  refine kc_VI (n := 1) (As := [.int f9]) (rest := [.ref mo]) ⟨hx, hb, hml, hown, hts⟩ (c_M_isThere l D g ad tb sa w s.heap.size mo ml cd mn ki on tw od fa st rs me fo fd ba ta by9 nd hM (by omega) f9) bw_587 bw_589 bs_17 bw_3 bw_590 (by decide +kernel) rfl rfl hM.1 ⟨by decide, by decide⟩ hW hK hk hS hAA rfl hl.1 rfl (Nat.le_of_ble_eq_true rfl) dM_value_3 ⟨by decide, by decide⟩ (fun r1 w2 H locs hp hW hS => ?_)
  obtain ⟨hw9, hr9⟩ := hp
  rw [hw9] at hW
  subst hr9
  refine nw_if_eq (tgt := 25) hx hb (by omega) dM_value_6 (by decide) (fun c1 => ?_) (fun c1 => ?_)
  · refine lv_iconst (v := nI 1) hx hb dM_value_25 (by decide) ?_
    refine hw_put (v := .int (nI 1)) (ty := .int) (C := RM) (T := TM) (N := 16) hx hb hts inM tyM tyM_ok nmM hown hK hW hS hM.1 rfl 0 (by decide) (hts _ bw_517) (fun _ h9 => h9) rfl (by decide +kernel) rfl rfl (Nat.le_of_ble_eq_true rfl) dM_value_26 (fun H locs hW hS => ?_)
    have hW : hw D vwCl A (hwu w mo (.inr (4, [.int (nI 1), .int (nI mn), .ref (ml 0), .ref (ml 1), .ref (ml 2), .ref (ml 3), .ref (ml 4), .ref (ml 5), .ref (ml 6), .int (nI me), .int (nI fo), .int (nI fd), .ref (ml 7), .ref (ml 8), .ref (ml 9), .ref (ml 10)]))) H := hW
    obtain ⟨w3, ew3⟩ : ∃ z, z = hwu w mo (.inr (4, [.int (nI 1), .int (nI mn), .ref (ml 0), .ref (ml 1), .ref (ml 2), .ref (ml 3), .ref (ml 4), .ref (ml 5), .ref (ml 6), .int (nI me), .int (nI fo), .int (nI fd), .ref (ml 7), .ref (ml 8), .ref (ml 9), .ref (ml 10)])) := ⟨_, rfl⟩
    rw [← ew3] at hW
    have hM : moW g w3 mo ml 1 mn ki on tw od fa st rs me fo fd ba ta by9 nd := by rw [ew3]; exact hM.set_m _ _ _ _ _
    have hFr : moF mo ml w w3 := hFr.tr (by rw [ew3]; exact moF_m)
    refine lv_aload_n hx hb dM_value_29 rfl (lv_at hl 0 rfl) ?_
    refine hw_get (v := .int (nI 1)) (C := RM) (T := TM) (N := 16) hx hb hts inM hown hK hW hM.1 rfl 0 (by decide) (hts _ bw_517) (fun _ h9 => h9) rfl dM_value_30 ?_
    refine nw_if_le (tgt := 38) hx hb (by omega) dM_value_33 (by decide) (fun c4 => absurd c4 (by decide)) (fun c4 => ?_)
    refine lv_iconst (v := nI 0) hx hb dM_value_36 (by decide) ?_
    exact W.iret (v := nI 0) hx hb hr (fun t ht hW9 => ⟨⟨nI 0, w3, rfl, ⟨hFr, Or.inl ⟨by first | exact fun h9 => (inB_f (by omega)).mp (bz_f c1) h9.1 | exact fun h9 => (inB_f (by omega)).mp (bz_f c2) h9.2, hM⟩⟩, by rw [ht]; exact hW, va_K.moved hW9.alike hK⟩, hS.F ht⟩) hS.2.2 dM_value_37
  · obtain ⟨f, hfc, ef⟩ := (inB_iff (by omega)).mp (bz_t c1)
    rw [ef] at hl
    obtain ⟨q1, q2, q3, q4, q5, q6⟩ := hS9.2.2 f hfc
    have hb3 := bz_le (inB 64 n9)
    refine lv_iload_n hx hb dM_value_9 rfl (lv_at hl 2 rfl) ?_
    refine lv_i2l hx hb dM_value_10 rfl ?_
    refine lv_lconst (v := lN 0) hx hb dM_value_11 (by decide) ?_
    refine lv_ldc2 (v := 63) hx hb hown (hts _ bw_600) dM_value_12 ?_
    refine tp_l (show (63 : Int64) = lN 63 by decide) ?_
    refine kc_SI (n := 3) (As := [.long n9.toInt64, .long (lN 0), .long (lN 63)]) (rest := [.ref mo]) ⟨hx, hb, hml, hown, hts⟩ (c_M_in l D g ad tb sa w H.size (n9.toInt64) (lN 0) (lN 63)) bw_576 bw_577 bw_3 bw_578 (by decide +kernel) ⟨by decide, by decide⟩ hW hK hk hS hAA rfl hl.1 rfl (Nat.le_of_ble_eq_true rfl) dM_value_15 ⟨by decide, by decide⟩ (fun r5 w6 H locs hp hW hS => ?_)
    obtain ⟨hw9, hr9⟩ := hp
    rw [hw9] at hW
    subst hr9
    refine tp_i (show nI (bz (decide ((lN 0).toInt ≤ n9.toInt64.toInt ∧ n9.toInt64.toInt ≤ (lN 63).toInt))) = nI (bz (inB 64 n9)) from by rw [in_le (by omega)]) ?_
    refine nw_if_eq (tgt := 25) hx hb (by omega) dM_value_18 (by decide) (fun c2 => ?_) (fun c2 => ?_)
    · refine lv_iconst (v := nI 1) hx hb dM_value_25 (by decide) ?_
      refine hw_put (v := .int (nI 1)) (ty := .int) (C := RM) (T := TM) (N := 16) hx hb hts inM tyM tyM_ok nmM hown hK hW hS hM.1 rfl 0 (by decide) (hts _ bw_517) (fun _ h9 => h9) rfl (by decide +kernel) rfl rfl (Nat.le_of_ble_eq_true rfl) dM_value_26 (fun H locs hW hS => ?_)
      have hW : hw D vwCl A (hwu w mo (.inr (4, [.int (nI 1), .int (nI mn), .ref (ml 0), .ref (ml 1), .ref (ml 2), .ref (ml 3), .ref (ml 4), .ref (ml 5), .ref (ml 6), .int (nI me), .int (nI fo), .int (nI fd), .ref (ml 7), .ref (ml 8), .ref (ml 9), .ref (ml 10)]))) H := hW
      obtain ⟨w7, ew7⟩ : ∃ z, z = hwu w mo (.inr (4, [.int (nI 1), .int (nI mn), .ref (ml 0), .ref (ml 1), .ref (ml 2), .ref (ml 3), .ref (ml 4), .ref (ml 5), .ref (ml 6), .int (nI me), .int (nI fo), .int (nI fd), .ref (ml 7), .ref (ml 8), .ref (ml 9), .ref (ml 10)])) := ⟨_, rfl⟩
      rw [← ew7] at hW
      have hM : moW g w7 mo ml 1 mn ki on tw od fa st rs me fo fd ba ta by9 nd := by rw [ew7]; exact hM.set_m _ _ _ _ _
      have hFr : moF mo ml w w7 := hFr.tr (by rw [ew7]; exact moF_m)
      refine lv_aload_n hx hb dM_value_29 rfl (lv_at hl 0 rfl) ?_
      refine hw_get (v := .int (nI 1)) (C := RM) (T := TM) (N := 16) hx hb hts inM hown hK hW hM.1 rfl 0 (by decide) (hts _ bw_517) (fun _ h9 => h9) rfl dM_value_30 ?_
      refine nw_if_le (tgt := 38) hx hb (by omega) dM_value_33 (by decide) (fun c8 => absurd c8 (by decide)) (fun c8 => ?_)
      refine lv_iconst (v := nI 0) hx hb dM_value_36 (by decide) ?_
      exact W.iret (v := nI 0) hx hb hr (fun t ht hW9 => ⟨⟨nI 0, w7, rfl, ⟨hFr, Or.inl ⟨by first | exact fun h9 => (inB_f (by omega)).mp (bz_f c1) h9.1 | exact fun h9 => (inB_f (by omega)).mp (bz_f c2) h9.2, hM⟩⟩, by rw [ht]; exact hW, va_K.moved hW9.alike hK⟩, hS.F ht⟩) hS.2.2 dM_value_37
    · obtain ⟨n, hnc, en⟩ := (inB_iff (by omega)).mp (bz_t c2)
      rw [en] at hl
      refine lv_iconst (v := nI 0) hx hb dM_value_21 (by decide) ?_
      refine lv_goto (tgt := 26) hx hb dM_value_22 (by decide) ?_
      refine hw_put (v := .int (nI 0)) (ty := .int) (C := RM) (T := TM) (N := 16) hx hb hts inM tyM tyM_ok nmM hown hK hW hS hM.1 rfl 0 (by decide) (hts _ bw_517) (fun _ h9 => h9) rfl (by decide +kernel) rfl rfl (Nat.le_of_ble_eq_true rfl) dM_value_26 (fun H locs hW hS => ?_)
      have hW : hw D vwCl A (hwu w mo (.inr (4, [.int (nI 0), .int (nI mn), .ref (ml 0), .ref (ml 1), .ref (ml 2), .ref (ml 3), .ref (ml 4), .ref (ml 5), .ref (ml 6), .int (nI me), .int (nI fo), .int (nI fd), .ref (ml 7), .ref (ml 8), .ref (ml 9), .ref (ml 10)]))) H := hW
      obtain ⟨w9, ew9⟩ : ∃ z, z = hwu w mo (.inr (4, [.int (nI 0), .int (nI mn), .ref (ml 0), .ref (ml 1), .ref (ml 2), .ref (ml 3), .ref (ml 4), .ref (ml 5), .ref (ml 6), .int (nI me), .int (nI fo), .int (nI fd), .ref (ml 7), .ref (ml 8), .ref (ml 9), .ref (ml 10)])) := ⟨_, rfl⟩
      rw [← ew9] at hW
      have hM : moW g w9 mo ml 0 mn ki on tw od fa st rs me fo fd ba ta by9 nd := by rw [ew9]; exact hM.set_m _ _ _ _ _
      have hFr : moF mo ml w w9 := hFr.tr (by rw [ew9]; exact moF_m)
      refine lv_aload_n hx hb dM_value_29 rfl (lv_at hl 0 rfl) ?_
      refine hw_get (v := .int (nI 0)) (C := RM) (T := TM) (N := 16) hx hb hts inM hown hK hW hM.1 rfl 0 (by decide) (hts _ bw_517) (fun _ h9 => h9) rfl dM_value_30 ?_
      refine nw_if_le (tgt := 38) hx hb (by omega) dM_value_33 (by decide) (fun c10 => ?_) (fun c10 => absurd c10 (by decide))
      refine lv_aload_n hx hb dM_value_38 rfl (lv_at hl 0 rfl) ?_
      refine lv_iload_n hx hb dM_value_39 rfl (lv_at hl 1 rfl) ?_
      refine kc_VV (n := 1) (As := [.int (nI f)]) (rest := []) ⟨hx, hb, hml, hown, hts⟩ (c_M_work l D g ad tb sa w9 H.size mo ml 0 mn ki on tw od fa st rs me fo fd ba ta by9 nd hD hM σ hS9 f hfc hrs) bw_642 bw_644 bs_20 bw_3 bw_645 (by decide +kernel) rfl rfl hM.1 ⟨by decide, by decide⟩ hW hK hk hS hAA rfl hl.1 rfl (Nat.le_of_ble_eq_true rfl) dM_value_40 ⟨by decide, by decide⟩ (fun w12 H locs hp hW hS => ?_)
      obtain ⟨rs1, hF9, hM, hb9, hp9⟩ := hp
      have hFr : moF mo ml w w12 := hFr.tr hF9
      refine lv_aload_n hx hb dM_value_43 rfl (lv_at hl 0 rfl) ?_
      refine hw_get (v := .ref (ml 6)) (C := RM) (T := TM) (N := 16) hx hb hts inM hown hK hW hM.1 rfl 8 (by decide) (hts _ bw_525) (fun _ h9 => h9) rfl dM_value_44 ?_
      refine lv_bipush (v := nI 64) hx hb dM_value_47 (by decide) ?_
      refine lv_iload_n hx hb dM_value_49 rfl (lv_at hl 1 rfl) ?_
      refine lv_imul hx hb dM_value_50 ?_
      refine tp_i (show (nI 64) * (nI f) = nI (64 * f) from pk_mul _ _) ?_
      refine lv_iload_n hx hb dM_value_51 rfl (lv_at hl 2 rfl) ?_
      refine lv_iadd hx hb dM_value_52 ?_
      refine tp_i (show (nI (64 * f)) + (nI n) = nI ((64 * f) + n) from nI_add _ _) ?_
      refine hw_lald hx hb hK hW 2 hM.2.2.2.2.2.2.2.1 rfl (vp_in_nI (show (64 * f) + n < 2560 by omega) (by omega)) dM_value_53 ?_
      refine tp_l (show (nl rs1) (nI ((64 * f) + n)).toNatClampNeg = lN (rs1 ((64 * f) + n)) from by rw [nI_clamp (by omega)]; rfl) ?_
      refine tp_l (show lN (rs1 ((64 * f) + n)) = lN (sval σ f n) from by rw [hp9 f (by omega) n hnc]) ?_
      refine lv_l2i (v := nI (sval σ f n)) hx hb dM_value_54 (lN_i _) ?_
      exact W.iret (v := nI (sval σ f n)) hx hb hr (fun t ht hW9 => ⟨⟨nI (sval σ f n), w12, rfl, ⟨hFr, Or.inr ⟨f, n, rs1, hfc, hnc, ef, en, rfl, hM, hb9⟩⟩, by rw [ht]; exact hW, va_K.moved hW9.alike hK⟩, hS.F ht⟩) hS.2.2 dM_value_55
