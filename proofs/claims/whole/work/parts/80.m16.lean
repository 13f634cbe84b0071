set_option maxHeartbeats 1000000 in
set_option maxRecDepth 100000 in
theorem lp_M_least {p : Program} {l : Launch} {e : Env} {s : State} {m : MethodId} {args : Array Value} {below : List Frame} {meth : Method} {c : Code} {Q : State → Prop} {D : va_G} {g : Nat → ClassId} {ad : Nat → Nat} {tb : Nat} {sa : Nat → Nat} {A : Nat → Prop} {w : Wd} {mo : Nat} {ml : Nat → Nat} {cd mn : Nat} {ki on tw od fa st : Nat → Nat} {me fo fd : Nat} {ba : Nat → Nat} {nd : Nat → Bool} (hD : moD ml) {σ : Nat → SD} (hS9 : mS σ mn ki on tw od fa st) {f d : Nat} (hfc : f < mn) (hd : d < 4) (C0 : cx p s m args c A cM_least 4 RM D g ad tb sa) : ∀ (e9 : Nat) (o : Nat) (rs1 ta1 by1 : Nat → Nat) (w1 : Wd), (o + e9 = 5) → (moW g w1 mo ml cd mn ki on tw od fa st rs1 me fo fd ba ta1 by1 nd) → (moF mo ml w w1) → (∀ x, x < 2560 → rs1 x < 32003) → (∀ x, x < 1280 → ta1 x < 32003) → (∀ o', o' < o → hasB (sval σ f) o' d 0) → ∀ (H : Heap) (locs : List Loc), hw D vwCl A w1 H → va_S A s.heap H locs → ∀ ls : Array Slot, lv_has ls 4 [(0, .ref mo), (1, .int (nI f)), (2, .int (nI d)), (3, .int (nI o))] → (∀ (o : Nat) (rs1 ta1 by1 : Nat → Nat) (w1 : Wd), (o < 5) → (∃ n, 0 < n ∧ hasB (sval σ f) o d n) → (moW g w1 mo ml cd mn ki on tw od fa st rs1 me fo fd ba ta1 by1 nd) → (moF mo ml w w1) → (∀ x, x < 2560 → rs1 x < 32003) → (∀ x, x < 1280 → ta1 x < 32003) → (∀ o', o' < o → hasB (sval σ f) o' d 0) → ∀ (H : Heap) (locs : List Loc), hw D vwCl A w1 H → va_S A s.heap H locs → ∀ ls : Array Slot, lv_has ls 4 [(3, .int (nI o))] → W p l e (rmL 5 133 0 0) s m args below meth c H locs 0 0 Q (F0 m 70 ls [])) → (∀ (rs1 ta1 by1 : Nat → Nat) (w1 : Wd), (moW g w1 mo ml cd mn ki on tw od fa st rs1 me fo fd ba ta1 by1 nd) → (moF mo ml w w1) → (∀ x, x < 2560 → rs1 x < 32003) → (∀ x, x < 1280 → ta1 x < 32003) → (∀ o', o' < 5 → hasB (sval σ f) o' d 0) → ∀ (H : Heap) (locs : List Loc), hw D vwCl A w1 H → va_S A s.heap H locs → ∀ ls : Array Slot, lv_has ls 4 [] → W p l e (rmL 5 133 0 0) s m args below meth c H locs 0 0 Q (F0 m 78 ls [])) → W p l e (rmL 5 133 0 0) s m args below meth c H locs 0 0 Q (F0 m 44 ls []) := by
  obtain ⟨hx, hb, hml, hts, hown, hK, hk, hAA⟩ := C0
  intro e9
  induction e9 with
  | zero =>
    intro o rs1 ta1 by1 w1 ho hM hFr hrs htb hz H locs hW hS ls hl kk0 kk1
    refine lv_iload_n hx hb dM_least_44 rfl (lv_at hl 3 rfl) ?_
    refine lv_iconst (v := nI 5) hx hb dM_least_45 (by decide) ?_
    refine nw_icmp_ge (tgt := 78) hx hb (by omega) (by omega) dM_least_46 (by decide) (fun c1 => ?_) (fun c1 => absurd (show o < 5 from c1) (by omega))
    exact kk1 rs1 ta1 by1 w1 hM hFr hrs htb (fun o' ho' => hz o' (by omega)) H locs hW hS ls (lv_sub hl [] rfl)
  | succ e9 ih =>
    intro o rs1 ta1 by1 w1 ho hM hFr hrs htb hz H locs hW hS ls hl kk0 kk1
    have hmn := hS9.1
    have hcm := we_cn (show o ≤ 4 by omega) (show d ≤ 3 by omega)
    refine lv_iload_n hx hb dM_least_44 rfl (lv_at hl 3 rfl) ?_
    refine lv_iconst (v := nI 5) hx hb dM_least_45 (by decide) ?_
    refine nw_icmp_ge (tgt := 78) hx hb (by omega) (by omega) dM_least_46 (by decide) (fun c1 => absurd (show 5 ≤ o from c1) (by omega)) (fun c1 => ?_)
    refine lv_aload_n hx hb dM_least_49 rfl (lv_at hl 0 rfl) ?_
    refine lv_iload_n hx hb dM_least_50 rfl (lv_at hl 1 rfl) ?_
    refine lv_iload_n hx hb dM_least_51 rfl (lv_at hl 3 rfl) ?_
    refine lv_iload_n hx hb dM_least_52 rfl (lv_at hl 2 rfl) ?_
    refine kc_VV (n := 3) (As := [.int (nI f), .int (nI o), .int (nI d)]) (rest := []) ⟨hx, hb, hml, hown, hts⟩ (c_M_fill l D g ad tb sa w1 H.size mo ml cd mn ki on tw od fa st rs1 me fo fd ba ta1 by1 nd hD hM σ hS9 hrs f o d hfc (by omega) (by omega) htb) bw_682 bw_684 bs_24 bw_3 bw_685 (by decide +kernel) rfl rfl hM.1 ⟨by decide, by decide⟩ hW hK hk hS hAA rfl hl.1 rfl (Nat.le_of_ble_eq_true rfl) dM_least_53 ⟨by decide, by decide⟩ (fun w3 H locs hp hW hS => ?_)
    obtain ⟨rs2, ta2, hF9, hM, hrs, htb, hfi⟩ := hp
    have hFr : moF mo ml w w3 := hFr.tr hF9
    refine lv_aload_n hx hb dM_least_56 rfl (lv_at hl 0 rfl) ?_
    refine lv_iload_n hx hb dM_least_57 rfl (lv_at hl 3 rfl) ?_
    refine lv_iconst (v := nI 1) hx hb dM_least_58 (by decide) ?_
    refine lv_iadd hx hb dM_least_59 ?_
    refine tp_i (show (nI o) + (nI 1) = nI (o + 1) from nI_add _ _) ?_
    refine lv_iload_n hx hb dM_least_60 rfl (lv_at hl 2 rfl) ?_
    refine lv_iconst (v := nI 1) hx hb dM_least_61 (by decide) ?_
    refine lv_iadd hx hb dM_least_62 ?_
    refine tp_i (show (nI d) + (nI 1) = nI (d + 1) from nI_add _ _) ?_
    refine lv_imul hx hb dM_least_63 ?_
    refine tp_i (show (nI (o + 1)) * (nI (d + 1)) = nI ((o + 1) * (d + 1)) from pk_mul _ _) ?_
    refine kc_VI (n := 1) (As := [.int (nI ((o + 1) * (d + 1)))]) (rest := []) ⟨hx, hb, hml, hown, hts⟩ (c_M_clear l D g ad tb sa w3 H.size mo ml cd mn ki on tw od fa st rs2 me fo fd ba ta2 by1 nd hD hM ((o + 1) * (d + 1)) hcm htb) bw_686 bw_688 bs_25 bw_3 bw_689 (by decide +kernel) rfl rfl hM.1 ⟨by decide, by decide⟩ hW hK hk hS hAA rfl hl.1 rfl (Nat.le_of_ble_eq_true rfl) dM_least_64 ⟨by decide, by decide⟩ (fun r4 w5 H locs hp hW hS => ?_)
    obtain ⟨row, fe, ta3, by3, hr9, hF9, hM, htb, hG, hfe⟩ := hp
    subst hr9
    have hFr : moF mo ml w w5 := hFr.tr hF9
    have hB := gj_hasB hfi hcm hG
    rw [← hfe] at hB
    have hfl := fr_le (ldB ((o + 1) * (d + 1)) by3) ((o + 1) * (d + 1))
    refine nw_if_le (tgt := 72) hx hb (by omega) dM_least_67 (by decide) (fun cz => ?_) (fun cz => ?_)
    · refine lv_iinc (v := nI (o + 1)) (lv' := [(3, .int (nI (o + 1))), (0, .ref mo), (1, .int (nI f)), (2, .int (nI d))]) hx hb dM_least_72 hl (k := 3) rfl (nI_1 _) (by decide) rfl (fun ls hl => ?_)
      refine lv_goto (tgt := 44) hx hb dM_least_75 (by decide) ?_
      exact ih (o + 1) rs2 ta3 by3 w5 (by omega) hM hFr hrs htb (fun o' ho' => by
        by_cases e8 : o' = o
        · rw [e8]; rw [show fe = 0 by omega] at hB; exact hB
        · exact hz o' (by omega)) H locs hW hS ls (lv_sub hl [1, 2, 3, 0] rfl) kk0 kk1
    · exact kk0 o rs2 ta3 by3 w5 (by omega) (⟨fe, by omega, hB⟩) hM hFr hrs htb hz H locs hW hS ls (lv_sub hl [3] rfl)

set_option maxHeartbeats 1000000 in
set_option maxRecDepth 100000 in
theorem c_M_least (l : Launch) (D : va_G) (g : Nat → ClassId) (ad : Nat → Nat) (tb : Nat) (sa : Nat → Nat) (w : Wd) (sz : Nat) (mo : Nat) (ml : Nat → Nat) (cd mn : Nat) (ki on tw od fa st rs : Nat → Nat) (me fo fd : Nat) (ba ta by9 : Nat → Nat) (nd : Nat → Bool) (hD : moD ml) (hM0 : moW g w mo ml cd mn ki on tw od fa st rs me fo fd ba ta by9 nd) (σ : Nat → SD) (hS9 : mS σ mn ki on tw od fa st) (hrs : ∀ x, x < 2560 → rs x < 32003) (htb : ∀ x, x < 1280 → ta x < 32003) (f9 d9 : Int32) : MI l D g ad tb sa yM_least cM_least 4 (some (.int)) 5 133 0 0 w sz [.ref mo, .int f9, .int d9] (fun r w' => moF mo ml w w' ∧ ((¬ inC mn f9 ∧ moW g w' mo ml 1 mn ki on tw od fa st rs me fo fd ba ta by9 nd) ∨ (inC mn f9 ∧ ¬ inC 4 d9 ∧ moW g w' mo ml 2 mn ki on tw od fa st rs me fo fd ba ta by9 nd) ∨ ∃ f d rs1 ta1 by1, f < mn ∧ d < 4 ∧ f9 = nI f ∧ d9 = nI d ∧ lst (sval σ f) d r ∧ moW g w' mo ml 0 mn ki on tw od fa st rs1 me fo fd ba ta1 by1 nd ∧ (∀ x, x < 2560 → rs1 x < 32003) ∧ ∀ x, x < 1280 → ta1 x < 32003)) := by
  refine hm_MI (by decide) (Nat.le_of_ble_eq_true rfl) ?_
  intro p e s m below meth c A ls hx hb hr hml hts hown hlocks hin hout hsz hW hK hk hS hAA hl
  have hl : lv_has ls 4 [(0, .ref mo), (1, .int f9), (2, .int d9)] := hl
  have hM := hM0
  have hFr : moF mo ml w w := moF.rf
  have hmn := hS9.1
  have hb1 := bz_le (inB mn f9)
  refine lv_aload_n hx hb dM_least_0 rfl (lv_at hl 0 rfl) ?_
  refine lv_aload_n hx hb dM_least_1 rfl (lv_at hl 0 rfl) ?_
  refine lv_iload_n hx hb dM_least_2 rfl (lv_at hl 1 rfl) ?_
  refine kc_VI (n := 1) (As := [.int f9]) (rest := [.ref mo]) ⟨hx, hb, hml, hown, hts⟩ (c_M_isThere l D g ad tb sa w s.heap.size mo ml cd mn ki on tw od fa st rs me fo fd ba ta by9 nd hM (by omega) f9) bw_587 bw_589 bs_17 bw_3 bw_590 (by decide +kernel) rfl rfl hM.1 ⟨by decide, by decide⟩ hW hK hk hS hAA rfl hl.1 rfl (Nat.le_of_ble_eq_true rfl) dM_least_3 ⟨by decide, by decide⟩ (fun r1 w2 H locs hp hW hS => ?_)
  obtain ⟨hw9, hr9⟩ := hp
  rw [hw9] at hW
  subst hr9
  refine nw_if_ne (tgt := 13) hx hb (by omega) dM_least_6 (by decide) (fun c1 => ?_) (fun c1 => ?_)
  · obtain ⟨f, hfc, ef⟩ := (inB_iff (by omega)).mp (bz_t c1)
    rw [ef] at hl
    obtain ⟨q1, q2, q3, q4, q5, q6⟩ := hS9.2.2 f hfc
    have hb3 := bz_le (inB 4 d9)
    refine lv_iload_n hx hb dM_least_13 rfl (lv_at hl 2 rfl) ?_
    refine lv_i2l hx hb dM_least_14 rfl ?_
    refine lv_lconst (v := lN 0) hx hb dM_least_15 (by decide) ?_
    refine lv_ldc2 (v := 3) hx hb hown (hts _ bw_575) dM_least_16 ?_
    refine tp_l (show (3 : Int64) = lN 3 by decide) ?_
    refine kc_SI (n := 3) (As := [.long d9.toInt64, .long (lN 0), .long (lN 3)]) (rest := [.ref mo]) ⟨hx, hb, hml, hown, hts⟩ (c_M_in l D g ad tb sa w H.size (d9.toInt64) (lN 0) (lN 3)) bw_576 bw_577 bw_3 bw_578 (by decide +kernel) ⟨by decide, by decide⟩ hW hK hk hS hAA rfl hl.1 rfl (Nat.le_of_ble_eq_true rfl) dM_least_19 ⟨by decide, by decide⟩ (fun r3 w4 H locs hp hW hS => ?_)
    obtain ⟨hw9, hr9⟩ := hp
    rw [hw9] at hW
    subst hr9
    refine tp_i (show nI (bz (decide ((lN 0).toInt ≤ d9.toInt64.toInt ∧ d9.toInt64.toInt ≤ (lN 3).toInt))) = nI (bz (inB 4 d9)) from by rw [in_le (by omega)]) ?_
    refine nw_if_ne (tgt := 29) hx hb (by omega) dM_least_22 (by decide) (fun c2 => ?_) (fun c2 => ?_)
    · obtain ⟨d, hdc, ed⟩ := (inB_iff (by omega)).mp (bz_t c2)
      rw [ed] at hl
      refine lv_iconst (v := nI 0) hx hb dM_least_29 (by decide) ?_
      refine hw_put (v := .int (nI 0)) (ty := .int) (C := RM) (T := TM) (N := 16) hx hb hts inM tyM tyM_ok nmM hown hK hW hS hM.1 rfl 0 (by decide) (hts _ bw_517) (fun _ h9 => h9) rfl (by decide +kernel) rfl rfl (Nat.le_of_ble_eq_true rfl) dM_least_30 (fun H locs hW hS => ?_)
      have hW : hw D vwCl A (hwu w mo (.inr (4, [.int (nI 0), .int (nI mn), .ref (ml 0), .ref (ml 1), .ref (ml 2), .ref (ml 3), .ref (ml 4), .ref (ml 5), .ref (ml 6), .int (nI me), .int (nI fo), .int (nI fd), .ref (ml 7), .ref (ml 8), .ref (ml 9), .ref (ml 10)]))) H := hW
      obtain ⟨w5, ew5⟩ : ∃ z, z = hwu w mo (.inr (4, [.int (nI 0), .int (nI mn), .ref (ml 0), .ref (ml 1), .ref (ml 2), .ref (ml 3), .ref (ml 4), .ref (ml 5), .ref (ml 6), .int (nI me), .int (nI fo), .int (nI fd), .ref (ml 7), .ref (ml 8), .ref (ml 9), .ref (ml 10)])) := ⟨_, rfl⟩
      rw [← ew5] at hW
      have hM : moW g w5 mo ml 0 mn ki on tw od fa st rs me fo fd ba ta by9 nd := by rw [ew5]; exact hM.set_m _ _ _ _ _
      have hFr : moF mo ml w w5 := hFr.tr (by rw [ew5]; exact moF_m)
      refine lv_aload_n hx hb dM_least_33 rfl (lv_at hl 0 rfl) ?_
      refine hw_get (v := .int (nI 0)) (C := RM) (T := TM) (N := 16) hx hb hts inM hown hK hW hM.1 rfl 0 (by decide) (hts _ bw_517) (fun _ h9 => h9) rfl dM_least_34 ?_
      refine nw_if_le (tgt := 42) hx hb (by omega) dM_least_37 (by decide) (fun c6 => ?_) (fun c6 => absurd c6 (by decide))
      refine lv_iconst (v := nI 0) hx hb dM_least_42 (by decide) ?_
      refine lv_istore_n (lv' := [(3, .int (nI 0)), (0, .ref mo), (1, .int (nI f)), (2, .int (nI d))]) hx hb dM_least_43 rfl hl (by decide) rfl (fun ls hl => ?_)
      refine lp_M_least hD hS9 hfc hdc ⟨hx, hb, hml, hts, hown, hK, hk, hAA⟩ 5 0 rs ta by9 w5 (by omega) hM hFr hrs htb (fun o' h9 => absurd h9 (by omega)) _ _ hW hS ls (lv_sub hl [1, 2, 3, 0] rfl) ?_ ?_
      · intro o rs1 ta1 by1 w1 ho hpos hM hFr hrs htb hz H locs hW hS ls hl
        refine lv_iload_n hx hb dM_least_70 rfl (lv_at hl 0 rfl) ?_
        exact W.iret (v := nI o) hx hb hr (fun t ht hW9 => ⟨⟨nI o, w1, rfl, ⟨hFr, Or.inr (Or.inr ⟨f, d, rs1, ta1, by1, hfc, hdc, ef, ed, Or.inl ⟨o, ho, hpos, hz, rfl⟩, hM, hrs, htb⟩)⟩, by rw [ht]; exact hW, va_K.moved hW9.alike hK⟩, hS.F ht⟩) hS.2.2 dM_least_71
      · intro rs1 ta1 by1 w1 hM hFr hrs htb hz H locs hW hS ls hl
        refine lv_iconst (v := (-1)) hx hb dM_least_78 (by decide) ?_
        exact W.iret (v := (-1)) hx hb hr (fun t ht hW9 => ⟨⟨(-1), w1, rfl, ⟨hFr, Or.inr (Or.inr ⟨f, d, rs1, ta1, by1, hfc, hdc, ef, ed, Or.inr ⟨hz, rfl⟩, hM, hrs, htb⟩)⟩, by rw [ht]; exact hW, va_K.moved hW9.alike hK⟩, hS.F ht⟩) hS.2.2 dM_least_79
    · refine lv_iconst (v := nI 2) hx hb dM_least_25 (by decide) ?_
      refine lv_goto (tgt := 30) hx hb dM_least_26 (by decide) ?_
      refine hw_put (v := .int (nI 2)) (ty := .int) (C := RM) (T := TM) (N := 16) hx hb hts inM tyM tyM_ok nmM hown hK hW hS hM.1 rfl 0 (by decide) (hts _ bw_517) (fun _ h9 => h9) rfl (by decide +kernel) rfl rfl (Nat.le_of_ble_eq_true rfl) dM_least_30 (fun H locs hW hS => ?_)
      have hW : hw D vwCl A (hwu w mo (.inr (4, [.int (nI 2), .int (nI mn), .ref (ml 0), .ref (ml 1), .ref (ml 2), .ref (ml 3), .ref (ml 4), .ref (ml 5), .ref (ml 6), .int (nI me), .int (nI fo), .int (nI fd), .ref (ml 7), .ref (ml 8), .ref (ml 9), .ref (ml 10)]))) H := hW
      obtain ⟨w7, ew7⟩ : ∃ z, z = hwu w mo (.inr (4, [.int (nI 2), .int (nI mn), .ref (ml 0), .ref (ml 1), .ref (ml 2), .ref (ml 3), .ref (ml 4), .ref (ml 5), .ref (ml 6), .int (nI me), .int (nI fo), .int (nI fd), .ref (ml 7), .ref (ml 8), .ref (ml 9), .ref (ml 10)])) := ⟨_, rfl⟩
      rw [← ew7] at hW
      have hM : moW g w7 mo ml 2 mn ki on tw od fa st rs me fo fd ba ta by9 nd := by rw [ew7]; exact hM.set_m _ _ _ _ _
      have hFr : moF mo ml w w7 := hFr.tr (by rw [ew7]; exact moF_m)
      refine lv_aload_n hx hb dM_least_33 rfl (lv_at hl 0 rfl) ?_
      refine hw_get (v := .int (nI 2)) (C := RM) (T := TM) (N := 16) hx hb hts inM hown hK hW hM.1 rfl 0 (by decide) (hts _ bw_517) (fun _ h9 => h9) rfl dM_least_34 ?_
      refine nw_if_le (tgt := 42) hx hb (by omega) dM_least_37 (by decide) (fun c8 => absurd c8 (by decide)) (fun c8 => ?_)
      refine lv_iconst (v := nI 0) hx hb dM_least_40 (by decide) ?_
      exact W.iret (v := nI 0) hx hb hr (fun t ht hW9 => ⟨⟨nI 0, w7, rfl, ⟨hFr, Or.inr (Or.inl ⟨⟨f, hfc, ef⟩, (inB_f (by omega)).mp (bz_f c2), hM⟩)⟩, by rw [ht]; exact hW, va_K.moved hW9.alike hK⟩, hS.F ht⟩) hS.2.2 dM_least_41
  · refine lv_iconst (v := nI 1) hx hb dM_least_9 (by decide) ?_
    refine lv_goto (tgt := 30) hx hb dM_least_10 (by decide) ?_
    refine hw_put (v := .int (nI 1)) (ty := .int) (C := RM) (T := TM) (N := 16) hx hb hts inM tyM tyM_ok nmM hown hK hW hS hM.1 rfl 0 (by decide) (hts _ bw_517) (fun _ h9 => h9) rfl (by decide +kernel) rfl rfl (Nat.le_of_ble_eq_true rfl) dM_least_30 (fun H locs hW hS => ?_)
    have hW : hw D vwCl A (hwu w mo (.inr (4, [.int (nI 1), .int (nI mn), .ref (ml 0), .ref (ml 1), .ref (ml 2), .ref (ml 3), .ref (ml 4), .ref (ml 5), .ref (ml 6), .int (nI me), .int (nI fo), .int (nI fd), .ref (ml 7), .ref (ml 8), .ref (ml 9), .ref (ml 10)]))) H := hW
    obtain ⟨w9, ew9⟩ : ∃ z, z = hwu w mo (.inr (4, [.int (nI 1), .int (nI mn), .ref (ml 0), .ref (ml 1), .ref (ml 2), .ref (ml 3), .ref (ml 4), .ref (ml 5), .ref (ml 6), .int (nI me), .int (nI fo), .int (nI fd), .ref (ml 7), .ref (ml 8), .ref (ml 9), .ref (ml 10)])) := ⟨_, rfl⟩
    rw [← ew9] at hW
    have hM : moW g w9 mo ml 1 mn ki on tw od fa st rs me fo fd ba ta by9 nd := by rw [ew9]; exact hM.set_m _ _ _ _ _
    have hFr : moF mo ml w w9 := hFr.tr (by rw [ew9]; exact moF_m)
    refine lv_aload_n hx hb dM_least_33 rfl (lv_at hl 0 rfl) ?_
    refine hw_get (v := .int (nI 1)) (C := RM) (T := TM) (N := 16) hx hb hts inM hown hK hW hM.1 rfl 0 (by decide) (hts _ bw_517) (fun _ h9 => h9) rfl dM_least_34 ?_
    refine nw_if_le (tgt := 42) hx hb (by omega) dM_least_37 (by decide) (fun c10 => absurd c10 (by decide)) (fun c10 => ?_)
    refine lv_iconst (v := nI 0) hx hb dM_least_40 (by decide) ?_
    exact W.iret (v := nI 0) hx hb hr (fun t ht hW9 => ⟨⟨nI 0, w9, rfl, ⟨hFr, Or.inl ⟨(inB_f (by omega)).mp (bz_f c1), hM⟩⟩, by rw [ht]; exact hW, va_K.moved hW9.alike hK⟩, hS.F ht⟩) hS.2.2 dM_least_41
