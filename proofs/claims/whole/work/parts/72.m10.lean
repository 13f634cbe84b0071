set_option maxHeartbeats 1000000 in
set_option maxRecDepth 100000 in
theorem lp_M_sing {p : Program} {l : Launch} {e : Env} {s : State} {m : MethodId} {args : Array Value} {below : List Frame} {meth : Method} {c : Code} {Q : State → Prop} {D : va_G} {g : Nat → ClassId} {ad : Nat → Nat} {tb : Nat} {sa : Nat → Nat} {A : Nat → Prop} {w : Wd} {mo : Nat} {ml : Nat → Nat} {cd mn : Nat} {ki on tw od fa st rs : Nat → Nat} {me fo fd : Nat} {ba ta by9 : Nat → Nat} {nd : Nat → Bool} {σ : Nat → SD} (hS9 : mS σ mn ki on tw od fa st) {f : Nat} (hfc : f < mn) (ht0 : sTg (σ f) = 0) (hM0 : moW g w mo ml cd mn ki on tw od fa st rs me fo fd ba ta by9 nd) (C0 : cx p s m args c A cM_singular 3 RM D g ad tb sa) : ∀ (e9 : Nat) (n : Nat) (w1 : Wd), (n + e9 = 64) → (sP (σ f) ≤ n) → (∀ k, sP (σ f) ≤ k → k < n → fAt (sF (σ f)) (sP (σ f)) (k - sP (σ f)) ≠ 0) → (w1 = w) → ∀ (H : Heap) (locs : List Loc), hw D vwCl A w1 H → va_S A s.heap H locs → ∀ ls : Array Slot, lv_has ls 3 [(0, .ref mo), (1, .int (nI f)), (2, .int (nI n))] → (∀ (n : Nat) (w1 : Wd), (n < 64) → (sP (σ f) ≤ n) → (∀ k, sP (σ f) ≤ k → k < n → fAt (sF (σ f)) (sP (σ f)) (k - sP (σ f)) ≠ 0) → (fAt (sF (σ f)) (sP (σ f)) (n - sP (σ f)) = 0) → (w1 = w) → ∀ (H : Heap) (locs : List Loc), hw D vwCl A w1 H → va_S A s.heap H locs → ∀ ls : Array Slot, lv_has ls 3 [(2, .int (nI n))] → W p l e (rmL 2 46 0 0) s m args below meth c H locs 0 0 Q (F0 m 76 ls [])) → (∀ (w1 : Wd), (∀ k, sP (σ f) ≤ k → k < 64 → fAt (sF (σ f)) (sP (σ f)) (k - sP (σ f)) ≠ 0) → (w1 = w) → ∀ (H : Heap) (locs : List Loc), hw D vwCl A w1 H → va_S A s.heap H locs → ∀ ls : Array Slot, lv_has ls 3 [] → W p l e (rmL 2 46 0 0) s m args below meth c H locs 0 0 Q (F0 m 84 ls [])) → W p l e (rmL 2 46 0 0) s m args below meth c H locs 0 0 Q (F0 m 46 ls []) := by
  obtain ⟨hx, hb, hml, hts, hown, hK, hk, hAA⟩ := C0
  intro e9
  induction e9 with
  | zero =>
    intro n w1 hn ho hz ew H locs hW hS ls hl kk0 kk1
    subst ew
    have hM := hM0
    have hmn := hS9.1
    obtain ⟨q1, q2, q3, q4, q5, q6⟩ := hS9.2.2 f hfc
    obtain ⟨z1, z2, z3, z4⟩ := q3 ht0
    refine lv_iload_n hx hb dM_singular_46 rfl (lv_at hl 2 rfl) ?_
    refine lv_bipush (v := nI 64) hx hb dM_singular_47 (by decide) ?_
    refine nw_icmp_ge (tgt := 84) hx hb (by omega) (by omega) dM_singular_49 (by decide) (fun c1 => ?_) (fun c1 => absurd (show n < 64 from c1) (by omega))
    exact kk1 w1 (fun k h1 h2 => hz k h1 (by omega)) rfl H locs hW hS ls (lv_sub hl [] rfl)
  | succ e9 ih =>
    intro n w1 hn ho hz ew H locs hW hS ls hl kk0 kk1
    subst ew
    have hM := hM0
    have hmn := hS9.1
    obtain ⟨q1, q2, q3, q4, q5, q6⟩ := hS9.2.2 f hfc
    obtain ⟨z1, z2, z3, z4⟩ := q3 ht0
    have hfl := fAt_lt (sF (σ f)) (sP (σ f)) (n - sP (σ f))
    refine lv_iload_n hx hb dM_singular_46 rfl (lv_at hl 2 rfl) ?_
    refine lv_bipush (v := nI 64) hx hb dM_singular_47 (by decide) ?_
    refine nw_icmp_ge (tgt := 84) hx hb (by omega) (by omega) dM_singular_49 (by decide) (fun c1 => absurd (show 64 ≤ n from c1) (by omega)) (fun c1 => ?_)
    refine lv_aload_n hx hb dM_singular_52 rfl (lv_at hl 0 rfl) ?_
    refine lv_iload_n hx hb dM_singular_53 rfl (lv_at hl 1 rfl) ?_
    refine lv_aload_n hx hb dM_singular_54 rfl (lv_at hl 0 rfl) ?_
    refine hw_get (v := .ref (ml 3)) (C := RM) (T := TM) (N := 16) hx hb hts inM hown hK hW hM.1 rfl 5 (by decide) (hts _ bw_522) (fun _ h9 => h9) rfl dM_singular_55 ?_
    refine lv_iload_n hx hb dM_singular_58 rfl (lv_at hl 1 rfl) ?_
    refine hw_iald hx hb hK hW 0 hM.2.2.2.2.1 rfl (vp_in_nI (show f < 40 by omega) (by omega)) dM_singular_59 ?_
    refine tp_i (show (ni od) (nI f).toNatClampNeg = nI (od f) from by rw [nI_clamp (by omega)]; rfl) ?_
    refine tp_i (show nI (od f) = nI (sP (σ f)) from by rw [z1]) ?_
    refine lv_iload_n hx hb dM_singular_60 rfl (lv_at hl 2 rfl) ?_
    refine lv_aload_n hx hb dM_singular_61 rfl (lv_at hl 0 rfl) ?_
    refine hw_get (v := .ref (ml 3)) (C := RM) (T := TM) (N := 16) hx hb hts inM hown hK hW hM.1 rfl 5 (by decide) (hts _ bw_522) (fun _ h9 => h9) rfl dM_singular_62 ?_
    refine lv_iload_n hx hb dM_singular_65 rfl (lv_at hl 1 rfl) ?_
    refine hw_iald hx hb hK hW 0 hM.2.2.2.2.1 rfl (vp_in_nI (show f < 40 by omega) (by omega)) dM_singular_66 ?_
    refine tp_i (show (ni od) (nI f).toNatClampNeg = nI (od f) from by rw [nI_clamp (by omega)]; rfl) ?_
    refine tp_i (show nI (od f) = nI (sP (σ f)) from by rw [z1]) ?_
    refine lv_isub hx hb dM_singular_67 ?_
    refine tp_i (show (nI n) - (nI (sP (σ f))) = nI (n - (sP (σ f))) from pk_sub (by omega)) ?_
    refine kc_VL (n := 3) (As := [.int (nI f), .int (nI (sP (σ f))), .int (nI (n - (sP (σ f))))]) (rest := []) ⟨hx, hb, hml, hown, hts⟩ (c_M_factorAt l D g ad tb sa w1 H.size mo ml cd mn ki on tw od fa st rs me fo fd ba ta by9 nd hM σ hS9 f (sP (σ f)) (n - sP (σ f)) hfc ht0 (by omega) (by omega)) bw_654 bw_656 bs_23 bw_3 bw_657 (by decide +kernel) rfl rfl hM.1 ⟨by decide, by decide⟩ hW hK hk hS hAA rfl hl.1 rfl (Nat.le_of_ble_eq_true rfl) dM_singular_68 ⟨by decide, by decide⟩ (fun r2 w3 H locs hp hW hS => ?_)
    obtain ⟨hw9, hr9⟩ := hp
    rw [hw9] at hW
    subst hr9
    refine lv_lconst (v := lN 0) hx hb dM_singular_71 (by decide) ?_
    refine W.lcmp hx hb dM_singular_72 ?_
    refine lv_if_ne (tgt := 78) hx hb dM_singular_73 (by decide) (fun ch => ?_) (fun ch => ?_)
    · refine lv_iinc (v := nI (n + 1)) (lv' := [(2, .int (nI (n + 1))), (0, .ref mo), (1, .int (nI f))]) hx hb dM_singular_78 hl (k := 2) rfl (nI_1 _) (by decide) rfl (fun ls hl => ?_)
      refine lv_goto (tgt := 46) hx hb dM_singular_81 (by decide) ?_
      exact ih (n + 1) w1 (by omega) (by omega) (fun k h1 h2 => by
        by_cases e8 : k = n
        · rw [e8]; exact fun h9 => ch ((cp_eqN (by omega) (by omega)).mpr h9)
        · exact hz k h1 (by omega)) rfl H locs hW hS ls (lv_sub hl [1, 2, 0] rfl) kk0 kk1
    · exact kk0 n w1 (by omega) ho hz ((cp_eqN (by omega) (by omega)).mp ch) rfl H locs hW hS ls (lv_sub hl [2] rfl)

set_option maxHeartbeats 1000000 in
set_option maxRecDepth 100000 in
theorem c_M_singular (l : Launch) (D : va_G) (g : Nat → ClassId) (ad : Nat → Nat) (tb : Nat) (sa : Nat → Nat) (w : Wd) (sz : Nat) (mo : Nat) (ml : Nat → Nat) (cd mn : Nat) (ki on tw od fa st rs : Nat → Nat) (me fo fd : Nat) (ba ta by9 : Nat → Nat) (nd : Nat → Bool) (hD : moD ml) (hM0 : moW g w mo ml cd mn ki on tw od fa st rs me fo fd ba ta by9 nd) (σ : Nat → SD) (hS9 : mS σ mn ki on tw od fa st) (f9 : Int32) : MI l D g ad tb sa yM_singular cM_singular 3 (some (.int)) 2 46 0 0 w sz [.ref mo, .int f9] (fun r w' => moF mo ml w w' ∧ ((¬ inC mn f9 ∧ moW g w' mo ml 1 mn ki on tw od fa st rs me fo fd ba ta by9 nd) ∨ ∃ f, f < mn ∧ f9 = nI f ∧ ((sTg (σ f) ≠ 0 ∧ moW g w' mo ml 2 mn ki on tw od fa st rs me fo fd ba ta by9 nd) ∨ (sTg (σ f) = 0 ∧ sing (sP (σ f)) (sF (σ f)) r ∧ moW g w' mo ml 0 mn ki on tw od fa st rs me fo fd ba ta by9 nd)))) := by
  refine hm_MI (by decide) (Nat.le_of_ble_eq_true rfl) ?_
  intro p e s m below meth c A ls hx hb hr hml hts hown hlocks hin hout hsz hW hK hk hS hAA hl
  have hl : lv_has ls 3 [(0, .ref mo), (1, .int f9)] := hl
  have hM := hM0
  have hFr : moF mo ml w w := moF.rf
  have hmn := hS9.1
  have hb1 := bz_le (inB mn f9)
  refine lv_aload_n hx hb dM_singular_0 rfl (lv_at hl 0 rfl) ?_
  refine lv_aload_n hx hb dM_singular_1 rfl (lv_at hl 0 rfl) ?_
  refine lv_iload_n hx hb dM_singular_2 rfl (lv_at hl 1 rfl) ?_
  refine kc_VI (n := 1) (As := [.int f9]) (rest := [.ref mo]) ⟨hx, hb, hml, hown, hts⟩ (c_M_isThere l D g ad tb sa w s.heap.size mo ml cd mn ki on tw od fa st rs me fo fd ba ta by9 nd hM (by omega) f9) bw_587 bw_589 bs_17 bw_3 bw_590 (by decide +kernel) rfl rfl hM.1 ⟨by decide, by decide⟩ hW hK hk hS hAA rfl hl.1 rfl (Nat.le_of_ble_eq_true rfl) dM_singular_3 ⟨by decide, by decide⟩ (fun r1 w2 H locs hp hW hS => ?_)
  obtain ⟨hw9, hr9⟩ := hp
  rw [hw9] at hW
  subst hr9
  refine nw_if_ne (tgt := 13) hx hb (by omega) dM_singular_6 (by decide) (fun c1 => ?_) (fun c1 => ?_)
  · obtain ⟨f, hfc, ef⟩ := (inB_iff (by omega)).mp (bz_t c1)
    rw [ef] at hl
    obtain ⟨q1, q2, q3, q4, q5, q6⟩ := hS9.2.2 f hfc
    refine lv_aload_n hx hb dM_singular_13 rfl (lv_at hl 0 rfl) ?_
    refine hw_get (v := .ref (ml 0)) (C := RM) (T := TM) (N := 16) hx hb hts inM hown hK hW hM.1 rfl 2 (by decide) (hts _ bw_519) (fun _ h9 => h9) rfl dM_singular_14 ?_
    refine lv_iload_n hx hb dM_singular_17 rfl (lv_at hl 1 rfl) ?_
    refine hw_iald hx hb hK hW 0 hM.2.1 rfl (vp_in_nI (show f < 40 by omega) (by omega)) dM_singular_18 ?_
    refine tp_i (show (ni ki) (nI f).toNatClampNeg = nI (ki f) from by rw [nI_clamp (by omega)]; rfl) ?_
    refine nw_if_eq (tgt := 26) hx hb (by omega) dM_singular_19 (by decide) (fun c2 => ?_) (fun c2 => ?_)
    · refine lv_iconst (v := nI 0) hx hb dM_singular_26 (by decide) ?_
      refine hw_put (v := .int (nI 0)) (ty := .int) (C := RM) (T := TM) (N := 16) hx hb hts inM tyM tyM_ok nmM hown hK hW hS hM.1 rfl 0 (by decide) (hts _ bw_517) (fun _ h9 => h9) rfl (by decide +kernel) rfl rfl (Nat.le_of_ble_eq_true rfl) dM_singular_27 (fun H locs hW hS => ?_)
      have hW : hw D vwCl A (hwu w mo (.inr (4, [.int (nI 0), .int (nI mn), .ref (ml 0), .ref (ml 1), .ref (ml 2), .ref (ml 3), .ref (ml 4), .ref (ml 5), .ref (ml 6), .int (nI me), .int (nI fo), .int (nI fd), .ref (ml 7), .ref (ml 8), .ref (ml 9), .ref (ml 10)]))) H := hW
      obtain ⟨w3, ew3⟩ : ∃ z, z = hwu w mo (.inr (4, [.int (nI 0), .int (nI mn), .ref (ml 0), .ref (ml 1), .ref (ml 2), .ref (ml 3), .ref (ml 4), .ref (ml 5), .ref (ml 6), .int (nI me), .int (nI fo), .int (nI fd), .ref (ml 7), .ref (ml 8), .ref (ml 9), .ref (ml 10)])) := ⟨_, rfl⟩
      rw [← ew3] at hW
      have hM : moW g w3 mo ml 0 mn ki on tw od fa st rs me fo fd ba ta by9 nd := by rw [ew3]; exact hM.set_m _ _ _ _ _
      have hFr : moF mo ml w w3 := hFr.tr (by rw [ew3]; exact moF_m)
      refine lv_aload_n hx hb dM_singular_30 rfl (lv_at hl 0 rfl) ?_
      refine hw_get (v := .int (nI 0)) (C := RM) (T := TM) (N := 16) hx hb hts inM hown hK hW hM.1 rfl 0 (by decide) (hts _ bw_517) (fun _ h9 => h9) rfl dM_singular_31 ?_
      refine nw_if_le (tgt := 39) hx hb (by omega) dM_singular_34 (by decide) (fun c4 => ?_) (fun c4 => absurd c4 (by decide))
      have ht0 : sTg (σ f) = 0 := by omega
      obtain ⟨z1, z2, z3, z4⟩ := q3 ht0
      refine lv_aload_n hx hb dM_singular_39 rfl (lv_at hl 0 rfl) ?_
      refine hw_get (v := .ref (ml 3)) (C := RM) (T := TM) (N := 16) hx hb hts inM hown hK hW hM.1 rfl 5 (by decide) (hts _ bw_522) (fun _ h9 => h9) rfl dM_singular_40 ?_
      refine lv_iload_n hx hb dM_singular_43 rfl (lv_at hl 1 rfl) ?_
      refine hw_iald hx hb hK hW 0 hM.2.2.2.2.1 rfl (vp_in_nI (show f < 40 by omega) (by omega)) dM_singular_44 ?_
      refine tp_i (show (ni od) (nI f).toNatClampNeg = nI (od f) from by rw [nI_clamp (by omega)]; rfl) ?_
      refine tp_i (show nI (od f) = nI (sP (σ f)) from by rw [z1]) ?_
      refine lv_istore_n (lv' := [(2, .int (nI (sP (σ f)))), (0, .ref mo), (1, .int (nI f))]) hx hb dM_singular_45 rfl hl (by decide) rfl (fun ls hl => ?_)
      refine lp_M_sing hS9 hfc ht0 hM ⟨hx, hb, hml, hts, hown, hK, hk, hAA⟩ (64 - sP (σ f)) (sP (σ f)) w3 (by omega) (Nat.le_refl _) (fun k h1 h2 => absurd h2 (by omega)) rfl _ _ hW hS ls (lv_sub hl [1, 2, 0] rfl) ?_ ?_
      · intro n w1 hn ho hz h0 ew H locs hW hS ls hl
        rw [ew] at hW
        refine lv_iload_n hx hb dM_singular_76 rfl (lv_at hl 0 rfl) ?_
        exact W.iret (v := nI n) hx hb hr (fun t ht hW9 => ⟨⟨nI n, w3, rfl, ⟨hFr, Or.inr ⟨f, hfc, ef, Or.inr ⟨ht0, Or.inl ⟨n, ho, hn, h0, hz, rfl⟩, hM⟩⟩⟩, by rw [ht]; exact hW, va_K.moved hW9.alike hK⟩, hS.F ht⟩) hS.2.2 dM_singular_77
      · intro w1 hz ew H locs hW hS ls hl
        rw [ew] at hW
        refine lv_iconst (v := (-1)) hx hb dM_singular_84 (by decide) ?_
        exact W.iret (v := (-1)) hx hb hr (fun t ht hW9 => ⟨⟨(-1), w3, rfl, ⟨hFr, Or.inr ⟨f, hfc, ef, Or.inr ⟨ht0, Or.inr ⟨hz, rfl⟩, hM⟩⟩⟩, by rw [ht]; exact hW, va_K.moved hW9.alike hK⟩, hS.F ht⟩) hS.2.2 dM_singular_85
    · refine lv_iconst (v := nI 2) hx hb dM_singular_22 (by decide) ?_
      refine lv_goto (tgt := 27) hx hb dM_singular_23 (by decide) ?_
      refine hw_put (v := .int (nI 2)) (ty := .int) (C := RM) (T := TM) (N := 16) hx hb hts inM tyM tyM_ok nmM hown hK hW hS hM.1 rfl 0 (by decide) (hts _ bw_517) (fun _ h9 => h9) rfl (by decide +kernel) rfl rfl (Nat.le_of_ble_eq_true rfl) dM_singular_27 (fun H locs hW hS => ?_)
      have hW : hw D vwCl A (hwu w mo (.inr (4, [.int (nI 2), .int (nI mn), .ref (ml 0), .ref (ml 1), .ref (ml 2), .ref (ml 3), .ref (ml 4), .ref (ml 5), .ref (ml 6), .int (nI me), .int (nI fo), .int (nI fd), .ref (ml 7), .ref (ml 8), .ref (ml 9), .ref (ml 10)]))) H := hW
      obtain ⟨w5, ew5⟩ : ∃ z, z = hwu w mo (.inr (4, [.int (nI 2), .int (nI mn), .ref (ml 0), .ref (ml 1), .ref (ml 2), .ref (ml 3), .ref (ml 4), .ref (ml 5), .ref (ml 6), .int (nI me), .int (nI fo), .int (nI fd), .ref (ml 7), .ref (ml 8), .ref (ml 9), .ref (ml 10)])) := ⟨_, rfl⟩
      rw [← ew5] at hW
      have hM : moW g w5 mo ml 2 mn ki on tw od fa st rs me fo fd ba ta by9 nd := by rw [ew5]; exact hM.set_m _ _ _ _ _
      have hFr : moF mo ml w w5 := hFr.tr (by rw [ew5]; exact moF_m)
      refine lv_aload_n hx hb dM_singular_30 rfl (lv_at hl 0 rfl) ?_
      refine hw_get (v := .int (nI 2)) (C := RM) (T := TM) (N := 16) hx hb hts inM hown hK hW hM.1 rfl 0 (by decide) (hts _ bw_517) (fun _ h9 => h9) rfl dM_singular_31 ?_
      refine nw_if_le (tgt := 39) hx hb (by omega) dM_singular_34 (by decide) (fun c6 => absurd c6 (by decide)) (fun c6 => ?_)
      refine lv_iconst (v := nI 0) hx hb dM_singular_37 (by decide) ?_
      exact W.iret (v := nI 0) hx hb hr (fun t ht hW9 => ⟨⟨nI 0, w5, rfl, ⟨hFr, Or.inr ⟨f, hfc, ef, Or.inl ⟨by omega, hM⟩⟩⟩, by rw [ht]; exact hW, va_K.moved hW9.alike hK⟩, hS.F ht⟩) hS.2.2 dM_singular_38
  · refine lv_iconst (v := nI 1) hx hb dM_singular_9 (by decide) ?_
    refine lv_goto (tgt := 27) hx hb dM_singular_10 (by decide) ?_
    refine hw_put (v := .int (nI 1)) (ty := .int) (C := RM) (T := TM) (N := 16) hx hb hts inM tyM tyM_ok nmM hown hK hW hS hM.1 rfl 0 (by decide) (hts _ bw_517) (fun _ h9 => h9) rfl (by decide +kernel) rfl rfl (Nat.le_of_ble_eq_true rfl) dM_singular_27 (fun H locs hW hS => ?_)
    have hW : hw D vwCl A (hwu w mo (.inr (4, [.int (nI 1), .int (nI mn), .ref (ml 0), .ref (ml 1), .ref (ml 2), .ref (ml 3), .ref (ml 4), .ref (ml 5), .ref (ml 6), .int (nI me), .int (nI fo), .int (nI fd), .ref (ml 7), .ref (ml 8), .ref (ml 9), .ref (ml 10)]))) H := hW
    obtain ⟨w7, ew7⟩ : ∃ z, z = hwu w mo (.inr (4, [.int (nI 1), .int (nI mn), .ref (ml 0), .ref (ml 1), .ref (ml 2), .ref (ml 3), .ref (ml 4), .ref (ml 5), .ref (ml 6), .int (nI me), .int (nI fo), .int (nI fd), .ref (ml 7), .ref (ml 8), .ref (ml 9), .ref (ml 10)])) := ⟨_, rfl⟩
    rw [← ew7] at hW
    have hM : moW g w7 mo ml 1 mn ki on tw od fa st rs me fo fd ba ta by9 nd := by rw [ew7]; exact hM.set_m _ _ _ _ _
    have hFr : moF mo ml w w7 := hFr.tr (by rw [ew7]; exact moF_m)
    refine lv_aload_n hx hb dM_singular_30 rfl (lv_at hl 0 rfl) ?_
    refine hw_get (v := .int (nI 1)) (C := RM) (T := TM) (N := 16) hx hb hts inM hown hK hW hM.1 rfl 0 (by decide) (hts _ bw_517) (fun _ h9 => h9) rfl dM_singular_31 ?_
    refine nw_if_le (tgt := 39) hx hb (by omega) dM_singular_34 (by decide) (fun c8 => absurd c8 (by decide)) (fun c8 => ?_)
    refine lv_iconst (v := nI 0) hx hb dM_singular_37 (by decide) ?_
    exact W.iret (v := nI 0) hx hb hr (fun t ht hW9 => ⟨⟨nI 0, w7, rfl, ⟨hFr, Or.inl ⟨(inB_f (by omega)).mp (bz_f c1), hM⟩⟩, by rw [ht]; exact hW, va_K.moved hW9.alike hK⟩, hS.F ht⟩) hS.2.2 dM_singular_38

set_option maxHeartbeats 1000000 in
set_option maxRecDepth 100000 in
theorem lp_M_differ {p : Program} {l : Launch} {e : Env} {s : State} {m : MethodId} {args : Array Value} {below : List Frame} {meth : Method} {c : Code} {Q : State → Prop} {D : va_G} {g : Nat → ClassId} {ad : Nat → Nat} {tb : Nat} {sa : Nat → Nat} {A : Nat → Prop} {w : Wd} {mo : Nat} {ml : Nat → Nat} {cd mn : Nat} {ki on tw od fa st rs : Nat → Nat} {me fo fd : Nat} {ba ta by9 : Nat → Nat} {nd : Nat → Bool} {f h : Nat} {F G : Nat → Nat} (hM0 : moW g w mo ml cd mn ki on tw od fa st rs me fo fd ba ta by9 nd) (hf : f < 40) (hh : h < 40) (hFb : ∀ m, m < 64 → rs (64 * f + m) = F m) (hGb : ∀ m, m < 64 → rs (64 * h + m) = G m) (hrs : ∀ x, x < 2560 → rs x < 32003) (C0 : cx p s m args c A cM_differ 4 RM D g ad tb sa) : ∀ (e9 : Nat) (n : Nat) (w1 : Wd), (n + e9 = 64) → (w1 = w) → (∀ m, m < n → F m = G m) → ∀ (H : Heap) (locs : List Loc), hw D vwCl A w1 H → va_S A s.heap H locs → ∀ ls : Array Slot, lv_has ls 4 [(0, .ref mo), (1, .int (nI f)), (2, .int (nI h)), (3, .int (nI n))] → (∀ (n : Nat) (w1 : Wd), (w1 = w) → (n < 64) → (∀ m, m < n → F m = G m) → (F n ≠ G n) → ∀ (H : Heap) (locs : List Loc), hw D vwCl A w1 H → va_S A s.heap H locs → ∀ ls : Array Slot, lv_has ls 4 [(3, .int (nI n))] → W p l e (rmL 4 105 0 0) s m args below meth c H locs 0 0 Q (F0 m 82 ls [])) → (∀ (w1 : Wd), (w1 = w) → (∀ m, m < 64 → F m = G m) → ∀ (H : Heap) (locs : List Loc), hw D vwCl A w1 H → va_S A s.heap H locs → ∀ ls : Array Slot, lv_has ls 4 [] → W p l e (rmL 4 105 0 0) s m args below meth c H locs 0 0 Q (F0 m 90 ls [])) → W p l e (rmL 4 105 0 0) s m args below meth c H locs 0 0 Q (F0 m 50 ls []) := by
  obtain ⟨hx, hb, hml, hts, hown, hK, hk, hAA⟩ := C0
  intro e9
  induction e9 with
  | zero =>
    intro n w1 hn ew hq H locs hW hS ls hl kk0 kk1
    subst ew
    have hM := hM0
    refine lv_iload_n hx hb dM_differ_50 rfl (lv_at hl 3 rfl) ?_
    refine lv_bipush (v := nI 64) hx hb dM_differ_51 (by decide) ?_
    refine nw_icmp_ge (tgt := 90) hx hb (by omega) (by omega) dM_differ_53 (by decide) (fun c1 => ?_) (fun c1 => absurd (show n < 64 from c1) (by omega))
    exact kk1 w1 rfl (fun m hm => hq m (by omega)) H locs hW hS ls (lv_sub hl [] rfl)
  | succ e9 ih =>
    intro n w1 hn ew hq H locs hW hS ls hl kk0 kk1
    subst ew
    have hM := hM0
    have h1 := hrs (64 * f + n) (by omega)
    have h2 := hrs (64 * h + n) (by omega)
    rw [hFb n (by omega)] at h1
    rw [hGb n (by omega)] at h2
    refine lv_iload_n hx hb dM_differ_50 rfl (lv_at hl 3 rfl) ?_
    refine lv_bipush (v := nI 64) hx hb dM_differ_51 (by decide) ?_
    refine nw_icmp_ge (tgt := 90) hx hb (by omega) (by omega) dM_differ_53 (by decide) (fun c1 => absurd (show 64 ≤ n from c1) (by omega)) (fun c1 => ?_)
    refine lv_aload_n hx hb dM_differ_56 rfl (lv_at hl 0 rfl) ?_
    refine hw_get (v := .ref (ml 6)) (C := RM) (T := TM) (N := 16) hx hb hts inM hown hK hW hM.1 rfl 8 (by decide) (hts _ bw_525) (fun _ h9 => h9) rfl dM_differ_57 ?_
    refine lv_bipush (v := nI 64) hx hb dM_differ_60 (by decide) ?_
    refine lv_iload_n hx hb dM_differ_62 rfl (lv_at hl 1 rfl) ?_
    refine lv_imul hx hb dM_differ_63 ?_
    refine tp_i (show (nI 64) * (nI f) = nI (64 * f) from pk_mul _ _) ?_
    refine lv_iload_n hx hb dM_differ_64 rfl (lv_at hl 3 rfl) ?_
    refine lv_iadd hx hb dM_differ_65 ?_
    refine tp_i (show (nI (64 * f)) + (nI n) = nI ((64 * f) + n) from nI_add _ _) ?_
    refine hw_lald hx hb hK hW 2 hM.2.2.2.2.2.2.2.1 rfl (vp_in_nI (show (64 * f) + n < 2560 by omega) (by omega)) dM_differ_66 ?_
    refine tp_l (show (nl rs) (nI ((64 * f) + n)).toNatClampNeg = lN (rs ((64 * f) + n)) from by rw [nI_clamp (by omega)]; rfl) ?_
    refine tp_l (show lN (rs ((64 * f) + n)) = lN (F n) from by rw [hFb n (by omega)]) ?_
    refine lv_aload_n hx hb dM_differ_67 rfl (lv_at hl 0 rfl) ?_
    refine hw_get (v := .ref (ml 6)) (C := RM) (T := TM) (N := 16) hx hb hts inM hown hK hW hM.1 rfl 8 (by decide) (hts _ bw_525) (fun _ h9 => h9) rfl dM_differ_68 ?_
    refine lv_bipush (v := nI 64) hx hb dM_differ_71 (by decide) ?_
    refine lv_iload_n hx hb dM_differ_73 rfl (lv_at hl 2 rfl) ?_
    refine lv_imul hx hb dM_differ_74 ?_
    refine tp_i (show (nI 64) * (nI h) = nI (64 * h) from pk_mul _ _) ?_
    refine lv_iload_n hx hb dM_differ_75 rfl (lv_at hl 3 rfl) ?_
    refine lv_iadd hx hb dM_differ_76 ?_
    refine tp_i (show (nI (64 * h)) + (nI n) = nI ((64 * h) + n) from nI_add _ _) ?_
    refine hw_lald hx hb hK hW 2 hM.2.2.2.2.2.2.2.1 rfl (vp_in_nI (show (64 * h) + n < 2560 by omega) (by omega)) dM_differ_77 ?_
    refine tp_l (show (nl rs) (nI ((64 * h) + n)).toNatClampNeg = lN (rs ((64 * h) + n)) from by rw [nI_clamp (by omega)]; rfl) ?_
    refine tp_l (show lN (rs ((64 * h) + n)) = lN (G n) from by rw [hGb n (by omega)]) ?_
    refine W.lcmp hx hb dM_differ_78 ?_
    refine lv_if_eq (tgt := 84) hx hb dM_differ_79 (by decide) (fun cd9 => ?_) (fun cd9 => ?_)
    · refine lv_iinc (v := nI (n + 1)) (lv' := [(3, .int (nI (n + 1))), (0, .ref mo), (1, .int (nI f)), (2, .int (nI h))]) hx hb dM_differ_84 hl (k := 3) rfl (nI_1 _) (by decide) rfl (fun ls hl => ?_)
      refine lv_goto (tgt := 50) hx hb dM_differ_87 (by decide) ?_
      exact ih (n + 1) w1 (by omega) rfl (fun m hm => by
        by_cases e8 : m = n
        · rw [e8]; exact (cp_eqN (by omega) (by omega)).mp cd9
        · exact hq m (by omega)) H locs hW hS ls (lv_sub hl [1, 2, 3, 0] rfl) kk0 kk1
    · exact kk0 n w1 rfl (by omega) hq (fun h9 => cd9 ((cp_eqN (by omega) (by omega)).mpr h9)) H locs hW hS ls (lv_sub hl [3] rfl)

set_option maxHeartbeats 1000000 in
set_option maxRecDepth 100000 in
theorem c_M_differ (l : Launch) (D : va_G) (g : Nat → ClassId) (ad : Nat → Nat) (tb : Nat) (sa : Nat → Nat) (w : Wd) (sz : Nat) (mo : Nat) (ml : Nat → Nat) (cd mn : Nat) (ki on tw od fa st rs : Nat → Nat) (me fo fd : Nat) (ba ta by9 : Nat → Nat) (nd : Nat → Bool) (hD : moD ml) (hM0 : moW g w mo ml cd mn ki on tw od fa st rs me fo fd ba ta by9 nd) (σ : Nat → SD) (hS9 : mS σ mn ki on tw od fa st) (hrs : ∀ x, x < 2560 → rs x < 32003) (f9 g9 : Int32) : MI l D g ad tb sa yM_differ cM_differ 4 (some (.int)) 4 105 0 0 w sz [.ref mo, .int f9, .int g9] (fun r w' => moF mo ml w w' ∧ ((¬ (inC mn f9 ∧ inC mn g9) ∧ moW g w' mo ml 1 mn ki on tw od fa st rs me fo fd ba ta by9 nd) ∨ ∃ f h rs1, f < mn ∧ h < mn ∧ f9 = nI f ∧ g9 = nI h ∧ dif (sval σ f) (sval σ h) r ∧ moW g w' mo ml 0 mn ki on tw od fa st rs1 me fo fd ba ta by9 nd ∧ ∀ x, x < 2560 → rs1 x < 32003)) := by
  refine hm_MI (by decide) (Nat.le_of_ble_eq_true rfl) ?_
  intro p e s m below meth c A ls hx hb hr hml hts hown hlocks hin hout hsz hW hK hk hS hAA hl
  have hl : lv_has ls 4 [(0, .ref mo), (1, .int f9), (2, .int g9)] := hl
  have hM := hM0
  have hFr : moF mo ml w w := moF.rf
  have hmn := hS9.1
  have hb1 := bz_le (inB mn f9)
  have hb2 := bz_le (inB mn g9)
  refine lv_aload_n hx hb dM_differ_0 rfl (lv_at hl 0 rfl) ?_
  refine lv_aload_n hx hb dM_differ_1 rfl (lv_at hl 0 rfl) ?_
  refine lv_iload_n hx hb dM_differ_2 rfl (lv_at hl 1 rfl) ?_
  refine kc_VI (n := 1) (As := [.int f9]) (rest := [.ref mo]) ⟨hx, hb, hml, hown, hts⟩ (c_M_isThere l D g ad tb sa w s.heap.size mo ml cd mn ki on tw od fa st rs me fo fd ba ta by9 nd hM (by omega) f9) bw_587 bw_589 bs_17 bw_3 bw_590 (by decide +kernel) rfl rfl hM.1 ⟨by decide, by decide⟩ hW hK hk hS hAA rfl hl.1 rfl (Nat.le_of_ble_eq_true rfl) dM_differ_3 ⟨by decide, by decide⟩ (fun r1 w2 H locs hp hW hS => ?_)
  obtain ⟨hw9, hr9⟩ := hp
  rw [hw9] at hW
  subst hr9
  refine nw_if_eq (tgt := 21) hx hb (by omega) dM_differ_6 (by decide) (fun c1 => ?_) (fun c1 => ?_)
  · refine lv_iconst (v := nI 1) hx hb dM_differ_21 (by decide) ?_
    refine hw_put (v := .int (nI 1)) (ty := .int) (C := RM) (T := TM) (N := 16) hx hb hts inM tyM tyM_ok nmM hown hK hW hS hM.1 rfl 0 (by decide) (hts _ bw_517) (fun _ h9 => h9) rfl (by decide +kernel) rfl rfl (Nat.le_of_ble_eq_true rfl) dM_differ_22 (fun H locs hW hS => ?_)
    have hW : hw D vwCl A (hwu w mo (.inr (4, [.int (nI 1), .int (nI mn), .ref (ml 0), .ref (ml 1), .ref (ml 2), .ref (ml 3), .ref (ml 4), .ref (ml 5), .ref (ml 6), .int (nI me), .int (nI fo), .int (nI fd), .ref (ml 7), .ref (ml 8), .ref (ml 9), .ref (ml 10)]))) H := hW
    obtain ⟨w3, ew3⟩ : ∃ z, z = hwu w mo (.inr (4, [.int (nI 1), .int (nI mn), .ref (ml 0), .ref (ml 1), .ref (ml 2), .ref (ml 3), .ref (ml 4), .ref (ml 5), .ref (ml 6), .int (nI me), .int (nI fo), .int (nI fd), .ref (ml 7), .ref (ml 8), .ref (ml 9), .ref (ml 10)])) := ⟨_, rfl⟩
    rw [← ew3] at hW
    have hM : moW g w3 mo ml 1 mn ki on tw od fa st rs me fo fd ba ta by9 nd := by rw [ew3]; exact hM.set_m _ _ _ _ _
    have hFr : moF mo ml w w3 := hFr.tr (by rw [ew3]; exact moF_m)
    refine lv_aload_n hx hb dM_differ_25 rfl (lv_at hl 0 rfl) ?_
    refine hw_get (v := .int (nI 1)) (C := RM) (T := TM) (N := 16) hx hb hts inM hown hK hW hM.1 rfl 0 (by decide) (hts _ bw_517) (fun _ h9 => h9) rfl dM_differ_26 ?_
    refine nw_if_le (tgt := 34) hx hb (by omega) dM_differ_29 (by decide) (fun c4 => absurd c4 (by decide)) (fun c4 => ?_)
    refine lv_iconst (v := nI 0) hx hb dM_differ_32 (by decide) ?_
    exact W.iret (v := nI 0) hx hb hr (fun t ht hW9 => ⟨⟨nI 0, w3, rfl, ⟨hFr, Or.inl ⟨by first | exact fun h9 => (inB_f (by omega)).mp (bz_f c1) h9.1 | exact fun h9 => (inB_f (by omega)).mp (bz_f c2) h9.2, hM⟩⟩, by rw [ht]; exact hW, va_K.moved hW9.alike hK⟩, hS.F ht⟩) hS.2.2 dM_differ_33
  · refine lv_aload_n hx hb dM_differ_9 rfl (lv_at hl 0 rfl) ?_
    refine lv_iload_n hx hb dM_differ_10 rfl (lv_at hl 2 rfl) ?_
    refine kc_VI (n := 1) (As := [.int g9]) (rest := [.ref mo]) ⟨hx, hb, hml, hown, hts⟩ (c_M_isThere l D g ad tb sa w H.size mo ml cd mn ki on tw od fa st rs me fo fd ba ta by9 nd hM (by omega) g9) bw_587 bw_589 bs_17 bw_3 bw_590 (by decide +kernel) rfl rfl hM.1 ⟨by decide, by decide⟩ hW hK hk hS hAA rfl hl.1 rfl (Nat.le_of_ble_eq_true rfl) dM_differ_11 ⟨by decide, by decide⟩ (fun r5 w6 H locs hp hW hS => ?_)
    obtain ⟨hw9, hr9⟩ := hp
    rw [hw9] at hW
    subst hr9
    refine nw_if_eq (tgt := 21) hx hb (by omega) dM_differ_14 (by decide) (fun c2 => ?_) (fun c2 => ?_)
    · refine lv_iconst (v := nI 1) hx hb dM_differ_21 (by decide) ?_
      refine hw_put (v := .int (nI 1)) (ty := .int) (C := RM) (T := TM) (N := 16) hx hb hts inM tyM tyM_ok nmM hown hK hW hS hM.1 rfl 0 (by decide) (hts _ bw_517) (fun _ h9 => h9) rfl (by decide +kernel) rfl rfl (Nat.le_of_ble_eq_true rfl) dM_differ_22 (fun H locs hW hS => ?_)
      have hW : hw D vwCl A (hwu w mo (.inr (4, [.int (nI 1), .int (nI mn), .ref (ml 0), .ref (ml 1), .ref (ml 2), .ref (ml 3), .ref (ml 4), .ref (ml 5), .ref (ml 6), .int (nI me), .int (nI fo), .int (nI fd), .ref (ml 7), .ref (ml 8), .ref (ml 9), .ref (ml 10)]))) H := hW
      obtain ⟨w7, ew7⟩ : ∃ z, z = hwu w mo (.inr (4, [.int (nI 1), .int (nI mn), .ref (ml 0), .ref (ml 1), .ref (ml 2), .ref (ml 3), .ref (ml 4), .ref (ml 5), .ref (ml 6), .int (nI me), .int (nI fo), .int (nI fd), .ref (ml 7), .ref (ml 8), .ref (ml 9), .ref (ml 10)])) := ⟨_, rfl⟩
      rw [← ew7] at hW
      have hM : moW g w7 mo ml 1 mn ki on tw od fa st rs me fo fd ba ta by9 nd := by rw [ew7]; exact hM.set_m _ _ _ _ _
      have hFr : moF mo ml w w7 := hFr.tr (by rw [ew7]; exact moF_m)
      refine lv_aload_n hx hb dM_differ_25 rfl (lv_at hl 0 rfl) ?_
      refine hw_get (v := .int (nI 1)) (C := RM) (T := TM) (N := 16) hx hb hts inM hown hK hW hM.1 rfl 0 (by decide) (hts _ bw_517) (fun _ h9 => h9) rfl dM_differ_26 ?_
      refine nw_if_le (tgt := 34) hx hb (by omega) dM_differ_29 (by decide) (fun c8 => absurd c8 (by decide)) (fun c8 => ?_)
      refine lv_iconst (v := nI 0) hx hb dM_differ_32 (by decide) ?_
      exact W.iret (v := nI 0) hx hb hr (fun t ht hW9 => ⟨⟨nI 0, w7, rfl, ⟨hFr, Or.inl ⟨by first | exact fun h9 => (inB_f (by omega)).mp (bz_f c1) h9.1 | exact fun h9 => (inB_f (by omega)).mp (bz_f c2) h9.2, hM⟩⟩, by rw [ht]; exact hW, va_K.moved hW9.alike hK⟩, hS.F ht⟩) hS.2.2 dM_differ_33
    · refine lv_iconst (v := nI 0) hx hb dM_differ_17 (by decide) ?_
      refine lv_goto (tgt := 22) hx hb dM_differ_18 (by decide) ?_
      refine hw_put (v := .int (nI 0)) (ty := .int) (C := RM) (T := TM) (N := 16) hx hb hts inM tyM tyM_ok nmM hown hK hW hS hM.1 rfl 0 (by decide) (hts _ bw_517) (fun _ h9 => h9) rfl (by decide +kernel) rfl rfl (Nat.le_of_ble_eq_true rfl) dM_differ_22 (fun H locs hW hS => ?_)
      have hW : hw D vwCl A (hwu w mo (.inr (4, [.int (nI 0), .int (nI mn), .ref (ml 0), .ref (ml 1), .ref (ml 2), .ref (ml 3), .ref (ml 4), .ref (ml 5), .ref (ml 6), .int (nI me), .int (nI fo), .int (nI fd), .ref (ml 7), .ref (ml 8), .ref (ml 9), .ref (ml 10)]))) H := hW
      obtain ⟨w9, ew9⟩ : ∃ z, z = hwu w mo (.inr (4, [.int (nI 0), .int (nI mn), .ref (ml 0), .ref (ml 1), .ref (ml 2), .ref (ml 3), .ref (ml 4), .ref (ml 5), .ref (ml 6), .int (nI me), .int (nI fo), .int (nI fd), .ref (ml 7), .ref (ml 8), .ref (ml 9), .ref (ml 10)])) := ⟨_, rfl⟩
      rw [← ew9] at hW
      have hM : moW g w9 mo ml 0 mn ki on tw od fa st rs me fo fd ba ta by9 nd := by rw [ew9]; exact hM.set_m _ _ _ _ _
      have hFr : moF mo ml w w9 := hFr.tr (by rw [ew9]; exact moF_m)
      refine lv_aload_n hx hb dM_differ_25 rfl (lv_at hl 0 rfl) ?_
      refine hw_get (v := .int (nI 0)) (C := RM) (T := TM) (N := 16) hx hb hts inM hown hK hW hM.1 rfl 0 (by decide) (hts _ bw_517) (fun _ h9 => h9) rfl dM_differ_26 ?_
      refine nw_if_le (tgt := 34) hx hb (by omega) dM_differ_29 (by decide) (fun c10 => ?_) (fun c10 => absurd c10 (by decide))
      obtain ⟨f, hfc, ef⟩ := (inB_iff (by omega)).mp (bz_t c1)
      obtain ⟨h, hhc, eh⟩ := (inB_iff (by omega)).mp (bz_t c2)
      rw [ef, eh] at hl
      refine lv_aload_n hx hb dM_differ_34 rfl (lv_at hl 0 rfl) ?_
      refine lv_iload_n hx hb dM_differ_35 rfl (lv_at hl 1 rfl) ?_
      refine lv_iload_n hx hb dM_differ_36 rfl (lv_at hl 2 rfl) ?_
      refine nw_icmp_le (tgt := 44) hx hb (by omega) (by omega) dM_differ_37 (by decide) (fun cx => ?_) (fun cx => ?_)
      · refine lv_iload_n hx hb dM_differ_44 rfl (lv_at hl 2 rfl) ?_
        refine kc_VV (n := 1) (As := [.int (nI h)]) (rest := []) ⟨hx, hb, hml, hown, hts⟩ (c_M_work l D g ad tb sa w9 H.size mo ml 0 mn ki on tw od fa st rs me fo fd ba ta by9 nd hD hM σ hS9 h hhc hrs) bw_642 bw_644 bs_20 bw_3 bw_645 (by decide +kernel) rfl rfl hM.1 ⟨by decide, by decide⟩ hW hK hk hS hAA rfl hl.1 rfl (Nat.le_of_ble_eq_true rfl) dM_differ_45 ⟨by decide, by decide⟩ (fun w12 H locs hp hW hS => ?_)
        obtain ⟨rs1, hF9, hM, hb9, hp9⟩ := hp
        have hFr : moF mo ml w w12 := hFr.tr hF9
        refine lv_iconst (v := nI 0) hx hb dM_differ_48 (by decide) ?_
        refine lv_istore_n (lv' := [(3, .int (nI 0)), (0, .ref mo), (1, .int (nI f)), (2, .int (nI h))]) hx hb dM_differ_49 rfl hl (by decide) rfl (fun ls hl => ?_)
        refine lp_M_differ hM (show f < 40 by omega) (show h < 40 by omega) (fun m hm => hp9 f (by omega) m hm) (fun m hm => hp9 h (by omega) m hm) hb9 ⟨hx, hb, hml, hts, hown, hK, hk, hAA⟩ 64 0 w12 (by omega) rfl (fun m hm => absurd hm (by omega)) _ _ hW hS ls (lv_sub hl [1, 2, 3, 0] rfl) ?_ ?_
        · intro n w1 ew hn hq hd H locs hW hS ls hl
          rw [ew] at hW
          refine lv_iload_n hx hb dM_differ_82 rfl (lv_at hl 0 rfl) ?_
          exact W.iret (v := nI n) hx hb hr (fun t ht hW9 => ⟨⟨nI n, w12, rfl, ⟨hFr, Or.inr ⟨f, h, rs1, hfc, hhc, ef, eh, Or.inl ⟨n, hn, hd, hq, rfl⟩, hM, hb9⟩⟩, by rw [ht]; exact hW, va_K.moved hW9.alike hK⟩, hS.F ht⟩) hS.2.2 dM_differ_83
        · intro w1 ew hq H locs hW hS ls hl
          rw [ew] at hW
          refine lv_iconst (v := (-1)) hx hb dM_differ_90 (by decide) ?_
          exact W.iret (v := (-1)) hx hb hr (fun t ht hW9 => ⟨⟨(-1), w12, rfl, ⟨hFr, Or.inr ⟨f, h, rs1, hfc, hhc, ef, eh, Or.inr ⟨hq, rfl⟩, hM, hb9⟩⟩, by rw [ht]; exact hW, va_K.moved hW9.alike hK⟩, hS.F ht⟩) hS.2.2 dM_differ_91
      · refine lv_iload_n hx hb dM_differ_40 rfl (lv_at hl 1 rfl) ?_
        refine lv_goto (tgt := 45) hx hb dM_differ_41 (by decide) ?_
        refine kc_VV (n := 1) (As := [.int (nI f)]) (rest := []) ⟨hx, hb, hml, hown, hts⟩ (c_M_work l D g ad tb sa w9 H.size mo ml 0 mn ki on tw od fa st rs me fo fd ba ta by9 nd hD hM σ hS9 f hfc hrs) bw_642 bw_644 bs_20 bw_3 bw_645 (by decide +kernel) rfl rfl hM.1 ⟨by decide, by decide⟩ hW hK hk hS hAA rfl hl.1 rfl (Nat.le_of_ble_eq_true rfl) dM_differ_45 ⟨by decide, by decide⟩ (fun w14 H locs hp hW hS => ?_)
        obtain ⟨rs1, hF9, hM, hb9, hp9⟩ := hp
        have hFr : moF mo ml w w14 := hFr.tr hF9
        refine lv_iconst (v := nI 0) hx hb dM_differ_48 (by decide) ?_
        refine lv_istore_n (lv' := [(3, .int (nI 0)), (0, .ref mo), (1, .int (nI f)), (2, .int (nI h))]) hx hb dM_differ_49 rfl hl (by decide) rfl (fun ls hl => ?_)
        refine lp_M_differ hM (show f < 40 by omega) (show h < 40 by omega) (fun m hm => hp9 f (by omega) m hm) (fun m hm => hp9 h (by omega) m hm) hb9 ⟨hx, hb, hml, hts, hown, hK, hk, hAA⟩ 64 0 w14 (by omega) rfl (fun m hm => absurd hm (by omega)) _ _ hW hS ls (lv_sub hl [1, 2, 3, 0] rfl) ?_ ?_
        · intro n w1 ew hn hq hd H locs hW hS ls hl
          rw [ew] at hW
          refine lv_iload_n hx hb dM_differ_82 rfl (lv_at hl 0 rfl) ?_
          exact W.iret (v := nI n) hx hb hr (fun t ht hW9 => ⟨⟨nI n, w14, rfl, ⟨hFr, Or.inr ⟨f, h, rs1, hfc, hhc, ef, eh, Or.inl ⟨n, hn, hd, hq, rfl⟩, hM, hb9⟩⟩, by rw [ht]; exact hW, va_K.moved hW9.alike hK⟩, hS.F ht⟩) hS.2.2 dM_differ_83
        · intro w1 ew hq H locs hW hS ls hl
          rw [ew] at hW
          refine lv_iconst (v := (-1)) hx hb dM_differ_90 (by decide) ?_
          exact W.iret (v := (-1)) hx hb hr (fun t ht hW9 => ⟨⟨(-1), w14, rfl, ⟨hFr, Or.inr ⟨f, h, rs1, hfc, hhc, ef, eh, Or.inr ⟨hq, rfl⟩, hM, hb9⟩⟩, by rw [ht]; exact hW, va_K.moved hW9.alike hK⟩, hS.F ht⟩) hS.2.2 dM_differ_91
