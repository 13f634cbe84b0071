set_option maxHeartbeats 1000000 in
set_option maxRecDepth 100000 in
theorem c_M_factorAt (l : Launch) (D : va_G) (g : Nat → ClassId) (ad : Nat → Nat) (tb : Nat) (sa : Nat → Nat) (w : Wd) (sz : Nat) (mo : Nat) (ml : Nat → Nat) (cd mn : Nat) (ki on tw od fa st rs : Nat → Nat) (me fo fd : Nat) (ba ta by9 : Nat → Nat) (nd : Nat → Bool) (hM : moW g w mo ml cd mn ki on tw od fa st rs me fo fd ba ta by9 nd) (σ : Nat → SD) (hS9 : mS σ mn ki on tw od fa st) (f i x : Nat) (hfc : f < mn) (ht0 : sTg (σ f) = 0) (hi : i ≤ sP (σ f)) (hx9 : x < 64) : ML l D g ad tb sa yM_factorAt cM_factorAt 5 (some (.long)) 0 0 0 0 w sz [.ref mo, .int (nI f), .int (nI i), .int (nI x)] (fun r w' => w' = w ∧ r = lN (fAt (sF (σ f)) i x)) := by
  refine hm_ML (by decide) (Nat.le_of_ble_eq_true rfl) ?_
  intro p e s m below meth c A ls hx hb hr hml hts hown hlocks hin hout hsz hW hK hk hS hAA hl
  have hl : lv_has ls 5 [(0, .ref mo), (1, .int (nI f)), (2, .int (nI i)), (3, .int (nI x))] := hl
  have hmn := hS9.1
  obtain ⟨q1, q2, q3, q4, q5, q6⟩ := hS9.2.2 f hfc
  obtain ⟨z1, z2, z3, z4⟩ := q3 ht0
  have h0 : fa (12 * f + 3 * i) = sF (σ f) (i * 3) := by rw [show 12 * f + 3 * i = 12 * f + i * 3 by omega]; exact z3 _ (by omega)
  have h1 : fa (12 * f + 3 * i + 1) = sF (σ f) (i * 3 + 1) := by rw [show 12 * f + 3 * i + 1 = 12 * f + (i * 3 + 1) by omega]; exact z3 _ (by omega)
  have h2 : fa (12 * f + 3 * i + 2) = sF (σ f) (i * 3 + 2) := by rw [show 12 * f + 3 * i + 2 = 12 * f + (i * 3 + 2) by omega]; exact z3 _ (by omega)
  have b0 : fa (12 * f + 3 * i) < 32003 := by rw [h0]; exact q5 _ (by omega)
  have b1 : fa (12 * f + 3 * i + 1) < 32003 := by rw [h1]; exact q5 _ (by omega)
  have b2 : fa (12 * f + 3 * i + 2) < 32003 := by rw [h2]; exact q5 _ (by omega)
  have b3 : x * x ≤ 63 * 63 := Nat.mul_le_mul (by omega) (by omega)
  have b4 : fa (12 * f + 3 * i + 1) * x ≤ 32002 * 63 := Nat.mul_le_mul (by omega) (by omega)
  have b5 : fa (12 * f + 3 * i + 2) * (x * x) ≤ 32002 * (63 * 63) := Nat.mul_le_mul (by omega) b3
  refine lv_bipush (v := nI 12) hx hb dM_factorAt_0 (by decide) ?_
  refine lv_iload_n hx hb dM_factorAt_2 rfl (lv_at hl 1 rfl) ?_
  refine lv_imul hx hb dM_factorAt_3 ?_
  refine tp_i (show (nI 12) * (nI f) = nI (12 * f) from pk_mul _ _) ?_
  refine lv_iconst (v := nI 3) hx hb dM_factorAt_4 (by decide) ?_
  refine lv_iload_n hx hb dM_factorAt_5 rfl (lv_at hl 2 rfl) ?_
  refine lv_imul hx hb dM_factorAt_6 ?_
  refine tp_i (show (nI 3) * (nI i) = nI (3 * i) from pk_mul _ _) ?_
  refine lv_iadd hx hb dM_factorAt_7 ?_
  refine tp_i (show (nI (12 * f)) + (nI (3 * i)) = nI ((12 * f) + (3 * i)) from nI_add _ _) ?_
  refine lv_istore (lv' := [(4, .int (nI ((12 * f) + (3 * i)))), (0, .ref mo), (1, .int (nI f)), (2, .int (nI i)), (3, .int (nI x))]) hx hb dM_factorAt_8 hl (by decide) rfl (fun ls hl => ?_)
  refine lv_aload_n hx hb dM_factorAt_10 rfl (lv_at hl 1 rfl) ?_
  refine hw_get (v := .ref (ml 4)) (C := RM) (T := TM) (N := 16) hx hb hts inM hown hK hW hM.1 rfl 6 (by decide) (hts _ bw_523) (fun _ h9 => h9) rfl dM_factorAt_11 ?_
  refine lv_iload hx hb dM_factorAt_14 (lv_at hl 0 rfl) ?_
  refine hw_iald hx hb hK hW 0 hM.2.2.2.2.2.1 rfl (vp_in_nI (show (12 * f) + (3 * i) < 480 by omega) (by omega)) dM_factorAt_16 ?_
  refine tp_i (show (ni fa) (nI ((12 * f) + (3 * i))).toNatClampNeg = nI (fa ((12 * f) + (3 * i))) from by rw [nI_clamp (by omega)]; rfl) ?_
  refine lv_i2l (v := lN (fa ((12 * f) + (3 * i)))) hx hb dM_factorAt_17 (nI_l (by omega)) ?_
  refine lv_aload_n hx hb dM_factorAt_18 rfl (lv_at hl 1 rfl) ?_
  refine hw_get (v := .ref (ml 4)) (C := RM) (T := TM) (N := 16) hx hb hts inM hown hK hW hM.1 rfl 6 (by decide) (hts _ bw_523) (fun _ h9 => h9) rfl dM_factorAt_19 ?_
  refine lv_iload hx hb dM_factorAt_22 (lv_at hl 0 rfl) ?_
  refine lv_iconst (v := nI 1) hx hb dM_factorAt_24 (by decide) ?_
  refine lv_iadd hx hb dM_factorAt_25 ?_
  refine tp_i (show (nI ((12 * f) + (3 * i))) + (nI 1) = nI (((12 * f) + (3 * i)) + 1) from nI_add _ _) ?_
  refine hw_iald hx hb hK hW 0 hM.2.2.2.2.2.1 rfl (vp_in_nI (show ((12 * f) + (3 * i)) + 1 < 480 by omega) (by omega)) dM_factorAt_26 ?_
  refine tp_i (show (ni fa) (nI (((12 * f) + (3 * i)) + 1)).toNatClampNeg = nI (fa (((12 * f) + (3 * i)) + 1)) from by rw [nI_clamp (by omega)]; rfl) ?_
  refine lv_i2l (v := lN (fa (((12 * f) + (3 * i)) + 1))) hx hb dM_factorAt_27 (nI_l (by omega)) ?_
  refine lv_iload_n hx hb dM_factorAt_28 rfl (lv_at hl 4 rfl) ?_
  refine lv_i2l (v := lN x) hx hb dM_factorAt_29 (nI_l (by omega)) ?_
  refine lv_lmul hx hb dM_factorAt_30 ?_
  refine tp_l (show (lN (fa (((12 * f) + (3 * i)) + 1))) * (lN x) = lN ((fa (((12 * f) + (3 * i)) + 1)) * x) from lN_mul _ _) ?_
  refine lv_ladd hx hb dM_factorAt_31 ?_
  refine tp_l (show (lN (fa ((12 * f) + (3 * i)))) + (lN ((fa (((12 * f) + (3 * i)) + 1)) * x)) = lN ((fa ((12 * f) + (3 * i))) + ((fa (((12 * f) + (3 * i)) + 1)) * x)) from lN_add _ _) ?_
  refine lv_aload_n hx hb dM_factorAt_32 rfl (lv_at hl 1 rfl) ?_
  refine hw_get (v := .ref (ml 4)) (C := RM) (T := TM) (N := 16) hx hb hts inM hown hK hW hM.1 rfl 6 (by decide) (hts _ bw_523) (fun _ h9 => h9) rfl dM_factorAt_33 ?_
  refine lv_iload hx hb dM_factorAt_36 (lv_at hl 0 rfl) ?_
  refine lv_iconst (v := nI 2) hx hb dM_factorAt_38 (by decide) ?_
  refine lv_iadd hx hb dM_factorAt_39 ?_
  refine tp_i (show (nI ((12 * f) + (3 * i))) + (nI 2) = nI (((12 * f) + (3 * i)) + 2) from nI_add _ _) ?_
  refine hw_iald hx hb hK hW 0 hM.2.2.2.2.2.1 rfl (vp_in_nI (show ((12 * f) + (3 * i)) + 2 < 480 by omega) (by omega)) dM_factorAt_40 ?_
  refine tp_i (show (ni fa) (nI (((12 * f) + (3 * i)) + 2)).toNatClampNeg = nI (fa (((12 * f) + (3 * i)) + 2)) from by rw [nI_clamp (by omega)]; rfl) ?_
  refine lv_i2l (v := lN (fa (((12 * f) + (3 * i)) + 2))) hx hb dM_factorAt_41 (nI_l (by omega)) ?_
  refine lv_iload_n hx hb dM_factorAt_42 rfl (lv_at hl 4 rfl) ?_
  refine lv_iload_n hx hb dM_factorAt_43 rfl (lv_at hl 4 rfl) ?_
  refine lv_imul hx hb dM_factorAt_44 ?_
  refine tp_i (show (nI x) * (nI x) = nI (x * x) from pk_mul _ _) ?_
  refine lv_i2l (v := lN (x * x)) hx hb dM_factorAt_45 (nI_l (by omega)) ?_
  refine lv_lmul hx hb dM_factorAt_46 ?_
  refine tp_l (show (lN (fa (((12 * f) + (3 * i)) + 2))) * (lN (x * x)) = lN ((fa (((12 * f) + (3 * i)) + 2)) * (x * x)) from lN_mul _ _) ?_
  refine lv_ladd hx hb dM_factorAt_47 ?_
  refine tp_l (show (lN ((fa ((12 * f) + (3 * i))) + ((fa (((12 * f) + (3 * i)) + 1)) * x))) + (lN ((fa (((12 * f) + (3 * i)) + 2)) * (x * x))) = lN (((fa ((12 * f) + (3 * i))) + ((fa (((12 * f) + (3 * i)) + 1)) * x)) + ((fa (((12 * f) + (3 * i)) + 2)) * (x * x))) from lN_add _ _) ?_
  refine lv_ldc2 (v := 32003) hx hb hown (hts _ bw_595) dM_factorAt_48 ?_
  refine tp_l (show (32003 : Int64) = lN 32003 by decide) ?_
  refine lv_lrem hx hb dM_factorAt_51 (by decide) ?_
  refine tp_l (show (lN (((fa ((12 * f) + (3 * i))) + ((fa (((12 * f) + (3 * i)) + 1)) * x)) + ((fa (((12 * f) + (3 * i)) + 2)) * (x * x)))) - (lN (((fa ((12 * f) + (3 * i))) + ((fa (((12 * f) + (3 * i)) + 1)) * x)) + ((fa (((12 * f) + (3 * i)) + 2)) * (x * x)))) / (lN 32003) * (lN 32003) = lN (fAt (sF (σ f)) i x) from by rw [lrem_lN (by omega), fAt_m h0 h1 h2]) ?_
  exact W.lret (v := lN (fAt (sF (σ f)) i x)) hx hb hr (fun t ht hW9 => ⟨⟨lN (fAt (sF (σ f)) i x), w, rfl, ⟨rfl, rfl⟩, by rw [ht]; exact hW, va_K.moved hW9.alike hK⟩, hS.F ht⟩) hS.2.2 dM_factorAt_52

set_option maxHeartbeats 1000000 in
set_option maxRecDepth 100000 in
theorem lp_M_rec {p : Program} {l : Launch} {e : Env} {s : State} {m : MethodId} {args : Array Value} {below : List Frame} {meth : Method} {c : Code} {Q : State → Prop} {D : va_G} {g : Nat → ClassId} {ad : Nat → Nat} {tb : Nat} {sa : Nat → Nat} {A : Nat → Prop} {w : Wd} {mo : Nat} {ml : Nat → Nat} {cd mn : Nat} {ki on tw od fa st rs : Nat → Nat} {me fo fd : Nat} {ba ta by9 : Nat → Nat} {nd : Nat → Bool} {x hd : Nat} (hM0 : moW g w mo ml cd mn ki on tw od fa st rs me fo fd ba ta by9 nd) {σ : Nat → SD} (hS9 : mS σ mn ki on tw od fa st) {f n : Nat} (hfc : f < mn) (ht0 : sTg (σ f) = 0) (hn : n < 64) (hrs : ∀ x, x < 2560 → rs x < 32003) (hxo : x + sP (σ f) < 64) (C0 : cx p s m args c A cM_recurred 10 RM D g ad tb sa) : ∀ (e9 : Nat) (k : Nat) (w1 : Wd), (k + e9 = sP (σ f)) → (w1 = w) → ∀ (H : Heap) (locs : List Loc), hw D vwCl A w1 H → va_S A s.heap H locs → ∀ ls : Array Slot, lv_has ls 10 [(0, .ref mo), (1, .int (nI f)), (2, .int (nI n)), (3, .int (nI (sP (σ f)))), (4, .int (nI x)), (5, .long (lN hd)), (7, .long (lN (ns (fun i => fAt (sF (σ f)) i x * rs (64 * f + (x + i))) k % 32003))), (9, .int (nI k))] → (∀ (w1 : Wd), (w1 = w) → ∀ (H : Heap) (locs : List Loc), hw D vwCl A w1 H → va_S A s.heap H locs → ∀ ls : Array Slot, lv_has ls 10 [(0, .ref mo), (1, .int (nI f)), (2, .int (nI n)), (3, .int (nI (sP (σ f)))), (4, .int (nI x)), (5, .long (lN hd)), (7, .long (lN (ns (fun i => fAt (sF (σ f)) i x * rs (64 * f + (x + i))) (sP (σ f)) % 32003)))] → W p l e (rmL 1 26 0 0) s m args below meth c H locs 0 0 Q (F0 m 103 ls [])) → W p l e (rmL 1 26 0 0) s m args below meth c H locs 0 0 Q (F0 m 57 ls []) := by
  obtain ⟨hx, hb, hml, hts, hown, hK, hk, hAA⟩ := C0
  intro e9
  induction e9 with
  | zero =>
    intro k w1 hk9 ew H locs hW hS ls hl kk0
    subst ew
    have hM := hM0
    have hmn := hS9.1
    obtain ⟨q1, q2, q3, q4, q5, q6⟩ := hS9.2.2 f hfc
    obtain ⟨z1, z2, z3, z4⟩ := q3 ht0
    refine lv_iload hx hb dM_recurred_57 (lv_at hl 7 rfl) ?_
    refine lv_iload_n hx hb dM_recurred_59 rfl (lv_at hl 3 rfl) ?_
    refine nw_icmp_ge (tgt := 103) hx hb (by omega) (by omega) dM_recurred_60 (by decide) (fun c1 => ?_) (fun c1 => absurd (show k < sP (σ f) from c1) (by omega))
    rw [show k = sP (σ f) by omega] at hl
    exact kk0 w1 rfl H locs hW hS ls (lv_sub hl [0, 1, 2, 3, 4, 5, 6] rfl)
  | succ e9 ih =>
    intro k w1 hk9 ew H locs hW hS ls hl kk0
    subst ew
    have hM := hM0
    have hmn := hS9.1
    obtain ⟨q1, q2, q3, q4, q5, q6⟩ := hS9.2.2 f hfc
    obtain ⟨z1, z2, z3, z4⟩ := q3 ht0
    have hr1 := hrs (64 * f + (x + k)) (by omega)
    have hfl := fAt_lt (sF (σ f)) k x
    have hml9 := mul_small hfl hr1
    have hsl : ns (fun i => fAt (sF (σ f)) i x * rs (64 * f + (x + i))) k % 32003 < 32003 := Nat.mod_lt _ (by decide)
    refine lv_iload hx hb dM_recurred_57 (lv_at hl 7 rfl) ?_
    refine lv_iload_n hx hb dM_recurred_59 rfl (lv_at hl 3 rfl) ?_
    refine nw_icmp_ge (tgt := 103) hx hb (by omega) (by omega) dM_recurred_60 (by decide) (fun c1 => absurd (show sP (σ f) ≤ k from c1) (by omega)) (fun c1 => ?_)
    refine lv_lload hx hb dM_recurred_63 (lv_at hl 6 rfl) ?_
    refine lv_aload_n hx hb dM_recurred_65 rfl (lv_at hl 0 rfl) ?_
    refine lv_iload_n hx hb dM_recurred_66 rfl (lv_at hl 1 rfl) ?_
    refine lv_iload hx hb dM_recurred_67 (lv_at hl 7 rfl) ?_
    refine lv_iload hx hb dM_recurred_69 (lv_at hl 4 rfl) ?_
    refine kc_VL (n := 3) (As := [.int (nI f), .int (nI k), .int (nI x)]) (rest := [.long (lN (ns (fun i => fAt (sF (σ f)) i x * rs (64 * f + (x + i))) k % 32003))]) ⟨hx, hb, hml, hown, hts⟩ (c_M_factorAt l D g ad tb sa w1 H.size mo ml cd mn ki on tw od fa st rs me fo fd ba ta by9 nd hM σ hS9 f (k) (x) hfc ht0 (by omega) (by omega)) bw_654 bw_656 bs_23 bw_3 bw_657 (by decide +kernel) rfl rfl hM.1 ⟨by decide, by decide⟩ hW hK hk hS hAA rfl hl.1 rfl (Nat.le_of_ble_eq_true rfl) dM_recurred_71 ⟨by decide, by decide⟩ (fun r2 w3 H locs hp hW hS => ?_)
    obtain ⟨hw9, hr9⟩ := hp
    rw [hw9] at hW
    subst hr9
    refine lv_aload_n hx hb dM_recurred_74 rfl (lv_at hl 0 rfl) ?_
    refine hw_get (v := .ref (ml 6)) (C := RM) (T := TM) (N := 16) hx hb hts inM hown hK hW hM.1 rfl 8 (by decide) (hts _ bw_525) (fun _ h9 => h9) rfl dM_recurred_75 ?_
    refine lv_bipush (v := nI 64) hx hb dM_recurred_78 (by decide) ?_
    refine lv_iload_n hx hb dM_recurred_80 rfl (lv_at hl 1 rfl) ?_
    refine lv_imul hx hb dM_recurred_81 ?_
    refine tp_i (show (nI 64) * (nI f) = nI (64 * f) from pk_mul _ _) ?_
    refine lv_iload hx hb dM_recurred_82 (lv_at hl 4 rfl) ?_
    refine lv_iadd hx hb dM_recurred_84 ?_
    refine tp_i (show (nI (64 * f)) + (nI x) = nI ((64 * f) + x) from nI_add _ _) ?_
    refine lv_iload hx hb dM_recurred_85 (lv_at hl 7 rfl) ?_
    refine lv_iadd hx hb dM_recurred_87 ?_
    refine tp_i (show (nI ((64 * f) + x)) + (nI k) = nI (64 * f + (x + k)) from by rw [nI_add, Nat.add_assoc]) ?_
    refine hw_lald hx hb hK hW 2 hM.2.2.2.2.2.2.2.1 rfl (vp_in_nI (show 64 * f + (x + k) < 2560 by omega) (by omega)) dM_recurred_88 ?_
    refine tp_l (show (nl rs) (nI (64 * f + (x + k))).toNatClampNeg = lN (rs (64 * f + (x + k))) from by rw [nI_clamp (by omega)]; rfl) ?_
    refine lv_lmul hx hb dM_recurred_89 ?_
    refine tp_l (show (lN (fAt (sF (σ f)) k x)) * (lN (rs (64 * f + (x + k)))) = lN ((fAt (sF (σ f)) k x) * (rs (64 * f + (x + k)))) from lN_mul _ _) ?_
    refine lv_ladd hx hb dM_recurred_90 ?_
    refine tp_l (show (lN (ns (fun i => fAt (sF (σ f)) i x * rs (64 * f + (x + i))) k % 32003)) + (lN ((fAt (sF (σ f)) k x) * (rs (64 * f + (x + k))))) = lN ((ns (fun i => fAt (sF (σ f)) i x * rs (64 * f + (x + i))) k % 32003) + ((fAt (sF (σ f)) k x) * (rs (64 * f + (x + k))))) from lN_add _ _) ?_
    refine lv_ldc2 (v := 32003) hx hb hown (hts _ bw_595) dM_recurred_91 ?_
    refine tp_l (show (32003 : Int64) = lN 32003 by decide) ?_
    refine lv_lrem hx hb dM_recurred_94 (by decide) ?_
    refine tp_l (show (lN ((ns (fun i => fAt (sF (σ f)) i x * rs (64 * f + (x + i))) k % 32003) + ((fAt (sF (σ f)) k x) * (rs (64 * f + (x + k)))))) - (lN ((ns (fun i => fAt (sF (σ f)) i x * rs (64 * f + (x + i))) k % 32003) + ((fAt (sF (σ f)) k x) * (rs (64 * f + (x + k)))))) / (lN 32003) * (lN 32003) = lN (ns (fun i => fAt (sF (σ f)) i x * rs (64 * f + (x + i))) (k + 1) % 32003) from by rw [lrem_lN (by omega), ns_mod]) ?_
    refine lv_lstore (lv' := [(7, .long (lN (ns (fun i => fAt (sF (σ f)) i x * rs (64 * f + (x + i))) (k + 1) % 32003))), (0, .ref mo), (1, .int (nI f)), (2, .int (nI n)), (3, .int (nI (sP (σ f)))), (4, .int (nI x)), (5, .long (lN hd)), (9, .int (nI k))]) hx hb dM_recurred_95 hl (by decide) rfl (fun ls hl => ?_)
    refine lv_iinc (v := nI (k + 1)) (lv' := [(9, .int (nI (k + 1))), (7, .long (lN (ns (fun i => fAt (sF (σ f)) i x * rs (64 * f + (x + i))) (k + 1) % 32003))), (0, .ref mo), (1, .int (nI f)), (2, .int (nI n)), (3, .int (nI (sP (σ f)))), (4, .int (nI x)), (5, .long (lN hd))]) hx hb dM_recurred_97 hl (k := 7) rfl (nI_1 _) (by decide) rfl (fun ls hl => ?_)
    refine lv_goto (tgt := 57) hx hb dM_recurred_100 (by decide) ?_
    exact ih (k + 1) w1 (by omega) rfl H locs hW hS ls (lv_sub hl [2, 3, 4, 5, 6, 7, 1, 0] rfl) kk0

set_option maxHeartbeats 1000000 in
set_option maxRecDepth 100000 in
theorem c_M_recurred (l : Launch) (D : va_G) (g : Nat → ClassId) (ad : Nat → Nat) (tb : Nat) (sa : Nat → Nat) (w : Wd) (sz : Nat) (mo : Nat) (ml : Nat → Nat) (cd mn : Nat) (ki on tw od fa st rs : Nat → Nat) (me fo fd : Nat) (ba ta by9 : Nat → Nat) (nd : Nat → Bool) (hM : moW g w mo ml cd mn ki on tw od fa st rs me fo fd ba ta by9 nd) (σ : Nat → SD) (hS9 : mS σ mn ki on tw od fa st) (f n : Nat) (hfc : f < mn) (ht0 : sTg (σ f) = 0) (hn : n < 64) (hrs : ∀ x, x < 2560 → rs x < 32003) : ML l D g ad tb sa yM_recurred cM_recurred 10 (some (.long)) 1 26 0 0 w sz [.ref mo, .int (nI f), .int (nI n)] (fun r w' => w' = w ∧ r = lN (rAt (sP (σ f)) (sF (σ f)) (sS (σ f)) (fun m => rs (64 * f + m)) n)) := by
  refine hm_ML (by decide) (Nat.le_of_ble_eq_true rfl) ?_
  intro p e s m below meth c A ls hx hb hr hml hts hown hlocks hin hout hsz hW hK hk hS hAA hl
  have hl : lv_has ls 10 [(0, .ref mo), (1, .int (nI f)), (2, .int (nI n))] := hl
  have hmn := hS9.1
  obtain ⟨q1, q2, q3, q4, q5, q6⟩ := hS9.2.2 f hfc
  obtain ⟨z1, z2, z3, z4⟩ := q3 ht0
  have hsn : st (64 * f + n) < 32003 := by rw [z4 n hn]; exact q6 n hn
  refine lv_aload_n hx hb dM_recurred_0 rfl (lv_at hl 0 rfl) ?_
  refine hw_get (v := .ref (ml 3)) (C := RM) (T := TM) (N := 16) hx hb hts inM hown hK hW hM.1 rfl 5 (by decide) (hts _ bw_522) (fun _ h9 => h9) rfl dM_recurred_1 ?_
  refine lv_iload_n hx hb dM_recurred_4 rfl (lv_at hl 1 rfl) ?_
  refine hw_iald hx hb hK hW 0 hM.2.2.2.2.1 rfl (vp_in_nI (show f < 40 by omega) (by omega)) dM_recurred_5 ?_
  refine tp_i (show (ni od) (nI f).toNatClampNeg = nI (od f) from by rw [nI_clamp (by omega)]; rfl) ?_
  refine tp_i (show nI (od f) = nI (sP (σ f)) from by rw [z1]) ?_
  refine lv_istore_n (lv' := [(3, .int (nI (sP (σ f)))), (0, .ref mo), (1, .int (nI f)), (2, .int (nI n))]) hx hb dM_recurred_6 rfl hl (by decide) rfl (fun ls hl => ?_)
  by_cases hlt : n < sP (σ f)
  · refine lv_iload_n hx hb dM_recurred_7 rfl (lv_at hl 3 rfl) ?_
    refine lv_iload_n hx hb dM_recurred_8 rfl (lv_at hl 0 rfl) ?_
    refine lv_isub hx hb dM_recurred_9 ?_
    refine lv_istore (lv' := [(4, .int ((nI n) - (nI (sP (σ f))))), (3, .int (nI (sP (σ f)))), (0, .ref mo), (1, .int (nI f)), (2, .int (nI n))]) hx hb dM_recurred_10 hl (by decide) rfl (fun ls hl => ?_)
    refine lv_iload hx hb dM_recurred_12 (lv_at hl 0 rfl) ?_
    refine lv_if_ge (tgt := 21) hx hb dM_recurred_14 (by decide) (fun c1 => absurd c1 (by rw [Int32.not_le]; exact pk_sneg (by omega) hlt)) (fun c1 => ?_)
    refine lv_lconst (v := lN 0) hx hb dM_recurred_17 (by decide) ?_
    refine lv_goto (tgt := 29) hx hb dM_recurred_18 (by decide) ?_
    refine lv_lstore (lv' := [(5, .long (lN 0)), (4, .int ((nI n) - (nI (sP (σ f))))), (3, .int (nI (sP (σ f)))), (0, .ref mo), (1, .int (nI f)), (2, .int (nI n))]) hx hb dM_recurred_29 hl (by decide) rfl (fun ls hl => ?_)
    refine lv_lload hx hb dM_recurred_31 (lv_at hl 0 rfl) ?_
    refine lv_lconst (v := lN 0) hx hb dM_recurred_33 (by decide) ?_
    refine W.lcmp hx hb dM_recurred_34 ?_
    refine lv_if_ne (tgt := 51) hx hb dM_recurred_35 (by decide) (fun c2 => absurd ((cp_eqN (a := 0) (b := 0) (by omega) (by omega)).mpr rfl) c2) (fun c2 => ?_)
    refine lv_aload_n hx hb dM_recurred_38 rfl (lv_at hl 3 rfl) ?_
    refine hw_get (v := .ref (ml 5)) (C := RM) (T := TM) (N := 16) hx hb hts inM hown hK hW hM.1 rfl 7 (by decide) (hts _ bw_524) (fun _ h9 => h9) rfl dM_recurred_39 ?_
    refine lv_bipush (v := nI 64) hx hb dM_recurred_42 (by decide) ?_
    refine lv_iload_n hx hb dM_recurred_44 rfl (lv_at hl 4 rfl) ?_
    refine lv_imul hx hb dM_recurred_45 ?_
    refine tp_i (show (nI 64) * (nI f) = nI (64 * f) from pk_mul _ _) ?_
    refine lv_iload_n hx hb dM_recurred_46 rfl (lv_at hl 5 rfl) ?_
    refine lv_iadd hx hb dM_recurred_47 ?_
    refine tp_i (show (nI (64 * f)) + (nI n) = nI ((64 * f) + n) from nI_add _ _) ?_
    refine hw_iald hx hb hK hW 0 hM.2.2.2.2.2.2.1 rfl (vp_in_nI (show (64 * f) + n < 2560 by omega) (by omega)) dM_recurred_48 ?_
    refine tp_i (show (ni st) (nI ((64 * f) + n)).toNatClampNeg = nI (st ((64 * f) + n)) from by rw [nI_clamp (by omega)]; rfl) ?_
    refine lv_i2l (v := lN (st ((64 * f) + n))) hx hb dM_recurred_49 (nI_l (by omega)) ?_
    exact W.lret (v := lN (st ((64 * f) + n))) hx hb hr (fun t ht hW9 => ⟨⟨lN (st ((64 * f) + n)), w, rfl, ⟨rfl, by unfold rAt; rw [if_pos hlt, z4 n hn]⟩, by rw [ht]; exact hW, va_K.moved hW9.alike hK⟩, hS.F ht⟩) hS.2.2 dM_recurred_50
  · have hfl := fAt_lt (sF (σ f)) (sP (σ f)) (n - sP (σ f))
    refine lv_iload_n hx hb dM_recurred_7 rfl (lv_at hl 3 rfl) ?_
    refine lv_iload_n hx hb dM_recurred_8 rfl (lv_at hl 0 rfl) ?_
    refine lv_isub hx hb dM_recurred_9 ?_
    refine tp_i (show (nI n) - (nI (sP (σ f))) = nI (n - (sP (σ f))) from pk_sub (by omega)) ?_
    refine lv_istore (lv' := [(4, .int (nI (n - (sP (σ f))))), (3, .int (nI (sP (σ f)))), (0, .ref mo), (1, .int (nI f)), (2, .int (nI n))]) hx hb dM_recurred_10 hl (by decide) rfl (fun ls hl => ?_)
    refine lv_iload hx hb dM_recurred_12 (lv_at hl 0 rfl) ?_
    refine nw_if_ge (tgt := 21) hx hb (by omega) dM_recurred_14 (by decide) ?_
    refine lv_aload_n hx hb dM_recurred_21 rfl (lv_at hl 2 rfl) ?_
    refine lv_iload_n hx hb dM_recurred_22 rfl (lv_at hl 3 rfl) ?_
    refine lv_iload_n hx hb dM_recurred_23 rfl (lv_at hl 1 rfl) ?_
    refine lv_iload hx hb dM_recurred_24 (lv_at hl 0 rfl) ?_
    refine kc_VL (n := 3) (As := [.int (nI f), .int (nI (sP (σ f))), .int (nI (n - (sP (σ f))))]) (rest := []) ⟨hx, hb, hml, hown, hts⟩ (c_M_factorAt l D g ad tb sa w s.heap.size mo ml cd mn ki on tw od fa st rs me fo fd ba ta by9 nd hM σ hS9 f (sP (σ f)) (n - sP (σ f)) hfc ht0 (by omega) (by omega)) bw_654 bw_656 bs_23 bw_3 bw_657 (by decide +kernel) rfl rfl hM.1 ⟨by decide, by decide⟩ hW hK hk hS hAA rfl hl.1 rfl (Nat.le_of_ble_eq_true rfl) dM_recurred_26 ⟨by decide, by decide⟩ (fun r3 w4 H locs hp hW hS => ?_)
    obtain ⟨hw9, hr9⟩ := hp
    rw [hw9] at hW
    subst hr9
    refine lv_lstore (lv' := [(5, .long (lN (fAt (sF (σ f)) (sP (σ f)) (n - sP (σ f))))), (4, .int (nI (n - (sP (σ f))))), (3, .int (nI (sP (σ f)))), (0, .ref mo), (1, .int (nI f)), (2, .int (nI n))]) hx hb dM_recurred_29 hl (by decide) rfl (fun ls hl => ?_)
    refine lv_lload hx hb dM_recurred_31 (lv_at hl 0 rfl) ?_
    refine lv_lconst (v := lN 0) hx hb dM_recurred_33 (by decide) ?_
    refine W.lcmp hx hb dM_recurred_34 ?_
    refine lv_if_ne (tgt := 51) hx hb dM_recurred_35 (by decide) (fun ch => ?_) (fun ch => ?_)
    · refine lv_lconst (v := lN 0) hx hb dM_recurred_51 (by decide) ?_
      refine lv_lstore (lv' := [(7, .long (lN 0)), (5, .long (lN (fAt (sF (σ f)) (sP (σ f)) (n - sP (σ f))))), (4, .int (nI (n - (sP (σ f))))), (3, .int (nI (sP (σ f)))), (0, .ref mo), (1, .int (nI f)), (2, .int (nI n))]) hx hb dM_recurred_52 hl (by decide) rfl (fun ls hl => ?_)
      refine lv_iconst (v := nI 0) hx hb dM_recurred_54 (by decide) ?_
      refine lv_istore (lv' := [(9, .int (nI 0)), (7, .long (lN 0)), (5, .long (lN (fAt (sF (σ f)) (sP (σ f)) (n - sP (σ f))))), (4, .int (nI (n - (sP (σ f))))), (3, .int (nI (sP (σ f)))), (0, .ref mo), (1, .int (nI f)), (2, .int (nI n))]) hx hb dM_recurred_55 hl (by decide) rfl (fun ls hl => ?_)
      have hs0 : ns (fun i => fAt (sF (σ f)) i (n - sP (σ f)) * rs (64 * f + (n - sP (σ f) + i))) 0 % 32003 = 0 := rfl
      have hl : lv_has ls 10 [(0, .ref mo), (1, .int (nI f)), (2, .int (nI n)), (3, .int (nI (sP (σ f)))), (4, .int (nI (n - sP (σ f)))), (5, .long (lN (fAt (sF (σ f)) (sP (σ f)) (n - sP (σ f))))), (7, .long (lN (ns (fun i => fAt (sF (σ f)) i (n - sP (σ f)) * rs (64 * f + (n - sP (σ f) + i))) 0 % 32003))), (9, .int (nI 0))] := lv_sub hl [5, 6, 7, 4, 3, 2, 1, 0] rfl
      refine lp_M_rec hM hS9 hfc ht0 hn hrs (show n - sP (σ f) + sP (σ f) < 64 by omega) ⟨hx, hb, hml, hts, hown, hK, hk, hAA⟩ (sP (σ f)) 0 w (by omega) rfl _ _ hW hS ls (lv_sub hl [0, 1, 2, 3, 4, 5, 6, 7] rfl) ?_
      intro w1 ew H locs hW hS ls hl
      rw [ew] at hW
      have hsl : ns (fun i => fAt (sF (σ f)) i (n - sP (σ f)) * rs (64 * f + (n - sP (σ f) + i))) (sP (σ f)) % 32003 < 32003 := Nat.mod_lt _ (by decide)
      have hil := iv_lt (fAt (sF (σ f)) (sP (σ f)) (n - sP (σ f)))
      have hrl := rd_lt (-((ns (fun i => fAt (sF (σ f)) i (n - sP (σ f)) * rs (64 * f + (n - sP (σ f) + i))) (sP (σ f)) : Nat) : Int))
      have hml9 := mul_small hrl hil
      refine lv_ldc2 (v := 32003) hx hb hown (hts _ bw_595) dM_recurred_103 ?_
      refine tp_l (show (32003 : Int64) = lN 32003 by decide) ?_
      refine lv_lload hx hb dM_recurred_106 (lv_at hl 6 rfl) ?_
      refine lv_lsub hx hb dM_recurred_108 ?_
      refine tp_l (show (lN 32003) - (lN (ns (fun i => fAt (sF (σ f)) i (n - sP (σ f)) * rs (64 * f + (n - sP (σ f) + i))) (sP (σ f)) % 32003)) = lN (32003 - ns (fun i => fAt (sF (σ f)) i (n - sP (σ f)) * rs (64 * f + (n - sP (σ f) + i))) (sP (σ f)) % 32003) from lN_subN (by omega) (by omega)) ?_
      refine lv_ldc2 (v := 32003) hx hb hown (hts _ bw_595) dM_recurred_109 ?_
      refine tp_l (show (32003 : Int64) = lN 32003 by decide) ?_
      refine lv_lrem hx hb dM_recurred_112 (by decide) ?_
      refine tp_l (show (lN (32003 - ns (fun i => fAt (sF (σ f)) i (n - sP (σ f)) * rs (64 * f + (n - sP (σ f) + i))) (sP (σ f)) % 32003)) - (lN (32003 - ns (fun i => fAt (sF (σ f)) i (n - sP (σ f)) * rs (64 * f + (n - sP (σ f) + i))) (sP (σ f)) % 32003)) / (lN 32003) * (lN 32003) = lN (rd (-((ns (fun i => fAt (sF (σ f)) i (n - sP (σ f)) * rs (64 * f + (n - sP (σ f) + i))) (sP (σ f)) : Nat) : Int))) from by rw [lrem_lN (by omega), rd_negN]) ?_
      refine lv_lload hx hb dM_recurred_113 (lv_at hl 5 rfl) ?_
      refine kc_SL (n := 1) (As := [.long (lN (fAt (sF (σ f)) (sP (σ f)) (n - sP (σ f))))]) (rest := [.long (lN (rd (-((ns (fun i => fAt (sF (σ f)) i (n - sP (σ f)) * rs (64 * f + (n - sP (σ f) + i))) (sP (σ f)) : Nat) : Int))))]) ⟨hx, hb, hml, hown, hts⟩ (c_M_inverse l D g ad tb sa w H.size (fAt (sF (σ f)) (sP (σ f)) (n - sP (σ f))) (by omega)) bw_658 bw_659 bw_3 bw_660 (by decide +kernel) ⟨by decide, by decide⟩ hW hK hk hS hAA rfl hl.1 rfl (Nat.le_of_ble_eq_true rfl) dM_recurred_115 ⟨by decide, by decide⟩ (fun r5 w6 H locs hp hW hS => ?_)
      obtain ⟨hw9, hr9⟩ := hp
      rw [hw9] at hW
      subst hr9
      refine lv_lmul hx hb dM_recurred_118 ?_
      refine tp_l (show (lN (rd (-((ns (fun i => fAt (sF (σ f)) i (n - sP (σ f)) * rs (64 * f + (n - sP (σ f) + i))) (sP (σ f)) : Nat) : Int)))) * (lN (iv (fAt (sF (σ f)) (sP (σ f)) (n - sP (σ f))))) = lN ((rd (-((ns (fun i => fAt (sF (σ f)) i (n - sP (σ f)) * rs (64 * f + (n - sP (σ f) + i))) (sP (σ f)) : Nat) : Int))) * (iv (fAt (sF (σ f)) (sP (σ f)) (n - sP (σ f))))) from lN_mul _ _) ?_
      refine lv_ldc2 (v := 32003) hx hb hown (hts _ bw_595) dM_recurred_119 ?_
      refine tp_l (show (32003 : Int64) = lN 32003 by decide) ?_
      refine lv_lrem hx hb dM_recurred_122 (by decide) ?_
      refine tp_l (show (lN ((rd (-((ns (fun i => fAt (sF (σ f)) i (n - sP (σ f)) * rs (64 * f + (n - sP (σ f) + i))) (sP (σ f)) : Nat) : Int))) * (iv (fAt (sF (σ f)) (sP (σ f)) (n - sP (σ f)))))) - (lN ((rd (-((ns (fun i => fAt (sF (σ f)) i (n - sP (σ f)) * rs (64 * f + (n - sP (σ f) + i))) (sP (σ f)) : Nat) : Int))) * (iv (fAt (sF (σ f)) (sP (σ f)) (n - sP (σ f)))))) / (lN 32003) * (lN 32003) = lN (rd (-((ns (fun i => fAt (sF (σ f)) i (n - sP (σ f)) * rs (64 * f + (n - sP (σ f) + i))) (sP (σ f)) : Nat) : Int)) * iv (fAt (sF (σ f)) (sP (σ f)) (n - sP (σ f))) % 32003) from lrem_lN (by omega)) ?_
      exact W.lret (v := lN (rd (-((ns (fun i => fAt (sF (σ f)) i (n - sP (σ f)) * rs (64 * f + (n - sP (σ f) + i))) (sP (σ f)) : Nat) : Int)) * iv (fAt (sF (σ f)) (sP (σ f)) (n - sP (σ f))) % 32003)) hx hb hr (fun t ht hW9 => ⟨⟨lN (rd (-((ns (fun i => fAt (sF (σ f)) i (n - sP (σ f)) * rs (64 * f + (n - sP (σ f) + i))) (sP (σ f)) : Nat) : Int)) * iv (fAt (sF (σ f)) (sP (σ f)) (n - sP (σ f))) % 32003), w, rfl, ⟨rfl, by unfold rAt; rw [if_neg hlt, if_neg (fun h9 => ch ((cp_eqN (by omega) (by omega)).mpr h9))]⟩, by rw [ht]; exact hW, va_K.moved hW9.alike hK⟩, hS.F ht⟩) hS.2.2 dM_recurred_123
    · refine lv_aload_n hx hb dM_recurred_38 rfl (lv_at hl 3 rfl) ?_
      refine hw_get (v := .ref (ml 5)) (C := RM) (T := TM) (N := 16) hx hb hts inM hown hK hW hM.1 rfl 7 (by decide) (hts _ bw_524) (fun _ h9 => h9) rfl dM_recurred_39 ?_
      refine lv_bipush (v := nI 64) hx hb dM_recurred_42 (by decide) ?_
      refine lv_iload_n hx hb dM_recurred_44 rfl (lv_at hl 4 rfl) ?_
      refine lv_imul hx hb dM_recurred_45 ?_
      refine tp_i (show (nI 64) * (nI f) = nI (64 * f) from pk_mul _ _) ?_
      refine lv_iload_n hx hb dM_recurred_46 rfl (lv_at hl 5 rfl) ?_
      refine lv_iadd hx hb dM_recurred_47 ?_
      refine tp_i (show (nI (64 * f)) + (nI n) = nI ((64 * f) + n) from nI_add _ _) ?_
      refine hw_iald hx hb hK hW 0 hM.2.2.2.2.2.2.1 rfl (vp_in_nI (show (64 * f) + n < 2560 by omega) (by omega)) dM_recurred_48 ?_
      refine tp_i (show (ni st) (nI ((64 * f) + n)).toNatClampNeg = nI (st ((64 * f) + n)) from by rw [nI_clamp (by omega)]; rfl) ?_
      refine lv_i2l (v := lN (st ((64 * f) + n))) hx hb dM_recurred_49 (nI_l (by omega)) ?_
      exact W.lret (v := lN (st ((64 * f) + n))) hx hb hr (fun t ht hW9 => ⟨⟨lN (st ((64 * f) + n)), w, rfl, ⟨rfl, by unfold rAt; rw [if_neg hlt, if_pos ((cp_eqN (by omega) (by omega)).mp ch), z4 n hn]⟩, by rw [ht]; exact hW, va_K.moved hW9.alike hK⟩, hS.F ht⟩) hS.2.2 dM_recurred_50
