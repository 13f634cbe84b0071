def fnC (mn : Nat) (o9 : Int32) : Nat := if mn = 40 then 1 else if decide (1 ≤ o9.toInt ∧ o9.toInt ≤ 3) = true then 0 else 2
theorem in_13 {x : Int32} : decide ((lN 1).toInt ≤ x.toInt64.toInt ∧ x.toInt64.toInt ≤ (lN 3).toInt) = decide (1 ≤ x.toInt ∧ x.toInt ≤ 3) := by
  refine decide_eq_decide.mpr ?_
  rw [i64_i]
  have h0 : (lN 1).toInt = 1 := rfl
  have h1 : (lN 3).toInt = 3 := rfl
  omega
theorem inO_iff {x : Int32} : (1 ≤ x.toInt ∧ x.toInt ≤ 3) ↔ inO x := by
  constructor
  · rintro ⟨h1, h2⟩
    refine ⟨x.toInt.toNat, by omega, by omega, i_eq ?_⟩
    rw [nI_toInt (by omega)]
    omega
  · rintro ⟨k, h1, h2, rfl⟩
    rw [nI_toInt (by omega)]
    omega
/-- n cells from b on are 0 -/
def zR (b n : Nat) (f : Nat → Nat) : Nat → Nat := fun x => if b ≤ x ∧ x < b + n then 0 else f x
theorem zR_0 {b : Nat} {f : Nat → Nat} : zR b 0 f = f := by
  funext x
  unfold zR
  rw [if_neg (by omega)]
theorem zR_s {b n : Nat} {f : Nat → Nat} : va_up (zR b n f) (b + n) 0 = zR b (n + 1) f := by
  funext x
  unfold zR va_up
  by_cases e : x = b + n
  · rw [if_pos e, if_pos (by omega)]
  · rw [if_neg e]
    dsimp only
    by_cases h : b ≤ x ∧ x < b + n
    · rw [if_pos h, if_pos (by omega)]
    · rw [if_neg h, if_neg (by omega)]

set_option maxHeartbeats 1000000 in
set_option maxRecDepth 100000 in
theorem lp_M_fn1 {p : Program} {l : Launch} {e : Env} {s : State} {m : MethodId} {args : Array Value} {below : List Frame} {meth : Method} {c : Code} {Q : State → Prop} {D : va_G} {g : Nat → ClassId} {ad : Nat → Nat} {tb : Nat} {sa : Nat → Nat} {A : Nat → Prop} {w : Wd} {mo : Nat} {ml : Nat → Nat} {cd mn : Nat} {ki on tw od fa st rs : Nat → Nat} {me fo fd : Nat} {ba ta by9 : Nat → Nat} {nd : Nat → Bool} (hD : moD ml) (hmn : mn < 40) (C0 : cx p s m args c A cM_function 3 RM D g ad tb sa) : ∀ (e9 : Nat) (k : Nat) (w1 : Wd), (k + e9 = 12) → (moW g w1 mo ml cd mn ki on tw od (zR (12 * mn) k fa) st rs me fo fd ba ta by9 nd) → (moF mo ml w w1) → ∀ (H : Heap) (locs : List Loc), hw D vwCl A w1 H → va_S A s.heap H locs → ∀ ls : Array Slot, lv_has ls 3 [(0, .ref mo), (2, .int (nI k))] → (∀ (w1 : Wd), (moW g w1 mo ml cd mn ki on tw od (zR (12 * mn) 12 fa) st rs me fo fd ba ta by9 nd) → (moF mo ml w w1) → ∀ (H : Heap) (locs : List Loc), hw D vwCl A w1 H → va_S A s.heap H locs → ∀ ls : Array Slot, lv_has ls 3 [(0, .ref mo)] → W p l e (rmL 1 25 0 0) s m args below meth c H locs 0 0 Q (F0 m 82 ls [])) → W p l e (rmL 1 25 0 0) s m args below meth c H locs 0 0 Q (F0 m 55 ls []) := by
  obtain ⟨hx, hb, hml, hts, hown, hK, hk, hAA⟩ := C0
  intro e9
  induction e9 with
  | zero =>
    intro k w1 hk9 hM hFr H locs hW hS ls hl kk0
    refine lv_iload_n hx hb dM_function_55 rfl (lv_at hl 1 rfl) ?_
    refine lv_bipush (v := nI 12) hx hb dM_function_56 (by decide) ?_
    refine nw_icmp_ge (tgt := 82) hx hb (by omega) (by omega) dM_function_58 (by decide) (fun c1 => ?_) (fun c1 => absurd (show k < 12 from c1) (by omega))
    rw [show k = 12 by omega] at hM
    exact kk0 w1 hM hFr H locs hW hS ls (lv_sub hl [0] rfl)
  | succ e9 ih =>
    intro k w1 hk9 hM hFr H locs hW hS ls hl kk0
    refine lv_iload_n hx hb dM_function_55 rfl (lv_at hl 1 rfl) ?_
    refine lv_bipush (v := nI 12) hx hb dM_function_56 (by decide) ?_
    refine nw_icmp_ge (tgt := 82) hx hb (by omega) (by omega) dM_function_58 (by decide) (fun c1 => absurd (show 12 ≤ k from c1) (by omega)) (fun c1 => ?_)
    refine lv_aload_n hx hb dM_function_61 rfl (lv_at hl 0 rfl) ?_
    refine hw_get (v := .ref (ml 4)) (C := RM) (T := TM) (N := 16) hx hb hts inM hown hK hW hM.1 rfl 6 (by decide) (hts _ bw_523) (fun _ h9 => h9) rfl dM_function_62 ?_
    refine lv_bipush (v := nI 12) hx hb dM_function_65 (by decide) ?_
    refine lv_aload_n hx hb dM_function_67 rfl (lv_at hl 0 rfl) ?_
    refine hw_get (v := .int (nI mn)) (C := RM) (T := TM) (N := 16) hx hb hts inM hown hK hW hM.1 rfl 1 (by decide) (hts _ bw_518) (fun _ h9 => h9) rfl dM_function_68 ?_
    refine lv_imul hx hb dM_function_71 ?_
    refine tp_i (show (nI 12) * (nI mn) = nI (12 * mn) from pk_mul _ _) ?_
    refine lv_iload_n hx hb dM_function_72 rfl (lv_at hl 1 rfl) ?_
    refine lv_iadd hx hb dM_function_73 ?_
    refine tp_i (show (nI (12 * mn)) + (nI k) = nI ((12 * mn) + k) from nI_add _ _) ?_
    refine lv_iconst (v := nI 0) hx hb dM_function_74 (by decide) ?_
    refine hw_iast hx hb hK hW hS 0 hM.2.2.2.2.2.1 rfl (vp_in_nI (show (12 * mn) + k < 480 by omega) (by omega)) dM_function_75 (fun H locs hW hS => ?_)
    rw [nI_clamp (show (12 * mn) + k < 2 ^ 31 by omega), ni_upd] at hW
    have hW : hw D vwCl A (hwu w1 (ml 4) (ia (g 0) 480 (va_up (zR (12 * mn) k fa) ((12 * mn) + k) 0))) H := hW
    obtain ⟨w2, ew2⟩ : ∃ z, z = hwu w1 (ml 4) (ia (g 0) 480 (va_up (zR (12 * mn) k fa) ((12 * mn) + k) 0)) := ⟨_, rfl⟩
    rw [← ew2] at hW
    have hM : moW g w2 mo ml cd mn ki on tw od (va_up (zR (12 * mn) k fa) ((12 * mn) + k) 0) st rs me fo fd ba ta by9 nd := by rw [ew2]; exact hM.set_fa hD _
    have hFr : moF mo ml w w2 := hFr.tr (by rw [ew2]; exact moF_a (by decide))
    refine lv_iinc (v := nI (k + 1)) (lv' := [(2, .int (nI (k + 1))), (0, .ref mo)]) hx hb dM_function_76 hl (k := 1) rfl (nI_1 _) (by decide) rfl (fun ls hl => ?_)
    refine lv_goto (tgt := 55) hx hb dM_function_79 (by decide) ?_
    rw [zR_s] at hM
    exact ih (k + 1) w2 (by omega) hM hFr H locs hW hS ls (lv_sub hl [1, 0] rfl) kk0

set_option maxHeartbeats 1000000 in
set_option maxRecDepth 100000 in
theorem lp_M_fn2 {p : Program} {l : Launch} {e : Env} {s : State} {m : MethodId} {args : Array Value} {below : List Frame} {meth : Method} {c : Code} {Q : State → Prop} {D : va_G} {g : Nat → ClassId} {ad : Nat → Nat} {tb : Nat} {sa : Nat → Nat} {A : Nat → Prop} {w : Wd} {mo : Nat} {ml : Nat → Nat} {cd mn : Nat} {ki on tw od fa st rs : Nat → Nat} {me fo fd : Nat} {ba ta by9 : Nat → Nat} {nd : Nat → Bool} (hD : moD ml) (hmn : mn < 40) (C0 : cx p s m args c A cM_function 3 RM D g ad tb sa) : ∀ (e9 : Nat) (k : Nat) (w1 : Wd), (k + e9 = 64) → (moW g w1 mo ml cd mn ki on tw od fa (zR (64 * mn) k st) rs me fo fd ba ta by9 nd) → (moF mo ml w w1) → ∀ (H : Heap) (locs : List Loc), hw D vwCl A w1 H → va_S A s.heap H locs → ∀ ls : Array Slot, lv_has ls 3 [(0, .ref mo), (2, .int (nI k))] → (∀ (w1 : Wd), (moW g w1 mo ml cd mn ki on tw od fa (zR (64 * mn) 64 st) rs me fo fd ba ta by9 nd) → (moF mo ml w w1) → ∀ (H : Heap) (locs : List Loc), hw D vwCl A w1 H → va_S A s.heap H locs → ∀ ls : Array Slot, lv_has ls 3 [(0, .ref mo)] → W p l e (rmL 1 25 0 0) s m args below meth c H locs 0 0 Q (F0 m 111 ls [])) → W p l e (rmL 1 25 0 0) s m args below meth c H locs 0 0 Q (F0 m 84 ls []) := by
  obtain ⟨hx, hb, hml, hts, hown, hK, hk, hAA⟩ := C0
  intro e9
  induction e9 with
  | zero =>
    intro k w1 hk9 hM hFr H locs hW hS ls hl kk0
    refine lv_iload_n hx hb dM_function_84 rfl (lv_at hl 1 rfl) ?_
    refine lv_bipush (v := nI 64) hx hb dM_function_85 (by decide) ?_
    refine nw_icmp_ge (tgt := 111) hx hb (by omega) (by omega) dM_function_87 (by decide) (fun c1 => ?_) (fun c1 => absurd (show k < 64 from c1) (by omega))
    rw [show k = 64 by omega] at hM
    exact kk0 w1 hM hFr H locs hW hS ls (lv_sub hl [0] rfl)
  | succ e9 ih =>
    intro k w1 hk9 hM hFr H locs hW hS ls hl kk0
    refine lv_iload_n hx hb dM_function_84 rfl (lv_at hl 1 rfl) ?_
    refine lv_bipush (v := nI 64) hx hb dM_function_85 (by decide) ?_
    refine nw_icmp_ge (tgt := 111) hx hb (by omega) (by omega) dM_function_87 (by decide) (fun c1 => absurd (show 64 ≤ k from c1) (by omega)) (fun c1 => ?_)
    refine lv_aload_n hx hb dM_function_90 rfl (lv_at hl 0 rfl) ?_
    refine hw_get (v := .ref (ml 5)) (C := RM) (T := TM) (N := 16) hx hb hts inM hown hK hW hM.1 rfl 7 (by decide) (hts _ bw_524) (fun _ h9 => h9) rfl dM_function_91 ?_
    refine lv_bipush (v := nI 64) hx hb dM_function_94 (by decide) ?_
    refine lv_aload_n hx hb dM_function_96 rfl (lv_at hl 0 rfl) ?_
    refine hw_get (v := .int (nI mn)) (C := RM) (T := TM) (N := 16) hx hb hts inM hown hK hW hM.1 rfl 1 (by decide) (hts _ bw_518) (fun _ h9 => h9) rfl dM_function_97 ?_
    refine lv_imul hx hb dM_function_100 ?_
    refine tp_i (show (nI 64) * (nI mn) = nI (64 * mn) from pk_mul _ _) ?_
    refine lv_iload_n hx hb dM_function_101 rfl (lv_at hl 1 rfl) ?_
    refine lv_iadd hx hb dM_function_102 ?_
    refine tp_i (show (nI (64 * mn)) + (nI k) = nI ((64 * mn) + k) from nI_add _ _) ?_
    refine lv_iconst (v := nI 0) hx hb dM_function_103 (by decide) ?_
    refine hw_iast hx hb hK hW hS 0 hM.2.2.2.2.2.2.1 rfl (vp_in_nI (show (64 * mn) + k < 2560 by omega) (by omega)) dM_function_104 (fun H locs hW hS => ?_)
    rw [nI_clamp (show (64 * mn) + k < 2 ^ 31 by omega), ni_upd] at hW
    have hW : hw D vwCl A (hwu w1 (ml 5) (ia (g 0) 2560 (va_up (zR (64 * mn) k st) ((64 * mn) + k) 0))) H := hW
    obtain ⟨w2, ew2⟩ : ∃ z, z = hwu w1 (ml 5) (ia (g 0) 2560 (va_up (zR (64 * mn) k st) ((64 * mn) + k) 0)) := ⟨_, rfl⟩
    rw [← ew2] at hW
    have hM : moW g w2 mo ml cd mn ki on tw od fa (va_up (zR (64 * mn) k st) ((64 * mn) + k) 0) rs me fo fd ba ta by9 nd := by rw [ew2]; exact hM.set_st hD _
    have hFr : moF mo ml w w2 := hFr.tr (by rw [ew2]; exact moF_a (by decide))
    refine lv_iinc (v := nI (k + 1)) (lv' := [(2, .int (nI (k + 1))), (0, .ref mo)]) hx hb dM_function_105 hl (k := 1) rfl (nI_1 _) (by decide) rfl (fun ls hl => ?_)
    refine lv_goto (tgt := 84) hx hb dM_function_108 (by decide) ?_
    rw [zR_s] at hM
    exact ih (k + 1) w2 (by omega) hM hFr H locs hW hS ls (lv_sub hl [1, 0] rfl) kk0

set_option maxHeartbeats 1000000 in
set_option maxRecDepth 100000 in
theorem c_M_function (l : Launch) (D : va_G) (g : Nat → ClassId) (ad : Nat → Nat) (tb : Nat) (sa : Nat → Nat) (w : Wd) (sz : Nat) (mo : Nat) (ml : Nat → Nat) (cd mn : Nat) (ki on tw od fa st rs : Nat → Nat) (me fo fd : Nat) (ba ta by9 : Nat → Nat) (nd : Nat → Bool) (hD : moD ml) (hM0 : moW g w mo ml cd mn ki on tw od fa st rs me fo fd ba ta by9 nd) (hmn : mn ≤ 40) (o9 : Int32) : MI l D g ad tb sa yM_function cM_function 3 (some (.int)) 1 25 0 0 w sz [.ref mo, .int o9] (fun r w' => moF mo ml w w' ∧ ((fnC mn o9 ≠ 0 ∧ moW g w' mo ml (fnC mn o9) mn ki on tw od fa st rs me fo fd ba ta by9 nd) ∨ (fnC mn o9 = 0 ∧ ∃ o, 1 ≤ o ∧ o ≤ 3 ∧ o9 = nI o ∧ mn < 40 ∧ r = nI mn ∧ moW g w' mo ml 0 (mn + 1) (va_up ki mn 0) (va_up on mn 4294967295) (va_up tw mn 4294967295) (va_up od mn o) (zR (12 * mn) 12 fa) (zR (64 * mn) 64 st) rs me fo fd ba ta by9 nd))) := by
  refine hm_MI (by decide) (Nat.le_of_ble_eq_true rfl) ?_
  intro p e s m below meth c A ls hx hb hr hml hts hown hlocks hin hout hsz hW hK hk hS hAA hl
  have hl : lv_has ls 3 [(0, .ref mo), (1, .int o9)] := hl
  have hM := hM0
  have hFr : moF mo ml w w := moF.rf
  refine lv_aload_n hx hb dM_function_0 rfl (lv_at hl 0 rfl) ?_
  refine lv_aload_n hx hb dM_function_1 rfl (lv_at hl 0 rfl) ?_
  refine hw_get (v := .int (nI mn)) (C := RM) (T := TM) (N := 16) hx hb hts inM hown hK hW hM.1 rfl 1 (by decide) (hts _ bw_518) (fun _ h9 => h9) rfl dM_function_2 ?_
  refine lv_bipush (v := nI 40) hx hb dM_function_5 (by decide) ?_
  refine nw_icmp_ne (tgt := 14) hx hb (by omega) (by omega) dM_function_7 (by decide) (fun c1 => ?_) (fun c1 => ?_)
  · refine lv_iload_n hx hb dM_function_14 rfl (lv_at hl 1 rfl) ?_
    refine lv_i2l hx hb dM_function_15 rfl ?_
    refine lv_lconst (v := lN 1) hx hb dM_function_16 (by decide) ?_
    refine lv_ldc2 (v := 3) hx hb hown (hts _ bw_575) dM_function_17 ?_
    refine tp_l (show (3 : Int64) = lN 3 by decide) ?_
    have hbo := bz_le (decide (1 ≤ o9.toInt ∧ o9.toInt ≤ 3))
    refine kc_SI (n := 3) (As := [.long o9.toInt64, .long (lN 1), .long (lN 3)]) (rest := [.ref mo]) ⟨hx, hb, hml, hown, hts⟩ (c_M_in l D g ad tb sa w s.heap.size (o9.toInt64) (lN 1) (lN 3)) bw_576 bw_577 bw_3 bw_578 (by decide +kernel) ⟨by decide, by decide⟩ hW hK hk hS hAA rfl hl.1 rfl (Nat.le_of_ble_eq_true rfl) dM_function_20 ⟨by decide, by decide⟩ (fun r1 w2 H locs hp hW hS => ?_)
    obtain ⟨hw9, hr9⟩ := hp
    rw [hw9] at hW
    subst hr9
    refine tp_i (show nI (bz (decide ((lN 1).toInt ≤ o9.toInt64.toInt ∧ o9.toInt64.toInt ≤ (lN 3).toInt))) = nI (bz (decide (1 ≤ o9.toInt ∧ o9.toInt ≤ 3))) from by rw [in_13]) ?_
    refine nw_if_eq (tgt := 30) hx hb (by omega) dM_function_23 (by decide) (fun c2 => ?_) (fun c2 => ?_)
    · refine lv_iconst (v := nI 2) hx hb dM_function_30 (by decide) ?_
      refine hw_put (v := .int (nI 2)) (ty := .int) (C := RM) (T := TM) (N := 16) hx hb hts inM tyM tyM_ok nmM hown hK hW hS hM.1 rfl 0 (by decide) (hts _ bw_517) (fun _ h9 => h9) rfl (by decide +kernel) rfl rfl (Nat.le_of_ble_eq_true rfl) dM_function_31 (fun H locs hW hS => ?_)
      have hW : hw D vwCl A (hwu w mo (.inr (4, [.int (nI 2), .int (nI mn), .ref (ml 0), .ref (ml 1), .ref (ml 2), .ref (ml 3), .ref (ml 4), .ref (ml 5), .ref (ml 6), .int (nI me), .int (nI fo), .int (nI fd), .ref (ml 7), .ref (ml 8), .ref (ml 9), .ref (ml 10)]))) H := hW
      obtain ⟨w3, ew3⟩ : ∃ z, z = hwu w mo (.inr (4, [.int (nI 2), .int (nI mn), .ref (ml 0), .ref (ml 1), .ref (ml 2), .ref (ml 3), .ref (ml 4), .ref (ml 5), .ref (ml 6), .int (nI me), .int (nI fo), .int (nI fd), .ref (ml 7), .ref (ml 8), .ref (ml 9), .ref (ml 10)])) := ⟨_, rfl⟩
      rw [← ew3] at hW
      have hM : moW g w3 mo ml 2 mn ki on tw od fa st rs me fo fd ba ta by9 nd := by rw [ew3]; exact hM.set_m _ _ _ _ _
      have hFr : moF mo ml w w3 := hFr.tr (by rw [ew3]; exact moF_m)
      refine lv_aload_n hx hb dM_function_34 rfl (lv_at hl 0 rfl) ?_
      refine hw_get (v := .int (nI 2)) (C := RM) (T := TM) (N := 16) hx hb hts inM hown hK hW hM.1 rfl 0 (by decide) (hts _ bw_517) (fun _ h9 => h9) rfl dM_function_35 ?_
      refine nw_if_le (tgt := 43) hx hb (by omega) dM_function_38 (by decide) (fun c4 => absurd c4 (by decide)) (fun c4 => ?_)
      refine lv_iconst (v := nI 0) hx hb dM_function_41 (by decide) ?_
      have hc9 : fnC mn o9 = 2 := by unfold fnC; rw [if_neg c1, if_neg (fun h9 => dec_f c2 (of_decide_eq_true h9))]
      exact W.iret (v := nI 0) hx hb hr (fun t ht hW9 => ⟨⟨nI 0, w3, rfl, ⟨hFr, Or.inl ⟨by rw [hc9]; decide, by rw [hc9]; exact hM⟩⟩, by rw [ht]; exact hW, va_K.moved hW9.alike hK⟩, hS.F ht⟩) hS.2.2 dM_function_42
    · refine lv_iconst (v := nI 0) hx hb dM_function_26 (by decide) ?_
      refine lv_goto (tgt := 31) hx hb dM_function_27 (by decide) ?_
      refine hw_put (v := .int (nI 0)) (ty := .int) (C := RM) (T := TM) (N := 16) hx hb hts inM tyM tyM_ok nmM hown hK hW hS hM.1 rfl 0 (by decide) (hts _ bw_517) (fun _ h9 => h9) rfl (by decide +kernel) rfl rfl (Nat.le_of_ble_eq_true rfl) dM_function_31 (fun H locs hW hS => ?_)
      have hW : hw D vwCl A (hwu w mo (.inr (4, [.int (nI 0), .int (nI mn), .ref (ml 0), .ref (ml 1), .ref (ml 2), .ref (ml 3), .ref (ml 4), .ref (ml 5), .ref (ml 6), .int (nI me), .int (nI fo), .int (nI fd), .ref (ml 7), .ref (ml 8), .ref (ml 9), .ref (ml 10)]))) H := hW
      obtain ⟨w5, ew5⟩ : ∃ z, z = hwu w mo (.inr (4, [.int (nI 0), .int (nI mn), .ref (ml 0), .ref (ml 1), .ref (ml 2), .ref (ml 3), .ref (ml 4), .ref (ml 5), .ref (ml 6), .int (nI me), .int (nI fo), .int (nI fd), .ref (ml 7), .ref (ml 8), .ref (ml 9), .ref (ml 10)])) := ⟨_, rfl⟩
      rw [← ew5] at hW
      have hM : moW g w5 mo ml 0 mn ki on tw od fa st rs me fo fd ba ta by9 nd := by rw [ew5]; exact hM.set_m _ _ _ _ _
      have hFr : moF mo ml w w5 := hFr.tr (by rw [ew5]; exact moF_m)
      refine lv_aload_n hx hb dM_function_34 rfl (lv_at hl 0 rfl) ?_
      refine hw_get (v := .int (nI 0)) (C := RM) (T := TM) (N := 16) hx hb hts inM hown hK hW hM.1 rfl 0 (by decide) (hts _ bw_517) (fun _ h9 => h9) rfl dM_function_35 ?_
      refine nw_if_le (tgt := 43) hx hb (by omega) dM_function_38 (by decide) (fun c6 => ?_) (fun c6 => absurd c6 (by decide))
      obtain ⟨o, ho1, ho3, eo⟩ := inO_iff.mp (dec_t c2)
      rw [eo] at hl
      refine lv_aload_n hx hb dM_function_43 rfl (lv_at hl 0 rfl) ?_
      refine hw_get (v := .ref (ml 3)) (C := RM) (T := TM) (N := 16) hx hb hts inM hown hK hW hM.1 rfl 5 (by decide) (hts _ bw_522) (fun _ h9 => h9) rfl dM_function_44 ?_
      refine lv_aload_n hx hb dM_function_47 rfl (lv_at hl 0 rfl) ?_
      refine hw_get (v := .int (nI mn)) (C := RM) (T := TM) (N := 16) hx hb hts inM hown hK hW hM.1 rfl 1 (by decide) (hts _ bw_518) (fun _ h9 => h9) rfl dM_function_48 ?_
      refine lv_iload_n hx hb dM_function_51 rfl (lv_at hl 1 rfl) ?_
      refine hw_iast hx hb hK hW hS 0 hM.2.2.2.2.1 rfl (vp_in_nI (show mn < 40 by omega) (by omega)) dM_function_52 (fun H locs hW hS => ?_)
      rw [nI_clamp (show mn < 2 ^ 31 by omega), ni_upd] at hW
      have hW : hw D vwCl A (hwu w5 (ml 3) (ia (g 0) 40 (va_up od mn o))) H := hW
      obtain ⟨w7, ew7⟩ : ∃ z, z = hwu w5 (ml 3) (ia (g 0) 40 (va_up od mn o)) := ⟨_, rfl⟩
      rw [← ew7] at hW
      have hM : moW g w7 mo ml 0 mn ki on tw (va_up od mn o) fa st rs me fo fd ba ta by9 nd := by rw [ew7]; exact hM.set_od hD _
      have hFr : moF mo ml w w7 := hFr.tr (by rw [ew7]; exact moF_a (by decide))
      refine lv_iconst (v := nI 0) hx hb dM_function_53 (by decide) ?_
      refine lv_istore_n (lv' := [(2, .int (nI 0)), (0, .ref mo), (1, .int (nI o))]) hx hb dM_function_54 rfl hl (by decide) rfl (fun ls hl => ?_)
      have hFr9 := hFr
      refine lp_M_fn1 hD (show mn < 40 by omega) ⟨hx, hb, hml, hts, hown, hK, hk, hAA⟩ 12 0 w7 (by omega) (by rw [zR_0]; exact hM) moF.rf _ _ hW hS ls (lv_sub hl [1, 0] rfl) ?_
      intro w1 hM hFr H locs hW hS ls hl
      have hFr := hFr9.tr hFr
      refine lv_iconst (v := nI 0) hx hb dM_function_82 (by decide) ?_
      refine lv_istore_n (lv' := [(2, .int (nI 0)), (0, .ref mo)]) hx hb dM_function_83 rfl hl (by decide) rfl (fun ls hl => ?_)
      have hFr9 := hFr
      refine lp_M_fn2 hD (show mn < 40 by omega) ⟨hx, hb, hml, hts, hown, hK, hk, hAA⟩ 64 0 w1 (by omega) (by rw [zR_0]; exact hM) moF.rf _ _ hW hS ls (lv_sub hl [1, 0] rfl) ?_
      intro w1 hM hFr H locs hW hS ls hl
      have hFr := hFr9.tr hFr
      refine lv_aload_n hx hb dM_function_111 rfl (lv_at hl 0 rfl) ?_
      refine lv_iconst (v := nI 0) hx hb dM_function_112 (by decide) ?_
      refine lv_iconst (v := (-1)) hx hb dM_function_113 (by decide) ?_
      refine tp_i (show (-1) = nI 4294967295 from by decide) ?_
      refine lv_iconst (v := (-1)) hx hb dM_function_114 (by decide) ?_
      refine tp_i (show (-1) = nI 4294967295 from by decide) ?_
      refine kc_VI (n := 3) (As := [.int (nI 0), .int (nI 4294967295), .int (nI 4294967295)]) (rest := []) ⟨hx, hb, hml, hown, hts⟩ (c_M_more l D g ad tb sa w1 H.size mo ml 0 mn ki on tw (va_up od mn o) (zR (12 * mn) 12 fa) (zR (64 * mn) 64 st) rs me fo fd ba ta by9 nd hD hM (0) (4294967295) (4294967295) (by omega)) bw_579 bw_581 bs_16 bw_3 bw_582 (by decide +kernel) rfl rfl hM.1 ⟨by decide, by decide⟩ hW hK hk hS hAA rfl hl.1 rfl (Nat.le_of_ble_eq_true rfl) dM_function_115 ⟨by decide, by decide⟩ (fun r8 w9 H locs hp hW hS => ?_)
      obtain ⟨hF9, hM, hr9⟩ := hp
      subst hr9
      have hFr : moF mo ml w w9 := hFr.tr hF9
      have hc9 : fnC mn o9 = 0 := by unfold fnC; rw [if_neg c1, if_pos (decide_eq_true (dec_t c2))]
      exact W.iret (v := nI mn) hx hb hr (fun t ht hW9 => ⟨⟨nI mn, w9, rfl, ⟨hFr, Or.inr ⟨hc9, o, ho1, ho3, eo, by omega, rfl, hM⟩⟩, by rw [ht]; exact hW, va_K.moved hW9.alike hK⟩, hS.F ht⟩) hS.2.2 dM_function_118
  · refine lv_iconst (v := nI 1) hx hb dM_function_10 (by decide) ?_
    refine lv_goto (tgt := 31) hx hb dM_function_11 (by decide) ?_
    refine hw_put (v := .int (nI 1)) (ty := .int) (C := RM) (T := TM) (N := 16) hx hb hts inM tyM tyM_ok nmM hown hK hW hS hM.1 rfl 0 (by decide) (hts _ bw_517) (fun _ h9 => h9) rfl (by decide +kernel) rfl rfl (Nat.le_of_ble_eq_true rfl) dM_function_31 (fun H locs hW hS => ?_)
    have hW : hw D vwCl A (hwu w mo (.inr (4, [.int (nI 1), .int (nI mn), .ref (ml 0), .ref (ml 1), .ref (ml 2), .ref (ml 3), .ref (ml 4), .ref (ml 5), .ref (ml 6), .int (nI me), .int (nI fo), .int (nI fd), .ref (ml 7), .ref (ml 8), .ref (ml 9), .ref (ml 10)]))) H := hW
    obtain ⟨w10, ew10⟩ : ∃ z, z = hwu w mo (.inr (4, [.int (nI 1), .int (nI mn), .ref (ml 0), .ref (ml 1), .ref (ml 2), .ref (ml 3), .ref (ml 4), .ref (ml 5), .ref (ml 6), .int (nI me), .int (nI fo), .int (nI fd), .ref (ml 7), .ref (ml 8), .ref (ml 9), .ref (ml 10)])) := ⟨_, rfl⟩
    rw [← ew10] at hW
    have hM : moW g w10 mo ml 1 mn ki on tw od fa st rs me fo fd ba ta by9 nd := by rw [ew10]; exact hM.set_m _ _ _ _ _
    have hFr : moF mo ml w w10 := hFr.tr (by rw [ew10]; exact moF_m)
    refine lv_aload_n hx hb dM_function_34 rfl (lv_at hl 0 rfl) ?_
    refine hw_get (v := .int (nI 1)) (C := RM) (T := TM) (N := 16) hx hb hts inM hown hK hW hM.1 rfl 0 (by decide) (hts _ bw_517) (fun _ h9 => h9) rfl dM_function_35 ?_
    refine nw_if_le (tgt := 43) hx hb (by omega) dM_function_38 (by decide) (fun c11 => absurd c11 (by decide)) (fun c11 => ?_)
    refine lv_iconst (v := nI 0) hx hb dM_function_41 (by decide) ?_
    have hc9 : fnC mn o9 = 1 := by unfold fnC; rw [if_pos c1]
    exact W.iret (v := nI 0) hx hb hr (fun t ht hW9 => ⟨⟨nI 0, w10, rfl, ⟨hFr, Or.inl ⟨by rw [hc9]; decide, by rw [hc9]; exact hM⟩⟩, by rw [ht]; exact hW, va_K.moved hW9.alike hK⟩, hS.F ht⟩) hS.2.2 dM_function_42
