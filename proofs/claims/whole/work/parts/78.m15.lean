set_option maxHeartbeats 1000000 in
set_option maxRecDepth 100000 in
theorem lp_M_cl {p : Program} {l : Launch} {e : Env} {s : State} {m : MethodId} {args : Array Value} {below : List Frame} {meth : Method} {c : Code} {Q : State → Prop} {D : va_G} {g : Nat → ClassId} {ad : Nat → Nat} {tb : Nat} {sa : Nat → Nat} {A : Nat → Prop} {w : Wd} {mo : Nat} {ml : Nat → Nat} {cd mn : Nat} {ki on tw od fa st rs : Nat → Nat} {me fo fd : Nat} {ba : Nat → Nat} {nd : Nat → Bool} (hD : moD ml) {m9 : Nat} {ta0 : Nat → Nat} (hm : m9 ≤ 20) (C0 : cx p s m args c A cM_clear 12 RM D g ad tb sa) : ∀ (e9 : Nat) (cc row fe : Nat) (ta1 by1 : Nat → Nat) (w1 : Wd), (cc = e9) → (cc ≤ m9) → (moW g w1 mo ml cd mn ki on tw od fa st rs me fo fd ba ta1 by1 nd) → (moF mo ml w w1) → (∀ x, x < 1280 → ta1 x < 32003) → (gjI m9 (m9 - cc) row (ldB m9 by1) (rhB m9 by1) (tbl9 m9 ta1) (tbl9 m9 ta0)) → (fe = fr (ldB m9 by1) (m9 - cc)) → ∀ (H : Heap) (locs : List Loc), hw D vwCl A w1 H → va_S A s.heap H locs → ∀ ls : Array Slot, lv_has ls 12 [(0, .ref mo), (1, .int (nI m9)), (2, .int (nI fe)), (3, .int (nI row)), (4, .int (nI cc - nI 1))] → (∀ (row fe : Nat) (ta1 by1 : Nat → Nat) (w1 : Wd), (moW g w1 mo ml cd mn ki on tw od fa st rs me fo fd ba ta1 by1 nd) → (moF mo ml w w1) → (∀ x, x < 1280 → ta1 x < 32003) → (gjI m9 m9 row (ldB m9 by1) (rhB m9 by1) (tbl9 m9 ta1) (tbl9 m9 ta0)) → (fe = fr (ldB m9 by1) m9) → ∀ (H : Heap) (locs : List Loc), hw D vwCl A w1 H → va_S A s.heap H locs → ∀ ls : Array Slot, lv_has ls 12 [(2, .int (nI fe))] → W p l e (rmL 1 26 0 0) s m args below meth c H locs 0 0 Q (F0 m 326 ls [])) → W p l e (rmL 1 26 0 0) s m args below meth c H locs 0 0 Q (F0 m 9 ls []) := by
  obtain ⟨hx, hb, hml, hts, hown, hK, hk, hAA⟩ := C0
  intro e9
  induction e9 with
  | zero =>
    intro cc row fe ta1 by1 w1 he hcc hM hFr htb hG hfe H locs hW hS ls hl kk0
    subst he
    refine lv_iload hx hb dM_clear_9 (lv_at hl 4 rfl) ?_
    refine lv_if_lt (tgt := 326) hx hb dM_clear_11 (by decide) (fun c1 => ?_) (fun c1 => absurd (show nI 0 - nI 1 < 0 by decide) c1)
    exact kk0 row fe ta1 by1 w1 hM hFr htb (by rw [Nat.sub_zero] at hG; exact hG) (by rw [Nat.sub_zero] at hfe; exact hfe) H locs hW hS ls (lv_sub hl [2] rfl)
  | succ e9 ih =>
    intro cc row fe ta1 by1 w1 he hcc hM hFr htb hG hfe H locs hW hS ls hl kk0
    subst he
    rw [nI_p1] at hl
    obtain ⟨x, hx7⟩ : ∃ x, x + e9 + 1 = m9 := ⟨m9 - (e9 + 1), by omega⟩
    rw [show m9 - (e9 + 1) = x by omega] at hG hfe
    have hrow := hG.2.2.2.2.2.2.1
    have hfl := fr_le (ldB m9 by1) x
    have hrw : row < 64 := by omega
    have htx : ∀ n, tbl9 m9 ta1 n x = ta1 (20 * n + e9) := fun n => by unfold tbl9; rw [show m9 - 1 - x = e9 by omega]
    refine lv_iload hx hb dM_clear_9 (lv_at hl 4 rfl) ?_
    refine nw_if_lt (tgt := 326) hx hb (by omega) dM_clear_11 (by decide) ?_
    refine lv_iload_n hx hb dM_clear_14 rfl (lv_at hl 3 rfl) ?_
    refine lv_istore (lv' := [(5, .int (nI row)), (0, .ref mo), (1, .int (nI m9)), (2, .int (nI fe)), (3, .int (nI row)), (4, .int (nI e9))]) hx hb dM_clear_15 hl (by decide) rfl (fun ls hl => ?_)
    obtain ⟨wz, hwz⟩ : ∃ z, z = w1 := ⟨_, rfl⟩
    rw [← hwz] at hW hM hFr
    refine lp_M_cl_a (c0 := e9) hm (show e9 < m9 by omega) hM htb ⟨hx, hb, hml, hts, hown, hK, hk, hAA⟩ (64 - row) row wz (by omega) (Nat.le_refl _) (fun n h1 h2 => absurd h2 (by omega)) rfl _ _ hW hS ls (lv_sub hl [1, 2, 3, 4, 5, 0] rfl) ?_
    intro a w1 ha har hz hp ew H locs hW hS ls hl
    rw [ew] at hW
    refine lv_aload_n hx hb dM_clear_48 rfl (lv_at hl 0 rfl) ?_
    refine hw_get (v := .ref (ml 9)) (C := RM) (T := TM) (N := 16) hx hb hts inM hown hK hW hM.1 rfl 14 (by decide) (hts _ bw_531) (fun _ h9 => h9) rfl dM_clear_49 ?_
    refine lv_iload hx hb dM_clear_52 (lv_at hl 4 rfl) ?_
    refine lv_iconst (v := (-1)) hx hb dM_clear_54 (by decide) ?_
    refine tp_i (show (-1) = nI 4294967295 from by decide) ?_
    refine hw_iast hx hb hK hW hS 0 hM.2.2.2.2.2.2.2.2.2.2.1 rfl (vp_in_nI (show e9 < 20 by omega) (by omega)) dM_clear_55 (fun H locs hW hS => ?_)
    rw [nI_clamp (show e9 < 2 ^ 31 by omega), ni_upd] at hW
    have hW : hw D vwCl A (hwu wz (ml 9) (ia (g 0) 20 (va_up by1 e9 4294967295))) H := hW
    obtain ⟨w1, ew1⟩ : ∃ z, z = hwu wz (ml 9) (ia (g 0) 20 (va_up by1 e9 4294967295)) := ⟨_, rfl⟩
    rw [← ew1] at hW
    have hM : moW g w1 mo ml cd mn ki on tw od fa st rs me fo fd ba ta1 (va_up by1 e9 4294967295) nd := by rw [ew1]; exact hM.set_by9 hD _
    have hFr : moF mo ml w w1 := hFr.tr (by rw [ew1]; exact moF_a (by decide))
    refine lv_iload hx hb dM_clear_56 (lv_at hl 5 rfl) ?_
    refine lv_bipush (v := nI 64) hx hb dM_clear_58 (by decide) ?_
    refine nw_icmp_ne (tgt := 69) hx hb (by omega) (by omega) dM_clear_60 (by decide) (fun c64 => ?_) (fun c64 => ?_)
    · refine lv_iconst (v := nI 0) hx hb dM_clear_69 (by decide) ?_
      refine lv_istore (lv' := [(6, .int (nI 0)), (0, .ref mo), (1, .int (nI m9)), (2, .int (nI fe)), (3, .int (nI row)), (4, .int (nI e9)), (5, .int (nI a))]) hx hb dM_clear_70 hl (by decide) rfl (fun ls hl => ?_)
      have hFr1 := hFr
      obtain ⟨tz, etz⟩ : ∃ z, z = ta1 := ⟨_, rfl⟩
      rw [← etz] at hG htx hM htb hz hp
      have ha6 : a < 64 := by omega
      refine lp_M_cl_s (ta := tz) (c0 := e9) hD hm (show e9 < m9 by omega) hrw ha6 ⟨hx, hb, hml, hts, hown, hK, hk, hAA⟩ m9 0 tz w1 (by omega) hM moF.rf htb (fun j hj => absurd hj (by omega)) (fun _ _ _ _ _ => rfl) _ _ hW hS ls (lv_sub hl [1, 2, 3, 4, 5, 6, 0] rfl) ?_
      intro ta1 w1 hM hFr htb hs1 hs2 H locs hW hS ls hl
      have hFr := hFr1.tr hFr
      have hbh := htb (20 * row + e9) (by omega)
      refine lv_aload_n hx hb dM_clear_138 rfl (lv_at hl 0 rfl) ?_
      refine hw_get (v := .ref (ml 8)) (C := RM) (T := TM) (N := 16) hx hb hts inM hown hK hW hM.1 rfl 13 (by decide) (hts _ bw_530) (fun _ h9 => h9) rfl dM_clear_139 ?_
      refine lv_bipush (v := nI 20) hx hb dM_clear_142 (by decide) ?_
      refine lv_iload_n hx hb dM_clear_144 rfl (lv_at hl 3 rfl) ?_
      refine lv_imul hx hb dM_clear_145 ?_
      refine tp_i (show (nI 20) * (nI row) = nI (20 * row) from pk_mul _ _) ?_
      refine lv_iload hx hb dM_clear_146 (lv_at hl 4 rfl) ?_
      refine lv_iadd hx hb dM_clear_148 ?_
      refine tp_i (show (nI (20 * row)) + (nI e9) = nI ((20 * row) + e9) from nI_add _ _) ?_
      refine hw_lald hx hb hK hW 2 hM.2.2.2.2.2.2.2.2.2.1 rfl (vp_in_nI (show (20 * row) + e9 < 1280 by omega) (by omega)) dM_clear_149 ?_
      refine tp_l (show (nl ta1) (nI ((20 * row) + e9)).toNatClampNeg = lN (ta1 ((20 * row) + e9)) from by rw [nI_clamp (by omega)]; rfl) ?_
      refine kc_SL (n := 1) (As := [.long (lN (ta1 ((20 * row) + e9)))]) (rest := []) ⟨hx, hb, hml, hown, hts⟩ (c_M_inverse l D g ad tb sa w1 H.size (ta1 ((20 * row) + e9)) (by omega)) bw_658 bw_659 bw_3 bw_660 (by decide +kernel) ⟨by decide, by decide⟩ hW hK hk hS hAA rfl hl.1 rfl (Nat.le_of_ble_eq_true rfl) dM_clear_150 ⟨by decide, by decide⟩ (fun r2 w3 H locs hp hW hS => ?_)
      obtain ⟨hw9, hr9⟩ := hp
      rw [hw9] at hW
      subst hr9
      refine lv_lstore (lv' := [(6, .long (lN (iv (ta1 (20 * row + e9))))), (0, .ref mo), (1, .int (nI m9)), (2, .int (nI fe)), (3, .int (nI row)), (4, .int (nI e9))]) hx hb dM_clear_153 hl (by decide) rfl (fun ls hl => ?_)
      refine lv_iconst (v := nI 0) hx hb dM_clear_155 (by decide) ?_
      refine lv_istore (lv' := [(8, .int (nI 0)), (6, .long (lN (iv (ta1 (20 * row + e9))))), (0, .ref mo), (1, .int (nI m9)), (2, .int (nI fe)), (3, .int (nI row)), (4, .int (nI e9))]) hx hb dM_clear_156 hl (by decide) rfl (fun ls hl => ?_)
      obtain ⟨t1, et1⟩ : ∃ z, z = ta1 := ⟨_, rfl⟩
      rw [← et1] at hM htb hs1 hs2 hl
      have hFr1 := hFr
      have s1 := hs1
      have s2 := hs2
      refine lp_M_cl_c (ta := t1) (c0 := e9) (hd := iv (t1 (20 * row + e9))) hD hm (show e9 < m9 by omega) hrw (iv_lt _) ⟨hx, hb, hml, hts, hown, hK, hk, hAA⟩ m9 0 t1 w1 (by omega) hM moF.rf htb (fun j hj => absurd hj (by omega)) (fun _ _ _ _ _ => rfl) _ _ hW hS ls (lv_sub hl [2, 3, 4, 5, 6, 1, 0] rfl) ?_
      intro ta1 w1 hM hFr htb hs1 hs2 H locs hW hS ls hl
      have hFr := hFr1.tr hFr
      refine lv_iconst (v := nI 0) hx hb dM_clear_201 (by decide) ?_
      refine lv_istore (lv' := [(8, .int (nI 0)), (0, .ref mo), (1, .int (nI m9)), (2, .int (nI fe)), (3, .int (nI row)), (4, .int (nI e9))]) hx hb dM_clear_202 hl (by decide) rfl (fun ls hl => ?_)
      obtain ⟨t2, et2⟩ : ∃ z, z = ta1 := ⟨_, rfl⟩
      rw [← et2] at hM htb hs1 hs2
      have hFr1 := hFr
      have d1 := hs1
      have d2 := hs2
      refine lp_M_cl_r (ta := t2) (c0 := e9) hD hm (show e9 < m9 by omega) hrw ⟨hx, hb, hml, hts, hown, hK, hk, hAA⟩ 64 0 t2 w1 (by omega) hM moF.rf htb (fun n9 j hj => absurd hj (by omega)) (fun _ _ _ _ _ => rfl) _ _ hW hS ls (lv_sub hl [1, 2, 3, 4, 5, 0] rfl) ?_
      intro ta1 w1 hM hFr htb hs1 hs2 H locs hW hS ls hl
      have hFr := hFr1.tr hFr
      have htp := tb_piv hx7 hm hrw ha6 rfl s1 s2 d1 d2 hs1 hs2
      refine lv_aload_n hx hb dM_clear_309 rfl (lv_at hl 0 rfl) ?_
      refine hw_get (v := .ref (ml 9)) (C := RM) (T := TM) (N := 16) hx hb hts inM hown hK hW hM.1 rfl 14 (by decide) (hts _ bw_531) (fun _ h9 => h9) rfl dM_clear_310 ?_
      refine lv_iload hx hb dM_clear_313 (lv_at hl 4 rfl) ?_
      refine lv_iload_n hx hb dM_clear_315 rfl (lv_at hl 3 rfl) ?_
      refine hw_iast hx hb hK hW hS 0 hM.2.2.2.2.2.2.2.2.2.2.1 rfl (vp_in_nI (show e9 < 20 by omega) (by omega)) dM_clear_316 (fun H locs hW hS => ?_)
      rw [nI_clamp (show e9 < 2 ^ 31 by omega), ni_upd] at hW
      have hW : hw D vwCl A (hwu w1 (ml 9) (ia (g 0) 20 (va_up (va_up by1 e9 4294967295) e9 row))) H := hW
      obtain ⟨w4, ew4⟩ : ∃ z, z = hwu w1 (ml 9) (ia (g 0) 20 (va_up (va_up by1 e9 4294967295) e9 row)) := ⟨_, rfl⟩
      rw [← ew4] at hW
      have hM : moW g w4 mo ml cd mn ki on tw od fa st rs me fo fd ba ta1 (va_up (va_up by1 e9 4294967295) e9 row) nd := by rw [ew4]; exact hM.set_by9 hD _
      have hFr : moF mo ml w w4 := hFr.tr (by rw [ew4]; exact moF_a (by decide))
      refine lv_iinc (v := nI (row + 1)) (lv' := [(3, .int (nI (row + 1))), (0, .ref mo), (1, .int (nI m9)), (2, .int (nI fe)), (4, .int (nI e9))]) hx hb dM_clear_317 hl (k := 3) rfl (nI_1 _) (by decide) rfl (fun ls hl => ?_)
      refine lv_iinc (v := nI e9 - nI 1) (lv' := [(4, .int (nI e9 - nI 1)), (3, .int (nI (row + 1))), (0, .ref mo), (1, .int (nI m9)), (2, .int (nI fe))]) hx hb dM_clear_320 hl (k := 4) rfl (nI_m1 e9) (by decide) rfl (fun ls hl => ?_)
      refine lv_goto (tgt := 9) hx hb dM_clear_323 (by decide) ?_
      rw [va_up2] at hM
      have hG9 := gjI_piv hG (show x < m9 by omega) har ha6 (by rw [htx a]; exact hp ha6) (ρ' := rhB m9 (va_up by1 e9 row)) (rhB_up hx7).1 (rhB_up hx7).2
      have hG8 := gjI_congr hG9 (show x + 1 ≤ m9 by omega) (led' := ldB m9 (va_up by1 e9 row)) (fun c hc => (ldB_up hx7 c hc).trans (by rw [decide_eq_true (show row ≠ 4294967295 by omega)])) (fun _ _ _ => rfl) htp
      exact ih e9 (row + 1) fe ta1 (va_up by1 e9 row) w4 rfl (by omega) hM hFr htb (by rw [show m9 - e9 = x + 1 by omega]; exact hG8) (by have h7 := hG8.2.2.2.2.2.2.1; rw [show m9 - e9 = x + 1 by omega]; omega) H locs hW hS ls (lv_sub hl [2, 3, 4, 1, 0] rfl) kk0
    · refine lv_iinc (v := nI (fe + 1)) (lv' := [(2, .int (nI (fe + 1))), (0, .ref mo), (1, .int (nI m9)), (3, .int (nI row)), (4, .int (nI e9)), (5, .int (nI a))]) hx hb dM_clear_63 hl (k := 2) rfl (nI_1 _) (by decide) rfl (fun ls hl => ?_)
      refine lv_goto (tgt := 320) hx hb dM_clear_66 (by decide) ?_
      refine lv_iinc (v := nI e9 - nI 1) (lv' := [(4, .int (nI e9 - nI 1)), (2, .int (nI (fe + 1))), (0, .ref mo), (1, .int (nI m9)), (3, .int (nI row)), (5, .int (nI a))]) hx hb dM_clear_320 hl (k := 4) rfl (nI_m1 e9) (by decide) rfl (fun ls hl => ?_)
      refine lv_goto (tgt := 9) hx hb dM_clear_323 (by decide) ?_
      have hG9 := gjI_free hG (fun n h1 h2 => by rw [htx n]; exact hz n h1 (by omega)) (ρ' := rhB m9 (va_up by1 e9 4294967295)) (rhB_up hx7).1
      have hG8 := gjI_congr hG9 (show x + 1 ≤ m9 by omega) (led' := ldB m9 (va_up by1 e9 4294967295)) (fun c hc => (ldB_up hx7 c hc).trans (by rfl)) (fun _ _ _ => rfl) (fun _ _ _ _ => rfl)
      exact ih e9 row (fe + 1) ta1 (va_up by1 e9 4294967295) w1 rfl (by omega) hM hFr htb (by rw [show m9 - e9 = x + 1 by omega]; exact hG8) (by have h7 := hG8.2.2.2.2.2.2.1; rw [show m9 - e9 = x + 1 by omega]; omega) H locs hW hS ls (lv_sub hl [2, 3, 1, 4, 0] rfl) kk0

set_option maxHeartbeats 1000000 in
set_option maxRecDepth 100000 in
theorem c_M_clear (l : Launch) (D : va_G) (g : Nat → ClassId) (ad : Nat → Nat) (tb : Nat) (sa : Nat → Nat) (w : Wd) (sz : Nat) (mo : Nat) (ml : Nat → Nat) (cd mn : Nat) (ki on tw od fa st rs : Nat → Nat) (me fo fd : Nat) (ba ta by9 : Nat → Nat) (nd : Nat → Bool) (hD : moD ml) (hM0 : moW g w mo ml cd mn ki on tw od fa st rs me fo fd ba ta by9 nd) (m9 : Nat) (hm : m9 ≤ 20) (hta : ∀ x, x < 1280 → ta x < 32003) : MI l D g ad tb sa yM_clear cM_clear 12 (some (.int)) 1 26 0 0 w sz [.ref mo, .int (nI m9)] (fun r w' => ∃ row fe ta1 by1, r = nI fe ∧ moF mo ml w w' ∧ moW g w' mo ml cd mn ki on tw od fa st rs me fo fd ba ta1 by1 nd ∧ (∀ x, x < 1280 → ta1 x < 32003) ∧ gjI m9 m9 row (ldB m9 by1) (rhB m9 by1) (tbl9 m9 ta1) (tbl9 m9 ta) ∧ fe = fr (ldB m9 by1) m9) := by
  refine hm_MI (by decide) (Nat.le_of_ble_eq_true rfl) ?_
  intro p e s m below meth c A ls hx hb hr hml hts hown hlocks hin hout hsz hW hK hk hS hAA hl
  have hl : lv_has ls 12 [(0, .ref mo), (1, .int (nI m9))] := hl
  have hM := hM0
  have hFr : moF mo ml w w := moF.rf
  refine lv_iconst (v := nI 0) hx hb dM_clear_0 (by decide) ?_
  refine lv_istore_n (lv' := [(2, .int (nI 0)), (0, .ref mo), (1, .int (nI m9))]) hx hb dM_clear_1 rfl hl (by decide) rfl (fun ls hl => ?_)
  refine lv_iconst (v := nI 0) hx hb dM_clear_2 (by decide) ?_
  refine lv_istore_n (lv' := [(3, .int (nI 0)), (2, .int (nI 0)), (0, .ref mo), (1, .int (nI m9))]) hx hb dM_clear_3 rfl hl (by decide) rfl (fun ls hl => ?_)
  refine lv_iload_n hx hb dM_clear_4 rfl (lv_at hl 3 rfl) ?_
  refine lv_iconst (v := nI 1) hx hb dM_clear_5 (by decide) ?_
  refine lv_isub hx hb dM_clear_6 ?_
  refine lv_istore (lv' := [(4, .int ((nI m9) - (nI 1))), (3, .int (nI 0)), (2, .int (nI 0)), (0, .ref mo), (1, .int (nI m9))]) hx hb dM_clear_7 hl (by decide) rfl (fun ls hl => ?_)
  refine lp_M_cl (ta0 := ta) hD hm ⟨hx, hb, hml, hts, hown, hK, hk, hAA⟩ m9 m9 0 0 ta by9 w rfl (Nat.le_refl _) hM hFr hta (by rw [Nat.sub_self]; exact gjI_0 (fun n y hn hy => hta _ (by omega))) (by rw [Nat.sub_self]; rfl) _ _ hW hS ls (lv_sub hl [3, 4, 2, 1, 0] rfl) ?_
  intro row fe ta1 by1 w1 hM hFr htb hG hfe H locs hW hS ls hl
  refine lv_iload_n hx hb dM_clear_326 rfl (lv_at hl 0 rfl) ?_
  exact W.iret (v := nI fe) hx hb hr (fun t ht hW9 => ⟨⟨nI fe, w1, rfl, ⟨row, fe, ta1, by1, rfl, hFr, hM, htb, hG, hfe⟩, by rw [ht]; exact hW, va_K.moved hW9.alike hK⟩, hS.F ht⟩) hS.2.2 dM_clear_327
