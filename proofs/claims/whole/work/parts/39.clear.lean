set_option maxHeartbeats 1000000 in
set_option maxRecDepth 100000 in
theorem lp_U_cl_i {p : Program} {l : Launch} {e : Env} {s : State} {m : MethodId} {args : Array Value} {below : List Frame} {meth : Method} {c : Code} {Q : State → Prop} {D : va_G} {g : Nat → ClassId} {ad : Nat → Nat} {tb : Nat} {sa : Nat → Nat} {A : Nat → Prop} {w : Wd} {u eq la rw bg : Nat} {er : Nat → Nat} {o dg cn mem : Nat} {M : Nat → Nat → Nat} {b : Nat → Bool} {r be : Nat → Nat} {c0 : Nat} (hD : ruD la rw bg er) (hR0 : ruW g w u eq la rw bg er o dg cn mem M b r be) (hm : cn ≤ 20) (hm0 : 0 < cn) (hc : c0 < cn) (C0 : cx p s m args c A cU_clearLedColumns 3 RU D g ad tb sa) : ∀ (e9 : Nat) (k : Nat) (M1 : Nat → Nat → Nat) (w1 : Wd), (k + e9 = c0) → (ruW g w1 u eq la rw bg er o dg cn mem M1 b r be) → (ruF u la rw bg er w w1) → (rI cn mem M1 b) → (∀ v, sol cn b (eI M1) v ↔ sol cn b (eI M) v) → (clr cn c0 M1 b) → (clrI cn c0 k M1 b) → ∀ (H : Heap) (locs : List Loc), hw D vwCl A w1 H → va_S A s.heap H locs → ∀ ls : Array Slot, lv_has ls 3 [(0, .ref u), (1, .int (nI c0)), (2, .int (nI k))] → (∀ (k : Nat) (M1 : Nat → Nat → Nat) (w1 : Wd), (c0 ≤ k ∨ b c0 = false) → (ruW g w1 u eq la rw bg er o dg cn mem M1 b r be) → (ruF u la rw bg er w w1) → (rI cn mem M1 b) → (∀ v, sol cn b (eI M1) v ↔ sol cn b (eI M) v) → (clr cn c0 M1 b) → (clrI cn c0 k M1 b) → ∀ (H : Heap) (locs : List Loc), hw D vwCl A w1 H → va_S A s.heap H locs → ∀ ls : Array Slot, lv_has ls 3 [(0, .ref u), (1, .int (nI c0))] → W p l e (rmL 2 46 0 0) s m args below meth c H locs 0 0 Q (F0 m 72 ls [])) → W p l e (rmL 2 46 0 0) s m args below meth c H locs 0 0 Q (F0 m 13 ls []) := by
  obtain ⟨hx, hb, hml, hts, hown, hK, hk, hAA⟩ := C0
  intro e9
  induction e9 with
  | zero =>
    intro k M1 w1 hk9 hR hFr hI hs h1 h2 H locs hW hS ls hl kk0
    refine lv_iload_n hx hb dU_clearLedColumns_13 rfl (lv_at hl 2 rfl) ?_
    refine lv_iload_n hx hb dU_clearLedColumns_14 rfl (lv_at hl 1 rfl) ?_
    refine nw_icmp_ge (tgt := 72) hx hb (by omega) (by omega) dU_clearLedColumns_15 (by decide) (fun c1 => ?_) (fun c1 => absurd (show k < c0 from c1) (by omega))
    exact kk0 k M1 w1 (Or.inl (by omega)) hR hFr hI hs h1 h2 H locs hW hS ls (lv_sub hl [0, 1] rfl)
  | succ e9 ih =>
    intro k M1 w1 hk9 hR hFr hI hs h1 h2 H locs hW hS ls hl kk0
    have hb1 := bn_lt b c0
    have hb2 := bn_lt b k
    have hMk := hI.2.1 k c0 (by omega) (by omega)
    refine lv_iload_n hx hb dU_clearLedColumns_13 rfl (lv_at hl 2 rfl) ?_
    refine lv_iload_n hx hb dU_clearLedColumns_14 rfl (lv_at hl 1 rfl) ?_
    refine nw_icmp_ge (tgt := 72) hx hb (by omega) (by omega) dU_clearLedColumns_15 (by decide) (fun c1 => absurd (show c0 ≤ k from c1) (by omega)) (fun c1 => ?_)
    refine lv_aload_n hx hb dU_clearLedColumns_18 rfl (lv_at hl 0 rfl) ?_
    refine hw_get (v := .ref la) (C := RU) (T := TU) (N := 8) hx hb hts inU hown hK hW hR.1 rfl 1 (by decide) (hts _ bw_35) (fun _ h9 => h9) rfl dU_clearLedColumns_19 ?_
    refine lv_iload_n hx hb dU_clearLedColumns_22 rfl (lv_at hl 1 rfl) ?_
    refine hw_zald hx hb hK hW 1 hR.2.2.1 rfl (vp_in_nI (show c0 < 20 by omega) (by omega)) dU_clearLedColumns_23 ?_
    refine tp_i (show (ni (bn b)) (nI c0).toNatClampNeg = nI ((bn b) c0) from by rw [nI_clamp (by omega)]; rfl) ?_
    refine nw_if_eq (tgt := 72) hx hb (by omega) dU_clearLedColumns_24 (by decide) (fun cb => ?_) (fun cb => ?_)
    · exact kk0 k M1 w1 (Or.inr (bn_f cb)) hR hFr hI hs h1 h2 H locs hW hS ls (lv_sub hl [0, 1] rfl)
    · refine lv_aload_n hx hb dU_clearLedColumns_27 rfl (lv_at hl 0 rfl) ?_
      refine hw_get (v := .ref la) (C := RU) (T := TU) (N := 8) hx hb hts inU hown hK hW hR.1 rfl 1 (by decide) (hts _ bw_35) (fun _ h9 => h9) rfl dU_clearLedColumns_28 ?_
      refine lv_iload_n hx hb dU_clearLedColumns_31 rfl (lv_at hl 2 rfl) ?_
      refine hw_zald hx hb hK hW 1 hR.2.2.1 rfl (vp_in_nI (show k < 20 by omega) (by omega)) dU_clearLedColumns_32 ?_
      refine tp_i (show (ni (bn b)) (nI k).toNatClampNeg = nI ((bn b) k) from by rw [nI_clamp (by omega)]; rfl) ?_
      refine nw_if_eq (tgt := 66) hx hb (by omega) dU_clearLedColumns_33 (by decide) (fun cu => ?_) (fun cu => ?_)
      · refine lv_iinc (v := nI (k + 1)) (lv' := [(2, .int (nI (k + 1))), (0, .ref u), (1, .int (nI c0))]) hx hb dU_clearLedColumns_66 hl (k := 2) rfl (nI_1 _) (by decide) rfl (fun ls hl => ?_)
        refine lv_goto (tgt := 13) hx hb dU_clearLedColumns_69 (by decide) ?_
        exact ih (k + 1) M1 w1 (by omega) hR hFr hI hs h1 (fun y hlt hy hbc => by
          by_cases e8 : y = k
          · rw [e8] at hy ⊢; rw [bn_f cu] at hy; cases hy
          · exact h2 y (by omega) hy hbc) H locs hW hS ls (lv_sub hl [1, 2, 0] rfl) kk0
      · refine lv_aload_n hx hb dU_clearLedColumns_36 rfl (lv_at hl 0 rfl) ?_
        refine hw_get (v := .ref eq) (C := RU) (T := TU) (N := 8) hx hb hts inU hown hK hW hR.1 rfl 0 (by decide) (hts _ bw_34) (fun _ h9 => h9) rfl dU_clearLedColumns_37 ?_
        refine lv_iload_n hx hb dU_clearLedColumns_40 rfl (lv_at hl 2 rfl) ?_
        refine hw_aldA hx hb hK hW 4 hR.2.1 rfl (vp_in_nI (show k < 20 by omega) (by omega)) dU_clearLedColumns_41 ?_
        refine tp_v (show (va_rf ((fun i => if i < 20 then some (er i) else none) (nI k).toNatClampNeg) : Value) = .ref (er k) from by rw [nI_clamp (by omega)]; exact by show va_rf (if k < 20 then some (er k) else none) = _; rw [if_pos (by omega)]; rfl) ?_
        refine lv_iload_n hx hb dU_clearLedColumns_42 rfl (lv_at hl 1 rfl) ?_
        refine hw_iald hx hb hK hW 0 (hR.2.2.2.2.2 k (by omega)) rfl (vp_in_nI (show c0 < 20 by omega) (by omega)) dU_clearLedColumns_43 ?_
        refine tp_i (show (ni (M1 k)) (nI c0).toNatClampNeg = nI ((M1 k) c0) from by rw [nI_clamp (by omega)]; rfl) ?_
        refine nw_if_eq (tgt := 66) hx hb (by omega) dU_clearLedColumns_44 (by decide) (fun cm => ?_) (fun cm => ?_)
        · refine lv_iinc (v := nI (k + 1)) (lv' := [(2, .int (nI (k + 1))), (0, .ref u), (1, .int (nI c0))]) hx hb dU_clearLedColumns_66 hl (k := 2) rfl (nI_1 _) (by decide) rfl (fun ls hl => ?_)
          refine lv_goto (tgt := 13) hx hb dU_clearLedColumns_69 (by decide) ?_
          exact ih (k + 1) M1 w1 (by omega) hR hFr hI hs h1 (fun y hlt hy hbc => by
            by_cases e8 : y = k
            · rw [e8] at hy ⊢; exact cm
            · exact h2 y (by omega) hy hbc) H locs hW hS ls (lv_sub hl [1, 2, 0] rfl) kk0
        · refine lv_aload_n hx hb dU_clearLedColumns_47 rfl (lv_at hl 0 rfl) ?_
          refine lv_aload_n hx hb dU_clearLedColumns_48 rfl (lv_at hl 0 rfl) ?_
          refine hw_get (v := .ref eq) (C := RU) (T := TU) (N := 8) hx hb hts inU hown hK hW hR.1 rfl 0 (by decide) (hts _ bw_34) (fun _ h9 => h9) rfl dU_clearLedColumns_49 ?_
          refine lv_iload_n hx hb dU_clearLedColumns_52 rfl (lv_at hl 2 rfl) ?_
          refine hw_aldA hx hb hK hW 4 hR.2.1 rfl (vp_in_nI (show k < 20 by omega) (by omega)) dU_clearLedColumns_53 ?_
          refine tp_v (show (va_rf ((fun i => if i < 20 then some (er i) else none) (nI k).toNatClampNeg) : Value) = .ref (er k) from by rw [nI_clamp (by omega)]; exact by show va_rf (if k < 20 then some (er k) else none) = _; rw [if_pos (by omega)]; rfl) ?_
          refine lv_aload_n hx hb dU_clearLedColumns_54 rfl (lv_at hl 0 rfl) ?_
          refine hw_get (v := .ref eq) (C := RU) (T := TU) (N := 8) hx hb hts inU hown hK hW hR.1 rfl 0 (by decide) (hts _ bw_34) (fun _ h9 => h9) rfl dU_clearLedColumns_55 ?_
          refine lv_iload_n hx hb dU_clearLedColumns_58 rfl (lv_at hl 2 rfl) ?_
          refine hw_aldA hx hb hK hW 4 hR.2.1 rfl (vp_in_nI (show k < 20 by omega) (by omega)) dU_clearLedColumns_59 ?_
          refine tp_v (show (va_rf ((fun i => if i < 20 then some (er i) else none) (nI k).toNatClampNeg) : Value) = .ref (er k) from by rw [nI_clamp (by omega)]; exact by show va_rf (if k < 20 then some (er k) else none) = _; rw [if_pos (by omega)]; rfl) ?_
          refine lv_iload_n hx hb dU_clearLedColumns_60 rfl (lv_at hl 1 rfl) ?_
          refine hw_iald hx hb hK hW 0 (hR.2.2.2.2.2 k (by omega)) rfl (vp_in_nI (show c0 < 20 by omega) (by omega)) dU_clearLedColumns_61 ?_
          refine tp_i (show (ni (M1 k)) (nI c0).toNatClampNeg = nI ((M1 k) c0) from by rw [nI_clamp (by omega)]; rfl) ?_
          refine lv_iload_n hx hb dU_clearLedColumns_62 rfl (lv_at hl 1 rfl) ?_
          refine kc_VV (n := 3) (As := [.ref (er k), .int (nI ((M1 k) c0)), .int (nI c0)]) (rest := []) ⟨hx, hb, hml, hown, hts⟩ (c_U_subtract l D g ad tb sa w1 H.size u eq la rw bg er o dg cn mem (M1 k) (er k) c0 (M1 k c0) (M1 c0) hR.1 hR.2.1 (hR.2.2.2.2.2 c0 (by omega)) (hR.2.2.2.2.2 k (by omega)) (fun q9 => absurd (hD.2.2.2.2 c0 k (by omega) (by omega) q9) (by omega)) hc hm hMk (fun x hx => hI.2.1 k x (by omega) hx) (fun x hx => hI.2.1 c0 x (by omega) hx)) bw_465 bw_467 bs_13 bw_2 bw_468 (by decide +kernel) rfl rfl hR.1 ⟨by decide, by decide⟩ hW hK hk hS hAA rfl hl.1 rfl (Nat.le_of_ble_eq_true rfl) dU_clearLedColumns_63 ⟨by decide, by decide⟩ (fun w3 H locs hp hW hS => ?_)
          have hR : ruW g w3 u eq la rw bg er o dg cn mem (va_up M1 k (subR cn c0 (M1 k c0) (M1 k) (M1 c0))) b r be := by rw [hp]; exact hR.set_er hD (by omega) _
          have hFr : ruF u la rw bg er w w3 := hFr.tr (by rw [hp]; exact ruF_er (by omega))
          obtain ⟨z1, z2, z3, z4⟩ := clr_step hI hm hc (show k < c0 by omega) (bn_t cb) (bn_t cu) h1 h2
          refine lv_iinc (v := nI (k + 1)) (lv' := [(2, .int (nI (k + 1))), (0, .ref u), (1, .int (nI c0))]) hx hb dU_clearLedColumns_66 hl (k := 2) rfl (nI_1 _) (by decide) rfl (fun ls hl => ?_)
          refine lv_goto (tgt := 13) hx hb dU_clearLedColumns_69 (by decide) ?_
          exact ih (k + 1) (va_up M1 k (subR cn c0 (M1 k c0) (M1 k) (M1 c0))) w3 (by omega) hR hFr z1 (fun v => (z2 v).trans (hs v)) z3 z4 H locs hW hS ls (lv_sub hl [1, 2, 0] rfl) kk0

set_option maxHeartbeats 1000000 in
set_option maxRecDepth 100000 in
theorem lp_U_cl_o {p : Program} {l : Launch} {e : Env} {s : State} {m : MethodId} {args : Array Value} {below : List Frame} {meth : Method} {c : Code} {Q : State → Prop} {D : va_G} {g : Nat → ClassId} {ad : Nat → Nat} {tb : Nat} {sa : Nat → Nat} {A : Nat → Prop} {w : Wd} {u eq la rw bg : Nat} {er : Nat → Nat} {o dg cn mem : Nat} {M : Nat → Nat → Nat} {b : Nat → Bool} {r be : Nat → Nat} (hD : ruD la rw bg er) (hR0 : ruW g w u eq la rw bg er o dg cn mem M b r be) (hm : cn ≤ 20) (hm0 : 0 < cn) (C0 : cx p s m args c A cU_clearLedColumns 3 RU D g ad tb sa) : ∀ (e9 : Nat) (c0 : Nat) (M1 : Nat → Nat → Nat) (w1 : Wd), (c0 = e9) → (c0 < cn) → (ruW g w1 u eq la rw bg er o dg cn mem M1 b r be) → (ruF u la rw bg er w w1) → (rI cn mem M1 b) → (∀ v, sol cn b (eI M1) v ↔ sol cn b (eI M) v) → (clr cn c0 M1 b) → ∀ (H : Heap) (locs : List Loc), hw D vwCl A w1 H → va_S A s.heap H locs → ∀ ls : Array Slot, lv_has ls 3 [(0, .ref u), (1, .int (nI c0))] → (∀ (M1 : Nat → Nat → Nat) (w1 : Wd), (ruW g w1 u eq la rw bg er o dg cn mem M1 b r be) → (ruF u la rw bg er w w1) → (rI cn mem M1 b) → (∀ v, sol cn b (eI M1) v ↔ sol cn b (eI M) v) → (clr cn 0 M1 b) → ∀ (H : Heap) (locs : List Loc), hw D vwCl A w1 H → va_S A s.heap H locs → ∀ ls : Array Slot, lv_has ls 3 [] → W p l e (rmL 2 46 0 0) s m args below meth c H locs 0 0 Q (F0 m 78 ls [])) → W p l e (rmL 2 46 0 0) s m args below meth c H locs 0 0 Q (F0 m 7 ls []) := by
  obtain ⟨hx, hb, hml, hts, hown, hK, hk, hAA⟩ := C0
  intro e9
  induction e9 with
  | zero =>
    intro c0 M1 w1 he hc hR hFr hI hs h1 H locs hW hS ls hl kk0
    subst he
    refine lv_iload_n hx hb dU_clearLedColumns_7 rfl (lv_at hl 1 rfl) ?_
    refine nw_if_le (tgt := 78) hx hb (by omega) dU_clearLedColumns_8 (by decide) (fun c1 => ?_) (fun c1 => absurd c1 (by decide))
    exact kk0 M1 w1 hR hFr hI hs h1 H locs hW hS ls (lv_sub hl [] rfl)
  | succ e9 ih =>
    intro c0 M1 w1 he hc hR hFr hI hs h1 H locs hW hS ls hl kk0
    refine lv_iload_n hx hb dU_clearLedColumns_7 rfl (lv_at hl 1 rfl) ?_
    refine nw_if_le (tgt := 78) hx hb (by omega) dU_clearLedColumns_8 (by decide) (fun c1 => absurd (show c0 = 0 from c1) (by omega)) (fun c1 => ?_)
    refine lv_iconst (v := nI 0) hx hb dU_clearLedColumns_11 (by decide) ?_
    refine lv_istore_n (lv' := [(2, .int (nI 0)), (0, .ref u), (1, .int (nI c0))]) hx hb dU_clearLedColumns_12 rfl hl (by decide) rfl (fun ls hl => ?_)
    refine lp_U_cl_i hD hR0 hm hm0 hc ⟨hx, hb, hml, hts, hown, hK, hk, hAA⟩ c0 0 M1 w1 (by omega) hR hFr hI hs h1 (fun y hy => absurd hy (by omega)) _ _ hW hS ls (lv_sub hl [1, 2, 0] rfl) ?_
    intro k M1 w1 hkk hR hFr hI hs h1 h2 H locs hW hS ls hl
    refine lv_iinc (v := nI (c0 - 1)) (lv' := [(1, .int (nI (c0 - 1))), (0, .ref u)]) hx hb dU_clearLedColumns_72 hl (k := 1) rfl (sb_m1 (by omega)) (by decide) rfl (fun ls hl => ?_)
    refine lv_goto (tgt := 7) hx hb dU_clearLedColumns_75 (by decide) ?_
    exact ih (c0 - 1) M1 w1 (by omega) (by omega) hR hFr hI hs (clr_next h1 h2 hkk (by omega)) H locs hW hS ls (lv_sub hl [1, 0] rfl) kk0

set_option maxHeartbeats 1000000 in
set_option maxRecDepth 100000 in
theorem c_U_clearLedColumns (l : Launch) (D : va_G) (g : Nat → ClassId) (ad : Nat → Nat) (tb : Nat) (sa : Nat → Nat) (w : Wd) (sz : Nat) (u eq la rw bg : Nat) (er : Nat → Nat) (o dg cn mem : Nat) (M : Nat → Nat → Nat) (b : Nat → Bool) (r be : Nat → Nat) (hD : ruD la rw bg er) (hR0 : ruW g w u eq la rw bg er o dg cn mem M b r be) (hm : cn ≤ 20) (hm0 : 0 < cn) (hI : rI cn mem M b) : MV l D g ad tb sa yU_clearLedColumns cU_clearLedColumns 3 none 2 46 0 0 w sz [.ref u] (fun w' => ∃ M1, ruF u la rw bg er w w' ∧ ruW g w' u eq la rw bg er o dg cn mem M1 b r be ∧ rI cn mem M1 b ∧ (∀ v, sol cn b (eI M1) v ↔ sol cn b (eI M) v) ∧ clr cn 0 M1 b) := by
  refine hm_MV (by decide) (Nat.le_of_ble_eq_true rfl) ?_
  intro p e s m below meth c A ls hx hb hr hml hts hown hlocks hin hout hsz hW hK hk hS hAA hl
  have hl : lv_has ls 3 [(0, .ref u)] := hl
  have hR := hR0
  refine lv_aload_n hx hb dU_clearLedColumns_0 rfl (lv_at hl 0 rfl) ?_
  refine hw_get (v := .int (nI cn)) (C := RU) (T := TU) (N := 8) hx hb hts inU hown hK hW hR.1 rfl 6 (by decide) (hts _ bw_40) (fun _ h9 => h9) rfl dU_clearLedColumns_1 ?_
  refine lv_iconst (v := nI 1) hx hb dU_clearLedColumns_4 (by decide) ?_
  refine lv_isub hx hb dU_clearLedColumns_5 ?_
  refine tp_i (show (nI cn) - (nI 1) = nI (cn - 1) from pk_sub (by omega)) ?_
  refine lv_istore_n (lv' := [(1, .int (nI (cn - 1))), (0, .ref u)]) hx hb dU_clearLedColumns_6 rfl hl (by decide) rfl (fun ls hl => ?_)
  refine lp_U_cl_o hD hR0 hm hm0 ⟨hx, hb, hml, hts, hown, hK, hk, hAA⟩ (cn - 1) (cn - 1) M w rfl (by omega) hR0 ruF.rf hI (fun v => Iff.rfl) (fun y x h1 h2 h3 => absurd h3 (by omega)) _ _ hW hS ls (lv_sub hl [1, 0] rfl) ?_
  intro M1 w1 hR hFr hI hs h1 H locs hW hS ls hl
  exact W.vret hx hb hr (fun t ht hW9 => ⟨⟨w1, rfl, ⟨M1, hFr, hR, hI, hs, h1⟩, by rw [ht]; exact hW, va_K.moved hW9.alike hK⟩, hS.F ht⟩) hS.2.2 dU_clearLedColumns_78

set_option maxHeartbeats 1000000 in
set_option maxRecDepth 100000 in
theorem lp_U_list {p : Program} {l : Launch} {e : Env} {s : State} {m : MethodId} {args : Array Value} {below : List Frame} {meth : Method} {c : Code} {Q : State → Prop} {D : va_G} {g : Nat → ClassId} {ad : Nat → Nat} {tb : Nat} {sa : Nat → Nat} {A : Nat → Prop} {w : Wd} {u eq la rw bg : Nat} {er : Nat → Nat} {o dg cn mem : Nat} {M : Nat → Nat → Nat} {b : Nat → Bool} {r be : Nat → Nat} (hD : ruD la rw bg er) (hR0 : ruW g w u eq la rw bg er o dg cn mem M b r be) (hm : cn ≤ 20) (hm0 : 0 < cn) (C0 : cx p s m args c A cU_listBegins 3 RU D g ad tb sa) : ∀ (e9 : Nat) (cc k : Nat) (be1 : Nat → Nat) (w1 : Wd), (cc = e9) → (cc ≤ cn) → (ruW g w1 u eq la rw bg er o dg cn mem M b r be1) → (ruF u la rw bg er w w1) → (lsI b cn cc k be1) → ∀ (H : Heap) (locs : List Loc), hw D vwCl A w1 H → va_S A s.heap H locs → ∀ ls : Array Slot, lv_has ls 3 [(0, .ref u), (1, .int (nI k)), (2, .int (nI cc - nI 1))] → (∀ (be1 : Nat → Nat) (w1 : Wd), (ruW g w1 u eq la rw bg er o dg cn mem M b r be1) → (ruF u la rw bg er w w1) → (lists b cn (fr b cn) be1) → ∀ (H : Heap) (locs : List Loc), hw D vwCl A w1 H → va_S A s.heap H locs → ∀ ls : Array Slot, lv_has ls 3 [] → W p l e (rmL 0 0 0 0) s m args below meth c H locs 0 0 Q (F0 m 38 ls [])) → W p l e (rmL 0 0 0 0) s m args below meth c H locs 0 0 Q (F0 m 9 ls []) := by
  obtain ⟨hx, hb, hml, hts, hown, hK, hk, hAA⟩ := C0
  intro e9
  induction e9 with
  | zero =>
    intro cc k be1 w1 he hc hR hFr hls H locs hW hS ls hl kk0
    subst he
    refine lv_iload_n hx hb dU_listBegins_9 rfl (lv_at hl 2 rfl) ?_
    refine lv_if_lt (tgt := 38) hx hb dU_listBegins_10 (by decide) (fun c1 => ?_) (fun c1 => absurd (show nI 0 - nI 1 < 0 by decide) c1)
    exact kk0 be1 w1 hR hFr (lsI_end hls) H locs hW hS ls (lv_sub hl [] rfl)
  | succ e9 ih =>
    intro cc k be1 w1 he hc hR hFr hls H locs hW hS ls hl kk0
    subst he
    rw [nI_p1] at hl
    have hb1 := bn_lt b e9
    refine lv_iload_n hx hb dU_listBegins_9 rfl (lv_at hl 2 rfl) ?_
    refine nw_if_lt (tgt := 38) hx hb (by omega) dU_listBegins_10 (by decide) ?_
    refine lv_aload_n hx hb dU_listBegins_13 rfl (lv_at hl 0 rfl) ?_
    refine hw_get (v := .ref la) (C := RU) (T := TU) (N := 8) hx hb hts inU hown hK hW hR.1 rfl 1 (by decide) (hts _ bw_35) (fun _ h9 => h9) rfl dU_listBegins_14 ?_
    refine lv_iload_n hx hb dU_listBegins_17 rfl (lv_at hl 2 rfl) ?_
    refine hw_zald hx hb hK hW 1 hR.2.2.1 rfl (vp_in_nI (show e9 < 20 by omega) (by omega)) dU_listBegins_18 ?_
    refine tp_i (show (ni (bn b)) (nI e9).toNatClampNeg = nI ((bn b) e9) from by rw [nI_clamp (by omega)]; rfl) ?_
    refine nw_if_ne (tgt := 32) hx hb (by omega) dU_listBegins_19 (by decide) (fun cb => ?_) (fun cb => ?_)
    · refine lv_iinc (v := nI e9 - nI 1) (lv' := [(2, .int (nI e9 - nI 1)), (0, .ref u), (1, .int (nI k))]) hx hb dU_listBegins_32 hl (k := 2) rfl (nI_m1 e9) (by decide) rfl (fun ls hl => ?_)
      refine lv_goto (tgt := 9) hx hb dU_listBegins_35 (by decide) ?_
      exact ih e9 k be1 w1 rfl (by omega) hR hFr (lsI_led hls (bn_t cb)) H locs hW hS ls (lv_sub hl [1, 2, 0] rfl) kk0
    · have hls9 := lsI_add hls (by omega) (bn_f cb)
      have hk9 : k < 20 := by
        have h8 := hls9.2.2.2
        have h9 := fr_le b cn
        omega
      refine lv_aload_n hx hb dU_listBegins_22 rfl (lv_at hl 0 rfl) ?_
      refine hw_get (v := .ref bg) (C := RU) (T := TU) (N := 8) hx hb hts inU hown hK hW hR.1 rfl 3 (by decide) (hts _ bw_37) (fun _ h9 => h9) rfl dU_listBegins_23 ?_
      refine lv_iload_n hx hb dU_listBegins_26 rfl (lv_at hl 1 rfl) ?_
      refine lv_iload_n hx hb dU_listBegins_27 rfl (lv_at hl 2 rfl) ?_
      refine hw_iast hx hb hK hW hS 0 hR.2.2.2.2.1 rfl (vp_in_nI (show k < 20 by omega) (by omega)) dU_listBegins_28 (fun H locs hW hS => ?_)
      rw [nI_clamp (show k < 2 ^ 31 by omega), ni_upd] at hW
      have hW : hw D vwCl A (hwu w1 bg (ia (g 0) 20 (va_up be1 k e9))) H := hW
      obtain ⟨w1, ew1⟩ : ∃ z, z = hwu w1 bg (ia (g 0) 20 (va_up be1 k e9)) := ⟨_, rfl⟩
      rw [← ew1] at hW
      have hR : ruW g w1 u eq la rw bg er o dg cn mem M b r (va_up be1 k e9) := by rw [ew1]; exact hR.set_bg hD _
      have hFr : ruF u la rw bg er w w1 := hFr.tr (by rw [ew1]; exact ruF_bg)
      refine lv_iinc (v := nI (k + 1)) (lv' := [(1, .int (nI (k + 1))), (0, .ref u), (2, .int (nI e9))]) hx hb dU_listBegins_29 hl (k := 1) rfl (nI_1 _) (by decide) rfl (fun ls hl => ?_)
      refine lv_iinc (v := nI e9 - nI 1) (lv' := [(2, .int (nI e9 - nI 1)), (1, .int (nI (k + 1))), (0, .ref u)]) hx hb dU_listBegins_32 hl (k := 2) rfl (nI_m1 e9) (by decide) rfl (fun ls hl => ?_)
      refine lv_goto (tgt := 9) hx hb dU_listBegins_35 (by decide) ?_
      exact ih e9 (k + 1) (va_up be1 k e9) w1 rfl (by omega) hR hFr hls9 H locs hW hS ls (lv_sub hl [2, 1, 0] rfl) kk0

set_option maxHeartbeats 1000000 in
set_option maxRecDepth 100000 in
theorem c_U_listBegins (l : Launch) (D : va_G) (g : Nat → ClassId) (ad : Nat → Nat) (tb : Nat) (sa : Nat → Nat) (w : Wd) (sz : Nat) (u eq la rw bg : Nat) (er : Nat → Nat) (o dg cn mem : Nat) (M : Nat → Nat → Nat) (b : Nat → Bool) (r be : Nat → Nat) (hD : ruD la rw bg er) (hR0 : ruW g w u eq la rw bg er o dg cn mem M b r be) (hm : cn ≤ 20) (hm0 : 0 < cn) : MV l D g ad tb sa yU_listBegins cU_listBegins 3 none 0 0 0 0 w sz [.ref u] (fun w' => ∃ be1, ruF u la rw bg er w w' ∧ ruW g w' u eq la rw bg er o dg cn mem M b r be1 ∧ lists b cn (fr b cn) be1) := by
  refine hm_MV (by decide) (Nat.le_of_ble_eq_true rfl) ?_
  intro p e s m below meth c A ls hx hb hr hml hts hown hlocks hin hout hsz hW hK hk hS hAA hl
  have hl : lv_has ls 3 [(0, .ref u)] := hl
  have hR := hR0
  refine lv_iconst (v := nI 0) hx hb dU_listBegins_0 (by decide) ?_
  refine lv_istore_n (lv' := [(1, .int (nI 0)), (0, .ref u)]) hx hb dU_listBegins_1 rfl hl (by decide) rfl (fun ls hl => ?_)
  refine lv_aload_n hx hb dU_listBegins_2 rfl (lv_at hl 1 rfl) ?_
  refine hw_get (v := .int (nI cn)) (C := RU) (T := TU) (N := 8) hx hb hts inU hown hK hW hR.1 rfl 6 (by decide) (hts _ bw_40) (fun _ h9 => h9) rfl dU_listBegins_3 ?_
  refine lv_iconst (v := nI 1) hx hb dU_listBegins_6 (by decide) ?_
  refine lv_isub hx hb dU_listBegins_7 ?_
  refine lv_istore_n (lv' := [(2, .int ((nI cn) - (nI 1))), (1, .int (nI 0)), (0, .ref u)]) hx hb dU_listBegins_8 rfl hl (by decide) rfl (fun ls hl => ?_)
  refine lp_U_list hD hR0 hm hm0 ⟨hx, hb, hml, hts, hown, hK, hk, hAA⟩ cn cn 0 be w rfl (Nat.le_refl cn) hR0 ruF.rf lsI_0 _ _ hW hS ls (lv_sub hl [2, 1, 0] rfl) ?_
  intro be1 w1 hR hFr hls H locs hW hS ls hl
  exact W.vret hx hb hr (fun t ht hW9 => ⟨⟨w1, rfl, ⟨be1, hFr, hR, hls⟩, by rw [ht]; exact hW, va_K.moved hW9.alike hK⟩, hS.F ht⟩) hS.2.2 dU_listBegins_38
