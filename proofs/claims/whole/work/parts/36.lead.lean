set_option maxHeartbeats 1000000 in
set_option maxRecDepth 100000 in
theorem lp_U_subtract {p : Program} {l : Launch} {e : Env} {s : State} {m : MethodId} {args : Array Value} {below : List Frame} {meth : Method} {c : Code} {Q : State → Prop} {D : va_G} {g : Nat → ClassId} {ad : Nat → Nat} {tb : Nat} {sa : Nat → Nat} {A : Nat → Prop} {w : Wd} {u eq la rw bg : Nat} {er : Nat → Nat} {o dg cn mem : Nat} {r : Nat → Nat} {fr c0 a : Nat} {q : Nat → Nat} (hu : w u = some (.inr (3, [.ref eq, .ref la, .ref rw, .ref bg, .int (nI o), .int (nI dg), .int (nI cn), .int (nI mem)]))) (heq : w eq = some (qa (g 4) 20 (fun i => if i < 20 then some (er i) else none))) (hec : w (er c0) = some (ia (g 0) 20 q)) (hfr : w fr = some (ia (g 0) 20 r)) (hne : er c0 ≠ fr) (hc : c0 < cn) (hm : cn ≤ 20) (ha9 : a < 32003) (hr9 : ∀ x, x < 20 → r x < 32003) (hq9 : ∀ x, x < 20 → q x < 32003) (C0 : cx p s m args c A cU_subtract 5 RU D g ad tb sa) : ∀ (e9 k : Nat), k + e9 = cn → c0 ≤ k → ∀ (w1 : Wd), w1 = hwu w fr (ia (g 0) 20 (subR k c0 a r q)) → ∀ (H : Heap) (locs : List Loc), hw D vwCl A w1 H → va_S A s.heap H locs → ∀ ls : Array Slot, lv_has ls 5 [(0, .ref u), (1, .ref fr), (2, .int (nI a)), (3, .int (nI c0)), (4, .int (nI k))] → (∀ (w1 : Wd) (H : Heap) (locs : List Loc) (ls : Array Slot), w1 = hwu w fr (ia (g 0) 20 (subR cn c0 a r q)) → hw D vwCl A w1 H → va_S A s.heap H locs → W p l e (rmL 1 22 0 0) s m args below meth c H locs 0 0 Q (F0 m 44 ls [])) → W p l e (rmL 1 22 0 0) s m args below meth c H locs 0 0 Q (F0 m 3 ls []) := by
  obtain ⟨hx, hb, hml, hts, hown, hK, hk, hAA⟩ := C0
  intro e9
  induction e9 with
  | zero =>
    intro k hk9 hck w1 ew H locs hW hS ls hl kk
    have h1u : w1 u = some (.inr (3, [.ref eq, .ref la, .ref rw, .ref bg, .int (nI o), .int (nI dg), .int (nI cn), .int (nI mem)])) := by rw [ew, hwu_ne (hw_apart hfr hu (by intro q; cases q))]; exact hu
    have h1eq : w1 eq = some (qa (g 4) 20 (fun i => if i < 20 then some (er i) else none)) := by rw [ew, hwu_ne (hw_apart hfr heq ia_ne_qa)]; exact heq
    have h1c : w1 (er c0) = some (ia (g 0) 20 q) := by rw [ew, hwu_ne hne]; exact hec
    have h1f : w1 fr = some (ia (g 0) 20 (subR k c0 a r q)) := by rw [ew]; exact hwu_eq

    refine lv_iload hx hb dU_subtract_3 (lv_at hl 4 rfl) ?_
    refine lv_aload_n hx hb dU_subtract_5 rfl (lv_at hl 0 rfl) ?_
    refine hw_get (v := .int (nI cn)) (C := RU) (T := TU) (N := 8) hx hb hts inU hown hK hW h1u rfl 6 (by decide) (hts _ bw_40) (fun _ h9 => h9) rfl dU_subtract_6 ?_
    refine nw_icmp_ge (tgt := 44) hx hb (by omega) (by omega) dU_subtract_9 (by decide) (fun c1 => ?_) (fun c1 => absurd (show k < cn from c1) (by omega))
    rw [show k = cn by omega] at ew
    exact kk w1 H locs ls ew hW hS

  | succ e9 ih =>
    intro k hk9 hck w1 ew H locs hW hS ls hl kk
    have h1u : w1 u = some (.inr (3, [.ref eq, .ref la, .ref rw, .ref bg, .int (nI o), .int (nI dg), .int (nI cn), .int (nI mem)])) := by rw [ew, hwu_ne (hw_apart hfr hu (by intro q; cases q))]; exact hu
    have h1eq : w1 eq = some (qa (g 4) 20 (fun i => if i < 20 then some (er i) else none)) := by rw [ew, hwu_ne (hw_apart hfr heq ia_ne_qa)]; exact heq
    have h1c : w1 (er c0) = some (ia (g 0) 20 q) := by rw [ew, hwu_ne hne]; exact hec
    have h1f : w1 fr = some (ia (g 0) 20 (subR k c0 a r q)) := by rw [ew]; exact hwu_eq
    have hrk := hr9 k (by omega)
    have hqk := hq9 k (by omega)
    have hm9 := mul_small ha9 hqk
    have hsk : subR k c0 a r q k = r k := subR_at

    refine lv_iload hx hb dU_subtract_3 (lv_at hl 4 rfl) ?_
    refine lv_aload_n hx hb dU_subtract_5 rfl (lv_at hl 0 rfl) ?_
    refine hw_get (v := .int (nI cn)) (C := RU) (T := TU) (N := 8) hx hb hts inU hown hK hW h1u rfl 6 (by decide) (hts _ bw_40) (fun _ h9 => h9) rfl dU_subtract_6 ?_
    refine nw_icmp_ge (tgt := 44) hx hb (by omega) (by omega) dU_subtract_9 (by decide) (fun c1 => absurd (show cn ≤ k from c1) (by omega)) (fun c1 => ?_)
    refine lv_aload_n hx hb dU_subtract_12 rfl (lv_at hl 1 rfl) ?_
    refine lv_iload hx hb dU_subtract_13 (lv_at hl 4 rfl) ?_
    refine lv_aload_n hx hb dU_subtract_15 rfl (lv_at hl 1 rfl) ?_
    refine lv_iload hx hb dU_subtract_16 (lv_at hl 4 rfl) ?_
    refine hw_iald hx hb hK hW 0 h1f rfl (vp_in_nI (show k < 20 by omega) (by omega)) dU_subtract_18 ?_
    refine tp_i (show (ni (subR k c0 a r q)) (nI k).toNatClampNeg = nI ((subR k c0 a r q) k) from by rw [nI_clamp (by omega)]; rfl) ?_
    refine tp_i (show nI ((subR k c0 a r q) k) = nI (r k) from by rw [hsk]) ?_
    refine lv_i2l (v := lN (r k)) hx hb dU_subtract_19 (nI_l (by omega)) ?_
    refine lv_iload_n hx hb dU_subtract_20 rfl (lv_at hl 2 rfl) ?_
    refine lv_i2l (v := lN a) hx hb dU_subtract_21 (nI_l (by omega)) ?_
    refine lv_aload_n hx hb dU_subtract_22 rfl (lv_at hl 0 rfl) ?_
    refine hw_get (v := .ref eq) (C := RU) (T := TU) (N := 8) hx hb hts inU hown hK hW h1u rfl 0 (by decide) (hts _ bw_34) (fun _ h9 => h9) rfl dU_subtract_23 ?_
    refine lv_iload_n hx hb dU_subtract_26 rfl (lv_at hl 3 rfl) ?_
    refine hw_aldA hx hb hK hW 4 h1eq rfl (vp_in_nI (show c0 < 20 by omega) (by omega)) dU_subtract_27 ?_
    refine tp_v (show (va_rf ((fun i => if i < 20 then some (er i) else none) (nI c0).toNatClampNeg) : Value) = .ref (er c0) from by rw [nI_clamp (by omega)]; exact by show va_rf (if c0 < 20 then some (er c0) else none) = _; rw [if_pos (by omega)]; rfl) ?_
    refine lv_iload hx hb dU_subtract_28 (lv_at hl 4 rfl) ?_
    refine hw_iald hx hb hK hW 0 h1c rfl (vp_in_nI (show k < 20 by omega) (by omega)) dU_subtract_30 ?_
    refine tp_i (show (ni q) (nI k).toNatClampNeg = nI (q k) from by rw [nI_clamp (by omega)]; rfl) ?_
    refine lv_i2l (v := lN (q k)) hx hb dU_subtract_31 (nI_l (by omega)) ?_
    refine lv_lmul hx hb dU_subtract_32 ?_
    refine tp_l (show (lN a) * (lN (q k)) = lN (a * (q k)) from lN_mul _ _) ?_
    refine lv_lsub hx hb dU_subtract_33 ?_
    refine kc_NSI (n := 1) (As := [.long ((lN (r k)) - (lN (a * (q k))))]) (rest := [.int (nI k), .ref fr]) ⟨hx, hb, hml, hown, hts⟩ (c_X_reduce l D g ad tb sa w1 H.size ((lN (r k)) - (lN (a * (q k))))) (hk.1 kw_469 (by simp [twL])) bw_254 bw_1 bw_255 (by decide +kernel) ⟨by decide, by decide⟩ hW hK hk hS hAA rfl hl.1 rfl (Nat.le_of_ble_eq_true rfl) dU_subtract_34 ⟨by decide, by decide⟩ (fun r2 w3 H locs hp hW hS => ?_)
    obtain ⟨hw9, hr9⟩ := hp
    rw [hw9] at hW
    subst hr9
    refine tp_i (show nI (rd ((lN (r k)) - (lN (a * (q k)))).toInt) = nI (rd ((r k : Int) - (a : Int) * (q k : Int))) from by rw [sub_lN (by omega) (by omega), Int.natCast_mul]) ?_
    refine hw_iast hx hb hK hW hS 0 h1f rfl (vp_in_nI (show k < 20 by omega) (by omega)) dU_subtract_37 (fun H locs hW hS => ?_)
    rw [nI_clamp (show k < 2 ^ 31 by omega), ni_upd] at hW
    have hW : hw D vwCl A (hwu w1 fr (ia (g 0) 20 (va_up (subR k c0 a r q) k (rd ((r k : Int) - (a : Int) * (q k : Int)))))) H := hW
    obtain ⟨w4, ew4⟩ : ∃ z, z = hwu w1 fr (ia (g 0) 20 (va_up (subR k c0 a r q) k (rd ((r k : Int) - (a : Int) * (q k : Int))))) := ⟨_, rfl⟩
    rw [← ew4] at hW
    have hc5 : w4 u = some (.inr (3, [.ref eq, .ref la, .ref rw, .ref bg, .int (nI o), .int (nI dg), .int (nI cn), .int (nI mem)])) := by rw [ew4, hwu_ne (hw_apart h1f h1u (by intro q; first | cases q | exact absurd q ia_ne_qa | exact absurd q.symm ia_ne_qa))]; exact h1u
    have hc6 : w4 eq = some (qa (g 4) 20 (fun i => if i < 20 then some (er i) else none)) := by rw [ew4, hwu_ne (hw_apart h1f h1eq (by intro q; first | cases q | exact absurd q ia_ne_qa | exact absurd q.symm ia_ne_qa))]; exact h1eq
    have hc7 : w4 (er c0) = some (ia (g 0) 20 q) := by rw [ew4, hwu_ne hne]; exact h1c
    have hc8 : w4 fr = some (ia (g 0) 20 (va_up (subR k c0 a r q) k (rd ((r k : Int) - (a : Int) * (q k : Int))))) := by rw [ew4]; exact hwu_eq
    refine lv_iinc (v := nI (k + 1)) (lv' := [(4, .int (nI (k + 1))), (0, .ref u), (1, .ref fr), (2, .int (nI a)), (3, .int (nI c0))]) hx hb dU_subtract_38 hl (k := 4) rfl (nI_1 _) (by decide) rfl (fun ls hl => ?_)
    refine lv_goto (tgt := 3) hx hb dU_subtract_41 (by decide) ?_
    exact ih (k + 1) (by omega) (by omega) w4 (by rw [ew4, ew, hwu_two, subR_step hck]) H locs hW hS ls (lv_sub hl [1, 2, 3, 4, 0] rfl) kk

set_option maxHeartbeats 1000000 in
set_option maxRecDepth 100000 in
theorem c_U_subtract (l : Launch) (D : va_G) (g : Nat → ClassId) (ad : Nat → Nat) (tb : Nat) (sa : Nat → Nat) (w : Wd) (sz : Nat) (u eq la rw bg : Nat) (er : Nat → Nat) (o dg cn mem : Nat) (r : Nat → Nat) (fr c0 a : Nat) (q : Nat → Nat) (hu : w u = some (.inr (3, [.ref eq, .ref la, .ref rw, .ref bg, .int (nI o), .int (nI dg), .int (nI cn), .int (nI mem)]))) (heq : w eq = some (qa (g 4) 20 (fun i => if i < 20 then some (er i) else none))) (hec : w (er c0) = some (ia (g 0) 20 q)) (hfr : w fr = some (ia (g 0) 20 r)) (hne : er c0 ≠ fr) (hc : c0 < cn) (hm : cn ≤ 20) (ha9 : a < 32003) (hr9 : ∀ x, x < 20 → r x < 32003) (hq9 : ∀ x, x < 20 → q x < 32003) : MV l D g ad tb sa yU_subtract cU_subtract 5 none 1 22 0 0 w sz [.ref u, .ref fr, .int (nI a), .int (nI c0)] (fun w' => w' = hwu w fr (ia (g 0) 20 (subR cn c0 a r q))) := by

  refine hm_MV (by decide) (Nat.le_of_ble_eq_true rfl) ?_
  intro p e s m below meth c A ls hx hb hr hml hts hown hlocks hin hout hsz hW hK hk hS hAA hl
  have hl : lv_has ls 5 [(0, .ref u), (1, .ref fr), (2, .int (nI a)), (3, .int (nI c0))] := hl
  refine lv_iload_n hx hb dU_subtract_0 rfl (lv_at hl 3 rfl) ?_
  refine lv_istore (lv' := [(4, .int (nI c0)), (0, .ref u), (1, .ref fr), (2, .int (nI a)), (3, .int (nI c0))]) hx hb dU_subtract_1 hl (by decide) rfl (fun ls hl => ?_)
  refine lp_U_subtract hu heq hec hfr hne hc hm ha9 hr9 hq9 ⟨hx, hb, hml, hts, hown, hK, hk, hAA⟩ (cn - c0) c0 (by omega) (Nat.le_refl c0) w (by rw [subR_0]; exact (hwu_self hfr).symm) _ _ hW hS ls (lv_sub hl [1, 2, 3, 4, 0] rfl) ?_
  intro w1 H locs ls ew hW hS
  exact W.vret hx hb hr (fun t ht hW9 => ⟨⟨w1, rfl, ew, by rw [ht]; exact hW, va_K.moved hW9.alike hK⟩, hS.F ht⟩) hS.2.2 dU_subtract_44

set_option maxHeartbeats 1000000 in
set_option maxRecDepth 100000 in
theorem lp_U_lead {p : Program} {l : Launch} {e : Env} {s : State} {m : MethodId} {args : Array Value} {below : List Frame} {meth : Method} {c : Code} {Q : State → Prop} {D : va_G} {g : Nat → ClassId} {ad : Nat → Nat} {tb : Nat} {sa : Nat → Nat} {A : Nat → Prop} {w : Wd} {u eq la rw bg : Nat} {er : Nat → Nat} {o dg cn mem : Nat} {M : Nat → Nat → Nat} {b : Nat → Bool} {r be : Nat → Nat} {sc : Nat} (hsc : sc < 32003) (hD : ruD la rw bg er) (hR0 : ruW g w u eq la rw bg er o dg cn mem M b r be) {c0 : Nat} (hc : c0 < cn) (hm : cn ≤ 20) (hr9 : ∀ x, x < 20 → r x < 32003) (hmem : 0 < mem) (hmem2 : mem ≤ 20) (C0 : cx p s m args c A cU_lead 4 RU D g ad tb sa) : ∀ (e9 k : Nat), k + e9 = cn → c0 ≤ k → ∀ (w1 : Wd), ruW g w1 u eq la rw bg er o dg cn mem (va_up M c0 (leadR k c0 sc r (M c0))) b r be → ruF u la rw bg er w w1 → ∀ (H : Heap) (locs : List Loc), hw D vwCl A w1 H → va_S A s.heap H locs → ∀ ls : Array Slot, lv_has ls 4 [(0, .ref u), (1, .int (nI c0)), (2, .int (nI sc)), (3, .int (nI k))] → (∀ (w1 : Wd) (H : Heap) (locs : List Loc) (ls : Array Slot), ruW g w1 u eq la rw bg er o dg cn mem (va_up M c0 (leadR cn c0 sc r (M c0))) b r be → ruF u la rw bg er w w1 → hw D vwCl A w1 H → va_S A s.heap H locs → lv_has ls 4 [(0, .ref u), (1, .int (nI c0))] → W p l e (rmL 2 44 0 0) s m args below meth c H locs 0 0 Q (F0 m 44 ls [])) → W p l e (rmL 2 44 0 0) s m args below meth c H locs 0 0 Q (F0 m 12 ls []) := by
  obtain ⟨hx, hb, hml, hts, hown, hK, hk, hAA⟩ := C0
  intro e9
  induction e9 with
  | zero =>
    intro k hk9 hck w1 hR hFr H locs hW hS ls hl kk

    refine lv_iload_n hx hb dU_lead_12 rfl (lv_at hl 3 rfl) ?_
    refine lv_aload_n hx hb dU_lead_13 rfl (lv_at hl 0 rfl) ?_
    refine hw_get (v := .int (nI cn)) (C := RU) (T := TU) (N := 8) hx hb hts inU hown hK hW hR.1 rfl 6 (by decide) (hts _ bw_40) (fun _ h9 => h9) rfl dU_lead_14 ?_
    refine nw_icmp_ge (tgt := 44) hx hb (by omega) (by omega) dU_lead_17 (by decide) (fun c1 => ?_) (fun c1 => absurd (show k < cn from c1) (by omega))
    rw [show k = cn by omega] at hR
    exact kk w1 H locs ls hR hFr hW hS (lv_sub hl [0, 1] rfl)

  | succ e9 ih =>
    intro k hk9 hck w1 hR hFr H locs hW hS ls hl kk
    have hrk := hr9 k (by omega)

    refine lv_iload_n hx hb dU_lead_12 rfl (lv_at hl 3 rfl) ?_
    refine lv_aload_n hx hb dU_lead_13 rfl (lv_at hl 0 rfl) ?_
    refine hw_get (v := .int (nI cn)) (C := RU) (T := TU) (N := 8) hx hb hts inU hown hK hW hR.1 rfl 6 (by decide) (hts _ bw_40) (fun _ h9 => h9) rfl dU_lead_14 ?_
    refine nw_icmp_ge (tgt := 44) hx hb (by omega) (by omega) dU_lead_17 (by decide) (fun c1 => absurd (show cn ≤ k from c1) (by omega)) (fun c1 => ?_)
    refine lv_aload_n hx hb dU_lead_20 rfl (lv_at hl 0 rfl) ?_
    refine hw_get (v := .ref eq) (C := RU) (T := TU) (N := 8) hx hb hts inU hown hK hW hR.1 rfl 0 (by decide) (hts _ bw_34) (fun _ h9 => h9) rfl dU_lead_21 ?_
    refine lv_iload_n hx hb dU_lead_24 rfl (lv_at hl 1 rfl) ?_
    refine hw_aldA hx hb hK hW 4 hR.2.1 rfl (vp_in_nI (show c0 < 20 by omega) (by omega)) dU_lead_25 ?_
    refine tp_v (show (va_rf ((fun i => if i < 20 then some (er i) else none) (nI c0).toNatClampNeg) : Value) = .ref (er c0) from by rw [nI_clamp (by omega)]; exact by show va_rf (if c0 < 20 then some (er c0) else none) = _; rw [if_pos (by omega)]; rfl) ?_
    refine lv_iload_n hx hb dU_lead_26 rfl (lv_at hl 3 rfl) ?_
    refine lv_iload_n hx hb dU_lead_27 rfl (lv_at hl 2 rfl) ?_
    refine lv_aload_n hx hb dU_lead_28 rfl (lv_at hl 0 rfl) ?_
    refine hw_get (v := .ref rw) (C := RU) (T := TU) (N := 8) hx hb hts inU hown hK hW hR.1 rfl 2 (by decide) (hts _ bw_36) (fun _ h9 => h9) rfl dU_lead_29 ?_
    refine lv_iload_n hx hb dU_lead_32 rfl (lv_at hl 3 rfl) ?_
    refine hw_iald hx hb hK hW 0 hR.2.2.2.1 rfl (vp_in_nI (show k < 20 by omega) (by omega)) dU_lead_33 ?_
    refine tp_i (show (ni r) (nI k).toNatClampNeg = nI (r k) from by rw [nI_clamp (by omega)]; rfl) ?_
    refine kc_NSI (n := 2) (As := [.int (nI sc), .int (nI (r k))]) (rest := [.int (nI k), .ref (er c0)]) ⟨hx, hb, hml, hown, hts⟩ (c_X_product l D g ad tb sa w1 H.size (sc) (r k) (by omega) (by omega)) (hk.1 kw_455 (by simp [twL])) bw_405 bw_1 bw_406 (by decide +kernel) ⟨by decide, by decide⟩ hW hK hk hS hAA rfl hl.1 rfl (Nat.le_of_ble_eq_true rfl) dU_lead_34 ⟨by decide, by decide⟩ (fun r2 w3 H locs hp hW hS => ?_)
    obtain ⟨hw9, hr9⟩ := hp
    rw [hw9] at hW
    subst hr9
    refine hw_iast hx hb hK hW hS 0 (hR.2.2.2.2.2 c0 (by omega)) rfl (vp_in_nI (show k < 20 by omega) (by omega)) dU_lead_37 (fun H locs hW hS => ?_)
    rw [nI_clamp (show k < 2 ^ 31 by omega), ni_upd] at hW
    have hW : hw D vwCl A (hwu w1 (er c0) (ia (g 0) 20 (va_up ((va_up M c0 (leadR k c0 sc r (M c0))) c0) k (sc * r k % 32003)))) H := hW
    obtain ⟨w4, ew4⟩ : ∃ z, z = hwu w1 (er c0) (ia (g 0) 20 (va_up ((va_up M c0 (leadR k c0 sc r (M c0))) c0) k (sc * r k % 32003))) := ⟨_, rfl⟩
    rw [← ew4] at hW
    have hR : ruW g w4 u eq la rw bg er o dg cn mem (va_up (va_up M c0 (leadR k c0 sc r (M c0))) c0 (va_up ((va_up M c0 (leadR k c0 sc r (M c0))) c0) k (sc * r k % 32003))) b r be := by rw [ew4]; exact hR.set_er hD (by omega) _
    have hFr : ruF u la rw bg er w w4 := hFr.tr (by rw [ew4]; exact (ruF_er (by omega)))
    refine lv_iinc (v := nI (k + 1)) (lv' := [(3, .int (nI (k + 1))), (0, .ref u), (1, .int (nI c0)), (2, .int (nI sc))]) hx hb dU_lead_38 hl (k := 3) rfl (nI_1 _) (by decide) rfl (fun ls hl => ?_)
    refine lv_goto (tgt := 12) hx hb dU_lead_41 (by decide) ?_
    exact ih (k + 1) (by omega) (by omega) w4 (by rw [va_up_eq, leadR_step hck, va_up2] at hR; exact hR) hFr H locs hW hS ls (lv_sub hl [1, 2, 3, 0] rfl) kk

set_option maxHeartbeats 1000000 in
set_option maxRecDepth 100000 in
theorem c_U_lead (l : Launch) (D : va_G) (g : Nat → ClassId) (ad : Nat → Nat) (tb : Nat) (sa : Nat → Nat) (w : Wd) (sz : Nat) (u eq la rw bg : Nat) (er : Nat → Nat) (o dg cn mem : Nat) (M : Nat → Nat → Nat) (b : Nat → Bool) (r be : Nat → Nat) (hD : ruD la rw bg er) (hR0 : ruW g w u eq la rw bg er o dg cn mem M b r be) (c0 : Nat) (hc : c0 < cn) (hm : cn ≤ 20) (hr9 : ∀ x, x < 20 → r x < 32003) (hmem : 0 < mem) (hmem2 : mem ≤ 20) : MV l D g ad tb sa yU_lead cU_lead 4 none 2 44 0 0 w sz [.ref u, .int (nI c0)] (fun w' => ruF u la rw bg er w w' ∧ ruW g w' u eq la rw bg er o dg cn (mem - 1) (va_up M c0 (leadR cn c0 (iv (r c0)) r (M c0))) (va_up b c0 true) r be) := by

  refine hm_MV (by decide) (Nat.le_of_ble_eq_true rfl) ?_
  intro p e s m below meth c A ls hx hb hr hml hts hown hlocks hin hout hsz hW hK hk hS hAA hl
  have hl : lv_has ls 4 [(0, .ref u), (1, .int (nI c0))] := hl
  have hR := hR0
  have hFr : ruF u la rw bg er w w := ruF.rf
  have hrc := hr9 c0 (by omega)
  refine lv_aload_n hx hb dU_lead_0 rfl (lv_at hl 0 rfl) ?_
  refine hw_get (v := .ref rw) (C := RU) (T := TU) (N := 8) hx hb hts inU hown hK hW hR.1 rfl 2 (by decide) (hts _ bw_36) (fun _ h9 => h9) rfl dU_lead_1 ?_
  refine lv_iload_n hx hb dU_lead_4 rfl (lv_at hl 1 rfl) ?_
  refine hw_iald hx hb hK hW 0 hR.2.2.2.1 rfl (vp_in_nI (show c0 < 20 by omega) (by omega)) dU_lead_5 ?_
  refine tp_i (show (ni r) (nI c0).toNatClampNeg = nI (r c0) from by rw [nI_clamp (by omega)]; rfl) ?_
  refine kc_NSI (n := 1) (As := [.int (nI (r c0))]) (rest := []) ⟨hx, hb, hml, hown, hts⟩ (c_X_inverse l D g ad tb sa w s.heap.size (r c0) (by omega)) (hk.1 kw_464 (by simp [twL])) bw_420 bw_1 bw_421 (by decide +kernel) ⟨by decide, by decide⟩ hW hK hk hS hAA rfl hl.1 rfl (Nat.le_of_ble_eq_true rfl) dU_lead_6 ⟨by decide, by decide⟩ (fun r1 w2 H locs hp hW hS => ?_)
  obtain ⟨hw9, hr9⟩ := hp
  rw [hw9] at hW
  subst hr9
  refine lv_istore_n (lv' := [(2, .int (nI (iv (r c0)))), (0, .ref u), (1, .int (nI c0))]) hx hb dU_lead_9 rfl hl (by decide) rfl (fun ls hl => ?_)
  refine lv_iload_n hx hb dU_lead_10 rfl (lv_at hl 2 rfl) ?_
  refine lv_istore_n (lv' := [(3, .int (nI c0)), (2, .int (nI (iv (r c0)))), (0, .ref u), (1, .int (nI c0))]) hx hb dU_lead_11 rfl hl (by decide) rfl (fun ls hl => ?_)
  refine lp_U_lead (iv_lt (r c0)) hD hR0 hc hm hr9 hmem hmem2 ⟨hx, hb, hml, hts, hown, hK, hk, hAA⟩ (cn - c0) c0 (by omega) (Nat.le_refl c0) w (by rw [leadR_0, va_up_me]; exact hR0) ruF.rf _ _ hW hS ls (lv_sub hl [2, 3, 1, 0] rfl) ?_
  intro w1 H locs ls hR hFr hW hS hl
  refine lv_aload_n hx hb dU_lead_44 rfl (lv_at hl 0 rfl) ?_
  refine hw_get (v := .ref la) (C := RU) (T := TU) (N := 8) hx hb hts inU hown hK hW hR.1 rfl 1 (by decide) (hts _ bw_35) (fun _ h9 => h9) rfl dU_lead_45 ?_
  refine lv_iload_n hx hb dU_lead_48 rfl (lv_at hl 1 rfl) ?_
  refine lv_iconst (v := nI 1) hx hb dU_lead_49 (by decide) ?_
  refine hw_zast hx hb hK hW hS 1 hR.2.2.1 rfl (vp_in_nI (show c0 < 20 by omega) (by omega)) dU_lead_50 (fun H locs hW hS => ?_)
  rw [nI_clamp (show c0 < 2 ^ 31 by omega), show vp_nar .boolean (nI 1) = nI 1 from by decide, ni_upd, show (1 : Nat) = (if true = true then 1 else 0) from rfl, bn_up] at hW
  have hW : hw D vwCl A (hwu w1 la (ia (g 1) 20 (bn (va_up b c0 true)))) H := hW
  obtain ⟨w3, ew3⟩ : ∃ z, z = hwu w1 la (ia (g 1) 20 (bn (va_up b c0 true))) := ⟨_, rfl⟩
  rw [← ew3] at hW
  have hR : ruW g w3 u eq la rw bg er o dg cn mem (va_up M c0 (leadR cn c0 (iv (r c0)) r (M c0))) (va_up b c0 true) r be := by rw [ew3]; exact hR.set_la hD _
  have hFr : ruF u la rw bg er w w3 := hFr.tr (by rw [ew3]; exact ruF_la)
  refine lv_aload_n hx hb dU_lead_51 rfl (lv_at hl 0 rfl) ?_
  refine lv_dup hx hb dU_lead_52 rfl ?_
  refine hw_get (v := .int (nI mem)) (C := RU) (T := TU) (N := 8) hx hb hts inU hown hK hW hR.1 rfl 7 (by decide) (hts _ bw_41) (fun _ h9 => h9) rfl dU_lead_53 ?_
  refine lv_iconst (v := nI 1) hx hb dU_lead_56 (by decide) ?_
  refine lv_isub hx hb dU_lead_57 ?_
  refine tp_i (show (nI mem) - (nI 1) = nI (mem - 1) from pk_sub (by omega)) ?_
  refine hw_put (v := .int (nI (mem - 1))) (ty := .int) (C := RU) (T := TU) (N := 8) hx hb hts inU tyU tyU_ok nmU hown hK hW hS hR.1 rfl 7 (by decide) (hts _ bw_41) (fun _ h9 => h9) rfl (by decide +kernel) rfl rfl (Nat.le_of_ble_eq_true rfl) dU_lead_58 (fun H locs hW hS => ?_)
  have hW : hw D vwCl A (hwu w3 u (.inr (3, [.ref eq, .ref la, .ref rw, .ref bg, .int (nI o), .int (nI dg), .int (nI cn), .int (nI (mem - 1))]))) H := hW
  obtain ⟨w4, ew4⟩ : ∃ z, z = hwu w3 u (.inr (3, [.ref eq, .ref la, .ref rw, .ref bg, .int (nI o), .int (nI dg), .int (nI cn), .int (nI (mem - 1))])) := ⟨_, rfl⟩
  rw [← ew4] at hW
  have hR : ruW g w4 u eq la rw bg er o dg cn (mem - 1) (va_up M c0 (leadR cn c0 (iv (r c0)) r (M c0))) (va_up b c0 true) r be := by rw [ew4]; exact hR.set_u _ _ _ _
  have hFr : ruF u la rw bg er w w4 := hFr.tr (by rw [ew4]; exact ruF_u)
  exact W.vret hx hb hr (fun t ht hW9 => ⟨⟨w4, rfl, ⟨hFr, hR⟩, by rw [ht]; exact hW, va_K.moved hW9.alike hK⟩, hS.F ht⟩) hS.2.2 dU_lead_61
