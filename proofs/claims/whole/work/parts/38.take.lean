set_option maxHeartbeats 1000000 in
set_option maxRecDepth 100000 in
theorem lp_U_we_i {p : Program} {l : Launch} {e : Env} {s : State} {m : MethodId} {args : Array Value} {below : List Frame} {meth : Method} {c : Code} {Q : State → Prop} {D : va_G} {g : Nat → ClassId} {ad : Nat → Nat} {tb : Nat} {sa : Nat → Nat} {A : Nat → Prop} {w : Wd} {u eq la rw bg : Nat} {er : Nat → Nat} {o dg cn mem : Nat} {M : Nat → Nat → Nat} {b : Nat → Bool} {r be : Nat → Nat} (hD : ruD la rw bg er) (hR0 : ruW g w u eq la rw bg er o dg cn mem M b r be) {nu n : Nat} {f : Nat → Nat} (hn0 : w nu = some (ia (g 0) 64 f)) (hla : nu ≠ la) (ho : o ≤ 4) (hd : dg ≤ 3) (hn64 : n + o < 64) (hf : ∀ x, x < 64 → f x < 32003) {i : Nat} (hi : i ≤ o) (C0 : cx p s m args c A cU_writeEquation 7 RU D g ad tb sa) : ∀ (e9 : Nat) (j : Nat) (w1 : Wd), (j + e9 = dg + 1) → (ruW g w1 u eq la rw bg er o dg cn mem M b (weR f dg n (i * (dg + 1) + j) r) be) → (ruF u la rw bg er w w1) → ∀ (H : Heap) (locs : List Loc), hw D vwCl A w1 H → va_S A s.heap H locs → ∀ ls : Array Slot, lv_has ls 7 [(0, .ref u), (1, .ref nu), (2, .int (nI n)), (3, .int (nI (i * (dg + 1) + j))), (4, .int (nI i)), (5, .int (nI (f (n + i) * n ^ j % 32003))), (6, .int (nI j))] → (∀ (w1 : Wd), (ruW g w1 u eq la rw bg er o dg cn mem M b (weR f dg n (i * (dg + 1) + (dg + 1)) r) be) → (ruF u la rw bg er w w1) → ∀ (H : Heap) (locs : List Loc), hw D vwCl A w1 H → va_S A s.heap H locs → ∀ ls : Array Slot, lv_has ls 7 [(0, .ref u), (1, .ref nu), (2, .int (nI n)), (3, .int (nI (i * (dg + 1) + (dg + 1)))), (4, .int (nI i))] → W p l e (rmL 1 21 0 0) s m args below meth c H locs 0 0 Q (F0 m 59 ls [])) → W p l e (rmL 1 21 0 0) s m args below meth c H locs 0 0 Q (F0 m 25 ls []) := by
  obtain ⟨hx, hb, hml, hts, hown, hK, hk, hAA⟩ := C0
  intro e9
  induction e9 with
  | zero =>
    intro j w1 hj hR hFr H locs hW hS ls hl kk0
    have hcn := we_cn ho hd
    refine lv_iload hx hb dU_writeEquation_25 (lv_at hl 6 rfl) ?_
    refine lv_aload_n hx hb dU_writeEquation_27 rfl (lv_at hl 0 rfl) ?_
    refine hw_get (v := .int (nI dg)) (C := RU) (T := TU) (N := 8) hx hb hts inU hown hK hW hR.1 rfl 5 (by decide) (hts _ bw_39) (fun _ h9 => h9) rfl dU_writeEquation_28 ?_
    refine nw_icmp_gt (tgt := 59) hx hb (by omega) (by omega) dU_writeEquation_31 (by decide) (fun c1 => ?_) (fun c1 => absurd c1 (by omega))
    rw [show j = dg + 1 by omega] at hR hl
    exact kk0 w1 hR hFr H locs hW hS ls (lv_sub hl [0, 1, 2, 3, 4] rfl)
  | succ e9 ih =>
    intro j w1 hj hR hFr H locs hW hS ls hl kk0
    have hcn := we_cn ho hd
    have hix := we_idx (dg := dg) hi (show j ≤ dg by omega)
    have htl : f (n + i) * n ^ j % 32003 < 32003 := Nat.mod_lt _ (by decide)
    refine lv_iload hx hb dU_writeEquation_25 (lv_at hl 6 rfl) ?_
    refine lv_aload_n hx hb dU_writeEquation_27 rfl (lv_at hl 0 rfl) ?_
    refine hw_get (v := .int (nI dg)) (C := RU) (T := TU) (N := 8) hx hb hts inU hown hK hW hR.1 rfl 5 (by decide) (hts _ bw_39) (fun _ h9 => h9) rfl dU_writeEquation_28 ?_
    refine nw_icmp_gt (tgt := 59) hx hb (by omega) (by omega) dU_writeEquation_31 (by decide) (fun c1 => absurd (show dg < j from c1) (by omega)) (fun c1 => ?_)
    refine lv_aload_n hx hb dU_writeEquation_34 rfl (lv_at hl 0 rfl) ?_
    refine hw_get (v := .ref rw) (C := RU) (T := TU) (N := 8) hx hb hts inU hown hK hW hR.1 rfl 2 (by decide) (hts _ bw_36) (fun _ h9 => h9) rfl dU_writeEquation_35 ?_
    refine lv_iload_n hx hb dU_writeEquation_38 rfl (lv_at hl 3 rfl) ?_
    refine lv_iload hx hb dU_writeEquation_39 (lv_at hl 5 rfl) ?_
    refine hw_iast hx hb hK hW hS 0 hR.2.2.2.1 rfl (vp_in_nI (show i * (dg + 1) + j < 20 by omega) (by omega)) dU_writeEquation_41 (fun H locs hW hS => ?_)
    rw [nI_clamp (show i * (dg + 1) + j < 2 ^ 31 by omega), ni_upd] at hW
    have hW : hw D vwCl A (hwu w1 rw (ia (g 0) 20 (va_up (weR f dg n (i * (dg + 1) + j) r) (i * (dg + 1) + j) (f (n + i) * n ^ j % 32003)))) H := hW
    obtain ⟨w2, ew2⟩ : ∃ z, z = hwu w1 rw (ia (g 0) 20 (va_up (weR f dg n (i * (dg + 1) + j) r) (i * (dg + 1) + j) (f (n + i) * n ^ j % 32003))) := ⟨_, rfl⟩
    rw [← ew2] at hW
    have hR : ruW g w2 u eq la rw bg er o dg cn mem M b (va_up (weR f dg n (i * (dg + 1) + j) r) (i * (dg + 1) + j) (f (n + i) * n ^ j % 32003)) be := by rw [ew2]; exact hR.set_rw hD _
    have hFr : ruF u la rw bg er w w2 := hFr.tr (by rw [ew2]; exact ruF_rw)
    rw [← we_at (show j ≤ dg by omega), weR_step] at hR
    refine lv_iload hx hb dU_writeEquation_42 (lv_at hl 5 rfl) ?_
    refine lv_iload_n hx hb dU_writeEquation_44 rfl (lv_at hl 2 rfl) ?_
    refine kc_NSI (n := 2) (As := [.int (nI (f (n + i) * n ^ j % 32003)), .int (nI n)]) (rest := []) ⟨hx, hb, hml, hown, hts⟩ (c_X_product l D g ad tb sa w2 H.size (f (n + i) * n ^ j % 32003) (n) (by omega) (by omega)) (hk.1 kw_455 (by simp [twL])) bw_405 bw_1 bw_406 (by decide +kernel) ⟨by decide, by decide⟩ hW hK hk hS hAA rfl hl.1 rfl (Nat.le_of_ble_eq_true rfl) dU_writeEquation_45 ⟨by decide, by decide⟩ (fun r3 w4 H locs hp hW hS => ?_)
    obtain ⟨hw9, hr9⟩ := hp
    rw [hw9] at hW
    subst hr9
    refine tp_i (show nI (f (n + i) * n ^ j % 32003 * n % 32003) = nI (f (n + i) * n ^ (j + 1) % 32003) from by rw [we_pow]) ?_
    refine lv_istore (lv' := [(5, .int (nI (f (n + i) * n ^ (j + 1) % 32003))), (0, .ref u), (1, .ref nu), (2, .int (nI n)), (3, .int (nI (i * (dg + 1) + j))), (4, .int (nI i)), (6, .int (nI j))]) hx hb dU_writeEquation_48 hl (by decide) rfl (fun ls hl => ?_)
    refine lv_iinc (v := nI ((i * (dg + 1) + j) + 1)) (lv' := [(3, .int (nI ((i * (dg + 1) + j) + 1))), (5, .int (nI (f (n + i) * n ^ (j + 1) % 32003))), (0, .ref u), (1, .ref nu), (2, .int (nI n)), (4, .int (nI i)), (6, .int (nI j))]) hx hb dU_writeEquation_50 hl (k := 4) rfl (nI_1 _) (by decide) rfl (fun ls hl => ?_)
    refine lv_iinc (v := nI (j + 1)) (lv' := [(6, .int (nI (j + 1))), (3, .int (nI ((i * (dg + 1) + j) + 1))), (5, .int (nI (f (n + i) * n ^ (j + 1) % 32003))), (0, .ref u), (1, .ref nu), (2, .int (nI n)), (4, .int (nI i))]) hx hb dU_writeEquation_53 hl (k := 6) rfl (nI_1 _) (by decide) rfl (fun ls hl => ?_)
    refine lv_goto (tgt := 25) hx hb dU_writeEquation_56 (by decide) ?_
    exact ih (j + 1) w2 (by omega) hR hFr H locs hW hS ls (lv_sub hl [3, 4, 5, 1, 6, 2, 0] rfl) kk0

set_option maxHeartbeats 1000000 in
set_option maxRecDepth 100000 in
theorem lp_U_we_o {p : Program} {l : Launch} {e : Env} {s : State} {m : MethodId} {args : Array Value} {below : List Frame} {meth : Method} {c : Code} {Q : State → Prop} {D : va_G} {g : Nat → ClassId} {ad : Nat → Nat} {tb : Nat} {sa : Nat → Nat} {A : Nat → Prop} {w : Wd} {u eq la rw bg : Nat} {er : Nat → Nat} {o dg cn mem : Nat} {M : Nat → Nat → Nat} {b : Nat → Bool} {r be : Nat → Nat} (hD : ruD la rw bg er) (hR0 : ruW g w u eq la rw bg er o dg cn mem M b r be) {nu n : Nat} {f : Nat → Nat} (hn0 : w nu = some (ia (g 0) 64 f)) (hla : nu ≠ la) (ho : o ≤ 4) (hd : dg ≤ 3) (hn64 : n + o < 64) (hf : ∀ x, x < 64 → f x < 32003) (C0 : cx p s m args c A cU_writeEquation 7 RU D g ad tb sa) : ∀ (e9 : Nat) (i : Nat) (w1 : Wd), (i + e9 = o + 1) → (ruW g w1 u eq la rw bg er o dg cn mem M b (weR f dg n (i * (dg + 1)) r) be) → (ruF u la rw bg er w w1) → ∀ (H : Heap) (locs : List Loc), hw D vwCl A w1 H → va_S A s.heap H locs → ∀ ls : Array Slot, lv_has ls 7 [(0, .ref u), (1, .ref nu), (2, .int (nI n)), (3, .int (nI (i * (dg + 1)))), (4, .int (nI i))] → (∀ (w1 : Wd), (ruW g w1 u eq la rw bg er o dg cn mem M b (weR f dg n ((o + 1) * (dg + 1)) r) be) → (ruF u la rw bg er w w1) → ∀ (H : Heap) (locs : List Loc), hw D vwCl A w1 H → va_S A s.heap H locs → ∀ ls : Array Slot, lv_has ls 7 [(0, .ref u)] → W p l e (rmL 1 21 0 0) s m args below meth c H locs 0 0 Q (F0 m 65 ls [])) → W p l e (rmL 1 21 0 0) s m args below meth c H locs 0 0 Q (F0 m 5 ls []) := by
  obtain ⟨hx, hb, hml, hts, hown, hK, hk, hAA⟩ := C0
  intro e9
  induction e9 with
  | zero =>
    intro i w1 hi hR hFr H locs hW hS ls hl kk0
    refine lv_iload hx hb dU_writeEquation_5 (lv_at hl 4 rfl) ?_
    refine lv_aload_n hx hb dU_writeEquation_7 rfl (lv_at hl 0 rfl) ?_
    refine hw_get (v := .int (nI o)) (C := RU) (T := TU) (N := 8) hx hb hts inU hown hK hW hR.1 rfl 4 (by decide) (hts _ bw_38) (fun _ h9 => h9) rfl dU_writeEquation_8 ?_
    refine nw_icmp_gt (tgt := 65) hx hb (by omega) (by omega) dU_writeEquation_11 (by decide) (fun c1 => ?_) (fun c1 => absurd c1 (by omega))
    rw [show i = o + 1 by omega] at hR
    exact kk0 w1 hR hFr H locs hW hS ls (lv_sub hl [0] rfl)
  | succ e9 ih =>
    intro i w1 hi hR hFr H locs hW hS ls hl kk0
    have hfi := hf (n + i) (by omega)
    refine lv_iload hx hb dU_writeEquation_5 (lv_at hl 4 rfl) ?_
    refine lv_aload_n hx hb dU_writeEquation_7 rfl (lv_at hl 0 rfl) ?_
    refine hw_get (v := .int (nI o)) (C := RU) (T := TU) (N := 8) hx hb hts inU hown hK hW hR.1 rfl 4 (by decide) (hts _ bw_38) (fun _ h9 => h9) rfl dU_writeEquation_8 ?_
    refine nw_icmp_gt (tgt := 65) hx hb (by omega) (by omega) dU_writeEquation_11 (by decide) (fun c1 => absurd (show o < i from c1) (by omega)) (fun c1 => ?_)
    refine lv_aload_n hx hb dU_writeEquation_14 rfl (lv_at hl 1 rfl) ?_
    refine lv_iload_n hx hb dU_writeEquation_15 rfl (lv_at hl 2 rfl) ?_
    refine lv_iload hx hb dU_writeEquation_16 (lv_at hl 4 rfl) ?_
    refine lv_iadd hx hb dU_writeEquation_18 ?_
    refine tp_i (show (nI n) + (nI i) = nI (n + i) from nI_add _ _) ?_
    refine hw_iald hx hb hK hW 0 (hR0.keep hFr hn0 hla) rfl (vp_in_nI (show n + i < 64 by omega) (by omega)) dU_writeEquation_19 ?_
    refine tp_i (show (ni f) (nI (n + i)).toNatClampNeg = nI (f (n + i)) from by rw [nI_clamp (by omega)]; rfl) ?_
    refine lv_istore (lv' := [(5, .int (nI (f (n + i)))), (0, .ref u), (1, .ref nu), (2, .int (nI n)), (3, .int (nI (i * (dg + 1)))), (4, .int (nI i))]) hx hb dU_writeEquation_20 hl (by decide) rfl (fun ls hl => ?_)
    refine lv_iconst (v := nI 0) hx hb dU_writeEquation_22 (by decide) ?_
    refine lv_istore (lv' := [(6, .int (nI 0)), (5, .int (nI (f (n + i)))), (0, .ref u), (1, .ref nu), (2, .int (nI n)), (3, .int (nI (i * (dg + 1)))), (4, .int (nI i))]) hx hb dU_writeEquation_23 hl (by decide) rfl (fun ls hl => ?_)
    have hl : lv_has ls 7 [(0, .ref u), (1, .ref nu), (2, .int (nI n)), (3, .int (nI (i * (dg + 1) + 0))), (4, .int (nI i)), (5, .int (nI (f (n + i) * n ^ 0 % 32003))), (6, .int (nI 0))] := by rw [we_p0 hfi]; exact lv_sub hl [2, 3, 4, 5, 6, 1, 0] rfl
    refine lp_U_we_i hD hR0 hn0 hla ho hd hn64 hf (show i ≤ o by omega) ⟨hx, hb, hml, hts, hown, hK, hk, hAA⟩ (dg + 1) 0 w1 (by omega) hR hFr _ _ hW hS ls (lv_sub hl [0, 1, 2, 3, 4, 5, 6] rfl) ?_
    intro w1 hR hFr H locs hW hS ls hl
    refine lv_iinc (v := nI (i + 1)) (lv' := [(4, .int (nI (i + 1))), (0, .ref u), (1, .ref nu), (2, .int (nI n)), (3, .int (nI (i * (dg + 1) + (dg + 1))))]) hx hb dU_writeEquation_59 hl (k := 4) rfl (nI_1 _) (by decide) rfl (fun ls hl => ?_)
    refine lv_goto (tgt := 5) hx hb dU_writeEquation_62 (by decide) ?_
    exact ih (i + 1) w1 (by omega) (by rw [Nat.succ_mul]; exact hR) hFr H locs hW hS ls (by rw [Nat.succ_mul]; exact lv_sub hl [1, 2, 3, 4, 0] rfl) kk0

set_option maxHeartbeats 1000000 in
set_option maxRecDepth 100000 in
theorem c_U_writeEquation (l : Launch) (D : va_G) (g : Nat → ClassId) (ad : Nat → Nat) (tb : Nat) (sa : Nat → Nat) (w : Wd) (sz : Nat) (u eq la rw bg : Nat) (er : Nat → Nat) (o dg cn mem : Nat) (M : Nat → Nat → Nat) (b : Nat → Bool) (r be : Nat → Nat) (hD : ruD la rw bg er) (hR0 : ruW g w u eq la rw bg er o dg cn mem M b r be) (nu n : Nat) (f : Nat → Nat) (hn0 : w nu = some (ia (g 0) 64 f)) (hla : nu ≠ la) (ho : o ≤ 4) (hd : dg ≤ 3) (hn64 : n + o < 64) (hf : ∀ x, x < 64 → f x < 32003) : MV l D g ad tb sa yU_writeEquation cU_writeEquation 7 none 1 21 0 0 w sz [.ref u, .ref nu, .int (nI n)] (fun w' => ruF u la rw bg er w w' ∧ ruW g w' u eq la rw bg er o dg cn mem M b (weR f dg n ((o + 1) * (dg + 1)) r) be) := by
  refine hm_MV (by decide) (Nat.le_of_ble_eq_true rfl) ?_
  intro p e s m below meth c A ls hx hb hr hml hts hown hlocks hin hout hsz hW hK hk hS hAA hl
  have hl : lv_has ls 7 [(0, .ref u), (1, .ref nu), (2, .int (nI n))] := hl
  have hR := hR0
  refine lv_iconst (v := nI 0) hx hb dU_writeEquation_0 (by decide) ?_
  refine lv_istore_n (lv' := [(3, .int (nI 0)), (0, .ref u), (1, .ref nu), (2, .int (nI n))]) hx hb dU_writeEquation_1 rfl hl (by decide) rfl (fun ls hl => ?_)
  refine lv_iconst (v := nI 0) hx hb dU_writeEquation_2 (by decide) ?_
  refine lv_istore (lv' := [(4, .int (nI 0)), (3, .int (nI 0)), (0, .ref u), (1, .ref nu), (2, .int (nI n))]) hx hb dU_writeEquation_3 hl (by decide) rfl (fun ls hl => ?_)
  have hl : lv_has ls 7 [(0, .ref u), (1, .ref nu), (2, .int (nI n)), (3, .int (nI (0 * (dg + 1)))), (4, .int (nI 0))] := by rw [Nat.zero_mul]; exact lv_sub hl [2, 3, 4, 1, 0] rfl
  refine lp_U_we_o hD hR0 hn0 hla ho hd hn64 hf ⟨hx, hb, hml, hts, hown, hK, hk, hAA⟩ (o + 1) 0 w (by omega) (by rw [Nat.zero_mul, weR_0]; exact hR0) ruF.rf _ _ hW hS ls (lv_sub hl [0, 1, 2, 3, 4] rfl) ?_
  intro w1 hR hFr H locs hW hS ls hl
  exact W.vret hx hb hr (fun t ht hW9 => ⟨⟨w1, rfl, ⟨hFr, hR⟩, by rw [ht]; exact hW, va_K.moved hW9.alike hK⟩, hS.F ht⟩) hS.2.2 dU_writeEquation_65

set_option maxHeartbeats 1000000 in
set_option maxRecDepth 100000 in
theorem lp_U_take {p : Program} {l : Launch} {e : Env} {s : State} {m : MethodId} {args : Array Value} {below : List Frame} {meth : Method} {c : Code} {Q : State → Prop} {D : va_G} {g : Nat → ClassId} {ad : Nat → Nat} {tb : Nat} {sa : Nat → Nat} {A : Nat → Prop} {w : Wd} {u eq la rw bg : Nat} {er : Nat → Nat} {o dg cn mem : Nat} {M : Nat → Nat → Nat} {b : Nat → Bool} {r be : Nat → Nat} (hD : ruD la rw bg er) (hR0 : ruW g w u eq la rw bg er o dg cn mem M b r be) (hI : rI cn mem M b) (hm : cn ≤ 20) (hrB : rB r) (C0 : cx p s m args c A cU_takeEquation 2 RU D g ad tb sa) : ∀ (e9 : Nat) (c0 : Nat) (r1 : Nat → Nat) (w1 : Wd), (c0 + e9 = cn) → (ruW g w1 u eq la rw bg er o dg cn mem M b r1 be) → (ruF u la rw bg er w w1) → (rB r1) → (∀ x, x < c0 → r1 x = 0) → (∀ v, sol cn b (eI M) v → (mz (ms_sum (fun x => vI r1 x * v x) cn) ↔ mz (ms_sum (fun x => vI r x * v x) cn))) → ∀ (H : Heap) (locs : List Loc), hw D vwCl A w1 H → va_S A s.heap H locs → ∀ ls : Array Slot, lv_has ls 2 [(0, .ref u), (1, .int (nI c0))] → (∀ (w1 : Wd), (∃ mem1 M1 b1 r1, ruF u la rw bg er w w1 ∧ ruW g w1 u eq la rw bg er o dg cn mem1 M1 b1 r1 be ∧ rI cn mem1 M1 b1 ∧ rB r1 ∧ ∀ v, sol cn b1 (eI M1) v ↔ sol cn b (eI M) v ∧ mz (ms_sum (fun x => vI r x * v x) cn)) → ∀ (H : Heap) (locs : List Loc), hw D vwCl A w1 H → va_S A s.heap H locs → ∀ ls : Array Slot, lv_has ls 2 [(0, .ref u)] → W p l e (rmL 3 67 0 0) s m args below meth c H locs 0 0 Q (F0 m 33 ls [])) → (∀ (w1 : Wd), (∃ mem1 M1 b1 r1, ruF u la rw bg er w w1 ∧ ruW g w1 u eq la rw bg er o dg cn mem1 M1 b1 r1 be ∧ rI cn mem1 M1 b1 ∧ rB r1 ∧ ∀ v, sol cn b1 (eI M1) v ↔ sol cn b (eI M) v ∧ mz (ms_sum (fun x => vI r x * v x) cn)) → ∀ (H : Heap) (locs : List Loc), hw D vwCl A w1 H → va_S A s.heap H locs → ∀ ls : Array Slot, lv_has ls 2 [(0, .ref u)] → W p l e (rmL 3 67 0 0) s m args below meth c H locs 0 0 Q (F0 m 64 ls [])) → W p l e (rmL 3 67 0 0) s m args below meth c H locs 0 0 Q (F0 m 2 ls []) := by
  obtain ⟨hx, hb, hml, hts, hown, hK, hk, hAA⟩ := C0
  intro e9
  induction e9 with
  | zero =>
    intro c0 r1 w1 hc hR hFr hr1 hz hv H locs hW hS ls hl kk0 kk1
    refine lv_iload_n hx hb dU_takeEquation_2 rfl (lv_at hl 1 rfl) ?_
    refine lv_aload_n hx hb dU_takeEquation_3 rfl (lv_at hl 0 rfl) ?_
    refine hw_get (v := .int (nI cn)) (C := RU) (T := TU) (N := 8) hx hb hts inU hown hK hW hR.1 rfl 6 (by decide) (hts _ bw_40) (fun _ h9 => h9) rfl dU_takeEquation_4 ?_
    refine nw_icmp_ge (tgt := 64) hx hb (by omega) (by omega) dU_takeEquation_7 (by decide) (fun c1 => ?_) (fun c1 => absurd (show c0 < cn from c1) (by omega))
    exact kk1 w1 (⟨mem, M, b, r1, hFr, hR, hI, hr1, sol_end (fun x hx => hz x (by omega)) hv⟩) H locs hW hS ls (lv_sub hl [0] rfl)
  | succ e9 ih =>
    intro c0 r1 w1 hc hR hFr hr1 hz hv H locs hW hS ls hl kk0 kk1
    have hrc := hr1 c0 (by omega)
    have hmem : mem ≤ 20 := by rw [hI.2.2]; exact Nat.le_trans (fr_le b cn) hm
    have hbn : bn b c0 < 2 := by unfold bn; split <;> omega
    refine lv_iload_n hx hb dU_takeEquation_2 rfl (lv_at hl 1 rfl) ?_
    refine lv_aload_n hx hb dU_takeEquation_3 rfl (lv_at hl 0 rfl) ?_
    refine hw_get (v := .int (nI cn)) (C := RU) (T := TU) (N := 8) hx hb hts inU hown hK hW hR.1 rfl 6 (by decide) (hts _ bw_40) (fun _ h9 => h9) rfl dU_takeEquation_4 ?_
    refine nw_icmp_ge (tgt := 64) hx hb (by omega) (by omega) dU_takeEquation_7 (by decide) (fun c1 => absurd (show cn ≤ c0 from c1) (by omega)) (fun c1 => ?_)
    refine lv_aload_n hx hb dU_takeEquation_10 rfl (lv_at hl 0 rfl) ?_
    refine hw_get (v := .ref rw) (C := RU) (T := TU) (N := 8) hx hb hts inU hown hK hW hR.1 rfl 2 (by decide) (hts _ bw_36) (fun _ h9 => h9) rfl dU_takeEquation_11 ?_
    refine lv_iload_n hx hb dU_takeEquation_14 rfl (lv_at hl 1 rfl) ?_
    refine hw_iald hx hb hK hW 0 hR.2.2.2.1 rfl (vp_in_nI (show c0 < 20 by omega) (by omega)) dU_takeEquation_15 ?_
    refine tp_i (show (ni r1) (nI c0).toNatClampNeg = nI (r1 c0) from by rw [nI_clamp (by omega)]; rfl) ?_
    refine nw_if_eq (tgt := 34) hx hb (by omega) dU_takeEquation_16 (by decide) (fun cz => ?_) (fun cz => ?_)
    · refine lv_aload_n hx hb dU_takeEquation_34 rfl (lv_at hl 0 rfl) ?_
      refine hw_get (v := .ref rw) (C := RU) (T := TU) (N := 8) hx hb hts inU hown hK hW hR.1 rfl 2 (by decide) (hts _ bw_36) (fun _ h9 => h9) rfl dU_takeEquation_35 ?_
      refine lv_iload_n hx hb dU_takeEquation_38 rfl (lv_at hl 1 rfl) ?_
      refine hw_iald hx hb hK hW 0 hR.2.2.2.1 rfl (vp_in_nI (show c0 < 20 by omega) (by omega)) dU_takeEquation_39 ?_
      refine tp_i (show (ni r1) (nI c0).toNatClampNeg = nI (r1 c0) from by rw [nI_clamp (by omega)]; rfl) ?_
      refine nw_if_eq (tgt := 58) hx hb (by omega) dU_takeEquation_40 (by decide) (fun c2 => ?_) (fun c2 => absurd cz c2)
      refine lv_iinc (v := nI (c0 + 1)) (lv' := [(1, .int (nI (c0 + 1))), (0, .ref u)]) hx hb dU_takeEquation_58 hl (k := 1) rfl (nI_1 _) (by decide) rfl (fun ls hl => ?_)
      refine lv_goto (tgt := 2) hx hb dU_takeEquation_61 (by decide) ?_
      exact ih (c0 + 1) r1 w1 (by omega) hR hFr hr1 (fun x hx => by
        by_cases e8 : x = c0
        · rw [e8]; exact cz
        · exact hz x (by omega)) hv H locs hW hS ls (lv_sub hl [1, 0] rfl) kk0 kk1
    · refine lv_aload_n hx hb dU_takeEquation_19 rfl (lv_at hl 0 rfl) ?_
      refine hw_get (v := .ref la) (C := RU) (T := TU) (N := 8) hx hb hts inU hown hK hW hR.1 rfl 1 (by decide) (hts _ bw_35) (fun _ h9 => h9) rfl dU_takeEquation_20 ?_
      refine lv_iload_n hx hb dU_takeEquation_23 rfl (lv_at hl 1 rfl) ?_
      refine hw_zald hx hb hK hW 1 hR.2.2.1 rfl (vp_in_nI (show c0 < 20 by omega) (by omega)) dU_takeEquation_24 ?_
      refine tp_i (show (ni (bn b)) (nI c0).toNatClampNeg = nI ((bn b) c0) from by rw [nI_clamp (by omega)]; rfl) ?_
      refine nw_if_ne (tgt := 34) hx hb (by omega) dU_takeEquation_25 (by decide) (fun cb => ?_) (fun cb => ?_)
      · have hbt : b c0 = true := bn_t cb
        refine lv_aload_n hx hb dU_takeEquation_34 rfl (lv_at hl 0 rfl) ?_
        refine hw_get (v := .ref rw) (C := RU) (T := TU) (N := 8) hx hb hts inU hown hK hW hR.1 rfl 2 (by decide) (hts _ bw_36) (fun _ h9 => h9) rfl dU_takeEquation_35 ?_
        refine lv_iload_n hx hb dU_takeEquation_38 rfl (lv_at hl 1 rfl) ?_
        refine hw_iald hx hb hK hW 0 hR.2.2.2.1 rfl (vp_in_nI (show c0 < 20 by omega) (by omega)) dU_takeEquation_39 ?_
        refine tp_i (show (ni r1) (nI c0).toNatClampNeg = nI (r1 c0) from by rw [nI_clamp (by omega)]; rfl) ?_
        refine nw_if_eq (tgt := 58) hx hb (by omega) dU_takeEquation_40 (by decide) (fun c3 => absurd c3 cz) (fun c3 => ?_)
        refine lv_aload_n hx hb dU_takeEquation_43 rfl (lv_at hl 0 rfl) ?_
        refine lv_aload_n hx hb dU_takeEquation_44 rfl (lv_at hl 0 rfl) ?_
        refine hw_get (v := .ref rw) (C := RU) (T := TU) (N := 8) hx hb hts inU hown hK hW hR.1 rfl 2 (by decide) (hts _ bw_36) (fun _ h9 => h9) rfl dU_takeEquation_45 ?_
        refine lv_aload_n hx hb dU_takeEquation_48 rfl (lv_at hl 0 rfl) ?_
        refine hw_get (v := .ref rw) (C := RU) (T := TU) (N := 8) hx hb hts inU hown hK hW hR.1 rfl 2 (by decide) (hts _ bw_36) (fun _ h9 => h9) rfl dU_takeEquation_49 ?_
        refine lv_iload_n hx hb dU_takeEquation_52 rfl (lv_at hl 1 rfl) ?_
        refine hw_iald hx hb hK hW 0 hR.2.2.2.1 rfl (vp_in_nI (show c0 < 20 by omega) (by omega)) dU_takeEquation_53 ?_
        refine tp_i (show (ni r1) (nI c0).toNatClampNeg = nI (r1 c0) from by rw [nI_clamp (by omega)]; rfl) ?_
        refine lv_iload_n hx hb dU_takeEquation_54 rfl (lv_at hl 1 rfl) ?_
        refine kc_VV (n := 3) (As := [.ref rw, .int (nI (r1 c0)), .int (nI c0)]) (rest := []) ⟨hx, hb, hml, hown, hts⟩ (c_U_subtract l D g ad tb sa w1 H.size u eq la rw bg er o dg cn mem r1 rw c0 (r1 c0) (M c0) hR.1 hR.2.1 (hR.2.2.2.2.2 c0 (by omega)) hR.2.2.2.1 (hD.2.2.2.1 c0 (by omega)).2.1 (by omega) hm hrc hr1 (fun x hx => hI.2.1 c0 x (by omega) hx)) bw_465 bw_467 bs_13 bw_2 bw_468 (by decide +kernel) rfl rfl hR.1 ⟨by decide, by decide⟩ hW hK hk hS hAA rfl hl.1 rfl (Nat.le_of_ble_eq_true rfl) dU_takeEquation_55 ⟨by decide, by decide⟩ (fun w5 H locs hp hW hS => ?_)
        have hR : ruW g w5 u eq la rw bg er o dg cn mem M b (subR cn c0 (r1 c0) r1 (M c0)) be := by rw [hp]; exact hR.set_rw hD _
        have hFr : ruF u la rw bg er w w5 := hFr.tr (by rw [hp]; exact ruF_rw)
        obtain ⟨z1, z2⟩ := jl_row (m := cn) hI.1 (show c0 < cn by omega) hbt (fun x hx => hr1 x (by omega)) hz
        refine lv_iinc (v := nI (c0 + 1)) (lv' := [(1, .int (nI (c0 + 1))), (0, .ref u)]) hx hb dU_takeEquation_58 hl (k := 1) rfl (nI_1 _) (by decide) rfl (fun ls hl => ?_)
        refine lv_goto (tgt := 2) hx hb dU_takeEquation_61 (by decide) ?_
        exact ih (c0 + 1) (subR cn c0 (r1 c0) r1 (M c0)) w5 (by omega) hR hFr (subR_lt20 hr1) z1 (fun v hs => (z2 v hs).trans (hv v hs)) H locs hW hS ls (lv_sub hl [1, 0] rfl) kk0 kk1
      · have hbf : b c0 = false := bn_f cb
        refine lv_aload_n hx hb dU_takeEquation_28 rfl (lv_at hl 0 rfl) ?_
        refine lv_iload_n hx hb dU_takeEquation_29 rfl (lv_at hl 1 rfl) ?_
        refine kc_VV (n := 1) (As := [.int (nI c0)]) (rest := []) ⟨hx, hb, hml, hown, hts⟩ (c_U_lead l D g ad tb sa w1 H.size u eq la rw bg er o dg cn mem M b r1 be hD hR c0 (by omega) hm hr1 (by rw [hI.2.2]; exact fr_pos (by omega) hbf) hmem) bw_460 bw_462 bs_12 bw_2 bw_463 (by decide +kernel) rfl rfl hR.1 ⟨by decide, by decide⟩ hW hK hk hS hAA rfl hl.1 rfl (Nat.le_of_ble_eq_true rfl) dU_takeEquation_30 ⟨by decide, by decide⟩ (fun w7 H locs hp hW hS => ?_)
        obtain ⟨hF9, hR⟩ := hp
        have hFr := hFr.tr hF9
        obtain ⟨h8, h9⟩ := rI_lead hI hm (show c0 < cn by omega) hbf hr1 cz hz
        exact kk0 w7 (⟨_, _, _, r1, hFr, hR, h8, hr1, fun v => (h9 v).trans ⟨fun q => ⟨q.1, (hv v q.1).mp q.2⟩, fun q => ⟨q.1, (hv v q.1).mpr q.2⟩⟩⟩) H locs hW hS ls (lv_sub hl [0] rfl)

set_option maxHeartbeats 1000000 in
set_option maxRecDepth 100000 in
theorem c_U_takeEquation (l : Launch) (D : va_G) (g : Nat → ClassId) (ad : Nat → Nat) (tb : Nat) (sa : Nat → Nat) (w : Wd) (sz : Nat) (u eq la rw bg : Nat) (er : Nat → Nat) (o dg cn mem : Nat) (M : Nat → Nat → Nat) (b : Nat → Bool) (r be : Nat → Nat) (hD : ruD la rw bg er) (hR0 : ruW g w u eq la rw bg er o dg cn mem M b r be) (hI : rI cn mem M b) (hm : cn ≤ 20) (hrB : rB r) : MV l D g ad tb sa yU_takeEquation cU_takeEquation 2 none 3 67 0 0 w sz [.ref u] (fun w' => ∃ mem1 M1 b1 r1, ruF u la rw bg er w w' ∧ ruW g w' u eq la rw bg er o dg cn mem1 M1 b1 r1 be ∧ rI cn mem1 M1 b1 ∧ rB r1 ∧ ∀ v, sol cn b1 (eI M1) v ↔ sol cn b (eI M) v ∧ mz (ms_sum (fun x => vI r x * v x) cn)) := by
  refine hm_MV (by decide) (Nat.le_of_ble_eq_true rfl) ?_
  intro p e s m below meth c A ls hx hb hr hml hts hown hlocks hin hout hsz hW hK hk hS hAA hl
  have hl : lv_has ls 2 [(0, .ref u)] := hl
  have hR := hR0
  refine lv_iconst (v := nI 0) hx hb dU_takeEquation_0 (by decide) ?_
  refine lv_istore_n (lv' := [(1, .int (nI 0)), (0, .ref u)]) hx hb dU_takeEquation_1 rfl hl (by decide) rfl (fun ls hl => ?_)
  refine lp_U_take hD hR0 hI hm hrB ⟨hx, hb, hml, hts, hown, hK, hk, hAA⟩ cn 0 r w (by omega) hR0 ruF.rf hrB (fun x hx => absurd hx (by omega)) (fun v _ => Iff.rfl) _ _ hW hS ls (lv_sub hl [1, 0] rfl) ?_ ?_
  · intro w1 hP H locs hW hS ls hl
    exact W.vret hx hb hr (fun t ht hW9 => ⟨⟨w1, rfl, hP, by rw [ht]; exact hW, va_K.moved hW9.alike hK⟩, hS.F ht⟩) hS.2.2 dU_takeEquation_33
  · intro w1 hP H locs hW hS ls hl
    exact W.vret hx hb hr (fun t ht hW9 => ⟨⟨w1, rfl, hP, by rw [ht]; exact hW, va_K.moved hW9.alike hK⟩, hS.F ht⟩) hS.2.2 dU_takeEquation_64
