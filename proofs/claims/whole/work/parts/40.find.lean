set_option maxHeartbeats 1000000 in
set_option maxRecDepth 100000 in
theorem lp_U_find0 {p : Program} {l : Launch} {e : Env} {s : State} {m : MethodId} {args : Array Value} {below : List Frame} {meth : Method} {c : Code} {Q : State → Prop} {D : va_G} {g : Nat → ClassId} {ad : Nat → Nat} {tb : Nat} {sa : Nat → Nat} {A : Nat → Prop} {w : Wd} {u eq la rw bg : Nat} {er : Nat → Nat} {o dg cn mem : Nat} {M : Nat → Nat → Nat} {b : Nat → Bool} {r be : Nat → Nat} (hD : ruD la rw bg er) {nu on dn cx1 : Nat} {f : Nat → Nat} (ho : on ≤ 4) (hd : dn ≤ 3) (hcn : cx1 = (on + 1) * (dn + 1)) (hla : nu ≠ la) (hf : ∀ x, x < 64 → f x < 32003) (hR0 : ruW g w u eq la rw bg er o dg cn mem M b r be) (C0 : cx p s m args c A cU_find 5 RU D g ad tb sa) : ∀ (e9 : Nat) (c0 : Nat) (b1 : Nat → Bool) (w1 : Wd), (c0 + e9 = cx1) → (ruW g w1 u eq la rw bg er on dn cx1 cx1 M b1 r be) → (ruF u la rw bg er w w1) → (∀ x, x < c0 → b1 x = false) → ∀ (H : Heap) (locs : List Loc), hw D vwCl A w1 H → va_S A s.heap H locs → ∀ ls : Array Slot, lv_has ls 5 [(0, .ref u), (1, .ref nu), (4, .int (nI c0))] → (∀ (b1 : Nat → Bool) (w1 : Wd), (ruW g w1 u eq la rw bg er on dn cx1 cx1 M b1 r be) → (ruF u la rw bg er w w1) → (∀ x, x < cx1 → b1 x = false) → ∀ (H : Heap) (locs : List Loc), hw D vwCl A w1 H → va_S A s.heap H locs → ∀ ls : Array Slot, lv_has ls 5 [(0, .ref u), (1, .ref nu)] → W p l e (rmL 4 88 0 0) s m args below meth c H locs 0 0 Q (F0 m 61 ls [])) → W p l e (rmL 4 88 0 0) s m args below meth c H locs 0 0 Q (F0 m 38 ls []) := by
  obtain ⟨hx, hb, hml, hts, hown, hK, hk, hAA⟩ := C0
  intro e9
  induction e9 with
  | zero =>
    intro c0 b1 w1 hc hR hFr hz H locs hW hS ls hl kk0
    have hcm : cx1 ≤ 20 := by rw [hcn]; exact we_cn ho hd
    refine lv_iload hx hb dU_find_38 (lv_at hl 2 rfl) ?_
    refine lv_aload_n hx hb dU_find_40 rfl (lv_at hl 0 rfl) ?_
    refine hw_get (v := .int (nI cx1)) (C := RU) (T := TU) (N := 8) hx hb hts inU hown hK hW hR.1 rfl 6 (by decide) (hts _ bw_40) (fun _ h9 => h9) rfl dU_find_41 ?_
    refine nw_icmp_ge (tgt := 61) hx hb (by omega) (by omega) dU_find_44 (by decide) (fun c1 => ?_) (fun c1 => absurd (show c0 < cx1 from c1) (by omega))
    exact kk0 b1 w1 hR hFr (fun x hx => hz x (by omega)) H locs hW hS ls (lv_sub hl [0, 1] rfl)
  | succ e9 ih =>
    intro c0 b1 w1 hc hR hFr hz H locs hW hS ls hl kk0
    have hcm : cx1 ≤ 20 := by rw [hcn]; exact we_cn ho hd
    refine lv_iload hx hb dU_find_38 (lv_at hl 2 rfl) ?_
    refine lv_aload_n hx hb dU_find_40 rfl (lv_at hl 0 rfl) ?_
    refine hw_get (v := .int (nI cx1)) (C := RU) (T := TU) (N := 8) hx hb hts inU hown hK hW hR.1 rfl 6 (by decide) (hts _ bw_40) (fun _ h9 => h9) rfl dU_find_41 ?_
    refine nw_icmp_ge (tgt := 61) hx hb (by omega) (by omega) dU_find_44 (by decide) (fun c1 => absurd (show cx1 ≤ c0 from c1) (by omega)) (fun c1 => ?_)
    refine lv_aload_n hx hb dU_find_47 rfl (lv_at hl 0 rfl) ?_
    refine hw_get (v := .ref la) (C := RU) (T := TU) (N := 8) hx hb hts inU hown hK hW hR.1 rfl 1 (by decide) (hts _ bw_35) (fun _ h9 => h9) rfl dU_find_48 ?_
    refine lv_iload hx hb dU_find_51 (lv_at hl 2 rfl) ?_
    refine lv_iconst (v := nI 0) hx hb dU_find_53 (by decide) ?_
    refine hw_zast hx hb hK hW hS 1 hR.2.2.1 rfl (vp_in_nI (show c0 < 20 by omega) (by omega)) dU_find_54 (fun H locs hW hS => ?_)
    rw [nI_clamp (show c0 < 2 ^ 31 by omega), show vp_nar .boolean (nI 0) = nI 0 from by decide, ni_upd, show (0 : Nat) = (if false = true then 1 else 0) from rfl, bn_up] at hW
    have hW : hw D vwCl A (hwu w1 la (ia (g 1) 20 (bn (va_up b1 c0 false)))) H := hW
    obtain ⟨w2, ew2⟩ : ∃ z, z = hwu w1 la (ia (g 1) 20 (bn (va_up b1 c0 false))) := ⟨_, rfl⟩
    rw [← ew2] at hW
    have hR : ruW g w2 u eq la rw bg er on dn cx1 cx1 M (va_up b1 c0 false) r be := by rw [ew2]; exact hR.set_la hD _
    have hFr : ruF u la rw bg er w w2 := hFr.tr (by rw [ew2]; exact ruF_la)
    refine lv_iinc (v := nI (c0 + 1)) (lv' := [(4, .int (nI (c0 + 1))), (0, .ref u), (1, .ref nu)]) hx hb dU_find_55 hl (k := 2) rfl (nI_1 _) (by decide) rfl (fun ls hl => ?_)
    refine lv_goto (tgt := 38) hx hb dU_find_58 (by decide) ?_
    exact ih (c0 + 1) (va_up b1 c0 false) w2 (by omega) hR hFr (fun x hx => by
      by_cases e8 : x = c0
      · rw [e8, va_up_eq]
      · rw [va_up_no e8]; exact hz x (by omega)) H locs hW hS ls (lv_sub hl [1, 2, 0] rfl) kk0

set_option maxHeartbeats 1000000 in
set_option maxRecDepth 100000 in
theorem lp_U_find1 {p : Program} {l : Launch} {e : Env} {s : State} {m : MethodId} {args : Array Value} {below : List Frame} {meth : Method} {c : Code} {Q : State → Prop} {D : va_G} {g : Nat → ClassId} {ad : Nat → Nat} {tb : Nat} {sa : Nat → Nat} {A : Nat → Prop} {w : Wd} {u eq la rw bg : Nat} {er : Nat → Nat} {o dg cn mem : Nat} {M : Nat → Nat → Nat} {b : Nat → Bool} {r be : Nat → Nat} (hD : ruD la rw bg er) {nu on dn cx1 : Nat} {f : Nat → Nat} (ho : on ≤ 4) (hd : dn ≤ 3) (hcn : cx1 = (on + 1) * (dn + 1)) (hla : nu ≠ la) (hf : ∀ x, x < 64 → f x < 32003) (hR0 : ruW g w u eq la rw bg er o dg cn mem M b r be) (hn0 : w nu = some (ia (g 0) 64 f)) (C0 : cx p s m args c A cU_find 5 RU D g ad tb sa) : ∀ (e9 : Nat) (n mem1 : Nat) (M1 : Nat → Nat → Nat) (b1 : Nat → Bool) (r1 : Nat → Nat) (w1 : Wd), (n + e9 = 64 - on) → (ruW g w1 u eq la rw bg er on dn cx1 mem1 M1 b1 r1 be) → (ruF u la rw bg er w w1) → (rI cx1 mem1 M1 b1) → (rB r1) → (∀ v, sol cx1 b1 (eI M1) v ↔ ker (fun n c => (eqn f dn n c : Int)) n cx1 v) → ∀ (H : Heap) (locs : List Loc), hw D vwCl A w1 H → va_S A s.heap H locs → ∀ ls : Array Slot, lv_has ls 5 [(0, .ref u), (1, .ref nu), (4, .int (nI n))] → (∀ (n mem1 : Nat) (M1 : Nat → Nat → Nat) (b1 : Nat → Bool) (r1 : Nat → Nat) (w1 : Wd), (n = 64 - on ∨ (n ≤ 64 - on ∧ mem1 = 0)) → (ruW g w1 u eq la rw bg er on dn cx1 mem1 M1 b1 r1 be) → (ruF u la rw bg er w w1) → (rI cx1 mem1 M1 b1) → (rB r1) → (∀ v, sol cx1 b1 (eI M1) v ↔ ker (fun n c => (eqn f dn n c : Int)) n cx1 v) → ∀ (H : Heap) (locs : List Loc), hw D vwCl A w1 H → va_S A s.heap H locs → ∀ ls : Array Slot, lv_has ls 5 [(0, .ref u)] → W p l e (rmL 4 88 0 0) s m args below meth c H locs 0 0 Q (F0 m 100 ls [])) → W p l e (rmL 4 88 0 0) s m args below meth c H locs 0 0 Q (F0 m 64 ls []) := by
  obtain ⟨hx, hb, hml, hts, hown, hK, hk, hAA⟩ := C0
  intro e9
  induction e9 with
  | zero =>
    intro n mem1 M1 b1 r1 w1 hn hR hFr hI hr1 hs H locs hW hS ls hl kk0
    have hcm : cx1 ≤ 20 := by rw [hcn]; exact we_cn ho hd
    have hm20 : mem1 ≤ 20 := by rw [hI.2.2]; exact Nat.le_trans (fr_le b1 cx1) hcm
    refine lv_iload hx hb dU_find_64 (lv_at hl 2 rfl) ?_
    refine lv_bipush (v := nI 64) hx hb dU_find_66 (by decide) ?_
    refine lv_aload_n hx hb dU_find_68 rfl (lv_at hl 0 rfl) ?_
    refine hw_get (v := .int (nI on)) (C := RU) (T := TU) (N := 8) hx hb hts inU hown hK hW hR.1 rfl 4 (by decide) (hts _ bw_38) (fun _ h9 => h9) rfl dU_find_69 ?_
    refine lv_isub hx hb dU_find_72 ?_
    refine tp_i (show (nI 64) - (nI on) = nI (64 - on) from pk_sub (by omega)) ?_
    refine nw_icmp_ge (tgt := 100) hx hb (by omega) (by omega) dU_find_73 (by decide) (fun c1 => ?_) (fun c1 => absurd (show n < 64 - on from c1) (by omega))
    exact kk0 n mem1 M1 b1 r1 w1 (Or.inl (by omega)) hR hFr hI hr1 hs H locs hW hS ls (lv_sub hl [0] rfl)
  | succ e9 ih =>
    intro n mem1 M1 b1 r1 w1 hn hR hFr hI hr1 hs H locs hW hS ls hl kk0
    have hcm : cx1 ≤ 20 := by rw [hcn]; exact we_cn ho hd
    have hm20 : mem1 ≤ 20 := by rw [hI.2.2]; exact Nat.le_trans (fr_le b1 cx1) hcm
    refine lv_iload hx hb dU_find_64 (lv_at hl 2 rfl) ?_
    refine lv_bipush (v := nI 64) hx hb dU_find_66 (by decide) ?_
    refine lv_aload_n hx hb dU_find_68 rfl (lv_at hl 0 rfl) ?_
    refine hw_get (v := .int (nI on)) (C := RU) (T := TU) (N := 8) hx hb hts inU hown hK hW hR.1 rfl 4 (by decide) (hts _ bw_38) (fun _ h9 => h9) rfl dU_find_69 ?_
    refine lv_isub hx hb dU_find_72 ?_
    refine tp_i (show (nI 64) - (nI on) = nI (64 - on) from pk_sub (by omega)) ?_
    refine nw_icmp_ge (tgt := 100) hx hb (by omega) (by omega) dU_find_73 (by decide) (fun c1 => absurd (show 64 - on ≤ n from c1) (by omega)) (fun c1 => ?_)
    refine lv_aload_n hx hb dU_find_76 rfl (lv_at hl 0 rfl) ?_
    refine hw_get (v := .int (nI mem1)) (C := RU) (T := TU) (N := 8) hx hb hts inU hown hK hW hR.1 rfl 7 (by decide) (hts _ bw_41) (fun _ h9 => h9) rfl dU_find_77 ?_
    refine nw_if_le (tgt := 100) hx hb (by omega) dU_find_80 (by decide) (fun cz => ?_) (fun cz => ?_)
    · exact kk0 n mem1 M1 b1 r1 w1 (Or.inr ⟨by omega, by omega⟩) hR hFr hI hr1 hs H locs hW hS ls (lv_sub hl [0] rfl)
    · refine lv_aload_n hx hb dU_find_83 rfl (lv_at hl 0 rfl) ?_
      refine lv_aload_n hx hb dU_find_84 rfl (lv_at hl 1 rfl) ?_
      refine lv_iload hx hb dU_find_85 (lv_at hl 2 rfl) ?_
      refine kc_VV (n := 2) (As := [.ref nu, .int (nI n)]) (rest := []) ⟨hx, hb, hml, hown, hts⟩ (c_U_writeEquation l D g ad tb sa w1 H.size u eq la rw bg er on dn cx1 mem1 M1 b1 r1 be hD hR nu n f (hR0.keep hFr hn0 hla) hla ho hd (by omega) hf) bw_451 bw_453 bs_10 bw_2 bw_454 (by decide +kernel) rfl rfl hR.1 ⟨by decide, by decide⟩ hW hK hk hS hAA rfl hl.1 rfl (Nat.le_of_ble_eq_true rfl) dU_find_87 ⟨by decide, by decide⟩ (fun w3 H locs hp hW hS => ?_)
      obtain ⟨hF9, hR⟩ := hp
      have hFr : ruF u la rw bg er w w3 := hFr.tr hF9
      rw [← hcn] at hR
      refine lv_aload_n hx hb dU_find_90 rfl (lv_at hl 0 rfl) ?_
      refine kc_VV (n := 0) (As := []) (rest := []) ⟨hx, hb, hml, hown, hts⟩ (c_U_takeEquation l D g ad tb sa w3 H.size u eq la rw bg er on dn cx1 mem1 M1 b1 (weR f dn n cx1 r1) be hD hR hI hcm (weR_lt hr1)) bw_456 bw_458 bs_11 bw_2 bw_459 (by decide +kernel) rfl rfl hR.1 ⟨by decide, by decide⟩ hW hK hk hS hAA rfl hl.1 rfl (Nat.le_of_ble_eq_true rfl) dU_find_91 ⟨by decide, by decide⟩ (fun w5 H locs hp hW hS => ?_)
      obtain ⟨mem2, M2, b2, r2, hF9, hR, hI2, hr2, hs2⟩ := hp
      have hFr : ruF u la rw bg er w w5 := hFr.tr hF9
      refine lv_iinc (v := nI (n + 1)) (lv' := [(4, .int (nI (n + 1))), (0, .ref u), (1, .ref nu)]) hx hb dU_find_94 hl (k := 2) rfl (nI_1 _) (by decide) rfl (fun ls hl => ?_)
      refine lv_goto (tgt := 64) hx hb dU_find_97 (by decide) ?_
      exact ih (n + 1) mem2 M2 b2 r2 w5 (by omega) hR hFr hI2 hr2 (fun v => by rw [hs2 v, hs v, ker_succ, sum_we]) H locs hW hS ls (lv_sub hl [1, 2, 0] rfl) kk0

set_option maxHeartbeats 1000000 in
set_option maxRecDepth 100000 in
theorem c_U_find (l : Launch) (D : va_G) (g : Nat → ClassId) (ad : Nat → Nat) (tb : Nat) (sa : Nat → Nat) (w : Wd) (sz : Nat) (u eq la rw bg : Nat) (er : Nat → Nat) (o dg cn mem : Nat) (M : Nat → Nat → Nat) (b : Nat → Bool) (r be : Nat → Nat) (hD : ruD la rw bg er) (nu on dn cx1 : Nat) (f : Nat → Nat) (ho : on ≤ 4) (hd : dn ≤ 3) (hcn : cx1 = (on + 1) * (dn + 1)) (hla : nu ≠ la) (hf : ∀ x, x < 64 → f x < 32003) (hR0 : ruW g w u eq la rw bg er o dg cn mem M b r be) (hn0 : w nu = some (ia (g 0) 64 f)) (hMB : mB M) (hrB : rB r) : MI l D g ad tb sa yU_find cU_find 5 (some (.int)) 4 88 0 0 w sz [.ref u, .ref nu, .int (nI on), .int (nI dn)] (fun x9 w' => ∃ mem1 M1 b1 r1 be1, x9 = nI mem1 ∧ ruF u la rw bg er w w' ∧ ruW g w' u eq la rw bg er on dn cx1 mem1 M1 b1 r1 be1 ∧ mB M1 ∧ rB r1 ∧ isBase (kerF f on dn) cx1 mem1 be1 (fun k => evec b1 (eI M1) (be1 k))) := by
  refine hm_MI (by decide) (Nat.le_of_ble_eq_true rfl) ?_
  intro p e s m below meth c A ls hx hb hr hml hts hown hlocks hin hout hsz hW hK hk hS hAA hl
  have hl : lv_has ls 5 [(0, .ref u), (1, .ref nu), (2, .int (nI on)), (3, .int (nI dn))] := hl
  have hR := hR0
  have hFr : ruF u la rw bg er w w := ruF.rf
  have hcm : cx1 ≤ 20 := by rw [hcn]; exact we_cn ho hd
  have hc0 : 0 < cx1 := by rw [hcn]; exact Nat.mul_pos (by omega) (by omega)
  refine lv_aload_n hx hb dU_find_0 rfl (lv_at hl 0 rfl) ?_
  refine lv_iload_n hx hb dU_find_1 rfl (lv_at hl 2 rfl) ?_
  refine hw_put (v := .int (nI on)) (ty := .int) (C := RU) (T := TU) (N := 8) hx hb hts inU tyU tyU_ok nmU hown hK hW hS hR.1 rfl 4 (by decide) (hts _ bw_38) (fun _ h9 => h9) rfl (by decide +kernel) rfl rfl (Nat.le_of_ble_eq_true rfl) dU_find_2 (fun H locs hW hS => ?_)
  have hW : hw D vwCl A (hwu w u (.inr (3, [.ref eq, .ref la, .ref rw, .ref bg, .int (nI on), .int (nI dg), .int (nI cn), .int (nI mem)]))) H := hW
  obtain ⟨w1, ew1⟩ : ∃ z, z = hwu w u (.inr (3, [.ref eq, .ref la, .ref rw, .ref bg, .int (nI on), .int (nI dg), .int (nI cn), .int (nI mem)])) := ⟨_, rfl⟩
  rw [← ew1] at hW
  have hR : ruW g w1 u eq la rw bg er on dg cn mem M b r be := by rw [ew1]; exact hR.set_u _ _ _ _
  have hFr : ruF u la rw bg er w w1 := hFr.tr (by rw [ew1]; exact ruF_u)
  refine lv_aload_n hx hb dU_find_5 rfl (lv_at hl 0 rfl) ?_
  refine lv_iload_n hx hb dU_find_6 rfl (lv_at hl 3 rfl) ?_
  refine hw_put (v := .int (nI dn)) (ty := .int) (C := RU) (T := TU) (N := 8) hx hb hts inU tyU tyU_ok nmU hown hK hW hS hR.1 rfl 5 (by decide) (hts _ bw_39) (fun _ h9 => h9) rfl (by decide +kernel) rfl rfl (Nat.le_of_ble_eq_true rfl) dU_find_7 (fun H locs hW hS => ?_)
  have hW : hw D vwCl A (hwu w1 u (.inr (3, [.ref eq, .ref la, .ref rw, .ref bg, .int (nI on), .int (nI dn), .int (nI cn), .int (nI mem)]))) H := hW
  obtain ⟨w2, ew2⟩ : ∃ z, z = hwu w1 u (.inr (3, [.ref eq, .ref la, .ref rw, .ref bg, .int (nI on), .int (nI dn), .int (nI cn), .int (nI mem)])) := ⟨_, rfl⟩
  rw [← ew2] at hW
  have hR : ruW g w2 u eq la rw bg er on dn cn mem M b r be := by rw [ew2]; exact hR.set_u _ _ _ _
  have hFr : ruF u la rw bg er w w2 := hFr.tr (by rw [ew2]; exact ruF_u)
  refine lv_aload_n hx hb dU_find_10 rfl (lv_at hl 0 rfl) ?_
  refine lv_aload_n hx hb dU_find_11 rfl (lv_at hl 0 rfl) ?_
  refine hw_get (v := .int (nI on)) (C := RU) (T := TU) (N := 8) hx hb hts inU hown hK hW hR.1 rfl 4 (by decide) (hts _ bw_38) (fun _ h9 => h9) rfl dU_find_12 ?_
  refine lv_iconst (v := nI 1) hx hb dU_find_15 (by decide) ?_
  refine lv_iadd hx hb dU_find_16 ?_
  refine tp_i (show (nI on) + (nI 1) = nI (on + 1) from nI_add _ _) ?_
  refine lv_aload_n hx hb dU_find_17 rfl (lv_at hl 0 rfl) ?_
  refine hw_get (v := .int (nI dn)) (C := RU) (T := TU) (N := 8) hx hb hts inU hown hK hW hR.1 rfl 5 (by decide) (hts _ bw_39) (fun _ h9 => h9) rfl dU_find_18 ?_
  refine lv_iconst (v := nI 1) hx hb dU_find_21 (by decide) ?_
  refine lv_iadd hx hb dU_find_22 ?_
  refine tp_i (show (nI dn) + (nI 1) = nI (dn + 1) from nI_add _ _) ?_
  refine lv_imul hx hb dU_find_23 ?_
  refine tp_i (show (nI (on + 1)) * (nI (dn + 1)) = nI cx1 from by rw [pk_mul, ← hcn]) ?_
  refine hw_put (v := .int (nI cx1)) (ty := .int) (C := RU) (T := TU) (N := 8) hx hb hts inU tyU tyU_ok nmU hown hK hW hS hR.1 rfl 6 (by decide) (hts _ bw_40) (fun _ h9 => h9) rfl (by decide +kernel) rfl rfl (Nat.le_of_ble_eq_true rfl) dU_find_24 (fun H locs hW hS => ?_)
  have hW : hw D vwCl A (hwu w2 u (.inr (3, [.ref eq, .ref la, .ref rw, .ref bg, .int (nI on), .int (nI dn), .int (nI cx1), .int (nI mem)]))) H := hW
  obtain ⟨w3, ew3⟩ : ∃ z, z = hwu w2 u (.inr (3, [.ref eq, .ref la, .ref rw, .ref bg, .int (nI on), .int (nI dn), .int (nI cx1), .int (nI mem)])) := ⟨_, rfl⟩
  rw [← ew3] at hW
  have hR : ruW g w3 u eq la rw bg er on dn cx1 mem M b r be := by rw [ew3]; exact hR.set_u _ _ _ _
  have hFr : ruF u la rw bg er w w3 := hFr.tr (by rw [ew3]; exact ruF_u)
  refine lv_aload_n hx hb dU_find_27 rfl (lv_at hl 0 rfl) ?_
  refine lv_aload_n hx hb dU_find_28 rfl (lv_at hl 0 rfl) ?_
  refine hw_get (v := .int (nI cx1)) (C := RU) (T := TU) (N := 8) hx hb hts inU hown hK hW hR.1 rfl 6 (by decide) (hts _ bw_40) (fun _ h9 => h9) rfl dU_find_29 ?_
  refine hw_put (v := .int (nI cx1)) (ty := .int) (C := RU) (T := TU) (N := 8) hx hb hts inU tyU tyU_ok nmU hown hK hW hS hR.1 rfl 7 (by decide) (hts _ bw_41) (fun _ h9 => h9) rfl (by decide +kernel) rfl rfl (Nat.le_of_ble_eq_true rfl) dU_find_32 (fun H locs hW hS => ?_)
  have hW : hw D vwCl A (hwu w3 u (.inr (3, [.ref eq, .ref la, .ref rw, .ref bg, .int (nI on), .int (nI dn), .int (nI cx1), .int (nI cx1)]))) H := hW
  obtain ⟨w4, ew4⟩ : ∃ z, z = hwu w3 u (.inr (3, [.ref eq, .ref la, .ref rw, .ref bg, .int (nI on), .int (nI dn), .int (nI cx1), .int (nI cx1)])) := ⟨_, rfl⟩
  rw [← ew4] at hW
  have hR : ruW g w4 u eq la rw bg er on dn cx1 cx1 M b r be := by rw [ew4]; exact hR.set_u _ _ _ _
  have hFr : ruF u la rw bg er w w4 := hFr.tr (by rw [ew4]; exact ruF_u)
  refine lv_iconst (v := nI 0) hx hb dU_find_35 (by decide) ?_
  refine lv_istore (lv' := [(4, .int (nI 0)), (0, .ref u), (1, .ref nu), (2, .int (nI on)), (3, .int (nI dn))]) hx hb dU_find_36 hl (by decide) rfl (fun ls hl => ?_)
  refine lp_U_find0 hD ho hd hcn hla hf hR0 ⟨hx, hb, hml, hts, hown, hK, hk, hAA⟩ cx1 0 b w4 (by omega) hR hFr (fun x hx => absurd hx (by omega)) _ _ hW hS ls (lv_sub hl [1, 2, 0] rfl) ?_
  intro b1 w1 hR hFr hz H locs hW hS ls hl
  refine lv_iconst (v := nI 0) hx hb dU_find_61 (by decide) ?_
  refine lv_istore (lv' := [(4, .int (nI 0)), (0, .ref u), (1, .ref nu)]) hx hb dU_find_62 hl (by decide) rfl (fun ls hl => ?_)
  refine lp_U_find1 hD ho hd hcn hla hf hR0 hn0 ⟨hx, hb, hml, hts, hown, hK, hk, hAA⟩ (64 - on) 0 cx1 M b1 r w1 (by omega) hR hFr (rI_0 hMB hz) hrB (sol_0 hz) _ _ hW hS ls (lv_sub hl [1, 2, 0] rfl) ?_
  intro n mem1 M1 b1 r1 w1 hN hR hFr hI hr1 hs H locs hW hS ls hl
  refine lv_aload_n hx hb dU_find_100 rfl (lv_at hl 0 rfl) ?_
  refine kc_VV (n := 0) (As := []) (rest := []) ⟨hx, hb, hml, hown, hts⟩ (c_U_clearLedColumns l D g ad tb sa w1 H.size u eq la rw bg er on dn cx1 mem1 M1 b1 r1 be hD hR hcm hc0 hI) bw_470 bw_472 bs_14 bw_2 bw_473 (by decide +kernel) rfl rfl hR.1 ⟨by decide, by decide⟩ hW hK hk hS hAA rfl hl.1 rfl (Nat.le_of_ble_eq_true rfl) dU_find_101 ⟨by decide, by decide⟩ (fun w6 H locs hp hW hS => ?_)
  obtain ⟨M2, hF9, hR, hI2, hs2, hcl⟩ := hp
  have hFr : ruF u la rw bg er w w6 := hFr.tr hF9
  refine lv_aload_n hx hb dU_find_104 rfl (lv_at hl 0 rfl) ?_
  refine kc_VV (n := 0) (As := []) (rest := []) ⟨hx, hb, hml, hown, hts⟩ (c_U_listBegins l D g ad tb sa w6 H.size u eq la rw bg er on dn cx1 mem1 M2 b1 r1 be hD hR hcm hc0) bw_474 bw_476 bs_15 bw_2 bw_477 (by decide +kernel) rfl rfl hR.1 ⟨by decide, by decide⟩ hW hK hk hS hAA rfl hl.1 rfl (Nat.le_of_ble_eq_true rfl) dU_find_105 ⟨by decide, by decide⟩ (fun w8 H locs hp hW hS => ?_)
  obtain ⟨be1, hF9, hR, hls⟩ := hp
  have hFr : ruF u la rw bg er w w8 := hFr.tr hF9
  refine lv_aload_n hx hb dU_find_108 rfl (lv_at hl 0 rfl) ?_
  refine hw_get (v := .int (nI mem1)) (C := RU) (T := TU) (N := 8) hx hb hts inU hown hK hW hR.1 rfl 7 (by decide) (hts _ bw_41) (fun _ h9 => h9) rfl dU_find_109 ?_
  rw [← hI2.2.2] at hls
  exact W.iret (v := nI mem1) hx hb hr (fun t ht hW9 => ⟨⟨nI mem1, w8, rfl, ⟨mem1, M2, b1, r1, be1, rfl, hFr, hR, hI2.2.1, hr1, fnd_base hcn hI hs hN hI2 hs2 hcl hls⟩, by rw [ht]; exact hW, va_K.moved hW9.alike hK⟩, hS.F ht⟩) hS.2.2 dU_find_112

set_option maxHeartbeats 1000000 in
set_option maxRecDepth 100000 in
theorem c_U_numberOf (l : Launch) (D : va_G) (g : Nat → ClassId) (ad : Nat → Nat) (tb : Nat) (sa : Nat → Nat) (w : Wd) (sz : Nat) (u eq la rw bg : Nat) (er : Nat → Nat) (o dg cn mem : Nat) (M : Nat → Nat → Nat) (b : Nat → Bool) (r be : Nat → Nat) (hR : ruW g w u eq la rw bg er o dg cn mem M b r be) (k : Nat) (i9 j9 : Int32) (ho : o ≤ 4) (hd : dg ≤ 3) (hcn : cn = (o + 1) * (dg + 1)) (hMB : mB M) (hk9 : k < mem) (hmem : mem ≤ 20) (hbe : be k < cn) : MI l D g ad tb sa yU_numberOf cU_numberOf 6 (some (.int)) 1 22 0 0 w sz [.ref u, .int (nI k), .int i9, .int j9] (fun x9 w' => w' = w ∧ (∀ i j : Nat, i ≤ o → j ≤ dg → i9 = nI i → j9 = nI j → x9 = nI ((fun y => (evec b (eI M) (be k) y).toNat) (i * (dg + 1) + j))) ∧ (i9 < 0 ∨ nI o < i9 ∨ j9 < 0 ∨ nI dg < j9 → x9 = nI 0)) := by
  refine hm_MI (by decide) (Nat.le_of_ble_eq_true rfl) ?_
  intro p e s m below meth c A ls hx hb hr hml hts hown hlocks hin hout hsz hW hK hk hS hAA hl
  have hl : lv_has ls 6 [(0, .ref u), (1, .int (nI k)), (2, .int i9), (3, .int j9)] := hl
  have hcm : cn ≤ 20 := by rw [hcn]; exact we_cn ho hd
  refine lv_iload_n hx hb dU_numberOf_0 rfl (lv_at hl 2 rfl) ?_
  refine lv_if_lt (tgt := 24) hx hb dU_numberOf_1 (by decide) (fun n1 => ?_) (fun n1 => ?_)
  · refine lv_iconst (v := nI 0) hx hb dU_numberOf_24 (by decide) ?_
    exact W.iret (v := nI 0) hx hb hr (fun t ht hW9 => ⟨⟨nI 0, w, rfl, ⟨rfl, ⟨fun i8 j8 hi8 hj8 e1 e2 => (nof_bad (by omega) (by omega) (by first | exact Or.inl n1 | exact Or.inr (Or.inl n2) | exact Or.inr (Or.inr (Or.inl n3)) | exact Or.inr (Or.inr (Or.inr (Int32.not_le.mp n4)))) hi8 hj8 e1 e2).elim, fun _ => rfl⟩⟩, by rw [ht]; exact hW, va_K.moved hW9.alike hK⟩, hS.F ht⟩) hS.2.2 dU_numberOf_25
  · refine lv_iload_n hx hb dU_numberOf_4 rfl (lv_at hl 2 rfl) ?_
    refine lv_aload_n hx hb dU_numberOf_5 rfl (lv_at hl 0 rfl) ?_
    refine hw_get (v := .int (nI o)) (C := RU) (T := TU) (N := 8) hx hb hts inU hown hK hW hR.1 rfl 4 (by decide) (hts _ bw_38) (fun _ h9 => h9) rfl dU_numberOf_6 ?_
    refine lv_icmp_gt (tgt := 24) hx hb dU_numberOf_9 (by decide) (fun n2 => ?_) (fun n2 => ?_)
    · refine lv_iconst (v := nI 0) hx hb dU_numberOf_24 (by decide) ?_
      exact W.iret (v := nI 0) hx hb hr (fun t ht hW9 => ⟨⟨nI 0, w, rfl, ⟨rfl, ⟨fun i8 j8 hi8 hj8 e1 e2 => (nof_bad (by omega) (by omega) (by first | exact Or.inl n1 | exact Or.inr (Or.inl n2) | exact Or.inr (Or.inr (Or.inl n3)) | exact Or.inr (Or.inr (Or.inr (Int32.not_le.mp n4)))) hi8 hj8 e1 e2).elim, fun _ => rfl⟩⟩, by rw [ht]; exact hW, va_K.moved hW9.alike hK⟩, hS.F ht⟩) hS.2.2 dU_numberOf_25
    · obtain ⟨i, ei, hi⟩ := i_in (by omega) n1 n2
      rw [ei] at hl
      refine lv_iload_n hx hb dU_numberOf_12 rfl (lv_at hl 3 rfl) ?_
      refine lv_if_lt (tgt := 24) hx hb dU_numberOf_13 (by decide) (fun n3 => ?_) (fun n3 => ?_)
      · refine lv_iconst (v := nI 0) hx hb dU_numberOf_24 (by decide) ?_
        exact W.iret (v := nI 0) hx hb hr (fun t ht hW9 => ⟨⟨nI 0, w, rfl, ⟨rfl, ⟨fun i8 j8 hi8 hj8 e1 e2 => (nof_bad (by omega) (by omega) (by first | exact Or.inl n1 | exact Or.inr (Or.inl n2) | exact Or.inr (Or.inr (Or.inl n3)) | exact Or.inr (Or.inr (Or.inr (Int32.not_le.mp n4)))) hi8 hj8 e1 e2).elim, fun _ => rfl⟩⟩, by rw [ht]; exact hW, va_K.moved hW9.alike hK⟩, hS.F ht⟩) hS.2.2 dU_numberOf_25
      · refine lv_iload_n hx hb dU_numberOf_16 rfl (lv_at hl 3 rfl) ?_
        refine lv_aload_n hx hb dU_numberOf_17 rfl (lv_at hl 0 rfl) ?_
        refine hw_get (v := .int (nI dg)) (C := RU) (T := TU) (N := 8) hx hb hts inU hown hK hW hR.1 rfl 5 (by decide) (hts _ bw_39) (fun _ h9 => h9) rfl dU_numberOf_18 ?_
        refine lv_icmp_le (tgt := 26) hx hb dU_numberOf_21 (by decide) (fun n4 => ?_) (fun n4 => ?_)
        · obtain ⟨j, ej, hj⟩ := i_in (n := dg) (by omega) n3 (Int32.not_lt.mpr n4)
          rw [ej] at hl
          have hix := we_idx hi hj
          rw [← hcn] at hix
          have hMx := hMB (i * (dg + 1) + j) (be k) (by omega) (by omega)
          have hbx := bn_lt b (i * (dg + 1) + j)
          refine lv_iload_n hx hb dU_numberOf_26 rfl (lv_at hl 2 rfl) ?_
          refine lv_aload_n hx hb dU_numberOf_27 rfl (lv_at hl 0 rfl) ?_
          refine hw_get (v := .int (nI dg)) (C := RU) (T := TU) (N := 8) hx hb hts inU hown hK hW hR.1 rfl 5 (by decide) (hts _ bw_39) (fun _ h9 => h9) rfl dU_numberOf_28 ?_
          refine lv_iconst (v := nI 1) hx hb dU_numberOf_31 (by decide) ?_
          refine lv_iadd hx hb dU_numberOf_32 ?_
          refine tp_i (show (nI dg) + (nI 1) = nI (dg + 1) from nI_add _ _) ?_
          refine lv_imul hx hb dU_numberOf_33 ?_
          refine tp_i (show (nI i) * (nI (dg + 1)) = nI (i * (dg + 1)) from pk_mul _ _) ?_
          refine lv_iload_n hx hb dU_numberOf_34 rfl (lv_at hl 3 rfl) ?_
          refine lv_iadd hx hb dU_numberOf_35 ?_
          refine tp_i (show (nI (i * (dg + 1))) + (nI j) = nI ((i * (dg + 1)) + j) from nI_add _ _) ?_
          refine lv_istore (lv' := [(4, .int (nI ((i * (dg + 1)) + j))), (0, .ref u), (1, .int (nI k)), (2, .int (nI i)), (3, .int (nI j))]) hx hb dU_numberOf_36 hl (by decide) rfl (fun ls hl => ?_)
          refine lv_aload_n hx hb dU_numberOf_38 rfl (lv_at hl 1 rfl) ?_
          refine hw_get (v := .ref bg) (C := RU) (T := TU) (N := 8) hx hb hts inU hown hK hW hR.1 rfl 3 (by decide) (hts _ bw_37) (fun _ h9 => h9) rfl dU_numberOf_39 ?_
          refine lv_iload_n hx hb dU_numberOf_42 rfl (lv_at hl 2 rfl) ?_
          refine hw_iald hx hb hK hW 0 hR.2.2.2.2.1 rfl (vp_in_nI (show k < 20 by omega) (by omega)) dU_numberOf_43 ?_
          refine tp_i (show (ni be) (nI k).toNatClampNeg = nI (be k) from by rw [nI_clamp (by omega)]; rfl) ?_
          refine lv_istore (lv' := [(5, .int (nI (be k))), (4, .int (nI ((i * (dg + 1)) + j))), (0, .ref u), (1, .int (nI k)), (2, .int (nI i)), (3, .int (nI j))]) hx hb dU_numberOf_44 hl (by decide) rfl (fun ls hl => ?_)
          refine lv_iload hx hb dU_numberOf_46 (lv_at hl 1 rfl) ?_
          refine lv_iload hx hb dU_numberOf_48 (lv_at hl 0 rfl) ?_
          refine nw_icmp_ne (tgt := 55) hx hb (by omega) (by omega) dU_numberOf_50 (by decide) (fun d1 => ?_) (fun d1 => ?_)
          · refine lv_iload hx hb dU_numberOf_55 (lv_at hl 1 rfl) ?_
            refine lv_iload hx hb dU_numberOf_57 (lv_at hl 0 rfl) ?_
            refine nw_icmp_ge (tgt := 90) hx hb (by omega) (by omega) dU_numberOf_59 (by decide) (fun d2 => ?_) (fun d2 => ?_)
            · refine lv_iconst (v := nI 0) hx hb dU_numberOf_90 (by decide) ?_
              exact W.iret (v := nI 0) hx hb hr (fun t ht hW9 => ⟨⟨nI 0, w, rfl, ⟨rfl, nof_ok (F := fun y => (evec b (eI M) (be k) y).toNat) (by omega) (by omega) ei ej hi hj (by rw [ev_0 d1 (by first | exact Or.inl d2 | exact Or.inr (bn_f d3))])⟩, by rw [ht]; exact hW, va_K.moved hW9.alike hK⟩, hS.F ht⟩) hS.2.2 dU_numberOf_91
            · refine lv_aload_n hx hb dU_numberOf_62 rfl (lv_at hl 2 rfl) ?_
              refine hw_get (v := .ref la) (C := RU) (T := TU) (N := 8) hx hb hts inU hown hK hW hR.1 rfl 1 (by decide) (hts _ bw_35) (fun _ h9 => h9) rfl dU_numberOf_63 ?_
              refine lv_iload hx hb dU_numberOf_66 (lv_at hl 1 rfl) ?_
              refine hw_zald hx hb hK hW 1 hR.2.2.1 rfl (vp_in_nI (show (i * (dg + 1)) + j < 20 by omega) (by omega)) dU_numberOf_68 ?_
              refine tp_i (show (ni (bn b)) (nI ((i * (dg + 1)) + j)).toNatClampNeg = nI ((bn b) ((i * (dg + 1)) + j)) from by rw [nI_clamp (by omega)]; rfl) ?_
              refine nw_if_eq (tgt := 90) hx hb (by omega) dU_numberOf_69 (by decide) (fun d3 => ?_) (fun d3 => ?_)
              · refine lv_iconst (v := nI 0) hx hb dU_numberOf_90 (by decide) ?_
                exact W.iret (v := nI 0) hx hb hr (fun t ht hW9 => ⟨⟨nI 0, w, rfl, ⟨rfl, nof_ok (F := fun y => (evec b (eI M) (be k) y).toNat) (by omega) (by omega) ei ej hi hj (by rw [ev_0 d1 (by first | exact Or.inl d2 | exact Or.inr (bn_f d3))])⟩, by rw [ht]; exact hW, va_K.moved hW9.alike hK⟩, hS.F ht⟩) hS.2.2 dU_numberOf_91
              · refine lv_aload_n hx hb dU_numberOf_72 rfl (lv_at hl 2 rfl) ?_
                refine hw_get (v := .ref eq) (C := RU) (T := TU) (N := 8) hx hb hts inU hown hK hW hR.1 rfl 0 (by decide) (hts _ bw_34) (fun _ h9 => h9) rfl dU_numberOf_73 ?_
                refine lv_iload hx hb dU_numberOf_76 (lv_at hl 1 rfl) ?_
                refine hw_aldA hx hb hK hW 4 hR.2.1 rfl (vp_in_nI (show (i * (dg + 1)) + j < 20 by omega) (by omega)) dU_numberOf_78 ?_
                refine tp_v (show (va_rf ((fun i => if i < 20 then some (er i) else none) (nI ((i * (dg + 1)) + j)).toNatClampNeg) : Value) = .ref (er ((i * (dg + 1)) + j)) from by rw [nI_clamp (by omega)]; exact by show va_rf (if (i * (dg + 1)) + j < 20 then some (er ((i * (dg + 1)) + j)) else none) = _; rw [if_pos (by omega)]; rfl) ?_
                refine lv_iload hx hb dU_numberOf_79 (lv_at hl 0 rfl) ?_
                refine hw_iald hx hb hK hW 0 (hR.2.2.2.2.2 ((i * (dg + 1)) + j) (by omega)) rfl (vp_in_nI (show be k < 20 by omega) (by omega)) dU_numberOf_81 ?_
                refine tp_i (show (ni (M ((i * (dg + 1)) + j))) (nI (be k)).toNatClampNeg = nI ((M ((i * (dg + 1)) + j)) (be k)) from by rw [nI_clamp (by omega)]; rfl) ?_
                refine lv_ineg hx hb dU_numberOf_82 ?_
                refine lv_i2l hx hb dU_numberOf_83 rfl ?_
                refine kc_NSI (n := 1) (As := [.long ((-(nI ((M ((i * (dg + 1)) + j)) (be k)))).toInt64)]) (rest := []) ⟨hx, hb, hml, hown, hts⟩ (c_X_reduce l D g ad tb sa w s.heap.size ((-(nI ((M ((i * (dg + 1)) + j)) (be k)))).toInt64)) (hk.1 kw_469 (by simp [twL])) bw_254 bw_1 bw_255 (by decide +kernel) ⟨by decide, by decide⟩ hW hK hk hS hAA rfl hl.1 rfl (Nat.le_of_ble_eq_true rfl) dU_numberOf_84 ⟨by decide, by decide⟩ (fun r1 w2 H locs hp hW hS => ?_)
                obtain ⟨hw9, hr9⟩ := hp
                rw [hw9] at hW
                subst hr9
                refine tp_i (show nI (rd ((-(nI ((M ((i * (dg + 1)) + j)) (be k)))).toInt64).toInt) = nI (rd (-(M (i * (dg + 1) + j) (be k) : Int))) from by rw [neg_i2l (by omega)]) ?_
                refine lv_goto (tgt := 91) hx hb dU_numberOf_87 (by decide) ?_
                exact W.iret (v := nI (rd (-(M (i * (dg + 1) + j) (be k) : Int)))) hx hb hr (fun t ht hW9 => ⟨⟨nI (rd (-(M (i * (dg + 1) + j) (be k) : Int))), w, rfl, ⟨rfl, nof_ok (F := fun y => (evec b (eI M) (be k) y).toNat) (by omega) (by omega) ei ej hi hj (by rw [ev_lt (by omega) (bn_t d3)])⟩, by rw [ht]; exact hW, va_K.moved hW9.alike hK⟩, hS.F ht⟩) hS.2.2 dU_numberOf_91
          · refine lv_iconst (v := nI 1) hx hb dU_numberOf_53 (by decide) ?_
            exact W.iret (v := nI 1) hx hb hr (fun t ht hW9 => ⟨⟨nI 1, w, rfl, ⟨rfl, nof_ok (F := fun y => (evec b (eI M) (be k) y).toNat) (by omega) (by omega) ei ej hi hj (by rw [ev_eq d1])⟩, by rw [ht]; exact hW, va_K.moved hW9.alike hK⟩, hS.F ht⟩) hS.2.2 dU_numberOf_54
        · refine lv_iconst (v := nI 0) hx hb dU_numberOf_24 (by decide) ?_
          exact W.iret (v := nI 0) hx hb hr (fun t ht hW9 => ⟨⟨nI 0, w, rfl, ⟨rfl, ⟨fun i8 j8 hi8 hj8 e1 e2 => (nof_bad (by omega) (by omega) (by first | exact Or.inl n1 | exact Or.inr (Or.inl n2) | exact Or.inr (Or.inr (Or.inl n3)) | exact Or.inr (Or.inr (Or.inr (Int32.not_le.mp n4)))) hi8 hj8 e1 e2).elim, fun _ => rfl⟩⟩, by rw [ht]; exact hW, va_K.moved hW9.alike hK⟩, hS.F ht⟩) hS.2.2 dU_numberOf_25
