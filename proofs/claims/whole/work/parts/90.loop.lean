set_option maxHeartbeats 1000000 in
set_option maxRecDepth 100000 in
theorem cs_count {p : Program} {l : Launch} {e : Env} {s : State} {m : MethodId} {args : Array Value} {below : List Frame} {meth : Method} {c : Code} {Q : State → Prop} {D : va_G} {g : Nat → ClassId} {ad : Nat → Nat} {tb : Nat} {sa : Nat → Nat} {A : Nat → Prop} {b L : Nat} {xs : Nat → Int32} (hSc : va_X b L xs s s.heap) (hbl : b < s.heap.size) (hbA : ¬ A b) (hL : L ≤ 3072) {ro : Nat → Nat} {x mo ou i ce sl : Nat} {σ : Nat → SD} {cnt : Nat} {γ : GU} {w : Wd} {H : Heap} {locs : List Loc} {ls : Array Slot} (hl0 : l.stackTraces = false) (hi6 : i + 6 ≤ L) (hce : ce + 5 ≤ 601024) (hsl : sl + 160 ≤ 7293033) (hj : jI g ad w ro x mo ou σ cnt γ) (C0 : cx p s m args c A cL_law 7 RL D g ad tb sa) (hW : hw D vwCl A w H) (hS : va_S A s.heap H locs) (hl : lv_has ls 7 [(0, .ref b), (1, .ref x), (2, .ref mo), (3, .ref ou), (4, .int (nI i))]) (kk : ∀ (σ' : Nat → SD) (cnt' : Nat) (γ' : GU) (ro' : Nat → Nat) (w1 : Wd), jI g ad w1 ro' x mo ou σ' cnt' γ' → ∀ (H : Heap) (locs : List Loc), hw D vwCl A w1 H → va_S A s.heap H locs → ∀ ls : Array Slot, lv_has ls 7 [(0, .ref b), (1, .ref x), (2, .ref mo), (3, .ref ou), (4, .int (nI i))] → W p l e (rmL 12 444 601024 7293033) s m args below meth c H locs (ce + 5) (sl + 160) Q (F0 m 1394 ls [])) : W p l e (rmL 12 444 601024 7293033) s m args below meth c H locs ce sl Q (F0 m 1381 ls []) := by
  obtain ⟨hx, hb, hml, hts, hown, hK, hk, hAA⟩ := C0
  obtain ⟨fs, hob⟩ := hj.1.ob
  obtain ⟨cd, ml, ki, on, tw, od, fa, st, rs, me, fo, fd, ba, ta, by9, nd, hR, hMo, hS9, b1, b2, b3, hg⟩ := hj.2.1
  have h40 := hS9.1
  refine lv_aload_n hx hb dL_law_1381 rfl (lv_at hl 1 rfl) ?_
  refine kc_VI (n := 0) (As := []) (rest := []) ⟨hx, hb, hml, hown, hts⟩ (c_X_count l D g ad tb sa w H.size ro x σ cnt γ hj.1) bw_75 bw_76 bw_77 bw_1 bw_78 (by decide +kernel) rfl rfl hob ⟨by decide, by decide⟩ hW hK hk hS hAA rfl hl.1 rfl (Nat.le_of_ble_eq_true rfl) dL_law_1382 ⟨by show _ ≤ 601024; omega, by show _ ≤ 7293033; omega⟩ (fun r1 w1 H locs hp hW hS => ?_)
  obtain ⟨hr9, hw9⟩ := hp
  rw [hw9] at hW
  subst hr9
  refine lv_aload_n hx hb dL_law_1385 rfl (lv_at hl 2 rfl) ?_
  refine kc_VI (n := 0) (As := []) (rest := [.int (nI cnt)]) ⟨hx, hb, hml, hown, hts⟩ (c_M_count l D g ad tb sa w H.size mo ml cd cnt ki on tw od fa st rs me fo fd ba ta by9 nd hR.D hMo) bw_673 bw_674 bw_675 bw_3 bw_676 (by decide +kernel) rfl rfl hMo.1 ⟨by decide, by decide⟩ hW hK hk hS hAA rfl hl.1 rfl (Nat.le_of_ble_eq_true rfl) dL_law_1386 ⟨by show _ ≤ 601024; omega, by show _ ≤ 7293033; omega⟩ (fun r1 w2 H locs hp hW hS => ?_)
  obtain ⟨hF, hMo2, hr9⟩ := hp
  subst hr9
  obtain ⟨hj2, -, -⟩ := hj.mid.fin hR hF hMo2 hS9 b1 b2 b3 hg
  refine nw_icmp_eq (tgt := 1394) hx hb (by omega) (by omega) dL_law_1389 (by decide) (fun c1 => ?_) (fun c1 => absurd rfl c1)
  refine W.widen (k := ce + 5) (n := sl + 160) (by omega) (by omega) ?_
  exact kk σ cnt γ ro w2 hj2 H locs hW hS ls (lv_sub hl [0, 1, 2, 3, 4] rfl)

theorem i_sub6 {L : Nat} (h : L < 2 ^ 20) : (nI L - nI 6).toInt = (L : Int) - 6 := by
  rw [Int32.toInt_sub, nI_toInt (by omega), nI_toInt (by omega)]
  show Int.bmod _ (2 ^ 32) = _
  rw [Int.bmod_def]
  split <;> omega
theorem i_gt6 {i L : Nat} {u v : Int32} (hu : u.toInt = (L : Int) - 6) (hv : v.toInt = (i : Int)) (h : L < i + 6) : u < v := by
  rw [Int32.lt_iff_toInt_lt]
  omega
theorem i_le6 {i L : Nat} {u v : Int32} (hu : u.toInt = (L : Int) - 6) (hv : v.toInt = (i : Int)) (h : ¬ u < v) : i + 6 ≤ L := by
  rw [Int32.lt_iff_toInt_lt] at h
  omega
set_option maxHeartbeats 1000000 in
set_option maxRecDepth 100000 in
theorem lp_law {p : Program} {l : Launch} {e : Env} {s : State} {m : MethodId} {args : Array Value} {below : List Frame} {meth : Method} {c : Code} {Q : State → Prop} {D : va_G} {g : Nat → ClassId} {ad : Nat → Nat} {tb : Nat} {sa : Nat → Nat} {A : Nat → Prop} {b L : Nat} {xs : Nat → Int32} (hSc : va_X b L xs s s.heap) (hbl : b < s.heap.size) (hbA : ¬ A b) (hL : L ≤ 3072) (hl0 : l.stackTraces = false) {x mo ou : Nat} (C0 : cx p s m args c A cL_law 7 RL D g ad tb sa) (kx : ∀ (ce sl : Nat) (w1 : Wd), ce ≤ 601024 → sl ≤ 7293033 → ∀ (H : Heap) (locs : List Loc), hw D vwCl A w1 H → va_S A s.heap H locs → ∀ ls : Array Slot, lv_has ls 7 [(0, .ref b)] → W p l e (rmL 12 444 601024 7293033) s m args below meth c H locs ce sl Q (F0 m 1400 ls [])) : ∀ (e9 i ce sl : Nat) (ro : Nat → Nat) (σ : Nat → SD) (cnt : Nat) (γ : GU) (w : Wd), L < i + 6 * e9 + 6 → i ≤ L + 6 → ce + 5 * e9 ≤ 601024 → sl + 160 * e9 ≤ 7293033 → jI g ad w ro x mo ou σ cnt γ → ∀ (H : Heap) (locs : List Loc), hw D vwCl A w H → va_S A s.heap H locs → ∀ ls : Array Slot, lv_has ls 7 [(0, .ref b), (1, .ref x), (2, .ref mo), (3, .ref ou), (4, .int (nI i))] → W p l e (rmL 12 444 601024 7293033) s m args below meth c H locs ce sl Q (F0 m 23 ls []) := by
  obtain ⟨hx, hb, hml, hts, hown, hK, hk, hAA⟩ := id C0
  intro e9
  induction e9 with
  | zero =>
    intro i ce sl ro σ cnt γ w h1 h2 h3 h4 hj H locs hW hS ls hl
    have hcmp : (nI L - nI 6).toInt = (L : Int) - 6 := i_sub6 (by omega)
    have hii : (nI i).toInt = (i : Int) := nI_toInt (by omega)
    refine lv_iload hx hb dL_law_23 (lv_at hl 4 rfl) ?_
    refine lv_aload_n hx hb dL_law_25 rfl (lv_at hl 0 rfl) ?_
    refine va_slen hx hb hSc hbl hbA hS dL_law_26 ?_
    refine tp_i (show Int32.ofNat L = nI L from rfl) ?_
    refine lv_bipush (v := nI 6) hx hb dL_law_27 (by decide) ?_
    refine lv_isub hx hb dL_law_29 ?_
    refine lv_icmp_gt (tgt := 1400) hx hb dL_law_30 (by decide) (fun c1 => ?_) (fun c1 => absurd (i_gt6 hcmp hii (show L < i + 6 by omega)) c1)
    exact kx ce sl w (by omega) (by omega) H locs hW hS ls (lv_sub hl [0] rfl)
  | succ e9 ih =>
    intro i ce sl ro σ cnt γ w h1 h2 h3 h4 hj H locs hW hS ls hl
    have hcmp : (nI L - nI 6).toInt = (L : Int) - 6 := i_sub6 (by omega)
    have hii : (nI i).toInt = (i : Int) := nI_toInt (by omega)
    refine lv_iload hx hb dL_law_23 (lv_at hl 4 rfl) ?_
    refine lv_aload_n hx hb dL_law_25 rfl (lv_at hl 0 rfl) ?_
    refine va_slen hx hb hSc hbl hbA hS dL_law_26 ?_
    refine tp_i (show Int32.ofNat L = nI L from rfl) ?_
    refine lv_bipush (v := nI 6) hx hb dL_law_27 (by decide) ?_
    refine lv_isub hx hb dL_law_29 ?_
    refine lv_icmp_gt (tgt := 1400) hx hb dL_law_30 (by decide) (fun c1 => ?_) (fun c1 => ?_)
    · exact kx ce sl w (by omega) (by omega) H locs hW hS ls (lv_sub hl [0] rfl)
    · have hi6 : i + 6 ≤ L := i_le6 hcmp hii c1
      refine lv_aload_n hx hb dL_law_33 rfl (lv_at hl 0 rfl) ?_
      refine lv_iload hx hb dL_law_34 (lv_at hl 4 rfl) ?_
      refine va_sld hx hb hSc hbl hbA hS (vp_in_nI (show i < L by omega) (by omega)) dL_law_36 ?_
      refine lv_bipush (v := nI 31) hx hb dL_law_37 (by decide) ?_
      refine lv_iand hx hb dL_law_39 ?_
      generalize (xs (nI i).toNatClampNeg) &&& (nI 31) = v9
      have back : ∀ (σ' : Nat → SD) (cnt' : Nat) (γ' : GU) (ro' : Nat → Nat) (w1 : Wd), jI g ad w1 ro' x mo ou σ' cnt' γ' → ∀ (H : Heap) (locs : List Loc), hw D vwCl A w1 H → va_S A s.heap H locs → ∀ ls : Array Slot, lv_has ls 7 [(0, .ref b), (1, .ref x), (2, .ref mo), (3, .ref ou), (4, .int (nI i))] → W p l e (rmL 12 444 601024 7293033) s m args below meth c H locs (ce + 5) (sl + 160) Q (F0 m 1394 ls []) := by
        intro σ' cnt' γ' ro' w1 hj1 H locs hW hS ls hl
        refine lv_iinc (v := nI (i + 6)) (lv' := [(4, .int (nI (i + 6))), (0, .ref b), (1, .ref x), (2, .ref mo), (3, .ref ou)]) hx hb dL_law_1394 hl (k := 4) rfl (nI_add _ _) (by decide) rfl (fun ls hl => ?_)
        refine lv_goto (tgt := 23) hx hb dL_law_1397 (by decide) ?_
        exact ih (i + 6) (ce + 5) (sl + 160) ro' σ' cnt' γ' w1 (by omega) (by omega) (by omega) (by omega) hj1 H locs hW hS ls (lv_sub hl [1, 2, 3, 4, 0] rfl)
      by_cases z0 : v9.toInt = 0
      · refine lv_tableIn (off := 88) (tgt := 128) hx hb dL_law_40 (by rw [z0]; decide) (by rw [z0]; decide) (by rw [z0]; rfl) (by decide) ?_
        exact cs_function hSc hbl hbA hL hl0 hi6 (by omega) (by omega) hj C0 hW hS hl back
      by_cases z1 : v9.toInt = 1
      · refine lv_tableIn (off := 144) (tgt := 184) hx hb dL_law_40 (by rw [z1]; decide) (by rw [z1]; decide) (by rw [z1]; rfl) (by decide) ?_
        exact cs_factor hSc hbl hbA hL hl0 hi6 (by omega) (by omega) hj C0 hW hS hl back
      by_cases z2 : v9.toInt = 2
      · refine lv_tableIn (off := 275) (tgt := 315) hx hb dL_law_40 (by rw [z2]; decide) (by rw [z2]; decide) (by rw [z2]; rfl) (by decide) ?_
        exact cs_start hSc hbl hbA hL hl0 hi6 (by omega) (by omega) hj C0 hW hS hl back
      by_cases z3 : v9.toInt = 3
      · refine lv_tableIn (off := 394) (tgt := 434) hx hb dL_law_40 (by rw [z3]; decide) (by rw [z3]; decide) (by rw [z3]; rfl) (by decide) ?_
        exact cs_add hSc hbl hbA hL hl0 hi6 (by omega) (by omega) hj C0 hW hS hl back
      by_cases z4 : v9.toInt = 4
      · refine lv_tableIn (off := 462) (tgt := 502) hx hb dL_law_40 (by rw [z4]; decide) (by rw [z4]; decide) (by rw [z4]; rfl) (by decide) ?_
        exact cs_times hSc hbl hbA hL hl0 hi6 (by omega) (by omega) hj C0 hW hS hl back
      by_cases z5 : v9.toInt = 5
      · refine lv_tableIn (off := 530) (tgt := 570) hx hb dL_law_40 (by rw [z5]; decide) (by rw [z5]; decide) (by rw [z5]; rfl) (by decide) ?_
        exact cs_convolve hSc hbl hbA hL hl0 hi6 (by omega) (by omega) hj C0 hW hS hl back
      by_cases z6 : v9.toInt = 6
      · refine lv_tableIn (off := 598) (tgt := 638) hx hb dL_law_40 (by rw [z6]; decide) (by rw [z6]; decide) (by rw [z6]; rfl) (by decide) ?_
        exact cs_weave hSc hbl hbA hL hl0 hi6 (by omega) (by omega) hj C0 hW hS hl back
      by_cases z7 : v9.toInt = 7
      · refine lv_tableIn (off := 666) (tgt := 706) hx hb dL_law_40 (by rw [z7]; decide) (by rw [z7]; decide) (by rw [z7]; rfl) (by decide) ?_
        exact cs_shift hSc hbl hbA hL hl0 hi6 (by omega) (by omega) hj C0 hW hS hl back
      by_cases z8 : v9.toInt = 8
      · refine lv_tableIn (off := 734) (tgt := 774) hx hb dL_law_40 (by rw [z8]; decide) (by rw [z8]; decide) (by rw [z8]; rfl) (by decide) ?_
        exact cs_sums hSc hbl hbA hL hl0 hi6 (by omega) (by omega) hj C0 hW hS hl back
      by_cases z9 : v9.toInt = 9
      · refine lv_tableIn (off := 790) (tgt := 830) hx hb dL_law_40 (by rw [z9]; decide) (by rw [z9]; decide) (by rw [z9]; rfl) (by decide) ?_
        exact cs_derive hSc hbl hbA hL hl0 hi6 (by omega) (by omega) hj C0 hW hS hl back
      by_cases z10 : v9.toInt = 10
      · refine lv_tableIn (off := 846) (tgt := 886) hx hb dL_law_40 (by rw [z10]; decide) (by rw [z10]; decide) (by rw [z10]; rfl) (by decide) ?_
        exact cs_value hSc hbl hbA hL hl0 hi6 (by omega) (by omega) hj C0 hW hS hl back
      by_cases z11 : v9.toInt = 11
      · refine lv_tableIn (off := 914) (tgt := 954) hx hb dL_law_40 (by rw [z11]; decide) (by rw [z11]; decide) (by rw [z11]; rfl) (by decide) ?_
        exact cs_singular hSc hbl hbA hL hl0 hi6 (by omega) (by omega) hj C0 hW hS hl back
      by_cases z12 : v9.toInt = 12
      · refine lv_tableIn (off := 970) (tgt := 1010) hx hb dL_law_40 (by rw [z12]; decide) (by rw [z12]; decide) (by rw [z12]; rfl) (by decide) ?_
        exact cs_guess hSc hbl hbA hL hl0 hi6 (by omega) (by omega) hj C0 hW hS hl back
      by_cases z13 : v9.toInt = 13
      · refine lv_tableIn (off := 1050) (tgt := 1090) hx hb dL_law_40 (by rw [z13]; decide) (by rw [z13]; decide) (by rw [z13]; rfl) (by decide) ?_
        exact cs_rule hSc hbl hbA hL hl0 hi6 (by omega) (by omega) hj C0 hW hS hl back
      by_cases z14 : v9.toInt = 14
      · refine lv_tableIn (off := 1130) (tgt := 1170) hx hb dL_law_40 (by rw [z14]; decide) (by rw [z14]; decide) (by rw [z14]; rfl) (by decide) ?_
        exact cs_least hSc hbl hbA hL hl0 hi6 (by omega) (by omega) hj C0 hW hS hl back
      by_cases z15 : v9.toInt = 15
      · refine lv_tableIn (off := 1198) (tgt := 1238) hx hb dL_law_40 (by rw [z15]; decide) (by rw [z15]; decide) (by rw [z15]; rfl) (by decide) ?_
        exact cs_differ hSc hbl hbA hL hl0 hi6 (by omega) (by omega) hj C0 hW hS hl back
      by_cases z16 : v9.toInt = 16
      · refine lv_tableIn (off := 1266) (tgt := 1306) hx hb dL_law_40 (by rw [z16]; decide) (by rw [z16]; decide) (by rw [z16]; rfl) (by decide) ?_
        exact cs_hangs hSc hbl hbA hL hl0 hi6 (by omega) (by omega) hj C0 hW hS hl back
      by_cases z17 : v9.toInt = 17
      · refine lv_tableIn (off := 1341) (tgt := 1381) hx hb dL_law_40 (by rw [z17]; decide) (by rw [z17]; decide) (by rw [z17]; rfl) (by decide) ?_
        exact cs_count hSc hbl hbA hL hl0 hi6 (by omega) (by omega) hj C0 hW hS hl back
      refine lv_tableOut (tgt := 1394) hx hb dL_law_40 (by omega) (by decide) ?_
      refine W.widen (k := ce + 5) (n := sl + 160) (by omega) (by omega) ?_
      exact back σ cnt γ ro w hj H locs hW hS ls hl
