set_option maxHeartbeats 1000000 in
set_option maxRecDepth 100000 in
theorem cs_derive {p : Program} {l : Launch} {e : Env} {s : State} {m : MethodId} {args : Array Value} {below : List Frame} {meth : Method} {c : Code} {Q : State → Prop} {D : va_G} {g : Nat → ClassId} {ad : Nat → Nat} {tb : Nat} {sa : Nat → Nat} {A : Nat → Prop} {b L : Nat} {xs : Nat → Int32} (hSc : va_X b L xs s s.heap) (hbl : b < s.heap.size) (hbA : ¬ A b) (hL : L ≤ 3072) {ro : Nat → Nat} {x mo ou i ce sl : Nat} {σ : Nat → SD} {cnt : Nat} {γ : GU} {w : Wd} {H : Heap} {locs : List Loc} {ls : Array Slot} (hl0 : l.stackTraces = false) (hi6 : i + 6 ≤ L) (hce : ce + 5 ≤ 601024) (hsl : sl + 160 ≤ 7293033) (hj : jI g ad w ro x mo ou σ cnt γ) (C0 : cx p s m args c A cL_law 7 RL D g ad tb sa) (hW : hw D vwCl A w H) (hS : va_S A s.heap H locs) (hl : lv_has ls 7 [(0, .ref b), (1, .ref x), (2, .ref mo), (3, .ref ou), (4, .int (nI i))]) (kk : ∀ (σ' : Nat → SD) (cnt' : Nat) (γ' : GU) (ro' : Nat → Nat) (w1 : Wd), jI g ad w1 ro' x mo ou σ' cnt' γ' → ∀ (H : Heap) (locs : List Loc), hw D vwCl A w1 H → va_S A s.heap H locs → ∀ ls : Array Slot, lv_has ls 7 [(0, .ref b), (1, .ref x), (2, .ref mo), (3, .ref ou), (4, .int (nI i))] → W p l e (rmL 12 444 601024 7293033) s m args below meth c H locs (ce + 5) (sl + 160) Q (F0 m 1394 ls [])) : W p l e (rmL 12 444 601024 7293033) s m args below meth c H locs ce sl Q (F0 m 830 ls []) := by
  obtain ⟨hx, hb, hml, hts, hown, hK, hk, hAA⟩ := C0
  obtain ⟨fs, hob⟩ := hj.1.ob
  obtain ⟨-, -, ⟨foO, hOu⟩, hRo⟩ := id hj
  refine lv_aload_n hx hb dL_law_830 rfl (lv_at hl 1 rfl) ?_
  refine lv_aload_n hx hb dL_law_831 rfl (lv_at hl 0 rfl) ?_
  refine lv_iload hx hb dL_law_832 (lv_at hl 4 rfl) ?_
  refine lv_iconst (v := nI 1) hx hb dL_law_834 (by decide) ?_
  refine lv_iadd hx hb dL_law_835 ?_
  refine tp_i (show (nI i) + (nI 1) = nI (i + 1) from nI_add _ _) ?_
  refine va_sld hx hb hSc hbl hbA hS (vp_in_nI (show i + 1 < L by omega) (by omega)) dL_law_836 ?_
  refine lv_aload_n hx hb dL_law_837 rfl (lv_at hl 3 rfl) ?_
  refine kc_LI (n := 3) (As := [.ref x, .int (xs (nI (i + 1)).toNatClampNeg), .ref ou]) (rest := []) ⟨hx, hb, hml, hown, hts⟩ (c_L_derive l D g ad tb sa w H.size _ _ x ou fs foO (xs (nI (i + 1)).toNatClampNeg) (c_X_derive l D g ad tb sa w H.size hl0 ro x σ cnt γ hj.1 (xs (nI (i + 1)).toNatClampNeg)) hob (fun x9 w9 h9 => by obtain ⟨f, h, ro', hf, hh, ef, eh, h4, ex, hI, hkp⟩ := h9; exact (hkp _ _ hOu (by omega)).1) (fun E w9 h9 => h9.2.elim (fun q => Or.inl q.1) (fun q => Or.inr q.1))) bw_363 bw_364 bw_0 bw_365 (by decide +kernel) ⟨by decide, by decide⟩ hW hK hk hS hAA rfl hl.1 rfl (Nat.le_of_ble_eq_true rfl) dL_law_838 ⟨by show _ ≤ 601024; omega, by show _ ≤ 7293033; omega⟩ (fun r w1 H locs hp hW hS => ?_)
  obtain ⟨k, σ1, cnt1, γ1, ro1, fo1, rfl, hk4, hJ, hou, hfin⟩ := j_derive (f9 := (xs (nI (i + 1)).toNatClampNeg)) hj hp
  obtain ⟨-, ⟨cd, ml, ki, on, tw, od, fa, st, rs, me, fo, fd, ba, ta, by9, nd, hR, hMo, hS9, b1, b2, b3, hg⟩, -⟩ := id hJ
  have h40 := hS9.1
  refine lv_istore (lv' := [(5, .int (nI k)), (0, .ref b), (1, .ref x), (2, .ref mo), (3, .ref ou), (4, .int (nI i))]) hx hb dL_law_841 hl (by decide) rfl (fun ls hl => ?_)
  refine lv_aload_n hx hb dL_law_843 rfl (lv_at hl 3 rfl) ?_
  refine lv_aload_n hx hb dL_law_844 rfl (lv_at hl 1 rfl) ?_
  refine lv_iload hx hb dL_law_845 (lv_at hl 5 rfl) ?_
  refine lv_iconst (v := nI 1) hx hb dL_law_847 (by decide) ?_
  refine lv_iadd hx hb dL_law_848 ?_
  refine tp_i (show (nI i) + (nI 1) = nI (i + 1) from nI_add _ _) ?_
  refine va_sld hx hb hSc hbl hbA hS (vp_in_nI (show i + 1 < L by omega) (by omega)) dL_law_849 ?_
  refine kc_VI (n := 1) (As := [.int (xs (nI (i + 1)).toNatClampNeg)]) (rest := []) ⟨hx, hb, hml, hown, hts⟩ (c_M_derive l D g ad tb sa w1 H.size mo ml cd cnt ki on tw od fa st rs me fo fd ba ta by9 nd hR.D hMo h40 (xs (nI (i + 1)).toNatClampNeg)) bw_634 bw_635 bw_636 bw_3 bw_637 (by decide +kernel) rfl rfl hMo.1 ⟨by decide, by decide⟩ hW hK hk hS hAA rfl hl.1 rfl (Nat.le_of_ble_eq_true rfl) dL_law_850 ⟨by show _ ≤ 601024; omega, by show _ ≤ 7293033; omega⟩ (fun r w2 H locs hp hW hS => ?_)
  obtain ⟨hj2, hmi, ho2, heq⟩ := hfin ml cd ki on tw od fa st rs me fo fd ba ta by9 nd hR hMo hS9 b1 b2 b3 hg _ _ hp
  rw [← ho2] at hou
  obtain ⟨ml2, ki2, on2, tw2, od2, fa2, st2, rs2, me2, fo2, fd2, ba2, ta2, by2, nd2, hR2, hMo2, -⟩ := id hmi
  refine lv_istore (lv' := [(6, .int r), (5, .int (nI k)), (0, .ref b), (1, .ref x), (2, .ref mo), (3, .ref ou), (4, .int (nI i))]) hx hb dL_law_853 hl (by decide) rfl (fun ls hl => ?_)
  refine lv_aload_n hx hb dL_law_855 rfl (lv_at hl 4 rfl) ?_
  refine kc_VI (n := 0) (As := []) (rest := []) ⟨hx, hb, hml, hown, hts⟩ (c_M_thrown l D g ad tb sa w2 H.size mo ml2 k cnt1 ki2 on2 tw2 od2 fa2 st2 rs2 me2 fo2 fd2 ba2 ta2 by2 nd2 hMo2) bw_567 bw_568 bw_569 bw_3 bw_570 (by decide +kernel) rfl rfl hMo2.1 ⟨by decide, by decide⟩ hW hK hk hS hAA rfl hl.1 rfl (Nat.le_of_ble_eq_true rfl) dL_law_856 ⟨by show _ ≤ 601024; omega, by show _ ≤ 7293033; omega⟩ (fun r3 w3 H locs hp hW hS => ?_)
  obtain ⟨hw9, hr9⟩ := hp
  rw [hw9] at hW
  subst hr9
  refine lv_iload hx hb dL_law_859 (lv_at hl 1 rfl) ?_
  refine nw_icmp_eq (tgt := 866) hx hb (by omega) (by omega) dL_law_861 (by decide) (fun c1 => ?_) (fun c1 => absurd rfl c1)
  refine lv_iload hx hb dL_law_866 (lv_at hl 1 rfl) ?_
  refine nw_if_ne (tgt := 883) hx hb (by omega) dL_law_868 (by decide) (fun c0 => ?_) (fun c0 => ?_)
  · refine lv_goto (tgt := 1394) hx hb dL_law_883 (by decide) ?_
    refine W.widen (k := ce + 5) (n := sl + 160) (by omega) (by omega) ?_
    exact kk σ1 cnt1 γ1 ro1 w2 hj2 H locs hW hS ls (lv_sub hl [2, 3, 4, 5, 6] rfl)
  · refine lv_aload_n hx hb dL_law_871 rfl (lv_at hl 5 rfl) ?_
    refine lv_iconst (v := nI 0) hx hb dL_law_872 (by decide) ?_
    refine hw_lald hx hb hK hW 2 hou rfl (vp_in_nI (show 0 < 1 by omega) (by omega)) dL_law_873 ?_
    refine tp_l (show fo1 (nI 0).toNatClampNeg = fo1 0 from by rw [nI_clamp (by omega)]) ?_
    refine lv_iload hx hb dL_law_874 (lv_at hl 0 rfl) ?_
    refine lv_i2l hx hb dL_law_876 rfl ?_
    refine tp_l (show r.toInt64 = fo1 0 from (heq (by omega)).symm) ?_
    refine W.lcmp hx hb dL_law_877 ?_
    refine lv_if_eq (tgt := 883) hx hb dL_law_878 (by decide) (fun c2 => ?_) (fun c2 => absurd ((lg_cmp_eq _ _).mpr rfl) c2)
    refine lv_goto (tgt := 1394) hx hb dL_law_883 (by decide) ?_
    refine W.widen (k := ce + 5) (n := sl + 160) (by omega) (by omega) ?_
    exact kk σ1 cnt1 γ1 ro1 w2 hj2 H locs hW hS ls (lv_sub hl [2, 3, 4, 5, 6] rfl)

set_option maxHeartbeats 1000000 in
set_option maxRecDepth 100000 in
theorem cs_value {p : Program} {l : Launch} {e : Env} {s : State} {m : MethodId} {args : Array Value} {below : List Frame} {meth : Method} {c : Code} {Q : State → Prop} {D : va_G} {g : Nat → ClassId} {ad : Nat → Nat} {tb : Nat} {sa : Nat → Nat} {A : Nat → Prop} {b L : Nat} {xs : Nat → Int32} (hSc : va_X b L xs s s.heap) (hbl : b < s.heap.size) (hbA : ¬ A b) (hL : L ≤ 3072) {ro : Nat → Nat} {x mo ou i ce sl : Nat} {σ : Nat → SD} {cnt : Nat} {γ : GU} {w : Wd} {H : Heap} {locs : List Loc} {ls : Array Slot} (hl0 : l.stackTraces = false) (hi6 : i + 6 ≤ L) (hce : ce + 5 ≤ 601024) (hsl : sl + 160 ≤ 7293033) (hj : jI g ad w ro x mo ou σ cnt γ) (C0 : cx p s m args c A cL_law 7 RL D g ad tb sa) (hW : hw D vwCl A w H) (hS : va_S A s.heap H locs) (hl : lv_has ls 7 [(0, .ref b), (1, .ref x), (2, .ref mo), (3, .ref ou), (4, .int (nI i))]) (kk : ∀ (σ' : Nat → SD) (cnt' : Nat) (γ' : GU) (ro' : Nat → Nat) (w1 : Wd), jI g ad w1 ro' x mo ou σ' cnt' γ' → ∀ (H : Heap) (locs : List Loc), hw D vwCl A w1 H → va_S A s.heap H locs → ∀ ls : Array Slot, lv_has ls 7 [(0, .ref b), (1, .ref x), (2, .ref mo), (3, .ref ou), (4, .int (nI i))] → W p l e (rmL 12 444 601024 7293033) s m args below meth c H locs (ce + 5) (sl + 160) Q (F0 m 1394 ls [])) : W p l e (rmL 12 444 601024 7293033) s m args below meth c H locs ce sl Q (F0 m 886 ls []) := by
  obtain ⟨hx, hb, hml, hts, hown, hK, hk, hAA⟩ := C0
  obtain ⟨fs, hob⟩ := hj.1.ob
  obtain ⟨-, -, ⟨foO, hOu⟩, hRo⟩ := id hj
  refine lv_aload_n hx hb dL_law_886 rfl (lv_at hl 1 rfl) ?_
  refine lv_aload_n hx hb dL_law_887 rfl (lv_at hl 0 rfl) ?_
  refine lv_iload hx hb dL_law_888 (lv_at hl 4 rfl) ?_
  refine lv_iconst (v := nI 1) hx hb dL_law_890 (by decide) ?_
  refine lv_iadd hx hb dL_law_891 ?_
  refine tp_i (show (nI i) + (nI 1) = nI (i + 1) from nI_add _ _) ?_
  refine va_sld hx hb hSc hbl hbA hS (vp_in_nI (show i + 1 < L by omega) (by omega)) dL_law_892 ?_
  refine lv_aload_n hx hb dL_law_893 rfl (lv_at hl 0 rfl) ?_
  refine lv_iload hx hb dL_law_894 (lv_at hl 4 rfl) ?_
  refine lv_iconst (v := nI 2) hx hb dL_law_896 (by decide) ?_
  refine lv_iadd hx hb dL_law_897 ?_
  refine tp_i (show (nI i) + (nI 2) = nI (i + 2) from nI_add _ _) ?_
  refine va_sld hx hb hSc hbl hbA hS (vp_in_nI (show i + 2 < L by omega) (by omega)) dL_law_898 ?_
  refine lv_aload_n hx hb dL_law_899 rfl (lv_at hl 3 rfl) ?_
  refine kc_LI (n := 4) (As := [.ref x, .int (xs (nI (i + 1)).toNatClampNeg), .int (xs (nI (i + 2)).toNatClampNeg), .ref ou]) (rest := []) ⟨hx, hb, hml, hown, hts⟩ (c_L_value l D g ad tb sa w H.size _ _ x ou fs foO (xs (nI (i + 1)).toNatClampNeg) (xs (nI (i + 2)).toNatClampNeg) (c_X_value l D g ad tb sa w H.size hl0 ro x σ cnt γ hj.1 (xs (nI (i + 1)).toNatClampNeg) (xs (nI (i + 2)).toNatClampNeg)) hob (fun x9 w9 h9 => by obtain ⟨f, h, hf, hh, ef, eh, ex, hI, hkp⟩ := h9; exact (hkp _ _ hOu (by omega)).1) (fun E w9 h9 => h9.1)) bw_372 bw_373 bw_0 bw_374 (by decide +kernel) ⟨by decide, by decide⟩ hW hK hk hS hAA rfl hl.1 rfl (Nat.le_of_ble_eq_true rfl) dL_law_900 ⟨by show _ ≤ 601024; omega, by show _ ≤ 7293033; omega⟩ (fun r w1 H locs hp hW hS => ?_)
  obtain ⟨k, σ1, cnt1, γ1, ro1, fo1, rfl, hk4, hJ, hou, hfin⟩ := j_value (f9 := (xs (nI (i + 1)).toNatClampNeg)) (n9 := (xs (nI (i + 2)).toNatClampNeg)) hj hp
  obtain ⟨-, ⟨cd, ml, ki, on, tw, od, fa, st, rs, me, fo, fd, ba, ta, by9, nd, hR, hMo, hS9, b1, b2, b3, hg⟩, -⟩ := id hJ
  have h40 := hS9.1
  refine lv_istore (lv' := [(5, .int (nI k)), (0, .ref b), (1, .ref x), (2, .ref mo), (3, .ref ou), (4, .int (nI i))]) hx hb dL_law_903 hl (by decide) rfl (fun ls hl => ?_)
  refine lv_aload_n hx hb dL_law_905 rfl (lv_at hl 3 rfl) ?_
  refine lv_aload_n hx hb dL_law_906 rfl (lv_at hl 1 rfl) ?_
  refine lv_iload hx hb dL_law_907 (lv_at hl 5 rfl) ?_
  refine lv_iconst (v := nI 1) hx hb dL_law_909 (by decide) ?_
  refine lv_iadd hx hb dL_law_910 ?_
  refine tp_i (show (nI i) + (nI 1) = nI (i + 1) from nI_add _ _) ?_
  refine va_sld hx hb hSc hbl hbA hS (vp_in_nI (show i + 1 < L by omega) (by omega)) dL_law_911 ?_
  refine lv_aload_n hx hb dL_law_912 rfl (lv_at hl 1 rfl) ?_
  refine lv_iload hx hb dL_law_913 (lv_at hl 5 rfl) ?_
  refine lv_iconst (v := nI 2) hx hb dL_law_915 (by decide) ?_
  refine lv_iadd hx hb dL_law_916 ?_
  refine tp_i (show (nI i) + (nI 2) = nI (i + 2) from nI_add _ _) ?_
  refine va_sld hx hb hSc hbl hbA hS (vp_in_nI (show i + 2 < L by omega) (by omega)) dL_law_917 ?_
  refine kc_VI (n := 2) (As := [.int (xs (nI (i + 1)).toNatClampNeg), .int (xs (nI (i + 2)).toNatClampNeg)]) (rest := []) ⟨hx, hb, hml, hown, hts⟩ (c_M_value l D g ad tb sa w1 H.size mo ml cd cnt ki on tw od fa st rs me fo fd ba ta by9 nd hR.D hMo σ hS9 b1 (xs (nI (i + 1)).toNatClampNeg) (xs (nI (i + 2)).toNatClampNeg)) bw_638 bw_639 bw_640 bw_3 bw_641 (by decide +kernel) rfl rfl hMo.1 ⟨by decide, by decide⟩ hW hK hk hS hAA rfl hl.1 rfl (Nat.le_of_ble_eq_true rfl) dL_law_918 ⟨by show _ ≤ 601024; omega, by show _ ≤ 7293033; omega⟩ (fun r w2 H locs hp hW hS => ?_)
  obtain ⟨hj2, hmi, ho2, heq⟩ := hfin ml cd ki on tw od fa st rs me fo fd ba ta by9 nd hR hMo hS9 b1 b2 b3 hg _ _ hp
  rw [← ho2] at hou
  obtain ⟨ml2, ki2, on2, tw2, od2, fa2, st2, rs2, me2, fo2, fd2, ba2, ta2, by2, nd2, hR2, hMo2, -⟩ := id hmi
  refine lv_istore (lv' := [(6, .int r), (5, .int (nI k)), (0, .ref b), (1, .ref x), (2, .ref mo), (3, .ref ou), (4, .int (nI i))]) hx hb dL_law_921 hl (by decide) rfl (fun ls hl => ?_)
  refine lv_aload_n hx hb dL_law_923 rfl (lv_at hl 4 rfl) ?_
  refine kc_VI (n := 0) (As := []) (rest := []) ⟨hx, hb, hml, hown, hts⟩ (c_M_thrown l D g ad tb sa w2 H.size mo ml2 k cnt1 ki2 on2 tw2 od2 fa2 st2 rs2 me2 fo2 fd2 ba2 ta2 by2 nd2 hMo2) bw_567 bw_568 bw_569 bw_3 bw_570 (by decide +kernel) rfl rfl hMo2.1 ⟨by decide, by decide⟩ hW hK hk hS hAA rfl hl.1 rfl (Nat.le_of_ble_eq_true rfl) dL_law_924 ⟨by show _ ≤ 601024; omega, by show _ ≤ 7293033; omega⟩ (fun r3 w3 H locs hp hW hS => ?_)
  obtain ⟨hw9, hr9⟩ := hp
  rw [hw9] at hW
  subst hr9
  refine lv_iload hx hb dL_law_927 (lv_at hl 1 rfl) ?_
  refine nw_icmp_eq (tgt := 934) hx hb (by omega) (by omega) dL_law_929 (by decide) (fun c1 => ?_) (fun c1 => absurd rfl c1)
  refine lv_iload hx hb dL_law_934 (lv_at hl 1 rfl) ?_
  refine nw_if_ne (tgt := 951) hx hb (by omega) dL_law_936 (by decide) (fun c0 => ?_) (fun c0 => ?_)
  · refine lv_goto (tgt := 1394) hx hb dL_law_951 (by decide) ?_
    refine W.widen (k := ce + 5) (n := sl + 160) (by omega) (by omega) ?_
    exact kk σ1 cnt1 γ1 ro1 w2 hj2 H locs hW hS ls (lv_sub hl [2, 3, 4, 5, 6] rfl)
  · refine lv_aload_n hx hb dL_law_939 rfl (lv_at hl 5 rfl) ?_
    refine lv_iconst (v := nI 0) hx hb dL_law_940 (by decide) ?_
    refine hw_lald hx hb hK hW 2 hou rfl (vp_in_nI (show 0 < 1 by omega) (by omega)) dL_law_941 ?_
    refine tp_l (show fo1 (nI 0).toNatClampNeg = fo1 0 from by rw [nI_clamp (by omega)]) ?_
    refine lv_iload hx hb dL_law_942 (lv_at hl 0 rfl) ?_
    refine lv_i2l hx hb dL_law_944 rfl ?_
    refine tp_l (show r.toInt64 = fo1 0 from (heq (by omega)).symm) ?_
    refine W.lcmp hx hb dL_law_945 ?_
    refine lv_if_eq (tgt := 951) hx hb dL_law_946 (by decide) (fun c2 => ?_) (fun c2 => absurd ((lg_cmp_eq _ _).mpr rfl) c2)
    refine lv_goto (tgt := 1394) hx hb dL_law_951 (by decide) ?_
    refine W.widen (k := ce + 5) (n := sl + 160) (by omega) (by omega) ?_
    exact kk σ1 cnt1 γ1 ro1 w2 hj2 H locs hW hS ls (lv_sub hl [2, 3, 4, 5, 6] rfl)

set_option maxHeartbeats 1000000 in
set_option maxRecDepth 100000 in
theorem cs_singular {p : Program} {l : Launch} {e : Env} {s : State} {m : MethodId} {args : Array Value} {below : List Frame} {meth : Method} {c : Code} {Q : State → Prop} {D : va_G} {g : Nat → ClassId} {ad : Nat → Nat} {tb : Nat} {sa : Nat → Nat} {A : Nat → Prop} {b L : Nat} {xs : Nat → Int32} (hSc : va_X b L xs s s.heap) (hbl : b < s.heap.size) (hbA : ¬ A b) (hL : L ≤ 3072) {ro : Nat → Nat} {x mo ou i ce sl : Nat} {σ : Nat → SD} {cnt : Nat} {γ : GU} {w : Wd} {H : Heap} {locs : List Loc} {ls : Array Slot} (hl0 : l.stackTraces = false) (hi6 : i + 6 ≤ L) (hce : ce + 5 ≤ 601024) (hsl : sl + 160 ≤ 7293033) (hj : jI g ad w ro x mo ou σ cnt γ) (C0 : cx p s m args c A cL_law 7 RL D g ad tb sa) (hW : hw D vwCl A w H) (hS : va_S A s.heap H locs) (hl : lv_has ls 7 [(0, .ref b), (1, .ref x), (2, .ref mo), (3, .ref ou), (4, .int (nI i))]) (kk : ∀ (σ' : Nat → SD) (cnt' : Nat) (γ' : GU) (ro' : Nat → Nat) (w1 : Wd), jI g ad w1 ro' x mo ou σ' cnt' γ' → ∀ (H : Heap) (locs : List Loc), hw D vwCl A w1 H → va_S A s.heap H locs → ∀ ls : Array Slot, lv_has ls 7 [(0, .ref b), (1, .ref x), (2, .ref mo), (3, .ref ou), (4, .int (nI i))] → W p l e (rmL 12 444 601024 7293033) s m args below meth c H locs (ce + 5) (sl + 160) Q (F0 m 1394 ls [])) : W p l e (rmL 12 444 601024 7293033) s m args below meth c H locs ce sl Q (F0 m 954 ls []) := by
  obtain ⟨hx, hb, hml, hts, hown, hK, hk, hAA⟩ := C0
  obtain ⟨fs, hob⟩ := hj.1.ob
  obtain ⟨-, -, ⟨foO, hOu⟩, hRo⟩ := id hj
  refine lv_aload_n hx hb dL_law_954 rfl (lv_at hl 1 rfl) ?_
  refine lv_aload_n hx hb dL_law_955 rfl (lv_at hl 0 rfl) ?_
  refine lv_iload hx hb dL_law_956 (lv_at hl 4 rfl) ?_
  refine lv_iconst (v := nI 1) hx hb dL_law_958 (by decide) ?_
  refine lv_iadd hx hb dL_law_959 ?_
  refine tp_i (show (nI i) + (nI 1) = nI (i + 1) from nI_add _ _) ?_
  refine va_sld hx hb hSc hbl hbA hS (vp_in_nI (show i + 1 < L by omega) (by omega)) dL_law_960 ?_
  refine lv_aload_n hx hb dL_law_961 rfl (lv_at hl 3 rfl) ?_
  refine kc_LI (n := 3) (As := [.ref x, .int (xs (nI (i + 1)).toNatClampNeg), .ref ou]) (rest := []) ⟨hx, hb, hml, hown, hts⟩ (c_L_singular l D g ad tb sa w H.size _ _ x ou fs foO (xs (nI (i + 1)).toNatClampNeg) (c_X_singular l D g ad tb sa w H.size hl0 ro x σ cnt γ hj.1 (xs (nI (i + 1)).toNatClampNeg)) hob (fun x9 w9 h9 => by obtain ⟨f, hf, ef, ht, ex, ew3⟩ := h9; rw [ew3]; exact hOu) (fun E w9 h9 => h9.2.elim (fun q => Or.inl q.1) (fun q => Or.inr q.1))) bw_424 bw_425 bw_0 bw_426 (by decide +kernel) ⟨by decide, by decide⟩ hW hK hk hS hAA rfl hl.1 rfl (Nat.le_of_ble_eq_true rfl) dL_law_962 ⟨by show _ ≤ 601024; omega, by show _ ≤ 7293033; omega⟩ (fun r w1 H locs hp hW hS => ?_)
  obtain ⟨k, σ1, cnt1, γ1, ro1, fo1, rfl, hk4, hJ, hou, hfin⟩ := j_singular (f9 := (xs (nI (i + 1)).toNatClampNeg)) hj hp
  obtain ⟨-, ⟨cd, ml, ki, on, tw, od, fa, st, rs, me, fo, fd, ba, ta, by9, nd, hR, hMo, hS9, b1, b2, b3, hg⟩, -⟩ := id hJ
  have h40 := hS9.1
  refine lv_istore (lv' := [(5, .int (nI k)), (0, .ref b), (1, .ref x), (2, .ref mo), (3, .ref ou), (4, .int (nI i))]) hx hb dL_law_965 hl (by decide) rfl (fun ls hl => ?_)
  refine lv_aload_n hx hb dL_law_967 rfl (lv_at hl 3 rfl) ?_
  refine lv_aload_n hx hb dL_law_968 rfl (lv_at hl 1 rfl) ?_
  refine lv_iload hx hb dL_law_969 (lv_at hl 5 rfl) ?_
  refine lv_iconst (v := nI 1) hx hb dL_law_971 (by decide) ?_
  refine lv_iadd hx hb dL_law_972 ?_
  refine tp_i (show (nI i) + (nI 1) = nI (i + 1) from nI_add _ _) ?_
  refine va_sld hx hb hSc hbl hbA hS (vp_in_nI (show i + 1 < L by omega) (by omega)) dL_law_973 ?_
  refine kc_VI (n := 1) (As := [.int (xs (nI (i + 1)).toNatClampNeg)]) (rest := []) ⟨hx, hb, hml, hown, hts⟩ (c_M_singular l D g ad tb sa w1 H.size mo ml cd cnt ki on tw od fa st rs me fo fd ba ta by9 nd hR.D hMo σ hS9 (xs (nI (i + 1)).toNatClampNeg)) bw_661 bw_662 bw_663 bw_3 bw_664 (by decide +kernel) rfl rfl hMo.1 ⟨by decide, by decide⟩ hW hK hk hS hAA rfl hl.1 rfl (Nat.le_of_ble_eq_true rfl) dL_law_974 ⟨by show _ ≤ 601024; omega, by show _ ≤ 7293033; omega⟩ (fun r w2 H locs hp hW hS => ?_)
  obtain ⟨hj2, hmi, ho2, heq⟩ := hfin ml cd ki on tw od fa st rs me fo fd ba ta by9 nd hR hMo hS9 b1 b2 b3 hg _ _ hp
  rw [← ho2] at hou
  obtain ⟨ml2, ki2, on2, tw2, od2, fa2, st2, rs2, me2, fo2, fd2, ba2, ta2, by2, nd2, hR2, hMo2, -⟩ := id hmi
  refine lv_istore (lv' := [(6, .int r), (5, .int (nI k)), (0, .ref b), (1, .ref x), (2, .ref mo), (3, .ref ou), (4, .int (nI i))]) hx hb dL_law_977 hl (by decide) rfl (fun ls hl => ?_)
  refine lv_aload_n hx hb dL_law_979 rfl (lv_at hl 4 rfl) ?_
  refine kc_VI (n := 0) (As := []) (rest := []) ⟨hx, hb, hml, hown, hts⟩ (c_M_thrown l D g ad tb sa w2 H.size mo ml2 k cnt1 ki2 on2 tw2 od2 fa2 st2 rs2 me2 fo2 fd2 ba2 ta2 by2 nd2 hMo2) bw_567 bw_568 bw_569 bw_3 bw_570 (by decide +kernel) rfl rfl hMo2.1 ⟨by decide, by decide⟩ hW hK hk hS hAA rfl hl.1 rfl (Nat.le_of_ble_eq_true rfl) dL_law_980 ⟨by show _ ≤ 601024; omega, by show _ ≤ 7293033; omega⟩ (fun r3 w3 H locs hp hW hS => ?_)
  obtain ⟨hw9, hr9⟩ := hp
  rw [hw9] at hW
  subst hr9
  refine lv_iload hx hb dL_law_983 (lv_at hl 1 rfl) ?_
  refine nw_icmp_eq (tgt := 990) hx hb (by omega) (by omega) dL_law_985 (by decide) (fun c1 => ?_) (fun c1 => absurd rfl c1)
  refine lv_iload hx hb dL_law_990 (lv_at hl 1 rfl) ?_
  refine nw_if_ne (tgt := 1007) hx hb (by omega) dL_law_992 (by decide) (fun c0 => ?_) (fun c0 => ?_)
  · refine lv_goto (tgt := 1394) hx hb dL_law_1007 (by decide) ?_
    refine W.widen (k := ce + 5) (n := sl + 160) (by omega) (by omega) ?_
    exact kk σ1 cnt1 γ1 ro1 w2 hj2 H locs hW hS ls (lv_sub hl [2, 3, 4, 5, 6] rfl)
  · refine lv_aload_n hx hb dL_law_995 rfl (lv_at hl 5 rfl) ?_
    refine lv_iconst (v := nI 0) hx hb dL_law_996 (by decide) ?_
    refine hw_lald hx hb hK hW 2 hou rfl (vp_in_nI (show 0 < 1 by omega) (by omega)) dL_law_997 ?_
    refine tp_l (show fo1 (nI 0).toNatClampNeg = fo1 0 from by rw [nI_clamp (by omega)]) ?_
    refine lv_iload hx hb dL_law_998 (lv_at hl 0 rfl) ?_
    refine lv_i2l hx hb dL_law_1000 rfl ?_
    refine tp_l (show r.toInt64 = fo1 0 from (heq (by omega)).symm) ?_
    refine W.lcmp hx hb dL_law_1001 ?_
    refine lv_if_eq (tgt := 1007) hx hb dL_law_1002 (by decide) (fun c2 => ?_) (fun c2 => absurd ((lg_cmp_eq _ _).mpr rfl) c2)
    refine lv_goto (tgt := 1394) hx hb dL_law_1007 (by decide) ?_
    refine W.widen (k := ce + 5) (n := sl + 160) (by omega) (by omega) ?_
    exact kk σ1 cnt1 γ1 ro1 w2 hj2 H locs hW hS ls (lv_sub hl [2, 3, 4, 5, 6] rfl)

set_option maxHeartbeats 1000000 in
set_option maxRecDepth 100000 in
theorem cs_guess {p : Program} {l : Launch} {e : Env} {s : State} {m : MethodId} {args : Array Value} {below : List Frame} {meth : Method} {c : Code} {Q : State → Prop} {D : va_G} {g : Nat → ClassId} {ad : Nat → Nat} {tb : Nat} {sa : Nat → Nat} {A : Nat → Prop} {b L : Nat} {xs : Nat → Int32} (hSc : va_X b L xs s s.heap) (hbl : b < s.heap.size) (hbA : ¬ A b) (hL : L ≤ 3072) {ro : Nat → Nat} {x mo ou i ce sl : Nat} {σ : Nat → SD} {cnt : Nat} {γ : GU} {w : Wd} {H : Heap} {locs : List Loc} {ls : Array Slot} (hl0 : l.stackTraces = false) (hi6 : i + 6 ≤ L) (hce : ce + 5 ≤ 601024) (hsl : sl + 160 ≤ 7293033) (hj : jI g ad w ro x mo ou σ cnt γ) (C0 : cx p s m args c A cL_law 7 RL D g ad tb sa) (hW : hw D vwCl A w H) (hS : va_S A s.heap H locs) (hl : lv_has ls 7 [(0, .ref b), (1, .ref x), (2, .ref mo), (3, .ref ou), (4, .int (nI i))]) (kk : ∀ (σ' : Nat → SD) (cnt' : Nat) (γ' : GU) (ro' : Nat → Nat) (w1 : Wd), jI g ad w1 ro' x mo ou σ' cnt' γ' → ∀ (H : Heap) (locs : List Loc), hw D vwCl A w1 H → va_S A s.heap H locs → ∀ ls : Array Slot, lv_has ls 7 [(0, .ref b), (1, .ref x), (2, .ref mo), (3, .ref ou), (4, .int (nI i))] → W p l e (rmL 12 444 601024 7293033) s m args below meth c H locs (ce + 5) (sl + 160) Q (F0 m 1394 ls [])) : W p l e (rmL 12 444 601024 7293033) s m args below meth c H locs ce sl Q (F0 m 1010 ls []) := by
  obtain ⟨hx, hb, hml, hts, hown, hK, hk, hAA⟩ := C0
  obtain ⟨fs, hob⟩ := hj.1.ob
  obtain ⟨-, -, ⟨foO, hOu⟩, hRo⟩ := id hj
  refine lv_aload_n hx hb dL_law_1010 rfl (lv_at hl 1 rfl) ?_
  refine lv_aload_n hx hb dL_law_1011 rfl (lv_at hl 0 rfl) ?_
  refine lv_iload hx hb dL_law_1012 (lv_at hl 4 rfl) ?_
  refine lv_iconst (v := nI 1) hx hb dL_law_1014 (by decide) ?_
  refine lv_iadd hx hb dL_law_1015 ?_
  refine tp_i (show (nI i) + (nI 1) = nI (i + 1) from nI_add _ _) ?_
  refine va_sld hx hb hSc hbl hbA hS (vp_in_nI (show i + 1 < L by omega) (by omega)) dL_law_1016 ?_
  refine lv_aload_n hx hb dL_law_1017 rfl (lv_at hl 0 rfl) ?_
  refine lv_iload hx hb dL_law_1018 (lv_at hl 4 rfl) ?_
  refine lv_iconst (v := nI 2) hx hb dL_law_1020 (by decide) ?_
  refine lv_iadd hx hb dL_law_1021 ?_
  refine tp_i (show (nI i) + (nI 2) = nI (i + 2) from nI_add _ _) ?_
  refine va_sld hx hb hSc hbl hbA hS (vp_in_nI (show i + 2 < L by omega) (by omega)) dL_law_1022 ?_
  refine lv_aload_n hx hb dL_law_1023 rfl (lv_at hl 0 rfl) ?_
  refine lv_iload hx hb dL_law_1024 (lv_at hl 4 rfl) ?_
  refine lv_iconst (v := nI 3) hx hb dL_law_1026 (by decide) ?_
  refine lv_iadd hx hb dL_law_1027 ?_
  refine tp_i (show (nI i) + (nI 3) = nI (i + 3) from nI_add _ _) ?_
  refine va_sld hx hb hSc hbl hbA hS (vp_in_nI (show i + 3 < L by omega) (by omega)) dL_law_1028 ?_
  refine lv_aload_n hx hb dL_law_1029 rfl (lv_at hl 3 rfl) ?_
  refine kc_LI (n := 5) (As := [.ref x, .int (xs (nI (i + 1)).toNatClampNeg), .int (xs (nI (i + 2)).toNatClampNeg), .int (xs (nI (i + 3)).toNatClampNeg), .ref ou]) (rest := []) ⟨hx, hb, hml, hown, hts⟩ (c_L_guess l D g ad tb sa w H.size _ _ x ou fs foO (xs (nI (i + 1)).toNatClampNeg) (xs (nI (i + 2)).toNatClampNeg) (xs (nI (i + 3)).toNatClampNeg) (c_X_guess l D g ad tb sa w H.size hl0 ro x σ cnt γ hj.1 (xs (nI (i + 1)).toNatClampNeg) (xs (nI (i + 2)).toNatClampNeg) (xs (nI (i + 3)).toNatClampNeg)) hob (fun x9 w9 h9 => by obtain ⟨f, o, d, hf, ho, hd, ef, eo, ed, γ1, ex, hgs, hI, hkp⟩ := h9; exact (hkp _ _ hOu (by omega)).1) (fun E w9 h9 => h9.2.elim (fun q => Or.inl q.1) (fun q => Or.inr q.1))) bw_435 bw_436 bw_0 bw_437 (by decide +kernel) ⟨by decide, by decide⟩ hW hK hk hS hAA rfl hl.1 rfl (Nat.le_of_ble_eq_true rfl) dL_law_1030 ⟨by show _ ≤ 601024; omega, by show _ ≤ 7293033; omega⟩ (fun r w1 H locs hp hW hS => ?_)
  obtain ⟨k, σ1, cnt1, γ1, ro1, fo1, rfl, hk4, hJ, hou, hfin⟩ := j_guess (f9 := (xs (nI (i + 1)).toNatClampNeg)) (o9 := (xs (nI (i + 2)).toNatClampNeg)) (d9 := (xs (nI (i + 3)).toNatClampNeg)) hj hp
  obtain ⟨-, ⟨cd, ml, ki, on, tw, od, fa, st, rs, me, fo, fd, ba, ta, by9, nd, hR, hMo, hS9, b1, b2, b3, hg⟩, -⟩ := id hJ
  have h40 := hS9.1
  refine lv_istore (lv' := [(5, .int (nI k)), (0, .ref b), (1, .ref x), (2, .ref mo), (3, .ref ou), (4, .int (nI i))]) hx hb dL_law_1033 hl (by decide) rfl (fun ls hl => ?_)
  refine lv_aload_n hx hb dL_law_1035 rfl (lv_at hl 3 rfl) ?_
  refine lv_aload_n hx hb dL_law_1036 rfl (lv_at hl 1 rfl) ?_
  refine lv_iload hx hb dL_law_1037 (lv_at hl 5 rfl) ?_
  refine lv_iconst (v := nI 1) hx hb dL_law_1039 (by decide) ?_
  refine lv_iadd hx hb dL_law_1040 ?_
  refine tp_i (show (nI i) + (nI 1) = nI (i + 1) from nI_add _ _) ?_
  refine va_sld hx hb hSc hbl hbA hS (vp_in_nI (show i + 1 < L by omega) (by omega)) dL_law_1041 ?_
  refine lv_aload_n hx hb dL_law_1042 rfl (lv_at hl 1 rfl) ?_
  refine lv_iload hx hb dL_law_1043 (lv_at hl 5 rfl) ?_
  refine lv_iconst (v := nI 2) hx hb dL_law_1045 (by decide) ?_
  refine lv_iadd hx hb dL_law_1046 ?_
  refine tp_i (show (nI i) + (nI 2) = nI (i + 2) from nI_add _ _) ?_
  refine va_sld hx hb hSc hbl hbA hS (vp_in_nI (show i + 2 < L by omega) (by omega)) dL_law_1047 ?_
  refine lv_aload_n hx hb dL_law_1048 rfl (lv_at hl 1 rfl) ?_
  refine lv_iload hx hb dL_law_1049 (lv_at hl 5 rfl) ?_
  refine lv_iconst (v := nI 3) hx hb dL_law_1051 (by decide) ?_
  refine lv_iadd hx hb dL_law_1052 ?_
  refine tp_i (show (nI i) + (nI 3) = nI (i + 3) from nI_add _ _) ?_
  refine va_sld hx hb hSc hbl hbA hS (vp_in_nI (show i + 3 < L by omega) (by omega)) dL_law_1053 ?_
  refine kc_VI (n := 3) (As := [.int (xs (nI (i + 1)).toNatClampNeg), .int (xs (nI (i + 2)).toNatClampNeg), .int (xs (nI (i + 3)).toNatClampNeg)]) (rest := []) ⟨hx, hb, hml, hown, hts⟩ (c_M_guess l D g ad tb sa w1 H.size mo ml cd cnt ki on tw od fa st rs me fo fd ba ta by9 nd hR.D hMo σ hS9 b1 b2 b3 (xs (nI (i + 1)).toNatClampNeg) (xs (nI (i + 2)).toNatClampNeg) (xs (nI (i + 3)).toNatClampNeg)) bw_677 bw_678 bw_679 bw_3 bw_680 (by decide +kernel) rfl rfl hMo.1 ⟨by decide, by decide⟩ hW hK hk hS hAA rfl hl.1 rfl (Nat.le_of_ble_eq_true rfl) dL_law_1054 ⟨by show _ ≤ 601024; omega, by show _ ≤ 7293033; omega⟩ (fun r w2 H locs hp hW hS => ?_)
  obtain ⟨hj2, hmi, ho2, heq⟩ := hfin ml cd ki on tw od fa st rs me fo fd ba ta by9 nd hR hMo hS9 b1 b2 b3 hg _ _ hp
  rw [← ho2] at hou
  obtain ⟨ml2, ki2, on2, tw2, od2, fa2, st2, rs2, me2, fo2, fd2, ba2, ta2, by2, nd2, hR2, hMo2, -⟩ := id hmi
  refine lv_istore (lv' := [(6, .int r), (5, .int (nI k)), (0, .ref b), (1, .ref x), (2, .ref mo), (3, .ref ou), (4, .int (nI i))]) hx hb dL_law_1057 hl (by decide) rfl (fun ls hl => ?_)
  refine lv_aload_n hx hb dL_law_1059 rfl (lv_at hl 4 rfl) ?_
  refine kc_VI (n := 0) (As := []) (rest := []) ⟨hx, hb, hml, hown, hts⟩ (c_M_thrown l D g ad tb sa w2 H.size mo ml2 k cnt1 ki2 on2 tw2 od2 fa2 st2 rs2 me2 fo2 fd2 ba2 ta2 by2 nd2 hMo2) bw_567 bw_568 bw_569 bw_3 bw_570 (by decide +kernel) rfl rfl hMo2.1 ⟨by decide, by decide⟩ hW hK hk hS hAA rfl hl.1 rfl (Nat.le_of_ble_eq_true rfl) dL_law_1060 ⟨by show _ ≤ 601024; omega, by show _ ≤ 7293033; omega⟩ (fun r3 w3 H locs hp hW hS => ?_)
  obtain ⟨hw9, hr9⟩ := hp
  rw [hw9] at hW
  subst hr9
  refine lv_iload hx hb dL_law_1063 (lv_at hl 1 rfl) ?_
  refine nw_icmp_eq (tgt := 1070) hx hb (by omega) (by omega) dL_law_1065 (by decide) (fun c1 => ?_) (fun c1 => absurd rfl c1)
  refine lv_iload hx hb dL_law_1070 (lv_at hl 1 rfl) ?_
  refine nw_if_ne (tgt := 1087) hx hb (by omega) dL_law_1072 (by decide) (fun c0 => ?_) (fun c0 => ?_)
  · refine lv_goto (tgt := 1394) hx hb dL_law_1087 (by decide) ?_
    refine W.widen (k := ce + 5) (n := sl + 160) (by omega) (by omega) ?_
    exact kk σ1 cnt1 γ1 ro1 w2 hj2 H locs hW hS ls (lv_sub hl [2, 3, 4, 5, 6] rfl)
  · refine lv_aload_n hx hb dL_law_1075 rfl (lv_at hl 5 rfl) ?_
    refine lv_iconst (v := nI 0) hx hb dL_law_1076 (by decide) ?_
    refine hw_lald hx hb hK hW 2 hou rfl (vp_in_nI (show 0 < 1 by omega) (by omega)) dL_law_1077 ?_
    refine tp_l (show fo1 (nI 0).toNatClampNeg = fo1 0 from by rw [nI_clamp (by omega)]) ?_
    refine lv_iload hx hb dL_law_1078 (lv_at hl 0 rfl) ?_
    refine lv_i2l hx hb dL_law_1080 rfl ?_
    refine tp_l (show r.toInt64 = fo1 0 from (heq (by omega)).symm) ?_
    refine W.lcmp hx hb dL_law_1081 ?_
    refine lv_if_eq (tgt := 1087) hx hb dL_law_1082 (by decide) (fun c2 => ?_) (fun c2 => absurd ((lg_cmp_eq _ _).mpr rfl) c2)
    refine lv_goto (tgt := 1394) hx hb dL_law_1087 (by decide) ?_
    refine W.widen (k := ce + 5) (n := sl + 160) (by omega) (by omega) ?_
    exact kk σ1 cnt1 γ1 ro1 w2 hj2 H locs hW hS ls (lv_sub hl [2, 3, 4, 5, 6] rfl)

set_option maxHeartbeats 1000000 in
set_option maxRecDepth 100000 in
theorem cs_rule {p : Program} {l : Launch} {e : Env} {s : State} {m : MethodId} {args : Array Value} {below : List Frame} {meth : Method} {c : Code} {Q : State → Prop} {D : va_G} {g : Nat → ClassId} {ad : Nat → Nat} {tb : Nat} {sa : Nat → Nat} {A : Nat → Prop} {b L : Nat} {xs : Nat → Int32} (hSc : va_X b L xs s s.heap) (hbl : b < s.heap.size) (hbA : ¬ A b) (hL : L ≤ 3072) {ro : Nat → Nat} {x mo ou i ce sl : Nat} {σ : Nat → SD} {cnt : Nat} {γ : GU} {w : Wd} {H : Heap} {locs : List Loc} {ls : Array Slot} (hl0 : l.stackTraces = false) (hi6 : i + 6 ≤ L) (hce : ce + 5 ≤ 601024) (hsl : sl + 160 ≤ 7293033) (hj : jI g ad w ro x mo ou σ cnt γ) (C0 : cx p s m args c A cL_law 7 RL D g ad tb sa) (hW : hw D vwCl A w H) (hS : va_S A s.heap H locs) (hl : lv_has ls 7 [(0, .ref b), (1, .ref x), (2, .ref mo), (3, .ref ou), (4, .int (nI i))]) (kk : ∀ (σ' : Nat → SD) (cnt' : Nat) (γ' : GU) (ro' : Nat → Nat) (w1 : Wd), jI g ad w1 ro' x mo ou σ' cnt' γ' → ∀ (H : Heap) (locs : List Loc), hw D vwCl A w1 H → va_S A s.heap H locs → ∀ ls : Array Slot, lv_has ls 7 [(0, .ref b), (1, .ref x), (2, .ref mo), (3, .ref ou), (4, .int (nI i))] → W p l e (rmL 12 444 601024 7293033) s m args below meth c H locs (ce + 5) (sl + 160) Q (F0 m 1394 ls [])) : W p l e (rmL 12 444 601024 7293033) s m args below meth c H locs ce sl Q (F0 m 1090 ls []) := by
  obtain ⟨hx, hb, hml, hts, hown, hK, hk, hAA⟩ := C0
  obtain ⟨fs, hob⟩ := hj.1.ob
  obtain ⟨-, -, ⟨foO, hOu⟩, hRo⟩ := id hj
  refine lv_aload_n hx hb dL_law_1090 rfl (lv_at hl 1 rfl) ?_
  refine lv_aload_n hx hb dL_law_1091 rfl (lv_at hl 0 rfl) ?_
  refine lv_iload hx hb dL_law_1092 (lv_at hl 4 rfl) ?_
  refine lv_iconst (v := nI 1) hx hb dL_law_1094 (by decide) ?_
  refine lv_iadd hx hb dL_law_1095 ?_
  refine tp_i (show (nI i) + (nI 1) = nI (i + 1) from nI_add _ _) ?_
  refine va_sld hx hb hSc hbl hbA hS (vp_in_nI (show i + 1 < L by omega) (by omega)) dL_law_1096 ?_
  refine lv_aload_n hx hb dL_law_1097 rfl (lv_at hl 0 rfl) ?_
  refine lv_iload hx hb dL_law_1098 (lv_at hl 4 rfl) ?_
  refine lv_iconst (v := nI 2) hx hb dL_law_1100 (by decide) ?_
  refine lv_iadd hx hb dL_law_1101 ?_
  refine tp_i (show (nI i) + (nI 2) = nI (i + 2) from nI_add _ _) ?_
  refine va_sld hx hb hSc hbl hbA hS (vp_in_nI (show i + 2 < L by omega) (by omega)) dL_law_1102 ?_
  refine lv_aload_n hx hb dL_law_1103 rfl (lv_at hl 0 rfl) ?_
  refine lv_iload hx hb dL_law_1104 (lv_at hl 4 rfl) ?_
  refine lv_iconst (v := nI 3) hx hb dL_law_1106 (by decide) ?_
  refine lv_iadd hx hb dL_law_1107 ?_
  refine tp_i (show (nI i) + (nI 3) = nI (i + 3) from nI_add _ _) ?_
  refine va_sld hx hb hSc hbl hbA hS (vp_in_nI (show i + 3 < L by omega) (by omega)) dL_law_1108 ?_
  refine lv_aload_n hx hb dL_law_1109 rfl (lv_at hl 3 rfl) ?_
  refine kc_LI (n := 5) (As := [.ref x, .int (xs (nI (i + 1)).toNatClampNeg), .int (xs (nI (i + 2)).toNatClampNeg), .int (xs (nI (i + 3)).toNatClampNeg), .ref ou]) (rest := []) ⟨hx, hb, hml, hown, hts⟩ (c_L_rule l D g ad tb sa w H.size _ _ x ou fs foO (xs (nI (i + 1)).toNatClampNeg) (xs (nI (i + 2)).toNatClampNeg) (xs (nI (i + 3)).toNatClampNeg) (c_X_rule l D g ad tb sa w H.size hl0 ro x σ cnt γ hj.1 (xs (nI (i + 1)).toNatClampNeg) (xs (nI (i + 2)).toNatClampNeg) (xs (nI (i + 3)).toNatClampNeg)) hob (fun x9 w9 h9 => by obtain ⟨k, hk, ek, ex, ez, ew3⟩ := h9; rw [ew3]; exact hOu) (fun E w9 h9 => h9.1)) bw_478 bw_479 bw_0 bw_480 (by decide +kernel) ⟨by decide, by decide⟩ hW hK hk hS hAA rfl hl.1 rfl (Nat.le_of_ble_eq_true rfl) dL_law_1110 ⟨by show _ ≤ 601024; omega, by show _ ≤ 7293033; omega⟩ (fun r w1 H locs hp hW hS => ?_)
  obtain ⟨k, σ1, cnt1, γ1, ro1, fo1, rfl, hk4, hJ, hou, hfin⟩ := j_rule (k9 := (xs (nI (i + 1)).toNatClampNeg)) (i9 := (xs (nI (i + 2)).toNatClampNeg)) (j9 := (xs (nI (i + 3)).toNatClampNeg)) hj hp
  obtain ⟨-, ⟨cd, ml, ki, on, tw, od, fa, st, rs, me, fo, fd, ba, ta, by9, nd, hR, hMo, hS9, b1, b2, b3, hg⟩, -⟩ := id hJ
  have h40 := hS9.1
  refine lv_istore (lv' := [(5, .int (nI k)), (0, .ref b), (1, .ref x), (2, .ref mo), (3, .ref ou), (4, .int (nI i))]) hx hb dL_law_1113 hl (by decide) rfl (fun ls hl => ?_)
  refine lv_aload_n hx hb dL_law_1115 rfl (lv_at hl 3 rfl) ?_
  refine lv_aload_n hx hb dL_law_1116 rfl (lv_at hl 1 rfl) ?_
  refine lv_iload hx hb dL_law_1117 (lv_at hl 5 rfl) ?_
  refine lv_iconst (v := nI 1) hx hb dL_law_1119 (by decide) ?_
  refine lv_iadd hx hb dL_law_1120 ?_
  refine tp_i (show (nI i) + (nI 1) = nI (i + 1) from nI_add _ _) ?_
  refine va_sld hx hb hSc hbl hbA hS (vp_in_nI (show i + 1 < L by omega) (by omega)) dL_law_1121 ?_
  refine lv_aload_n hx hb dL_law_1122 rfl (lv_at hl 1 rfl) ?_
  refine lv_iload hx hb dL_law_1123 (lv_at hl 5 rfl) ?_
  refine lv_iconst (v := nI 2) hx hb dL_law_1125 (by decide) ?_
  refine lv_iadd hx hb dL_law_1126 ?_
  refine tp_i (show (nI i) + (nI 2) = nI (i + 2) from nI_add _ _) ?_
  refine va_sld hx hb hSc hbl hbA hS (vp_in_nI (show i + 2 < L by omega) (by omega)) dL_law_1127 ?_
  refine lv_aload_n hx hb dL_law_1128 rfl (lv_at hl 1 rfl) ?_
  refine lv_iload hx hb dL_law_1129 (lv_at hl 5 rfl) ?_
  refine lv_iconst (v := nI 3) hx hb dL_law_1131 (by decide) ?_
  refine lv_iadd hx hb dL_law_1132 ?_
  refine tp_i (show (nI i) + (nI 3) = nI (i + 3) from nI_add _ _) ?_
  refine va_sld hx hb hSc hbl hbA hS (vp_in_nI (show i + 3 < L by omega) (by omega)) dL_law_1133 ?_
  refine kc_VI (n := 3) (As := [.int (xs (nI (i + 1)).toNatClampNeg), .int (xs (nI (i + 2)).toNatClampNeg), .int (xs (nI (i + 3)).toNatClampNeg)]) (rest := []) ⟨hx, hb, hml, hown, hts⟩ (c_M_rule l D g ad tb sa w1 H.size mo ml cd cnt ki on tw od fa st rs me fo fd ba ta by9 nd hR.D hMo hg.2.1 hg.2.2.1 hg.2.2.2.1 b3 (xs (nI (i + 1)).toNatClampNeg) (xs (nI (i + 2)).toNatClampNeg) (xs (nI (i + 3)).toNatClampNeg)) bw_690 bw_691 bw_692 bw_3 bw_693 (by decide +kernel) rfl rfl hMo.1 ⟨by decide, by decide⟩ hW hK hk hS hAA rfl hl.1 rfl (Nat.le_of_ble_eq_true rfl) dL_law_1134 ⟨by show _ ≤ 601024; omega, by show _ ≤ 7293033; omega⟩ (fun r w2 H locs hp hW hS => ?_)
  obtain ⟨hj2, hmi, ho2, heq⟩ := hfin ml cd ki on tw od fa st rs me fo fd ba ta by9 nd hR hMo hS9 b1 b2 b3 hg _ _ hp
  rw [← ho2] at hou
  obtain ⟨ml2, ki2, on2, tw2, od2, fa2, st2, rs2, me2, fo2, fd2, ba2, ta2, by2, nd2, hR2, hMo2, -⟩ := id hmi
  refine lv_istore (lv' := [(6, .int r), (5, .int (nI k)), (0, .ref b), (1, .ref x), (2, .ref mo), (3, .ref ou), (4, .int (nI i))]) hx hb dL_law_1137 hl (by decide) rfl (fun ls hl => ?_)
  refine lv_aload_n hx hb dL_law_1139 rfl (lv_at hl 4 rfl) ?_
  refine kc_VI (n := 0) (As := []) (rest := []) ⟨hx, hb, hml, hown, hts⟩ (c_M_thrown l D g ad tb sa w2 H.size mo ml2 k cnt1 ki2 on2 tw2 od2 fa2 st2 rs2 me2 fo2 fd2 ba2 ta2 by2 nd2 hMo2) bw_567 bw_568 bw_569 bw_3 bw_570 (by decide +kernel) rfl rfl hMo2.1 ⟨by decide, by decide⟩ hW hK hk hS hAA rfl hl.1 rfl (Nat.le_of_ble_eq_true rfl) dL_law_1140 ⟨by show _ ≤ 601024; omega, by show _ ≤ 7293033; omega⟩ (fun r3 w3 H locs hp hW hS => ?_)
  obtain ⟨hw9, hr9⟩ := hp
  rw [hw9] at hW
  subst hr9
  refine lv_iload hx hb dL_law_1143 (lv_at hl 1 rfl) ?_
  refine nw_icmp_eq (tgt := 1150) hx hb (by omega) (by omega) dL_law_1145 (by decide) (fun c1 => ?_) (fun c1 => absurd rfl c1)
  refine lv_iload hx hb dL_law_1150 (lv_at hl 1 rfl) ?_
  refine nw_if_ne (tgt := 1167) hx hb (by omega) dL_law_1152 (by decide) (fun c0 => ?_) (fun c0 => ?_)
  · refine lv_goto (tgt := 1394) hx hb dL_law_1167 (by decide) ?_
    refine W.widen (k := ce + 5) (n := sl + 160) (by omega) (by omega) ?_
    exact kk σ1 cnt1 γ1 ro1 w2 hj2 H locs hW hS ls (lv_sub hl [2, 3, 4, 5, 6] rfl)
  · refine lv_aload_n hx hb dL_law_1155 rfl (lv_at hl 5 rfl) ?_
    refine lv_iconst (v := nI 0) hx hb dL_law_1156 (by decide) ?_
    refine hw_lald hx hb hK hW 2 hou rfl (vp_in_nI (show 0 < 1 by omega) (by omega)) dL_law_1157 ?_
    refine tp_l (show fo1 (nI 0).toNatClampNeg = fo1 0 from by rw [nI_clamp (by omega)]) ?_
    refine lv_iload hx hb dL_law_1158 (lv_at hl 0 rfl) ?_
    refine lv_i2l hx hb dL_law_1160 rfl ?_
    refine tp_l (show r.toInt64 = fo1 0 from (heq (by omega)).symm) ?_
    refine W.lcmp hx hb dL_law_1161 ?_
    refine lv_if_eq (tgt := 1167) hx hb dL_law_1162 (by decide) (fun c2 => ?_) (fun c2 => absurd ((lg_cmp_eq _ _).mpr rfl) c2)
    refine lv_goto (tgt := 1394) hx hb dL_law_1167 (by decide) ?_
    refine W.widen (k := ce + 5) (n := sl + 160) (by omega) (by omega) ?_
    exact kk σ1 cnt1 γ1 ro1 w2 hj2 H locs hW hS ls (lv_sub hl [2, 3, 4, 5, 6] rfl)

set_option maxHeartbeats 1000000 in
set_option maxRecDepth 100000 in
theorem cs_least {p : Program} {l : Launch} {e : Env} {s : State} {m : MethodId} {args : Array Value} {below : List Frame} {meth : Method} {c : Code} {Q : State → Prop} {D : va_G} {g : Nat → ClassId} {ad : Nat → Nat} {tb : Nat} {sa : Nat → Nat} {A : Nat → Prop} {b L : Nat} {xs : Nat → Int32} (hSc : va_X b L xs s s.heap) (hbl : b < s.heap.size) (hbA : ¬ A b) (hL : L ≤ 3072) {ro : Nat → Nat} {x mo ou i ce sl : Nat} {σ : Nat → SD} {cnt : Nat} {γ : GU} {w : Wd} {H : Heap} {locs : List Loc} {ls : Array Slot} (hl0 : l.stackTraces = false) (hi6 : i + 6 ≤ L) (hce : ce + 5 ≤ 601024) (hsl : sl + 160 ≤ 7293033) (hj : jI g ad w ro x mo ou σ cnt γ) (C0 : cx p s m args c A cL_law 7 RL D g ad tb sa) (hW : hw D vwCl A w H) (hS : va_S A s.heap H locs) (hl : lv_has ls 7 [(0, .ref b), (1, .ref x), (2, .ref mo), (3, .ref ou), (4, .int (nI i))]) (kk : ∀ (σ' : Nat → SD) (cnt' : Nat) (γ' : GU) (ro' : Nat → Nat) (w1 : Wd), jI g ad w1 ro' x mo ou σ' cnt' γ' → ∀ (H : Heap) (locs : List Loc), hw D vwCl A w1 H → va_S A s.heap H locs → ∀ ls : Array Slot, lv_has ls 7 [(0, .ref b), (1, .ref x), (2, .ref mo), (3, .ref ou), (4, .int (nI i))] → W p l e (rmL 12 444 601024 7293033) s m args below meth c H locs (ce + 5) (sl + 160) Q (F0 m 1394 ls [])) : W p l e (rmL 12 444 601024 7293033) s m args below meth c H locs ce sl Q (F0 m 1170 ls []) := by
  obtain ⟨hx, hb, hml, hts, hown, hK, hk, hAA⟩ := C0
  obtain ⟨fs, hob⟩ := hj.1.ob
  obtain ⟨-, -, ⟨foO, hOu⟩, hRo⟩ := id hj
  refine lv_aload_n hx hb dL_law_1170 rfl (lv_at hl 1 rfl) ?_
  refine lv_aload_n hx hb dL_law_1171 rfl (lv_at hl 0 rfl) ?_
  refine lv_iload hx hb dL_law_1172 (lv_at hl 4 rfl) ?_
  refine lv_iconst (v := nI 1) hx hb dL_law_1174 (by decide) ?_
  refine lv_iadd hx hb dL_law_1175 ?_
  refine tp_i (show (nI i) + (nI 1) = nI (i + 1) from nI_add _ _) ?_
  refine va_sld hx hb hSc hbl hbA hS (vp_in_nI (show i + 1 < L by omega) (by omega)) dL_law_1176 ?_
  refine lv_aload_n hx hb dL_law_1177 rfl (lv_at hl 0 rfl) ?_
  refine lv_iload hx hb dL_law_1178 (lv_at hl 4 rfl) ?_
  refine lv_iconst (v := nI 2) hx hb dL_law_1180 (by decide) ?_
  refine lv_iadd hx hb dL_law_1181 ?_
  refine tp_i (show (nI i) + (nI 2) = nI (i + 2) from nI_add _ _) ?_
  refine va_sld hx hb hSc hbl hbA hS (vp_in_nI (show i + 2 < L by omega) (by omega)) dL_law_1182 ?_
  refine lv_aload_n hx hb dL_law_1183 rfl (lv_at hl 3 rfl) ?_
  refine kc_LI (n := 4) (As := [.ref x, .int (xs (nI (i + 1)).toNatClampNeg), .int (xs (nI (i + 2)).toNatClampNeg), .ref ou]) (rest := []) ⟨hx, hb, hml, hown, hts⟩ (c_L_least l D g ad tb sa w H.size _ _ x ou fs foO (xs (nI (i + 1)).toNatClampNeg) (xs (nI (i + 2)).toNatClampNeg) (c_X_least l D g ad tb sa w H.size hl0 ro x σ cnt γ hj.1 (xs (nI (i + 1)).toNatClampNeg) (xs (nI (i + 2)).toNatClampNeg)) hob (fun x9 w9 h9 => by obtain ⟨f, d, hf, hd, ef, ed, ex, hI, hkp⟩ := h9; exact (hkp _ _ hOu (by omega)).1) (fun E w9 h9 => h9.2.elim (fun q => Or.inl q.1) (fun q => Or.inr q.1))) bw_490 bw_491 bw_0 bw_492 (by decide +kernel) ⟨by decide, by decide⟩ hW hK hk hS hAA rfl hl.1 rfl (Nat.le_of_ble_eq_true rfl) dL_law_1184 ⟨by show _ ≤ 601024; omega, by show _ ≤ 7293033; omega⟩ (fun r w1 H locs hp hW hS => ?_)
  obtain ⟨k, σ1, cnt1, γ1, ro1, fo1, rfl, hk4, hJ, hou, hfin⟩ := j_least (f9 := (xs (nI (i + 1)).toNatClampNeg)) (d9 := (xs (nI (i + 2)).toNatClampNeg)) hj hp
  obtain ⟨-, ⟨cd, ml, ki, on, tw, od, fa, st, rs, me, fo, fd, ba, ta, by9, nd, hR, hMo, hS9, b1, b2, b3, hg⟩, -⟩ := id hJ
  have h40 := hS9.1
  refine lv_istore (lv' := [(5, .int (nI k)), (0, .ref b), (1, .ref x), (2, .ref mo), (3, .ref ou), (4, .int (nI i))]) hx hb dL_law_1187 hl (by decide) rfl (fun ls hl => ?_)
  refine lv_aload_n hx hb dL_law_1189 rfl (lv_at hl 3 rfl) ?_
  refine lv_aload_n hx hb dL_law_1190 rfl (lv_at hl 1 rfl) ?_
  refine lv_iload hx hb dL_law_1191 (lv_at hl 5 rfl) ?_
  refine lv_iconst (v := nI 1) hx hb dL_law_1193 (by decide) ?_
  refine lv_iadd hx hb dL_law_1194 ?_
  refine tp_i (show (nI i) + (nI 1) = nI (i + 1) from nI_add _ _) ?_
  refine va_sld hx hb hSc hbl hbA hS (vp_in_nI (show i + 1 < L by omega) (by omega)) dL_law_1195 ?_
  refine lv_aload_n hx hb dL_law_1196 rfl (lv_at hl 1 rfl) ?_
  refine lv_iload hx hb dL_law_1197 (lv_at hl 5 rfl) ?_
  refine lv_iconst (v := nI 2) hx hb dL_law_1199 (by decide) ?_
  refine lv_iadd hx hb dL_law_1200 ?_
  refine tp_i (show (nI i) + (nI 2) = nI (i + 2) from nI_add _ _) ?_
  refine va_sld hx hb hSc hbl hbA hS (vp_in_nI (show i + 2 < L by omega) (by omega)) dL_law_1201 ?_
  refine kc_VI (n := 2) (As := [.int (xs (nI (i + 1)).toNatClampNeg), .int (xs (nI (i + 2)).toNatClampNeg)]) (rest := []) ⟨hx, hb, hml, hown, hts⟩ (c_M_least l D g ad tb sa w1 H.size mo ml cd cnt ki on tw od fa st rs me fo fd ba ta by9 nd hR.D hMo σ hS9 b1 b2 (xs (nI (i + 1)).toNatClampNeg) (xs (nI (i + 2)).toNatClampNeg)) bw_694 bw_695 bw_696 bw_3 bw_697 (by decide +kernel) rfl rfl hMo.1 ⟨by decide, by decide⟩ hW hK hk hS hAA rfl hl.1 rfl (Nat.le_of_ble_eq_true rfl) dL_law_1202 ⟨by show _ ≤ 601024; omega, by show _ ≤ 7293033; omega⟩ (fun r w2 H locs hp hW hS => ?_)
  obtain ⟨hj2, hmi, ho2, heq⟩ := hfin ml cd ki on tw od fa st rs me fo fd ba ta by9 nd hR hMo hS9 b1 b2 b3 hg _ _ hp
  rw [← ho2] at hou
  obtain ⟨ml2, ki2, on2, tw2, od2, fa2, st2, rs2, me2, fo2, fd2, ba2, ta2, by2, nd2, hR2, hMo2, -⟩ := id hmi
  refine lv_istore (lv' := [(6, .int r), (5, .int (nI k)), (0, .ref b), (1, .ref x), (2, .ref mo), (3, .ref ou), (4, .int (nI i))]) hx hb dL_law_1205 hl (by decide) rfl (fun ls hl => ?_)
  refine lv_aload_n hx hb dL_law_1207 rfl (lv_at hl 4 rfl) ?_
  refine kc_VI (n := 0) (As := []) (rest := []) ⟨hx, hb, hml, hown, hts⟩ (c_M_thrown l D g ad tb sa w2 H.size mo ml2 k cnt1 ki2 on2 tw2 od2 fa2 st2 rs2 me2 fo2 fd2 ba2 ta2 by2 nd2 hMo2) bw_567 bw_568 bw_569 bw_3 bw_570 (by decide +kernel) rfl rfl hMo2.1 ⟨by decide, by decide⟩ hW hK hk hS hAA rfl hl.1 rfl (Nat.le_of_ble_eq_true rfl) dL_law_1208 ⟨by show _ ≤ 601024; omega, by show _ ≤ 7293033; omega⟩ (fun r3 w3 H locs hp hW hS => ?_)
  obtain ⟨hw9, hr9⟩ := hp
  rw [hw9] at hW
  subst hr9
  refine lv_iload hx hb dL_law_1211 (lv_at hl 1 rfl) ?_
  refine nw_icmp_eq (tgt := 1218) hx hb (by omega) (by omega) dL_law_1213 (by decide) (fun c1 => ?_) (fun c1 => absurd rfl c1)
  refine lv_iload hx hb dL_law_1218 (lv_at hl 1 rfl) ?_
  refine nw_if_ne (tgt := 1235) hx hb (by omega) dL_law_1220 (by decide) (fun c0 => ?_) (fun c0 => ?_)
  · refine lv_goto (tgt := 1394) hx hb dL_law_1235 (by decide) ?_
    refine W.widen (k := ce + 5) (n := sl + 160) (by omega) (by omega) ?_
    exact kk σ1 cnt1 γ1 ro1 w2 hj2 H locs hW hS ls (lv_sub hl [2, 3, 4, 5, 6] rfl)
  · refine lv_aload_n hx hb dL_law_1223 rfl (lv_at hl 5 rfl) ?_
    refine lv_iconst (v := nI 0) hx hb dL_law_1224 (by decide) ?_
    refine hw_lald hx hb hK hW 2 hou rfl (vp_in_nI (show 0 < 1 by omega) (by omega)) dL_law_1225 ?_
    refine tp_l (show fo1 (nI 0).toNatClampNeg = fo1 0 from by rw [nI_clamp (by omega)]) ?_
    refine lv_iload hx hb dL_law_1226 (lv_at hl 0 rfl) ?_
    refine lv_i2l hx hb dL_law_1228 rfl ?_
    refine tp_l (show r.toInt64 = fo1 0 from (heq (by omega)).symm) ?_
    refine W.lcmp hx hb dL_law_1229 ?_
    refine lv_if_eq (tgt := 1235) hx hb dL_law_1230 (by decide) (fun c2 => ?_) (fun c2 => absurd ((lg_cmp_eq _ _).mpr rfl) c2)
    refine lv_goto (tgt := 1394) hx hb dL_law_1235 (by decide) ?_
    refine W.widen (k := ce + 5) (n := sl + 160) (by omega) (by omega) ?_
    exact kk σ1 cnt1 γ1 ro1 w2 hj2 H locs hW hS ls (lv_sub hl [2, 3, 4, 5, 6] rfl)

set_option maxHeartbeats 1000000 in
set_option maxRecDepth 100000 in
theorem cs_differ {p : Program} {l : Launch} {e : Env} {s : State} {m : MethodId} {args : Array Value} {below : List Frame} {meth : Method} {c : Code} {Q : State → Prop} {D : va_G} {g : Nat → ClassId} {ad : Nat → Nat} {tb : Nat} {sa : Nat → Nat} {A : Nat → Prop} {b L : Nat} {xs : Nat → Int32} (hSc : va_X b L xs s s.heap) (hbl : b < s.heap.size) (hbA : ¬ A b) (hL : L ≤ 3072) {ro : Nat → Nat} {x mo ou i ce sl : Nat} {σ : Nat → SD} {cnt : Nat} {γ : GU} {w : Wd} {H : Heap} {locs : List Loc} {ls : Array Slot} (hl0 : l.stackTraces = false) (hi6 : i + 6 ≤ L) (hce : ce + 5 ≤ 601024) (hsl : sl + 160 ≤ 7293033) (hj : jI g ad w ro x mo ou σ cnt γ) (C0 : cx p s m args c A cL_law 7 RL D g ad tb sa) (hW : hw D vwCl A w H) (hS : va_S A s.heap H locs) (hl : lv_has ls 7 [(0, .ref b), (1, .ref x), (2, .ref mo), (3, .ref ou), (4, .int (nI i))]) (kk : ∀ (σ' : Nat → SD) (cnt' : Nat) (γ' : GU) (ro' : Nat → Nat) (w1 : Wd), jI g ad w1 ro' x mo ou σ' cnt' γ' → ∀ (H : Heap) (locs : List Loc), hw D vwCl A w1 H → va_S A s.heap H locs → ∀ ls : Array Slot, lv_has ls 7 [(0, .ref b), (1, .ref x), (2, .ref mo), (3, .ref ou), (4, .int (nI i))] → W p l e (rmL 12 444 601024 7293033) s m args below meth c H locs (ce + 5) (sl + 160) Q (F0 m 1394 ls [])) : W p l e (rmL 12 444 601024 7293033) s m args below meth c H locs ce sl Q (F0 m 1238 ls []) := by
  obtain ⟨hx, hb, hml, hts, hown, hK, hk, hAA⟩ := C0
  obtain ⟨fs, hob⟩ := hj.1.ob
  obtain ⟨-, -, ⟨foO, hOu⟩, hRo⟩ := id hj
  refine lv_aload_n hx hb dL_law_1238 rfl (lv_at hl 1 rfl) ?_
  refine lv_aload_n hx hb dL_law_1239 rfl (lv_at hl 0 rfl) ?_
  refine lv_iload hx hb dL_law_1240 (lv_at hl 4 rfl) ?_
  refine lv_iconst (v := nI 1) hx hb dL_law_1242 (by decide) ?_
  refine lv_iadd hx hb dL_law_1243 ?_
  refine tp_i (show (nI i) + (nI 1) = nI (i + 1) from nI_add _ _) ?_
  refine va_sld hx hb hSc hbl hbA hS (vp_in_nI (show i + 1 < L by omega) (by omega)) dL_law_1244 ?_
  refine lv_aload_n hx hb dL_law_1245 rfl (lv_at hl 0 rfl) ?_
  refine lv_iload hx hb dL_law_1246 (lv_at hl 4 rfl) ?_
  refine lv_iconst (v := nI 2) hx hb dL_law_1248 (by decide) ?_
  refine lv_iadd hx hb dL_law_1249 ?_
  refine tp_i (show (nI i) + (nI 2) = nI (i + 2) from nI_add _ _) ?_
  refine va_sld hx hb hSc hbl hbA hS (vp_in_nI (show i + 2 < L by omega) (by omega)) dL_law_1250 ?_
  refine lv_aload_n hx hb dL_law_1251 rfl (lv_at hl 3 rfl) ?_
  refine kc_LI (n := 4) (As := [.ref x, .int (xs (nI (i + 1)).toNatClampNeg), .int (xs (nI (i + 2)).toNatClampNeg), .ref ou]) (rest := []) ⟨hx, hb, hml, hown, hts⟩ (c_L_differ l D g ad tb sa w H.size _ _ x ou fs foO (xs (nI (i + 1)).toNatClampNeg) (xs (nI (i + 2)).toNatClampNeg) (c_X_differ l D g ad tb sa w H.size hl0 ro x σ cnt γ hj.1 (xs (nI (i + 1)).toNatClampNeg) (xs (nI (i + 2)).toNatClampNeg)) hob (fun x9 w9 h9 => by obtain ⟨f, h, hf, hh, ef, eh, ex, hI, hkp⟩ := h9; exact (hkp _ _ hOu (by omega)).1) (fun E w9 h9 => h9.1)) bw_497 bw_498 bw_0 bw_499 (by decide +kernel) ⟨by decide, by decide⟩ hW hK hk hS hAA rfl hl.1 rfl (Nat.le_of_ble_eq_true rfl) dL_law_1252 ⟨by show _ ≤ 601024; omega, by show _ ≤ 7293033; omega⟩ (fun r w1 H locs hp hW hS => ?_)
  obtain ⟨k, σ1, cnt1, γ1, ro1, fo1, rfl, hk4, hJ, hou, hfin⟩ := j_differ (f9 := (xs (nI (i + 1)).toNatClampNeg)) (g9 := (xs (nI (i + 2)).toNatClampNeg)) hj hp
  obtain ⟨-, ⟨cd, ml, ki, on, tw, od, fa, st, rs, me, fo, fd, ba, ta, by9, nd, hR, hMo, hS9, b1, b2, b3, hg⟩, -⟩ := id hJ
  have h40 := hS9.1
  refine lv_istore (lv' := [(5, .int (nI k)), (0, .ref b), (1, .ref x), (2, .ref mo), (3, .ref ou), (4, .int (nI i))]) hx hb dL_law_1255 hl (by decide) rfl (fun ls hl => ?_)
  refine lv_aload_n hx hb dL_law_1257 rfl (lv_at hl 3 rfl) ?_
  refine lv_aload_n hx hb dL_law_1258 rfl (lv_at hl 1 rfl) ?_
  refine lv_iload hx hb dL_law_1259 (lv_at hl 5 rfl) ?_
  refine lv_iconst (v := nI 1) hx hb dL_law_1261 (by decide) ?_
  refine lv_iadd hx hb dL_law_1262 ?_
  refine tp_i (show (nI i) + (nI 1) = nI (i + 1) from nI_add _ _) ?_
  refine va_sld hx hb hSc hbl hbA hS (vp_in_nI (show i + 1 < L by omega) (by omega)) dL_law_1263 ?_
  refine lv_aload_n hx hb dL_law_1264 rfl (lv_at hl 1 rfl) ?_
  refine lv_iload hx hb dL_law_1265 (lv_at hl 5 rfl) ?_
  refine lv_iconst (v := nI 2) hx hb dL_law_1267 (by decide) ?_
  refine lv_iadd hx hb dL_law_1268 ?_
  refine tp_i (show (nI i) + (nI 2) = nI (i + 2) from nI_add _ _) ?_
  refine va_sld hx hb hSc hbl hbA hS (vp_in_nI (show i + 2 < L by omega) (by omega)) dL_law_1269 ?_
  refine kc_VI (n := 2) (As := [.int (xs (nI (i + 1)).toNatClampNeg), .int (xs (nI (i + 2)).toNatClampNeg)]) (rest := []) ⟨hx, hb, hml, hown, hts⟩ (c_M_differ l D g ad tb sa w1 H.size mo ml cd cnt ki on tw od fa st rs me fo fd ba ta by9 nd hR.D hMo σ hS9 b1 (xs (nI (i + 1)).toNatClampNeg) (xs (nI (i + 2)).toNatClampNeg)) bw_665 bw_666 bw_667 bw_3 bw_668 (by decide +kernel) rfl rfl hMo.1 ⟨by decide, by decide⟩ hW hK hk hS hAA rfl hl.1 rfl (Nat.le_of_ble_eq_true rfl) dL_law_1270 ⟨by show _ ≤ 601024; omega, by show _ ≤ 7293033; omega⟩ (fun r w2 H locs hp hW hS => ?_)
  obtain ⟨hj2, hmi, ho2, heq⟩ := hfin ml cd ki on tw od fa st rs me fo fd ba ta by9 nd hR hMo hS9 b1 b2 b3 hg _ _ hp
  rw [← ho2] at hou
  obtain ⟨ml2, ki2, on2, tw2, od2, fa2, st2, rs2, me2, fo2, fd2, ba2, ta2, by2, nd2, hR2, hMo2, -⟩ := id hmi
  refine lv_istore (lv' := [(6, .int r), (5, .int (nI k)), (0, .ref b), (1, .ref x), (2, .ref mo), (3, .ref ou), (4, .int (nI i))]) hx hb dL_law_1273 hl (by decide) rfl (fun ls hl => ?_)
  refine lv_aload_n hx hb dL_law_1275 rfl (lv_at hl 4 rfl) ?_
  refine kc_VI (n := 0) (As := []) (rest := []) ⟨hx, hb, hml, hown, hts⟩ (c_M_thrown l D g ad tb sa w2 H.size mo ml2 k cnt1 ki2 on2 tw2 od2 fa2 st2 rs2 me2 fo2 fd2 ba2 ta2 by2 nd2 hMo2) bw_567 bw_568 bw_569 bw_3 bw_570 (by decide +kernel) rfl rfl hMo2.1 ⟨by decide, by decide⟩ hW hK hk hS hAA rfl hl.1 rfl (Nat.le_of_ble_eq_true rfl) dL_law_1276 ⟨by show _ ≤ 601024; omega, by show _ ≤ 7293033; omega⟩ (fun r3 w3 H locs hp hW hS => ?_)
  obtain ⟨hw9, hr9⟩ := hp
  rw [hw9] at hW
  subst hr9
  refine lv_iload hx hb dL_law_1279 (lv_at hl 1 rfl) ?_
  refine nw_icmp_eq (tgt := 1286) hx hb (by omega) (by omega) dL_law_1281 (by decide) (fun c1 => ?_) (fun c1 => absurd rfl c1)
  refine lv_iload hx hb dL_law_1286 (lv_at hl 1 rfl) ?_
  refine nw_if_ne (tgt := 1303) hx hb (by omega) dL_law_1288 (by decide) (fun c0 => ?_) (fun c0 => ?_)
  · refine lv_goto (tgt := 1394) hx hb dL_law_1303 (by decide) ?_
    refine W.widen (k := ce + 5) (n := sl + 160) (by omega) (by omega) ?_
    exact kk σ1 cnt1 γ1 ro1 w2 hj2 H locs hW hS ls (lv_sub hl [2, 3, 4, 5, 6] rfl)
  · refine lv_aload_n hx hb dL_law_1291 rfl (lv_at hl 5 rfl) ?_
    refine lv_iconst (v := nI 0) hx hb dL_law_1292 (by decide) ?_
    refine hw_lald hx hb hK hW 2 hou rfl (vp_in_nI (show 0 < 1 by omega) (by omega)) dL_law_1293 ?_
    refine tp_l (show fo1 (nI 0).toNatClampNeg = fo1 0 from by rw [nI_clamp (by omega)]) ?_
    refine lv_iload hx hb dL_law_1294 (lv_at hl 0 rfl) ?_
    refine lv_i2l hx hb dL_law_1296 rfl ?_
    refine tp_l (show r.toInt64 = fo1 0 from (heq (by omega)).symm) ?_
    refine W.lcmp hx hb dL_law_1297 ?_
    refine lv_if_eq (tgt := 1303) hx hb dL_law_1298 (by decide) (fun c2 => ?_) (fun c2 => absurd ((lg_cmp_eq _ _).mpr rfl) c2)
    refine lv_goto (tgt := 1394) hx hb dL_law_1303 (by decide) ?_
    refine W.widen (k := ce + 5) (n := sl + 160) (by omega) (by omega) ?_
    exact kk σ1 cnt1 γ1 ro1 w2 hj2 H locs hW hS ls (lv_sub hl [2, 3, 4, 5, 6] rfl)

set_option maxHeartbeats 1000000 in
set_option maxRecDepth 100000 in
theorem cs_hangs {p : Program} {l : Launch} {e : Env} {s : State} {m : MethodId} {args : Array Value} {below : List Frame} {meth : Method} {c : Code} {Q : State → Prop} {D : va_G} {g : Nat → ClassId} {ad : Nat → Nat} {tb : Nat} {sa : Nat → Nat} {A : Nat → Prop} {b L : Nat} {xs : Nat → Int32} (hSc : va_X b L xs s s.heap) (hbl : b < s.heap.size) (hbA : ¬ A b) (hL : L ≤ 3072) {ro : Nat → Nat} {x mo ou i ce sl : Nat} {σ : Nat → SD} {cnt : Nat} {γ : GU} {w : Wd} {H : Heap} {locs : List Loc} {ls : Array Slot} (hl0 : l.stackTraces = false) (hi6 : i + 6 ≤ L) (hce : ce + 5 ≤ 601024) (hsl : sl + 160 ≤ 7293033) (hj : jI g ad w ro x mo ou σ cnt γ) (C0 : cx p s m args c A cL_law 7 RL D g ad tb sa) (hW : hw D vwCl A w H) (hS : va_S A s.heap H locs) (hl : lv_has ls 7 [(0, .ref b), (1, .ref x), (2, .ref mo), (3, .ref ou), (4, .int (nI i))]) (kk : ∀ (σ' : Nat → SD) (cnt' : Nat) (γ' : GU) (ro' : Nat → Nat) (w1 : Wd), jI g ad w1 ro' x mo ou σ' cnt' γ' → ∀ (H : Heap) (locs : List Loc), hw D vwCl A w1 H → va_S A s.heap H locs → ∀ ls : Array Slot, lv_has ls 7 [(0, .ref b), (1, .ref x), (2, .ref mo), (3, .ref ou), (4, .int (nI i))] → W p l e (rmL 12 444 601024 7293033) s m args below meth c H locs (ce + 5) (sl + 160) Q (F0 m 1394 ls [])) : W p l e (rmL 12 444 601024 7293033) s m args below meth c H locs ce sl Q (F0 m 1306 ls []) := by
  obtain ⟨hx, hb, hml, hts, hown, hK, hk, hAA⟩ := C0
  obtain ⟨fs, hob⟩ := hj.1.ob
  obtain ⟨-, -, ⟨foO, hOu⟩, hRo⟩ := id hj
  refine lv_aload_n hx hb dL_law_1306 rfl (lv_at hl 1 rfl) ?_
  refine lv_aload_n hx hb dL_law_1307 rfl (lv_at hl 0 rfl) ?_
  refine lv_iload hx hb dL_law_1308 (lv_at hl 4 rfl) ?_
  refine lv_iconst (v := nI 1) hx hb dL_law_1310 (by decide) ?_
  refine lv_iadd hx hb dL_law_1311 ?_
  refine tp_i (show (nI i) + (nI 1) = nI (i + 1) from nI_add _ _) ?_
  refine va_sld hx hb hSc hbl hbA hS (vp_in_nI (show i + 1 < L by omega) (by omega)) dL_law_1312 ?_
  refine lv_aload_n hx hb dL_law_1313 rfl (lv_at hl 0 rfl) ?_
  refine lv_iload hx hb dL_law_1314 (lv_at hl 4 rfl) ?_
  refine lv_iconst (v := nI 2) hx hb dL_law_1316 (by decide) ?_
  refine lv_iadd hx hb dL_law_1317 ?_
  refine tp_i (show (nI i) + (nI 2) = nI (i + 2) from nI_add _ _) ?_
  refine va_sld hx hb hSc hbl hbA hS (vp_in_nI (show i + 2 < L by omega) (by omega)) dL_law_1318 ?_
  refine lv_aload_n hx hb dL_law_1319 rfl (lv_at hl 3 rfl) ?_
  refine kc_LI (n := 4) (As := [.ref x, .int (xs (nI (i + 1)).toNatClampNeg), .int (xs (nI (i + 2)).toNatClampNeg), .ref ou]) (rest := []) ⟨hx, hb, hml, hown, hts⟩ (c_L_hangs l D g ad tb sa w H.size _ _ x ou fs foO (xs (nI (i + 1)).toNatClampNeg) (xs (nI (i + 2)).toNatClampNeg) (c_X_hangs l D g ad tb sa w H.size hl0 ro x σ cnt γ hj.1 (xs (nI (i + 1)).toNatClampNeg) (xs (nI (i + 2)).toNatClampNeg)) hob (fun x9 w9 h9 => by obtain ⟨f, h, hf, hh, ef, eh, ex, ew3⟩ := h9; rw [ew3]; exact hOu) (fun E w9 h9 => h9.1)) bw_504 bw_505 bw_0 bw_506 (by decide +kernel) ⟨by decide, by decide⟩ hW hK hk hS hAA rfl hl.1 rfl (Nat.le_of_ble_eq_true rfl) dL_law_1320 ⟨by show _ ≤ 601024; omega, by show _ ≤ 7293033; omega⟩ (fun r w1 H locs hp hW hS => ?_)
  obtain ⟨k, σ1, cnt1, γ1, ro1, fo1, rfl, hk4, hJ, hou, hfin⟩ := j_hangs (f9 := (xs (nI (i + 1)).toNatClampNeg)) (g9 := (xs (nI (i + 2)).toNatClampNeg)) hj hp
  obtain ⟨-, ⟨cd, ml, ki, on, tw, od, fa, st, rs, me, fo, fd, ba, ta, by9, nd, hR, hMo, hS9, b1, b2, b3, hg⟩, -⟩ := id hJ
  have h40 := hS9.1
  refine lv_istore (lv' := [(5, .int (nI k)), (0, .ref b), (1, .ref x), (2, .ref mo), (3, .ref ou), (4, .int (nI i))]) hx hb dL_law_1323 hl (by decide) rfl (fun ls hl => ?_)
  refine lv_aload_n hx hb dL_law_1325 rfl (lv_at hl 3 rfl) ?_
  refine lv_aload_n hx hb dL_law_1326 rfl (lv_at hl 1 rfl) ?_
  refine lv_iload hx hb dL_law_1327 (lv_at hl 5 rfl) ?_
  refine lv_iconst (v := nI 1) hx hb dL_law_1329 (by decide) ?_
  refine lv_iadd hx hb dL_law_1330 ?_
  refine tp_i (show (nI i) + (nI 1) = nI (i + 1) from nI_add _ _) ?_
  refine va_sld hx hb hSc hbl hbA hS (vp_in_nI (show i + 1 < L by omega) (by omega)) dL_law_1331 ?_
  refine lv_aload_n hx hb dL_law_1332 rfl (lv_at hl 1 rfl) ?_
  refine lv_iload hx hb dL_law_1333 (lv_at hl 5 rfl) ?_
  refine lv_iconst (v := nI 2) hx hb dL_law_1335 (by decide) ?_
  refine lv_iadd hx hb dL_law_1336 ?_
  refine tp_i (show (nI i) + (nI 2) = nI (i + 2) from nI_add _ _) ?_
  refine va_sld hx hb hSc hbl hbA hS (vp_in_nI (show i + 2 < L by omega) (by omega)) dL_law_1337 ?_
  refine kc_VI (n := 2) (As := [.int (xs (nI (i + 1)).toNatClampNeg), .int (xs (nI (i + 2)).toNatClampNeg)]) (rest := []) ⟨hx, hb, hml, hown, hts⟩ (c_M_hangs l D g ad tb sa w1 H.size mo ml cd cnt ki on tw od fa st rs me fo fd ba ta by9 nd hR.D hMo σ hS9 (xs (nI (i + 1)).toNatClampNeg) (xs (nI (i + 2)).toNatClampNeg)) bw_669 bw_670 bw_671 bw_3 bw_672 (by decide +kernel) rfl rfl hMo.1 ⟨by decide, by decide⟩ hW hK hk hS hAA rfl hl.1 rfl (Nat.le_of_ble_eq_true rfl) dL_law_1338 ⟨by show _ ≤ 601024; omega, by show _ ≤ 7293033; omega⟩ (fun r w2 H locs hp hW hS => ?_)
  obtain ⟨hj2, hmi, ho2, heq⟩ := hfin ml cd ki on tw od fa st rs me fo fd ba ta by9 nd hR hMo hS9 b1 b2 b3 hg _ _ hp
  rw [← ho2] at hou
  obtain ⟨ml2, ki2, on2, tw2, od2, fa2, st2, rs2, me2, fo2, fd2, ba2, ta2, by2, nd2, hR2, hMo2, -⟩ := id hmi
  refine lv_istore (lv' := [(6, .int r), (5, .int (nI k)), (0, .ref b), (1, .ref x), (2, .ref mo), (3, .ref ou), (4, .int (nI i))]) hx hb dL_law_1341 hl (by decide) rfl (fun ls hl => ?_)
  refine lv_aload_n hx hb dL_law_1343 rfl (lv_at hl 4 rfl) ?_
  refine kc_VI (n := 0) (As := []) (rest := []) ⟨hx, hb, hml, hown, hts⟩ (c_M_thrown l D g ad tb sa w2 H.size mo ml2 k cnt1 ki2 on2 tw2 od2 fa2 st2 rs2 me2 fo2 fd2 ba2 ta2 by2 nd2 hMo2) bw_567 bw_568 bw_569 bw_3 bw_570 (by decide +kernel) rfl rfl hMo2.1 ⟨by decide, by decide⟩ hW hK hk hS hAA rfl hl.1 rfl (Nat.le_of_ble_eq_true rfl) dL_law_1344 ⟨by show _ ≤ 601024; omega, by show _ ≤ 7293033; omega⟩ (fun r3 w3 H locs hp hW hS => ?_)
  obtain ⟨hw9, hr9⟩ := hp
  rw [hw9] at hW
  subst hr9
  refine lv_iload hx hb dL_law_1347 (lv_at hl 1 rfl) ?_
  refine nw_icmp_eq (tgt := 1354) hx hb (by omega) (by omega) dL_law_1349 (by decide) (fun c1 => ?_) (fun c1 => absurd rfl c1)
  refine lv_iload hx hb dL_law_1354 (lv_at hl 1 rfl) ?_
  refine nw_if_ne (tgt := 1378) hx hb (by omega) dL_law_1356 (by decide) (fun c0 => ?_) (fun c0 => ?_)
  · refine lv_goto (tgt := 1394) hx hb dL_law_1378 (by decide) ?_
    refine W.widen (k := ce + 5) (n := sl + 160) (by omega) (by omega) ?_
    exact kk σ1 cnt1 γ1 ro1 w2 hj2 H locs hW hS ls (lv_sub hl [2, 3, 4, 5, 6] rfl)
  · refine lv_aload_n hx hb dL_law_1359 rfl (lv_at hl 5 rfl) ?_
    refine lv_iconst (v := nI 0) hx hb dL_law_1360 (by decide) ?_
    refine hw_lald hx hb hK hW 2 hou rfl (vp_in_nI (show 0 < 1 by omega) (by omega)) dL_law_1361 ?_
    refine tp_l (show fo1 (nI 0).toNatClampNeg = fo1 0 from by rw [nI_clamp (by omega)]) ?_
    refine lv_iload hx hb dL_law_1362 (lv_at hl 0 rfl) ?_
    refine lv_if_eq (tgt := 1371) hx hb dL_law_1364 (by decide) (fun cr => ?_) (fun cr => ?_)
    · refine lv_lconst (v := lN 0) hx hb dL_law_1371 (by decide) ?_
      refine tp_l (show lN 0 = fo1 0 from by rw [heq (by omega), if_pos cr]) ?_
      refine W.lcmp hx hb dL_law_1372 ?_
      refine lv_if_eq (tgt := 1378) hx hb dL_law_1373 (by decide) (fun c2 => ?_) (fun c2 => absurd ((lg_cmp_eq _ _).mpr rfl) c2)
      refine lv_goto (tgt := 1394) hx hb dL_law_1378 (by decide) ?_
      refine W.widen (k := ce + 5) (n := sl + 160) (by omega) (by omega) ?_
      exact kk σ1 cnt1 γ1 ro1 w2 hj2 H locs hW hS ls (lv_sub hl [2, 3, 4, 5, 6] rfl)
    · refine lv_lconst (v := lN 1) hx hb dL_law_1367 (by decide) ?_
      refine lv_goto (tgt := 1372) hx hb dL_law_1368 (by decide) ?_
      refine tp_l (show lN 1 = fo1 0 from by rw [heq (by omega), if_neg cr]) ?_
      refine W.lcmp hx hb dL_law_1372 ?_
      refine lv_if_eq (tgt := 1378) hx hb dL_law_1373 (by decide) (fun c3 => ?_) (fun c3 => absurd ((lg_cmp_eq _ _).mpr rfl) c3)
      refine lv_goto (tgt := 1394) hx hb dL_law_1378 (by decide) ?_
      refine W.widen (k := ce + 5) (n := sl + 160) (by omega) (by omega) ?_
      exact kk σ1 cnt1 γ1 ro1 w2 hj2 H locs hW hS ls (lv_sub hl [2, 3, 4, 5, 6] rfl)
