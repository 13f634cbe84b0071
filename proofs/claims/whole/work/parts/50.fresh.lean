set_option maxHeartbeats 1000000 in
set_option maxRecDepth 100000 in
theorem lp_X_fresh {p : Program} {l : Launch} {e : Env} {s : State} {m : MethodId} {args : Array Value} {below : List Frame} {meth : Method} {c : Code} {Q : State → Prop} {D : va_G} {g : Nat → ClassId} {ad : Nat → Nat} {tb : Nat} {sa : Nat → Nat} {A : Nat → Prop} {w : Wd} {al ro : Nat → Nat} {σ : Nat → SD} {cnt : Nat} {fh : Nat → Bool} {pt : Nat → Int64} {f : Nat} (hf : f < cnt) (C0 : cx p s m args c A cX_freshNumbers 4 RX D g ad tb sa) : ∀ (e9 : Nat) (k : Nat) (fh1 : Nat → Bool) (T1 : Nat → Nat → Nat) (w1 : Wd), (k + e9 = 40) → (xS g ad w1 al ro σ cnt fh1 T1 pt) → (frN ro w w1) → (∀ j, j < cnt → j < k → sdep σ f j = true → fh1 j = true) → (∀ j, fh j = true → fh1 j = true) → ∀ (H : Heap) (locs : List Loc), hw D vwCl A w1 H → va_S A s.heap H locs → ∀ ls : Array Slot, lv_has ls 4 [(0, .ref (al 0)), (1, .ref (al (100 + f))), (2, .int (nI k))] → (∀ (fh1 : Nat → Bool) (T1 : Nat → Nat → Nat) (w1 : Wd), (xS g ad w1 al ro σ cnt fh1 T1 pt) → (frN ro w w1) → (∀ j, j < cnt → j < 40 → sdep σ f j = true → fh1 j = true) → (∀ j, fh j = true → fh1 j = true) → ∀ (H : Heap) (locs : List Loc), hw D vwCl A w1 H → va_S A s.heap H locs → ∀ ls : Array Slot, lv_has ls 4 [(0, .ref (al 0)), (1, .ref (al (100 + f)))] → W p l e (rmL 4 94 0 0) s m args below meth c H locs 0 0 Q (F0 m 44 ls [])) → W p l e (rmL 4 94 0 0) s m args below meth c H locs 0 0 Q (F0 m 2 ls []) := by
  obtain ⟨hx, hb, hml, hts, hown, hK, hk, hAA⟩ := C0
  intro e9
  induction e9 with
  | zero =>
    intro k fh1 T1 w1 hk9 hX hfr hfh hmo H locs hW hS ls hl kk0
    refine lv_iload_n hx hb dX_freshNumbers_2 rfl (lv_at hl 2 rfl) ?_
    refine lv_bipush (v := nI 40) hx hb dX_freshNumbers_3 (by decide) ?_
    refine nw_icmp_ge (tgt := 44) hx hb (by omega) (by omega) dX_freshNumbers_5 (by decide) (fun c1 => ?_) (fun c1 => absurd (show k < 40 from c1) (by omega))
    exact kk0 fh1 T1 w1 hX hfr (by rw [show k = 40 by omega] at hfh; exact hfh) hmo H locs hW hS ls (lv_sub hl [0, 1] rfl)
  | succ e9 ih =>
    intro k fh1 T1 w1 hk9 hX hfr hfh hmo H locs hW hS ls hl kk0
    have hc40 := hX.1
    have hbl := bz_le (lb (pt f) k)
    refine lv_iload_n hx hb dX_freshNumbers_2 rfl (lv_at hl 2 rfl) ?_
    refine lv_bipush (v := nI 40) hx hb dX_freshNumbers_3 (by decide) ?_
    refine nw_icmp_ge (tgt := 44) hx hb (by omega) (by omega) dX_freshNumbers_5 (by decide) (fun c1 => absurd (show 40 ≤ k from c1) (by omega)) (fun c1 => ?_)
    by_cases hkc : k < cnt
    · have hbf := bz_le (fh1 k)
      by_cases htg : sTg (σ k) = 0
      · have hob := (hX.2.2.2.2 k hkc).1.1
        rw [sOb_0 htg] at hob
        by_cases htf : sTg (σ f) = 0
        · have hobf := (hX.2.2.2.2 f hf).1.1
          rw [sOb_0 htf] at hobf
          refine lv_aload_n hx hb dX_freshNumbers_8 rfl (lv_at hl 0 rfl) ?_
          refine hw_get (v := .ref (al 1)) (C := RX) (T := TX) (N := 4) hx hb hts inX hown hK hW hX.2.2.1.1 rfl 0 (by decide) (hts _ bw_62) (fun _ h9 => h9) rfl dX_freshNumbers_9 ?_
          refine lv_iload_n hx hb dX_freshNumbers_12 rfl (lv_at hl 2 rfl) ?_
          refine hw_aldq hx hb hK hW 3 hX.2.2.2.1.1 rfl (vp_in_nI (show k < 40 by omega) (by omega)) dX_freshNumbers_13 ?_
          refine tp_v (show (va_rf ((fun i => if i < cnt then some (al (100 + i)) else none) (nI k).toNatClampNeg) : Value) = .ref (al (100 + k)) from by rw [nI_clamp (by omega)]; exact by show va_rf (if k < cnt then some (al (100 + k)) else none) = _; rw [if_pos hkc]; rfl) ?_
          refine lv_astore_n (lv' := [(3, .ref (al (100 + k))), (0, .ref (al 0)), (1, .ref (al (100 + f))), (2, .int (nI k))]) hx hb dX_freshNumbers_14 rfl hl (by decide) rfl (fun ls hl => ?_)
          refine lv_aload_n hx hb dX_freshNumbers_15 rfl (lv_at hl 0 rfl) ?_
          refine lv_ifnull hx hb dX_freshNumbers_16 ?_
          refine lv_aload_n hx hb dX_freshNumbers_19 rfl (lv_at hl 0 rfl) ?_
          refine hw_getQ (v := .int (nI (bz (fh1 k)))) hx hb hts hown hK hW hob (by decide) 1 (by decide) (hts _ bw_199) (fun _ h9 => h9) rfl dX_freshNumbers_20 ?_
          refine nw_if_ne (tgt := 38) hx hb (by omega) dX_freshNumbers_23 (by decide) (fun cf => ?_) (fun cf => ?_)
          · refine lv_iinc (v := nI (k + 1)) (lv' := [(2, .int (nI (k + 1))), (3, .ref (al (100 + k))), (0, .ref (al 0)), (1, .ref (al (100 + f)))]) hx hb dX_freshNumbers_38 hl (k := 3) rfl (nI_1 _) (by decide) rfl (fun ls hl => ?_)
            refine lv_goto (tgt := 2) hx hb dX_freshNumbers_41 (by decide) ?_
            exact ih (k + 1) fh1 T1 w1 (by omega) hX hfr (fun j hj hjk hd => by
              by_cases e8 : j = k
              · rw [e8] at hd ⊢; first
                | exact bz_t cf
                | (have h7 := (hX.2.2.2.2 f hf).2.2.2.2.1 k (by omega); rw [bz_f cb, hd] at h7; cases h7)
              · exact hfh j hj (by omega) hd) hmo H locs hW hS ls (lv_sub hl [2, 3, 0] rfl) kk0
          · refine lv_aload_n hx hb dX_freshNumbers_26 rfl (lv_at hl 2 rfl) ?_
            refine lv_iload_n hx hb dX_freshNumbers_27 rfl (lv_at hl 3 rfl) ?_
            refine kc_UI (n := 1) (As := [.int (nI k)]) (rest := []) ⟨hx, hb, hml, hown, hts⟩ (c_Q_isMadeOf l D g ad tb sa w1 H.size (al (100 + f)) k 1 (al (200 + f)) (bz (fh1 f)) (pt f) _ (by omega) (by decide) hobf) bw_265 bw_267 bw_269 bw_266 bw_9 bw_270 rfl (by decide +kernel) rfl rfl hobf ⟨by decide, by decide⟩ hW hK hk hS hAA rfl hl.1 rfl (Nat.le_of_ble_eq_true rfl) dX_freshNumbers_28 ⟨by decide, by decide⟩ (fun r2 w3 H locs hp hW hS => ?_)
            obtain ⟨hw9, hr9⟩ := hp
            rw [hw9] at hW
            subst hr9
            refine nw_if_eq (tgt := 38) hx hb (by omega) dX_freshNumbers_31 (by decide) (fun cb => ?_) (fun cb => ?_)
            · refine lv_iinc (v := nI (k + 1)) (lv' := [(2, .int (nI (k + 1))), (3, .ref (al (100 + k))), (0, .ref (al 0)), (1, .ref (al (100 + f)))]) hx hb dX_freshNumbers_38 hl (k := 3) rfl (nI_1 _) (by decide) rfl (fun ls hl => ?_)
              refine lv_goto (tgt := 2) hx hb dX_freshNumbers_41 (by decide) ?_
              exact ih (k + 1) fh1 T1 w1 (by omega) hX hfr (fun j hj hjk hd => by
                by_cases e8 : j = k
                · rw [e8] at hd ⊢; first
                  | exact bz_t cf
                  | (have h7 := (hX.2.2.2.2 f hf).2.2.2.2.1 k (by omega); rw [bz_f cb, hd] at h7; cases h7)
                · exact hfh j hj (by omega) hd) hmo H locs hW hS ls (lv_sub hl [2, 3, 0] rfl) kk0
            · refine lv_aload_n hx hb dX_freshNumbers_34 rfl (lv_at hl 0 rfl) ?_
              have hk8 := hX.2.2.2.2 k hkc
              have hdk : sdep σ f k = true := by rw [← (hX.2.2.2.2 f hf).2.2.2.2.1 k (by omega)]; exact bz_t cb
              obtain ⟨r1, r2, r3, r4⟩ := hk8.2.2.2.2.2.1 htg
              refine kc_UV (n := 0) (As := []) (rest := []) ⟨hx, hb, hml, hown, hts⟩ (c_Q_refreshR l D g ad tb sa w1 H.size (al (100 + k)) (al (200 + k)) (bz (fh1 k)) (al (300 + k)) (al (400 + k)) (pt k) (σ k) (T1 k) htg hob r3.1 (fun x hx => hk8.2.2.2.2.2.2.2.1 x (by omega)) r2 r4.1 hk8.2.2.2.2.2.2.2.2 hk8.2.1.1 hk8.2.2.1 (r3.ne hk8.2.1 (by omega)) (r4.ne hk8.2.1 (by omega))) bw_383 bw_385 bw_387 bw_384 bw_9 bw_388 rfl (by decide +kernel) rfl rfl hob ⟨by decide, by decide⟩ hW hK hk hS hAA rfl hl.1 rfl (Nat.le_of_ble_eq_true rfl) dX_freshNumbers_35 ⟨by decide, by decide⟩ (fun w5 H locs hp hW hS => ?_)
              obtain ⟨T9, hT9, ew9⟩ := hp
              have hT8 : ∀ m, m < 64 → T9 m = sval σ k m := fun m hm => by rw [hT9 m hm, seqI.row hX.2.1 hkc hX.2.2.2.2 (fun e9 => absurd htg e9) hm, if_pos htg, if_pos htg]
              have ew8 : w5 = hwu (hwu w1 (al (200 + k)) (ia (g 0) 64 T9)) (al (100 + k)) (sOb ad al k (σ k) true (pt k)) := by rw [ew9, sOb_0 htg]; rfl
              refine lv_iinc (v := nI (k + 1)) (lv' := [(2, .int (nI (k + 1))), (3, .ref (al (100 + k))), (0, .ref (al 0)), (1, .ref (al (100 + f)))]) hx hb dX_freshNumbers_38 hl (k := 3) rfl (nI_1 _) (by decide) rfl (fun ls hl => ?_)
              refine lv_goto (tgt := 2) hx hb dX_freshNumbers_41 (by decide) ?_
              exact ih (k + 1) (va_up fh1 k true) (va_up T1 k T9) w5 (by omega) (hX.set hkc hT8 ew8) (hfr.tr (hX.fr hkc ew8)) (fun j hj hjk hd => by
                by_cases e8 : j = k
                · rw [e8, va_up_eq]
                · rw [va_up_no e8]; exact hfh j hj (by omega) hd) (fun j hj => by
                by_cases e8 : j = k
                · rw [e8, va_up_eq]
                · rw [va_up_no e8]; exact hmo j hj) H locs hW hS ls (lv_sub hl [2, 3, 0] rfl) kk0
        · have hobf := (hX.2.2.2.2 f hf).1.1
          rw [sOb_1 htf] at hobf
          refine lv_aload_n hx hb dX_freshNumbers_8 rfl (lv_at hl 0 rfl) ?_
          refine hw_get (v := .ref (al 1)) (C := RX) (T := TX) (N := 4) hx hb hts inX hown hK hW hX.2.2.1.1 rfl 0 (by decide) (hts _ bw_62) (fun _ h9 => h9) rfl dX_freshNumbers_9 ?_
          refine lv_iload_n hx hb dX_freshNumbers_12 rfl (lv_at hl 2 rfl) ?_
          refine hw_aldq hx hb hK hW 3 hX.2.2.2.1.1 rfl (vp_in_nI (show k < 40 by omega) (by omega)) dX_freshNumbers_13 ?_
          refine tp_v (show (va_rf ((fun i => if i < cnt then some (al (100 + i)) else none) (nI k).toNatClampNeg) : Value) = .ref (al (100 + k)) from by rw [nI_clamp (by omega)]; exact by show va_rf (if k < cnt then some (al (100 + k)) else none) = _; rw [if_pos hkc]; rfl) ?_
          refine lv_astore_n (lv' := [(3, .ref (al (100 + k))), (0, .ref (al 0)), (1, .ref (al (100 + f))), (2, .int (nI k))]) hx hb dX_freshNumbers_14 rfl hl (by decide) rfl (fun ls hl => ?_)
          refine lv_aload_n hx hb dX_freshNumbers_15 rfl (lv_at hl 0 rfl) ?_
          refine lv_ifnull hx hb dX_freshNumbers_16 ?_
          refine lv_aload_n hx hb dX_freshNumbers_19 rfl (lv_at hl 0 rfl) ?_
          refine hw_getQ (v := .int (nI (bz (fh1 k)))) hx hb hts hown hK hW hob (by decide) 1 (by decide) (hts _ bw_199) (fun _ h9 => h9) rfl dX_freshNumbers_20 ?_
          refine nw_if_ne (tgt := 38) hx hb (by omega) dX_freshNumbers_23 (by decide) (fun cf => ?_) (fun cf => ?_)
          · refine lv_iinc (v := nI (k + 1)) (lv' := [(2, .int (nI (k + 1))), (3, .ref (al (100 + k))), (0, .ref (al 0)), (1, .ref (al (100 + f)))]) hx hb dX_freshNumbers_38 hl (k := 3) rfl (nI_1 _) (by decide) rfl (fun ls hl => ?_)
            refine lv_goto (tgt := 2) hx hb dX_freshNumbers_41 (by decide) ?_
            exact ih (k + 1) fh1 T1 w1 (by omega) hX hfr (fun j hj hjk hd => by
              by_cases e8 : j = k
              · rw [e8] at hd ⊢; first
                | exact bz_t cf
                | (have h7 := (hX.2.2.2.2 f hf).2.2.2.2.1 k (by omega); rw [bz_f cb, hd] at h7; cases h7)
              · exact hfh j hj (by omega) hd) hmo H locs hW hS ls (lv_sub hl [2, 3, 0] rfl) kk0
          · refine lv_aload_n hx hb dX_freshNumbers_26 rfl (lv_at hl 2 rfl) ?_
            refine lv_iload_n hx hb dX_freshNumbers_27 rfl (lv_at hl 3 rfl) ?_
            refine kc_UI (n := 1) (As := [.int (nI k)]) (rest := []) ⟨hx, hb, hml, hown, hts⟩ (c_Q_isMadeOf l D g ad tb sa w1 H.size (al (100 + f)) k 2 (al (200 + f)) (bz (fh1 f)) (pt f) _ (by omega) (by decide) hobf) bw_265 bw_267 bw_268 bw_266 bw_9 bw_270 rfl (by decide +kernel) rfl rfl hobf ⟨by decide, by decide⟩ hW hK hk hS hAA rfl hl.1 rfl (Nat.le_of_ble_eq_true rfl) dX_freshNumbers_28 ⟨by decide, by decide⟩ (fun r6 w7 H locs hp hW hS => ?_)
            obtain ⟨hw9, hr9⟩ := hp
            rw [hw9] at hW
            subst hr9
            refine nw_if_eq (tgt := 38) hx hb (by omega) dX_freshNumbers_31 (by decide) (fun cb => ?_) (fun cb => ?_)
            · refine lv_iinc (v := nI (k + 1)) (lv' := [(2, .int (nI (k + 1))), (3, .ref (al (100 + k))), (0, .ref (al 0)), (1, .ref (al (100 + f)))]) hx hb dX_freshNumbers_38 hl (k := 3) rfl (nI_1 _) (by decide) rfl (fun ls hl => ?_)
              refine lv_goto (tgt := 2) hx hb dX_freshNumbers_41 (by decide) ?_
              exact ih (k + 1) fh1 T1 w1 (by omega) hX hfr (fun j hj hjk hd => by
                by_cases e8 : j = k
                · rw [e8] at hd ⊢; first
                  | exact bz_t cf
                  | (have h7 := (hX.2.2.2.2 f hf).2.2.2.2.1 k (by omega); rw [bz_f cb, hd] at h7; cases h7)
                · exact hfh j hj (by omega) hd) hmo H locs hW hS ls (lv_sub hl [2, 3, 0] rfl) kk0
            · refine lv_aload_n hx hb dX_freshNumbers_34 rfl (lv_at hl 0 rfl) ?_
              have hk8 := hX.2.2.2.2 k hkc
              have hdk : sdep σ f k = true := by rw [← (hX.2.2.2.2 f hf).2.2.2.2.1 k (by omega)]; exact bz_t cb
              obtain ⟨r1, r2, r3, r4⟩ := hk8.2.2.2.2.2.1 htg
              refine kc_UV (n := 0) (As := []) (rest := []) ⟨hx, hb, hml, hown, hts⟩ (c_Q_refreshR l D g ad tb sa w1 H.size (al (100 + k)) (al (200 + k)) (bz (fh1 k)) (al (300 + k)) (al (400 + k)) (pt k) (σ k) (T1 k) htg hob r3.1 (fun x hx => hk8.2.2.2.2.2.2.2.1 x (by omega)) r2 r4.1 hk8.2.2.2.2.2.2.2.2 hk8.2.1.1 hk8.2.2.1 (r3.ne hk8.2.1 (by omega)) (r4.ne hk8.2.1 (by omega))) bw_383 bw_385 bw_387 bw_384 bw_9 bw_388 rfl (by decide +kernel) rfl rfl hob ⟨by decide, by decide⟩ hW hK hk hS hAA rfl hl.1 rfl (Nat.le_of_ble_eq_true rfl) dX_freshNumbers_35 ⟨by decide, by decide⟩ (fun w9 H locs hp hW hS => ?_)
              obtain ⟨T9, hT9, ew9⟩ := hp
              have hT8 : ∀ m, m < 64 → T9 m = sval σ k m := fun m hm => by rw [hT9 m hm, seqI.row hX.2.1 hkc hX.2.2.2.2 (fun e9 => absurd htg e9) hm, if_pos htg, if_pos htg]
              have ew8 : w9 = hwu (hwu w1 (al (200 + k)) (ia (g 0) 64 T9)) (al (100 + k)) (sOb ad al k (σ k) true (pt k)) := by rw [ew9, sOb_0 htg]; rfl
              refine lv_iinc (v := nI (k + 1)) (lv' := [(2, .int (nI (k + 1))), (3, .ref (al (100 + k))), (0, .ref (al 0)), (1, .ref (al (100 + f)))]) hx hb dX_freshNumbers_38 hl (k := 3) rfl (nI_1 _) (by decide) rfl (fun ls hl => ?_)
              refine lv_goto (tgt := 2) hx hb dX_freshNumbers_41 (by decide) ?_
              exact ih (k + 1) (va_up fh1 k true) (va_up T1 k T9) w9 (by omega) (hX.set hkc hT8 ew8) (hfr.tr (hX.fr hkc ew8)) (fun j hj hjk hd => by
                by_cases e8 : j = k
                · rw [e8, va_up_eq]
                · rw [va_up_no e8]; exact hfh j hj (by omega) hd) (fun j hj => by
                by_cases e8 : j = k
                · rw [e8, va_up_eq]
                · rw [va_up_no e8]; exact hmo j hj) H locs hW hS ls (lv_sub hl [2, 3, 0] rfl) kk0
      · have hob := (hX.2.2.2.2 k hkc).1.1
        rw [sOb_1 htg] at hob
        by_cases htf : sTg (σ f) = 0
        · have hobf := (hX.2.2.2.2 f hf).1.1
          rw [sOb_0 htf] at hobf
          refine lv_aload_n hx hb dX_freshNumbers_8 rfl (lv_at hl 0 rfl) ?_
          refine hw_get (v := .ref (al 1)) (C := RX) (T := TX) (N := 4) hx hb hts inX hown hK hW hX.2.2.1.1 rfl 0 (by decide) (hts _ bw_62) (fun _ h9 => h9) rfl dX_freshNumbers_9 ?_
          refine lv_iload_n hx hb dX_freshNumbers_12 rfl (lv_at hl 2 rfl) ?_
          refine hw_aldq hx hb hK hW 3 hX.2.2.2.1.1 rfl (vp_in_nI (show k < 40 by omega) (by omega)) dX_freshNumbers_13 ?_
          refine tp_v (show (va_rf ((fun i => if i < cnt then some (al (100 + i)) else none) (nI k).toNatClampNeg) : Value) = .ref (al (100 + k)) from by rw [nI_clamp (by omega)]; exact by show va_rf (if k < cnt then some (al (100 + k)) else none) = _; rw [if_pos hkc]; rfl) ?_
          refine lv_astore_n (lv' := [(3, .ref (al (100 + k))), (0, .ref (al 0)), (1, .ref (al (100 + f))), (2, .int (nI k))]) hx hb dX_freshNumbers_14 rfl hl (by decide) rfl (fun ls hl => ?_)
          refine lv_aload_n hx hb dX_freshNumbers_15 rfl (lv_at hl 0 rfl) ?_
          refine lv_ifnull hx hb dX_freshNumbers_16 ?_
          refine lv_aload_n hx hb dX_freshNumbers_19 rfl (lv_at hl 0 rfl) ?_
          refine hw_getQ (v := .int (nI (bz (fh1 k)))) hx hb hts hown hK hW hob (by decide) 1 (by decide) (hts _ bw_199) (fun _ h9 => h9) rfl dX_freshNumbers_20 ?_
          refine nw_if_ne (tgt := 38) hx hb (by omega) dX_freshNumbers_23 (by decide) (fun cf => ?_) (fun cf => ?_)
          · refine lv_iinc (v := nI (k + 1)) (lv' := [(2, .int (nI (k + 1))), (3, .ref (al (100 + k))), (0, .ref (al 0)), (1, .ref (al (100 + f)))]) hx hb dX_freshNumbers_38 hl (k := 3) rfl (nI_1 _) (by decide) rfl (fun ls hl => ?_)
            refine lv_goto (tgt := 2) hx hb dX_freshNumbers_41 (by decide) ?_
            exact ih (k + 1) fh1 T1 w1 (by omega) hX hfr (fun j hj hjk hd => by
              by_cases e8 : j = k
              · rw [e8] at hd ⊢; first
                | exact bz_t cf
                | (have h7 := (hX.2.2.2.2 f hf).2.2.2.2.1 k (by omega); rw [bz_f cb, hd] at h7; cases h7)
              · exact hfh j hj (by omega) hd) hmo H locs hW hS ls (lv_sub hl [2, 3, 0] rfl) kk0
          · refine lv_aload_n hx hb dX_freshNumbers_26 rfl (lv_at hl 2 rfl) ?_
            refine lv_iload_n hx hb dX_freshNumbers_27 rfl (lv_at hl 3 rfl) ?_
            refine kc_UI (n := 1) (As := [.int (nI k)]) (rest := []) ⟨hx, hb, hml, hown, hts⟩ (c_Q_isMadeOf l D g ad tb sa w1 H.size (al (100 + f)) k 1 (al (200 + f)) (bz (fh1 f)) (pt f) _ (by omega) (by decide) hobf) bw_265 bw_267 bw_269 bw_266 bw_9 bw_270 rfl (by decide +kernel) rfl rfl hobf ⟨by decide, by decide⟩ hW hK hk hS hAA rfl hl.1 rfl (Nat.le_of_ble_eq_true rfl) dX_freshNumbers_28 ⟨by decide, by decide⟩ (fun r10 w11 H locs hp hW hS => ?_)
            obtain ⟨hw9, hr9⟩ := hp
            rw [hw9] at hW
            subst hr9
            refine nw_if_eq (tgt := 38) hx hb (by omega) dX_freshNumbers_31 (by decide) (fun cb => ?_) (fun cb => ?_)
            · refine lv_iinc (v := nI (k + 1)) (lv' := [(2, .int (nI (k + 1))), (3, .ref (al (100 + k))), (0, .ref (al 0)), (1, .ref (al (100 + f)))]) hx hb dX_freshNumbers_38 hl (k := 3) rfl (nI_1 _) (by decide) rfl (fun ls hl => ?_)
              refine lv_goto (tgt := 2) hx hb dX_freshNumbers_41 (by decide) ?_
              exact ih (k + 1) fh1 T1 w1 (by omega) hX hfr (fun j hj hjk hd => by
                by_cases e8 : j = k
                · rw [e8] at hd ⊢; first
                  | exact bz_t cf
                  | (have h7 := (hX.2.2.2.2 f hf).2.2.2.2.1 k (by omega); rw [bz_f cb, hd] at h7; cases h7)
                · exact hfh j hj (by omega) hd) hmo H locs hW hS ls (lv_sub hl [2, 3, 0] rfl) kk0
            · refine lv_aload_n hx hb dX_freshNumbers_34 rfl (lv_at hl 0 rfl) ?_
              have hk8 := hX.2.2.2.2 k hkc
              have hdk : sdep σ f k = true := by rw [← (hX.2.2.2.2 f hf).2.2.2.2.1 k (by omega)]; exact bz_t cb
              obtain ⟨r1, r2⟩ := hk8.2.2.2.2.2.2.1 htg
              obtain ⟨o1, o2⟩ := hX.2.1 k hkc htg
              have sp1 := hX.2.2.2.2 (sP (σ k)) (by omega)
              have sp2 := hX.2.2.2.2 (sQ (σ k)) (by omega)
              refine kc_UV (n := 0) (As := []) (rest := []) ⟨hx, hb, hml, hown, hts⟩ (c_Q_refreshK l D g ad tb sa w1 H.size (al (100 + k)) (al (200 + k)) (bz (fh1 k)) (sTg (σ k) - 1) (al (200 + sP (σ k))) (al (200 + sQ (σ k))) (pt k) (T1 (sP (σ k))) (T1 (sQ (σ k))) (σ k) (T1 k) (by omega) (by omega) r2 hob sp1.2.1.1 sp2.2.1.1 sp1.2.2.1 sp2.2.2.1 hk8.2.2.2.2.2.2.2.2 hk8.2.1.1 hk8.2.2.1 (sp1.2.1.ne hk8.2.1 (by omega)) (sp2.2.1.ne hk8.2.1 (by omega))) bw_383 bw_385 bw_386 bw_384 bw_9 bw_388 rfl (by decide +kernel) rfl rfl hob ⟨by decide, by decide⟩ hW hK hk hS hAA rfl hl.1 rfl (Nat.le_of_ble_eq_true rfl) dX_freshNumbers_35 ⟨by decide, by decide⟩ (fun w13 H locs hp hW hS => ?_)
              obtain ⟨T9, hT9, ew9⟩ := hp
              have hT8 : ∀ m, m < 64 → T9 m = sval σ k m := fun m hm => by rw [hT9 m hm, seqI.row hX.2.1 hkc hX.2.2.2.2 (fun e9 => ⟨hfh _ (by omega) (by omega) (sdep_tr hX.2.1 (f + 1) f k _ (by omega) hf hdk (sdep_part hX.2.1 hkc htg).1), hfh _ (by omega) (by omega) (sdep_tr hX.2.1 (f + 1) f k _ (by omega) hf hdk (sdep_part hX.2.1 hkc htg).2)⟩) hm, if_neg htg, if_neg htg]
              have ew8 : w13 = hwu (hwu w1 (al (200 + k)) (ia (g 0) 64 T9)) (al (100 + k)) (sOb ad al k (σ k) true (pt k)) := by rw [ew9, sOb_1 htg]; rfl
              refine lv_iinc (v := nI (k + 1)) (lv' := [(2, .int (nI (k + 1))), (3, .ref (al (100 + k))), (0, .ref (al 0)), (1, .ref (al (100 + f)))]) hx hb dX_freshNumbers_38 hl (k := 3) rfl (nI_1 _) (by decide) rfl (fun ls hl => ?_)
              refine lv_goto (tgt := 2) hx hb dX_freshNumbers_41 (by decide) ?_
              exact ih (k + 1) (va_up fh1 k true) (va_up T1 k T9) w13 (by omega) (hX.set hkc hT8 ew8) (hfr.tr (hX.fr hkc ew8)) (fun j hj hjk hd => by
                by_cases e8 : j = k
                · rw [e8, va_up_eq]
                · rw [va_up_no e8]; exact hfh j hj (by omega) hd) (fun j hj => by
                by_cases e8 : j = k
                · rw [e8, va_up_eq]
                · rw [va_up_no e8]; exact hmo j hj) H locs hW hS ls (lv_sub hl [2, 3, 0] rfl) kk0
        · have hobf := (hX.2.2.2.2 f hf).1.1
          rw [sOb_1 htf] at hobf
          refine lv_aload_n hx hb dX_freshNumbers_8 rfl (lv_at hl 0 rfl) ?_
          refine hw_get (v := .ref (al 1)) (C := RX) (T := TX) (N := 4) hx hb hts inX hown hK hW hX.2.2.1.1 rfl 0 (by decide) (hts _ bw_62) (fun _ h9 => h9) rfl dX_freshNumbers_9 ?_
          refine lv_iload_n hx hb dX_freshNumbers_12 rfl (lv_at hl 2 rfl) ?_
          refine hw_aldq hx hb hK hW 3 hX.2.2.2.1.1 rfl (vp_in_nI (show k < 40 by omega) (by omega)) dX_freshNumbers_13 ?_
          refine tp_v (show (va_rf ((fun i => if i < cnt then some (al (100 + i)) else none) (nI k).toNatClampNeg) : Value) = .ref (al (100 + k)) from by rw [nI_clamp (by omega)]; exact by show va_rf (if k < cnt then some (al (100 + k)) else none) = _; rw [if_pos hkc]; rfl) ?_
          refine lv_astore_n (lv' := [(3, .ref (al (100 + k))), (0, .ref (al 0)), (1, .ref (al (100 + f))), (2, .int (nI k))]) hx hb dX_freshNumbers_14 rfl hl (by decide) rfl (fun ls hl => ?_)
          refine lv_aload_n hx hb dX_freshNumbers_15 rfl (lv_at hl 0 rfl) ?_
          refine lv_ifnull hx hb dX_freshNumbers_16 ?_
          refine lv_aload_n hx hb dX_freshNumbers_19 rfl (lv_at hl 0 rfl) ?_
          refine hw_getQ (v := .int (nI (bz (fh1 k)))) hx hb hts hown hK hW hob (by decide) 1 (by decide) (hts _ bw_199) (fun _ h9 => h9) rfl dX_freshNumbers_20 ?_
          refine nw_if_ne (tgt := 38) hx hb (by omega) dX_freshNumbers_23 (by decide) (fun cf => ?_) (fun cf => ?_)
          · refine lv_iinc (v := nI (k + 1)) (lv' := [(2, .int (nI (k + 1))), (3, .ref (al (100 + k))), (0, .ref (al 0)), (1, .ref (al (100 + f)))]) hx hb dX_freshNumbers_38 hl (k := 3) rfl (nI_1 _) (by decide) rfl (fun ls hl => ?_)
            refine lv_goto (tgt := 2) hx hb dX_freshNumbers_41 (by decide) ?_
            exact ih (k + 1) fh1 T1 w1 (by omega) hX hfr (fun j hj hjk hd => by
              by_cases e8 : j = k
              · rw [e8] at hd ⊢; first
                | exact bz_t cf
                | (have h7 := (hX.2.2.2.2 f hf).2.2.2.2.1 k (by omega); rw [bz_f cb, hd] at h7; cases h7)
              · exact hfh j hj (by omega) hd) hmo H locs hW hS ls (lv_sub hl [2, 3, 0] rfl) kk0
          · refine lv_aload_n hx hb dX_freshNumbers_26 rfl (lv_at hl 2 rfl) ?_
            refine lv_iload_n hx hb dX_freshNumbers_27 rfl (lv_at hl 3 rfl) ?_
            refine kc_UI (n := 1) (As := [.int (nI k)]) (rest := []) ⟨hx, hb, hml, hown, hts⟩ (c_Q_isMadeOf l D g ad tb sa w1 H.size (al (100 + f)) k 2 (al (200 + f)) (bz (fh1 f)) (pt f) _ (by omega) (by decide) hobf) bw_265 bw_267 bw_268 bw_266 bw_9 bw_270 rfl (by decide +kernel) rfl rfl hobf ⟨by decide, by decide⟩ hW hK hk hS hAA rfl hl.1 rfl (Nat.le_of_ble_eq_true rfl) dX_freshNumbers_28 ⟨by decide, by decide⟩ (fun r14 w15 H locs hp hW hS => ?_)
            obtain ⟨hw9, hr9⟩ := hp
            rw [hw9] at hW
            subst hr9
            refine nw_if_eq (tgt := 38) hx hb (by omega) dX_freshNumbers_31 (by decide) (fun cb => ?_) (fun cb => ?_)
            · refine lv_iinc (v := nI (k + 1)) (lv' := [(2, .int (nI (k + 1))), (3, .ref (al (100 + k))), (0, .ref (al 0)), (1, .ref (al (100 + f)))]) hx hb dX_freshNumbers_38 hl (k := 3) rfl (nI_1 _) (by decide) rfl (fun ls hl => ?_)
              refine lv_goto (tgt := 2) hx hb dX_freshNumbers_41 (by decide) ?_
              exact ih (k + 1) fh1 T1 w1 (by omega) hX hfr (fun j hj hjk hd => by
                by_cases e8 : j = k
                · rw [e8] at hd ⊢; first
                  | exact bz_t cf
                  | (have h7 := (hX.2.2.2.2 f hf).2.2.2.2.1 k (by omega); rw [bz_f cb, hd] at h7; cases h7)
                · exact hfh j hj (by omega) hd) hmo H locs hW hS ls (lv_sub hl [2, 3, 0] rfl) kk0
            · refine lv_aload_n hx hb dX_freshNumbers_34 rfl (lv_at hl 0 rfl) ?_
              have hk8 := hX.2.2.2.2 k hkc
              have hdk : sdep σ f k = true := by rw [← (hX.2.2.2.2 f hf).2.2.2.2.1 k (by omega)]; exact bz_t cb
              obtain ⟨r1, r2⟩ := hk8.2.2.2.2.2.2.1 htg
              obtain ⟨o1, o2⟩ := hX.2.1 k hkc htg
              have sp1 := hX.2.2.2.2 (sP (σ k)) (by omega)
              have sp2 := hX.2.2.2.2 (sQ (σ k)) (by omega)
              refine kc_UV (n := 0) (As := []) (rest := []) ⟨hx, hb, hml, hown, hts⟩ (c_Q_refreshK l D g ad tb sa w1 H.size (al (100 + k)) (al (200 + k)) (bz (fh1 k)) (sTg (σ k) - 1) (al (200 + sP (σ k))) (al (200 + sQ (σ k))) (pt k) (T1 (sP (σ k))) (T1 (sQ (σ k))) (σ k) (T1 k) (by omega) (by omega) r2 hob sp1.2.1.1 sp2.2.1.1 sp1.2.2.1 sp2.2.2.1 hk8.2.2.2.2.2.2.2.2 hk8.2.1.1 hk8.2.2.1 (sp1.2.1.ne hk8.2.1 (by omega)) (sp2.2.1.ne hk8.2.1 (by omega))) bw_383 bw_385 bw_386 bw_384 bw_9 bw_388 rfl (by decide +kernel) rfl rfl hob ⟨by decide, by decide⟩ hW hK hk hS hAA rfl hl.1 rfl (Nat.le_of_ble_eq_true rfl) dX_freshNumbers_35 ⟨by decide, by decide⟩ (fun w17 H locs hp hW hS => ?_)
              obtain ⟨T9, hT9, ew9⟩ := hp
              have hT8 : ∀ m, m < 64 → T9 m = sval σ k m := fun m hm => by rw [hT9 m hm, seqI.row hX.2.1 hkc hX.2.2.2.2 (fun e9 => ⟨hfh _ (by omega) (by omega) (sdep_tr hX.2.1 (f + 1) f k _ (by omega) hf hdk (sdep_part hX.2.1 hkc htg).1), hfh _ (by omega) (by omega) (sdep_tr hX.2.1 (f + 1) f k _ (by omega) hf hdk (sdep_part hX.2.1 hkc htg).2)⟩) hm, if_neg htg, if_neg htg]
              have ew8 : w17 = hwu (hwu w1 (al (200 + k)) (ia (g 0) 64 T9)) (al (100 + k)) (sOb ad al k (σ k) true (pt k)) := by rw [ew9, sOb_1 htg]; rfl
              refine lv_iinc (v := nI (k + 1)) (lv' := [(2, .int (nI (k + 1))), (3, .ref (al (100 + k))), (0, .ref (al 0)), (1, .ref (al (100 + f)))]) hx hb dX_freshNumbers_38 hl (k := 3) rfl (nI_1 _) (by decide) rfl (fun ls hl => ?_)
              refine lv_goto (tgt := 2) hx hb dX_freshNumbers_41 (by decide) ?_
              exact ih (k + 1) (va_up fh1 k true) (va_up T1 k T9) w17 (by omega) (hX.set hkc hT8 ew8) (hfr.tr (hX.fr hkc ew8)) (fun j hj hjk hd => by
                by_cases e8 : j = k
                · rw [e8, va_up_eq]
                · rw [va_up_no e8]; exact hfh j hj (by omega) hd) (fun j hj => by
                by_cases e8 : j = k
                · rw [e8, va_up_eq]
                · rw [va_up_no e8]; exact hmo j hj) H locs hW hS ls (lv_sub hl [2, 3, 0] rfl) kk0
    · refine lv_aload_n hx hb dX_freshNumbers_8 rfl (lv_at hl 0 rfl) ?_
      refine hw_get (v := .ref (al 1)) (C := RX) (T := TX) (N := 4) hx hb hts inX hown hK hW hX.2.2.1.1 rfl 0 (by decide) (hts _ bw_62) (fun _ h9 => h9) rfl dX_freshNumbers_9 ?_
      refine lv_iload_n hx hb dX_freshNumbers_12 rfl (lv_at hl 2 rfl) ?_
      refine hw_aldq hx hb hK hW 3 hX.2.2.2.1.1 rfl (vp_in_nI (show k < 40 by omega) (by omega)) dX_freshNumbers_13 ?_
      refine tp_v (show (va_rf ((fun i => if i < cnt then some (al (100 + i)) else none) (nI k).toNatClampNeg) : Value) = .null from by rw [nI_clamp (by omega)]; exact by show va_rf (if k < cnt then some (al (100 + k)) else none) = _; rw [if_neg hkc]; rfl) ?_
      refine lv_astoreN_n (lv' := [(3, .null), (0, .ref (al 0)), (1, .ref (al (100 + f))), (2, .int (nI k))]) hx hb dX_freshNumbers_14 rfl hl (by decide) rfl (fun ls hl => ?_)
      refine lv_aloadN_n hx hb dX_freshNumbers_15 rfl (lv_at hl 0 rfl) ?_
      refine lv_ifnullN (tgt := 38) hx hb dX_freshNumbers_16 (by decide) ?_
      refine lv_iinc (v := nI (k + 1)) (lv' := [(2, .int (nI (k + 1))), (3, .null), (0, .ref (al 0)), (1, .ref (al (100 + f)))]) hx hb dX_freshNumbers_38 hl (k := 3) rfl (nI_1 _) (by decide) rfl (fun ls hl => ?_)
      refine lv_goto (tgt := 2) hx hb dX_freshNumbers_41 (by decide) ?_
      exact ih (k + 1) fh1 T1 w1 (by omega) hX hfr (fun j hj hjk hd => by
        by_cases e8 : j = k
        · exact absurd (e8 ▸ hj) hkc
        · exact hfh j hj (by omega) hd) hmo H locs hW hS ls (lv_sub hl [2, 3, 0] rfl) kk0

set_option maxHeartbeats 1000000 in
set_option maxRecDepth 100000 in
theorem c_X_freshNumbers (l : Launch) (D : va_G) (g : Nat → ClassId) (ad : Nat → Nat) (tb : Nat) (sa : Nat → Nat) (w : Wd) (sz : Nat) (al ro : Nat → Nat) (σ : Nat → SD) (cnt : Nat) (fh : Nat → Bool) (T : Nat → Nat → Nat) (pt : Nat → Int64) (hX0 : xS g ad w al ro σ cnt fh T pt) (f : Nat) (hf : f < cnt) : MR l D g ad tb sa yX_freshNumbers cX_freshNumbers 4 (some (.array .int)) 4 94 0 0 w sz [.ref (al 0), .ref (al (100 + f))] (fun x9 w' => x9 = al (200 + f) ∧ ∃ fh1 T1, xS g ad w' al ro σ cnt fh1 T1 pt ∧ frN ro w w' ∧ (∀ m, m < 64 → T1 f m = sval σ f m) ∧ fh1 f = true ∧ ∀ j, fh j = true → fh1 j = true) := by
  refine hm_MR (by decide) (Nat.le_of_ble_eq_true rfl) ?_
  intro p e s m below meth c A ls hx hb hr hml hts hown hlocks hin hout hsz hW hK hk hS hAA hl
  have hl : lv_has ls 4 [(0, .ref (al 0)), (1, .ref (al (100 + f)))] := hl
  refine lv_iconst (v := nI 0) hx hb dX_freshNumbers_0 (by decide) ?_
  refine lv_istore_n (lv' := [(2, .int (nI 0)), (0, .ref (al 0)), (1, .ref (al (100 + f)))]) hx hb dX_freshNumbers_1 rfl hl (by decide) rfl (fun ls hl => ?_)
  refine lp_X_fresh hf ⟨hx, hb, hml, hts, hown, hK, hk, hAA⟩ 40 0 fh T w (by omega) hX0 frN.rf (fun j hj h9 => absurd h9 (by omega)) (fun j h9 => h9) _ _ hW hS ls (lv_sub hl [1, 2, 0] rfl) ?_
  intro fh1 T1 w1 hX hfr hfh hmo H locs hW hS ls hl
  have hc40 := hX.1
  have hff := hfh f hf (by omega) (sdep_self σ f)
  by_cases htf : sTg (σ f) = 0
  · have hobf := (hX.2.2.2.2 f hf).1.1
    rw [sOb_0 htf] at hobf
    refine lv_aload_n hx hb dX_freshNumbers_44 rfl (lv_at hl 1 rfl) ?_
    refine hw_getQ (v := .ref (al (200 + f))) hx hb hts hown hK hW hobf (by decide) 0 (by decide) (hts _ bw_197) (fun _ h9 => h9) rfl dX_freshNumbers_45 ?_
    exact W.aret (v := .ref (al (200 + f))) hx hb hr (Or.inr ⟨_, rfl⟩) (Or.inr ⟨_, rfl⟩) (fun t ht hW9 => ⟨⟨(al (200 + f), w1), al (200 + f), rfl, ⟨rfl, fh1, T1, hX, hfr, (hX.2.2.2.2 f hf).2.2.2.1 hff, hff, hmo⟩, rfl, by rw [ht]; exact hW, va_K.moved hW9.alike hK⟩, hS.F ht⟩) hS.2.2 dX_freshNumbers_48
  · have hobf := (hX.2.2.2.2 f hf).1.1
    rw [sOb_1 htf] at hobf
    refine lv_aload_n hx hb dX_freshNumbers_44 rfl (lv_at hl 1 rfl) ?_
    refine hw_getQ (v := .ref (al (200 + f))) hx hb hts hown hK hW hobf (by decide) 0 (by decide) (hts _ bw_197) (fun _ h9 => h9) rfl dX_freshNumbers_45 ?_
    exact W.aret (v := .ref (al (200 + f))) hx hb hr (Or.inr ⟨_, rfl⟩) (Or.inr ⟨_, rfl⟩) (fun t ht hW9 => ⟨⟨(al (200 + f), w1), al (200 + f), rfl, ⟨rfl, fh1, T1, hX, hfr, (hX.2.2.2.2 f hf).2.2.2.1 hff, hff, hmo⟩, rfl, by rw [ht]; exact hW, va_K.moved hW9.alike hK⟩, hS.F ht⟩) hS.2.2 dX_freshNumbers_48
