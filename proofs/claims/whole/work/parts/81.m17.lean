set_option maxHeartbeats 1000000 in
set_option maxRecDepth 100000 in
theorem lp_M_gu_i {p : Program} {l : Launch} {e : Env} {s : State} {m : MethodId} {args : Array Value} {below : List Frame} {meth : Method} {c : Code} {Q : State → Prop} {D : va_G} {g : Nat → ClassId} {ad : Nat → Nat} {tb : Nat} {sa : Nat → Nat} {A : Nat → Prop} {w : Wd} {mo : Nat} {ml : Nat → Nat} {cd mn : Nat} {ki on tw od fa st rs : Nat → Nat} {me fo fd : Nat} {ba ta by9 : Nat → Nat} {nd : Nat → Bool} (hD : moD ml) {m9 row : Nat} {t0 : Nat → Nat → Nat} (hm : m9 ≤ 20) (hG : gjI m9 m9 row (ldB m9 by9) (rhB m9 by9) (tbl9 m9 ta) t0) (htb : ∀ x, x < 1280 → ta x < 32003) {k c0 : Nat} (hk20 : k < 20) (hc0 : c0 < m9) (C0 : cx p s m args c A cM_guess 8 RM D g ad tb sa) : ∀ (e9 : Nat) (i : Nat) (ba1 : Nat → Nat) (w1 : Wd), (i + e9 = 20) → (moW g w1 mo ml cd mn ki on tw od fa st rs me fo fd ba1 ta by9 nd) → (moF mo ml w w1) → (∀ x, x < 400 → ba1 x < 32003) → (∀ j, j < i → ba1 (20 * k + j) = gvec m9 ta by9 c0 j) → (∀ x, x < 20 * k → ba1 x = ba x) → ∀ (H : Heap) (locs : List Loc), hw D vwCl A w1 H → va_S A s.heap H locs → ∀ ls : Array Slot, lv_has ls 8 [(0, .ref mo), (4, .int (nI m9)), (5, .int (nI k)), (6, .int (nI c0)), (7, .int (nI i))] → (∀ (ba1 : Nat → Nat) (w1 : Wd), (moW g w1 mo ml cd mn ki on tw od fa st rs me fo fd ba1 ta by9 nd) → (moF mo ml w w1) → (∀ x, x < 400 → ba1 x < 32003) → (∀ j, j < 20 → ba1 (20 * k + j) = gvec m9 ta by9 c0 j) → (∀ x, x < 20 * k → ba1 x = ba x) → ∀ (H : Heap) (locs : List Loc), hw D vwCl A w1 H → va_S A s.heap H locs → ∀ ls : Array Slot, lv_has ls 8 [(0, .ref mo), (4, .int (nI m9)), (5, .int (nI k)), (6, .int (nI c0))] → W p l e (rmL 5 133 0 0) s m args below meth c H locs 0 0 Q (F0 m 205 ls [])) → W p l e (rmL 5 133 0 0) s m args below meth c H locs 0 0 Q (F0 m 120 ls []) := by
  obtain ⟨hx, hb, hml, hts, hown, hK, hk, hAA⟩ := C0
  intro e9
  induction e9 with
  | zero =>
    intro i ba1 w1 hi9 hM hFr hbb hv hold H locs hW hS ls hl kk0
    refine lv_iload hx hb dM_guess_120 (lv_at hl 4 rfl) ?_
    refine lv_bipush (v := nI 20) hx hb dM_guess_122 (by decide) ?_
    refine nw_icmp_ge (tgt := 205) hx hb (by omega) (by omega) dM_guess_124 (by decide) (fun c1 => ?_) (fun c1 => absurd (show i < 20 from c1) (by omega))
    rw [show i = 20 by omega] at hv
    exact kk0 ba1 w1 hM hFr hbb hv hold H locs hW hS ls (lv_sub hl [0, 1, 2, 3] rfl)
  | succ e9 ih =>
    intro i ba1 w1 hi9 hM hFr hbb hv hold H locs hW hS ls hl kk0
    have hgl := gv_lt (i := i) hG hc0
    refine lv_iload hx hb dM_guess_120 (lv_at hl 4 rfl) ?_
    refine lv_bipush (v := nI 20) hx hb dM_guess_122 (by decide) ?_
    refine nw_icmp_ge (tgt := 205) hx hb (by omega) (by omega) dM_guess_124 (by decide) (fun c1 => absurd (show 20 ≤ i from c1) (by omega)) (fun c1 => ?_)
    refine lv_aload_n hx hb dM_guess_127 rfl (lv_at hl 0 rfl) ?_
    refine hw_get (v := .ref (ml 7)) (C := RM) (T := TM) (N := 16) hx hb hts inM hown hK hW hM.1 rfl 12 (by decide) (hts _ bw_529) (fun _ h9 => h9) rfl dM_guess_128 ?_
    refine lv_bipush (v := nI 20) hx hb dM_guess_131 (by decide) ?_
    refine lv_iload hx hb dM_guess_133 (lv_at hl 2 rfl) ?_
    refine lv_imul hx hb dM_guess_135 ?_
    refine tp_i (show (nI 20) * (nI k) = nI (20 * k) from pk_mul _ _) ?_
    refine lv_iload hx hb dM_guess_136 (lv_at hl 4 rfl) ?_
    refine lv_iadd hx hb dM_guess_138 ?_
    refine tp_i (show (nI (20 * k)) + (nI i) = nI ((20 * k) + i) from nI_add _ _) ?_
    refine lv_iload hx hb dM_guess_139 (lv_at hl 4 rfl) ?_
    refine lv_iload hx hb dM_guess_141 (lv_at hl 1 rfl) ?_
    refine nw_icmp_lt (tgt := 150) hx hb (by omega) (by omega) dM_guess_143 (by decide) (fun cm => ?_) (fun cm => ?_)
    · refine lv_iload hx hb dM_guess_150 (lv_at hl 4 rfl) ?_
      refine lv_iload hx hb dM_guess_152 (lv_at hl 3 rfl) ?_
      refine nw_icmp_ne (tgt := 161) hx hb (by omega) (by omega) dM_guess_154 (by decide) (fun ci => ?_) (fun ci => ?_)
      · refine lv_aload_n hx hb dM_guess_161 rfl (lv_at hl 0 rfl) ?_
        refine hw_get (v := .ref (ml 9)) (C := RM) (T := TM) (N := 16) hx hb hts inM hown hK hW hM.1 rfl 14 (by decide) (hts _ bw_531) (fun _ h9 => h9) rfl dM_guess_162 ?_
        refine lv_iload hx hb dM_guess_165 (lv_at hl 4 rfl) ?_
        refine hw_iald hx hb hK hW 0 hM.2.2.2.2.2.2.2.2.2.2.1 rfl (vp_in_nI (show i < 20 by omega) (by omega)) dM_guess_167 ?_
        refine tp_i (show (ni by9) (nI i).toNatClampNeg = nI (by9 i) from by rw [nI_clamp (by omega)]; rfl) ?_
        refine lv_iconst (v := (-1)) hx hb dM_guess_168 (by decide) ?_
        refine lv_icmp_ne (tgt := 176) hx hb dM_guess_169 (by decide) (fun cb => ?_) (fun cb => ?_)
        · have hbi := by_in hG (show i < m9 from cm)
          have hbn : by9 i ≠ 4294967295 := fun h9 => cb ((nI_m1N hbi).mpr h9)
          have hb64 : by9 i < 64 := hbi.resolve_right hbn
          have htl := htb (20 * by9 i + c0) (by omega)
          refine lv_aload_n hx hb dM_guess_176 rfl (lv_at hl 0 rfl) ?_
          refine hw_get (v := .ref (ml 8)) (C := RM) (T := TM) (N := 16) hx hb hts inM hown hK hW hM.1 rfl 13 (by decide) (hts _ bw_530) (fun _ h9 => h9) rfl dM_guess_177 ?_
          refine lv_bipush (v := nI 20) hx hb dM_guess_180 (by decide) ?_
          refine lv_aload_n hx hb dM_guess_182 rfl (lv_at hl 0 rfl) ?_
          refine hw_get (v := .ref (ml 9)) (C := RM) (T := TM) (N := 16) hx hb hts inM hown hK hW hM.1 rfl 14 (by decide) (hts _ bw_531) (fun _ h9 => h9) rfl dM_guess_183 ?_
          refine lv_iload hx hb dM_guess_186 (lv_at hl 4 rfl) ?_
          refine hw_iald hx hb hK hW 0 hM.2.2.2.2.2.2.2.2.2.2.1 rfl (vp_in_nI (show i < 20 by omega) (by omega)) dM_guess_188 ?_
          refine tp_i (show (ni by9) (nI i).toNatClampNeg = nI (by9 i) from by rw [nI_clamp (by omega)]; rfl) ?_
          refine lv_imul hx hb dM_guess_189 ?_
          refine tp_i (show (nI 20) * (nI (by9 i)) = nI (20 * (by9 i)) from pk_mul _ _) ?_
          refine lv_iload hx hb dM_guess_190 (lv_at hl 3 rfl) ?_
          refine lv_iadd hx hb dM_guess_192 ?_
          refine tp_i (show (nI (20 * (by9 i))) + (nI c0) = nI ((20 * (by9 i)) + c0) from nI_add _ _) ?_
          refine hw_lald hx hb hK hW 2 hM.2.2.2.2.2.2.2.2.2.1 rfl (vp_in_nI (show (20 * (by9 i)) + c0 < 1280 by omega) (by omega)) dM_guess_193 ?_
          refine tp_l (show (nl ta) (nI ((20 * (by9 i)) + c0)).toNatClampNeg = lN (ta ((20 * (by9 i)) + c0)) from by rw [nI_clamp (by omega)]; rfl) ?_
          refine lv_lneg hx hb dM_guess_194 ?_
          refine kc_SL (n := 1) (As := [.long (-(lN (ta ((20 * (by9 i)) + c0))))]) (rest := [.int (nI ((20 * k) + i)), .ref (ml 7)]) ⟨hx, hb, hml, hown, hts⟩ (c_M_modulo l D g ad tb sa w1 H.size (-(lN (ta ((20 * (by9 i)) + c0))))) bw_592 bw_593 bw_3 bw_594 (by decide +kernel) ⟨by decide, by decide⟩ hW hK hk hS hAA rfl hl.1 rfl (Nat.le_of_ble_eq_true rfl) dM_guess_195 ⟨by decide, by decide⟩ (fun r2 w3 H locs hp hW hS => ?_)
          obtain ⟨hw9, hr9⟩ := hp
          rw [hw9] at hW
          subst hr9
          refine tp_l (show lN (rd (-(lN (ta (20 * by9 i + c0)))).toInt) = lN (gvec m9 ta by9 c0 i) from by rw [neg_lN (by omega), gv_led hG cm hc0 ci hbn]) ?_
          refine hw_last hx hb hK hW hS 2 hM.2.2.2.2.2.2.2.2.1 rfl (vp_in_nI (show (20 * k) + i < 400 by omega) (by omega)) dM_guess_198 (fun H locs hW hS => ?_)
          rw [nI_clamp (show (20 * k) + i < 2 ^ 31 by omega), nl_upd] at hW
          have hW : hw D vwCl A (hwu w1 (ml 7) (la (g 2) 400 (va_up ba1 ((20 * k) + i) (gvec m9 ta by9 c0 i)))) H := hW
          obtain ⟨w4, ew4⟩ : ∃ z, z = hwu w1 (ml 7) (la (g 2) 400 (va_up ba1 ((20 * k) + i) (gvec m9 ta by9 c0 i))) := ⟨_, rfl⟩
          rw [← ew4] at hW
          have hM : moW g w4 mo ml cd mn ki on tw od fa st rs me fo fd (va_up ba1 ((20 * k) + i) (gvec m9 ta by9 c0 i)) ta by9 nd := by rw [ew4]; exact hM.set_ba hD _
          have hFr : moF mo ml w w4 := hFr.tr (by rw [ew4]; exact moF_a (by decide))
          refine lv_iinc (v := nI (i + 1)) (lv' := [(7, .int (nI (i + 1))), (0, .ref mo), (4, .int (nI m9)), (5, .int (nI k)), (6, .int (nI c0))]) hx hb dM_guess_199 hl (k := 4) rfl (nI_1 _) (by decide) rfl (fun ls hl => ?_)
          refine lv_goto (tgt := 120) hx hb dM_guess_202 (by decide) ?_
          exact ih (i + 1) (va_up ba1 ((20 * k) + i) (gvec m9 ta by9 c0 i)) w4 (by omega) hM hFr (up_lt hbb (by omega)) (fun j hj => by
            by_cases e8 : j = i
            · rw [e8, va_up_eq]
            · rw [va_up_no (by omega)]; exact hv j (by omega)) (fun x9 hx9 => by rw [va_up_no (by omega)]; exact hold x9 hx9) H locs hW hS ls (lv_sub hl [1, 2, 3, 4, 0] rfl) kk0
        · refine lv_lconst (v := lN 0) hx hb dM_guess_172 (by decide) ?_
          refine tp_l (show lN 0 = lN (gvec m9 ta by9 c0 i) from by rw [gv_none cm hc0 ci ((nI_m1N (by_in hG cm)).mp cb)]) ?_
          refine lv_goto (tgt := 198) hx hb dM_guess_173 (by decide) ?_
          refine hw_last hx hb hK hW hS 2 hM.2.2.2.2.2.2.2.2.1 rfl (vp_in_nI (show (20 * k) + i < 400 by omega) (by omega)) dM_guess_198 (fun H locs hW hS => ?_)
          rw [nI_clamp (show (20 * k) + i < 2 ^ 31 by omega), nl_upd] at hW
          have hW : hw D vwCl A (hwu w1 (ml 7) (la (g 2) 400 (va_up ba1 ((20 * k) + i) (gvec m9 ta by9 c0 i)))) H := hW
          obtain ⟨w5, ew5⟩ : ∃ z, z = hwu w1 (ml 7) (la (g 2) 400 (va_up ba1 ((20 * k) + i) (gvec m9 ta by9 c0 i))) := ⟨_, rfl⟩
          rw [← ew5] at hW
          have hM : moW g w5 mo ml cd mn ki on tw od fa st rs me fo fd (va_up ba1 ((20 * k) + i) (gvec m9 ta by9 c0 i)) ta by9 nd := by rw [ew5]; exact hM.set_ba hD _
          have hFr : moF mo ml w w5 := hFr.tr (by rw [ew5]; exact moF_a (by decide))
          refine lv_iinc (v := nI (i + 1)) (lv' := [(7, .int (nI (i + 1))), (0, .ref mo), (4, .int (nI m9)), (5, .int (nI k)), (6, .int (nI c0))]) hx hb dM_guess_199 hl (k := 4) rfl (nI_1 _) (by decide) rfl (fun ls hl => ?_)
          refine lv_goto (tgt := 120) hx hb dM_guess_202 (by decide) ?_
          exact ih (i + 1) (va_up ba1 ((20 * k) + i) (gvec m9 ta by9 c0 i)) w5 (by omega) hM hFr (up_lt hbb (by omega)) (fun j hj => by
            by_cases e8 : j = i
            · rw [e8, va_up_eq]
            · rw [va_up_no (by omega)]; exact hv j (by omega)) (fun x9 hx9 => by rw [va_up_no (by omega)]; exact hold x9 hx9) H locs hW hS ls (lv_sub hl [1, 2, 3, 4, 0] rfl) kk0
      · refine lv_lconst (v := lN 1) hx hb dM_guess_157 (by decide) ?_
        refine tp_l (show lN 1 = lN (gvec m9 ta by9 c0 i) from by rw [gv_one cm ci]) ?_
        refine lv_goto (tgt := 198) hx hb dM_guess_158 (by decide) ?_
        refine hw_last hx hb hK hW hS 2 hM.2.2.2.2.2.2.2.2.1 rfl (vp_in_nI (show (20 * k) + i < 400 by omega) (by omega)) dM_guess_198 (fun H locs hW hS => ?_)
        rw [nI_clamp (show (20 * k) + i < 2 ^ 31 by omega), nl_upd] at hW
        have hW : hw D vwCl A (hwu w1 (ml 7) (la (g 2) 400 (va_up ba1 ((20 * k) + i) (gvec m9 ta by9 c0 i)))) H := hW
        obtain ⟨w6, ew6⟩ : ∃ z, z = hwu w1 (ml 7) (la (g 2) 400 (va_up ba1 ((20 * k) + i) (gvec m9 ta by9 c0 i))) := ⟨_, rfl⟩
        rw [← ew6] at hW
        have hM : moW g w6 mo ml cd mn ki on tw od fa st rs me fo fd (va_up ba1 ((20 * k) + i) (gvec m9 ta by9 c0 i)) ta by9 nd := by rw [ew6]; exact hM.set_ba hD _
        have hFr : moF mo ml w w6 := hFr.tr (by rw [ew6]; exact moF_a (by decide))
        refine lv_iinc (v := nI (i + 1)) (lv' := [(7, .int (nI (i + 1))), (0, .ref mo), (4, .int (nI m9)), (5, .int (nI k)), (6, .int (nI c0))]) hx hb dM_guess_199 hl (k := 4) rfl (nI_1 _) (by decide) rfl (fun ls hl => ?_)
        refine lv_goto (tgt := 120) hx hb dM_guess_202 (by decide) ?_
        exact ih (i + 1) (va_up ba1 ((20 * k) + i) (gvec m9 ta by9 c0 i)) w6 (by omega) hM hFr (up_lt hbb (by omega)) (fun j hj => by
          by_cases e8 : j = i
          · rw [e8, va_up_eq]
          · rw [va_up_no (by omega)]; exact hv j (by omega)) (fun x9 hx9 => by rw [va_up_no (by omega)]; exact hold x9 hx9) H locs hW hS ls (lv_sub hl [1, 2, 3, 4, 0] rfl) kk0
    · refine lv_lconst (v := lN 0) hx hb dM_guess_146 (by decide) ?_
      refine tp_l (show lN 0 = lN (gvec m9 ta by9 c0 i) from by rw [gv_big (show m9 ≤ i by omega)]) ?_
      refine lv_goto (tgt := 198) hx hb dM_guess_147 (by decide) ?_
      refine hw_last hx hb hK hW hS 2 hM.2.2.2.2.2.2.2.2.1 rfl (vp_in_nI (show (20 * k) + i < 400 by omega) (by omega)) dM_guess_198 (fun H locs hW hS => ?_)
      rw [nI_clamp (show (20 * k) + i < 2 ^ 31 by omega), nl_upd] at hW
      have hW : hw D vwCl A (hwu w1 (ml 7) (la (g 2) 400 (va_up ba1 ((20 * k) + i) (gvec m9 ta by9 c0 i)))) H := hW
      obtain ⟨w7, ew7⟩ : ∃ z, z = hwu w1 (ml 7) (la (g 2) 400 (va_up ba1 ((20 * k) + i) (gvec m9 ta by9 c0 i))) := ⟨_, rfl⟩
      rw [← ew7] at hW
      have hM : moW g w7 mo ml cd mn ki on tw od fa st rs me fo fd (va_up ba1 ((20 * k) + i) (gvec m9 ta by9 c0 i)) ta by9 nd := by rw [ew7]; exact hM.set_ba hD _
      have hFr : moF mo ml w w7 := hFr.tr (by rw [ew7]; exact moF_a (by decide))
      refine lv_iinc (v := nI (i + 1)) (lv' := [(7, .int (nI (i + 1))), (0, .ref mo), (4, .int (nI m9)), (5, .int (nI k)), (6, .int (nI c0))]) hx hb dM_guess_199 hl (k := 4) rfl (nI_1 _) (by decide) rfl (fun ls hl => ?_)
      refine lv_goto (tgt := 120) hx hb dM_guess_202 (by decide) ?_
      exact ih (i + 1) (va_up ba1 ((20 * k) + i) (gvec m9 ta by9 c0 i)) w7 (by omega) hM hFr (up_lt hbb (by omega)) (fun j hj => by
        by_cases e8 : j = i
        · rw [e8, va_up_eq]
        · rw [va_up_no (by omega)]; exact hv j (by omega)) (fun x9 hx9 => by rw [va_up_no (by omega)]; exact hold x9 hx9) H locs hW hS ls (lv_sub hl [1, 2, 3, 4, 0] rfl) kk0

set_option maxHeartbeats 1000000 in
set_option maxRecDepth 100000 in
theorem lp_M_gu_o {p : Program} {l : Launch} {e : Env} {s : State} {m : MethodId} {args : Array Value} {below : List Frame} {meth : Method} {c : Code} {Q : State → Prop} {D : va_G} {g : Nat → ClassId} {ad : Nat → Nat} {tb : Nat} {sa : Nat → Nat} {A : Nat → Prop} {w : Wd} {mo : Nat} {ml : Nat → Nat} {cd mn : Nat} {ki on tw od fa st rs : Nat → Nat} {me fo fd : Nat} {ta by9 : Nat → Nat} {nd : Nat → Bool} (hD : moD ml) {m9 row : Nat} {t0 : Nat → Nat → Nat} (hm : m9 ≤ 20) (hG : gjI m9 m9 row (ldB m9 by9) (rhB m9 by9) (tbl9 m9 ta) t0) (htb : ∀ x, x < 1280 → ta x < 32003) (C0 : cx p s m args c A cM_guess 8 RM D g ad tb sa) : ∀ (e9 : Nat) (c0 k : Nat) (be ba1 : Nat → Nat) (w1 : Wd), (c0 + e9 = m9) → (moW g w1 mo ml cd mn ki on tw od fa st rs me fo fd ba1 ta by9 nd) → (moF mo ml w w1) → (∀ x, x < 400 → ba1 x < 32003) → (lsI (ldB m9 by9) m9 (m9 - c0) k be) → (∀ k1, k1 < k → ∀ i, i < 20 → ba1 (20 * k1 + i) = gvec m9 ta by9 (m9 - 1 - be k1) i) → ∀ (H : Heap) (locs : List Loc), hw D vwCl A w1 H → va_S A s.heap H locs → ∀ ls : Array Slot, lv_has ls 8 [(0, .ref mo), (4, .int (nI m9)), (5, .int (nI k)), (6, .int (nI c0))] → (∀ (k : Nat) (be ba1 : Nat → Nat) (w1 : Wd), (moW g w1 mo ml cd mn ki on tw od fa st rs me fo fd ba1 ta by9 nd) → (moF mo ml w w1) → (∀ x, x < 400 → ba1 x < 32003) → (lsI (ldB m9 by9) m9 0 k be) → (∀ k1, k1 < k → ∀ i, i < 20 → ba1 (20 * k1 + i) = gvec m9 ta by9 (m9 - 1 - be k1) i) → ∀ (H : Heap) (locs : List Loc), hw D vwCl A w1 H → va_S A s.heap H locs → ∀ ls : Array Slot, lv_has ls 8 [(0, .ref mo)] → W p l e (rmL 5 133 0 0) s m args below meth c H locs 0 0 Q (F0 m 214 ls [])) → W p l e (rmL 5 133 0 0) s m args below meth c H locs 0 0 Q (F0 m 96 ls []) := by
  obtain ⟨hx, hb, hml, hts, hown, hK, hk, hAA⟩ := C0
  intro e9
  induction e9 with
  | zero =>
    intro c0 k be ba1 w1 hc9 hM hFr hbb hls hv H locs hW hS ls hl kk0
    refine lv_iload hx hb dM_guess_96 (lv_at hl 3 rfl) ?_
    refine lv_iload hx hb dM_guess_98 (lv_at hl 1 rfl) ?_
    refine nw_icmp_ge (tgt := 214) hx hb (by omega) (by omega) dM_guess_100 (by decide) (fun c1 => ?_) (fun c1 => absurd (show c0 < m9 from c1) (by omega))
    rw [show m9 - c0 = 0 by omega] at hls
    exact kk0 k be ba1 w1 hM hFr hbb hls hv H locs hW hS ls (lv_sub hl [0] rfl)
  | succ e9 ih =>
    intro c0 k be ba1 w1 hc9 hM hFr hbb hls hv H locs hW hS ls hl kk0
    rw [show m9 - c0 = (m9 - 1 - c0) + 1 by omega] at hls
    have hbi := by_in hG (show c0 < m9 by omega)
    have hfl := fr_le (ldB m9 by9) m9
    have hlc := hls.2.2.2
    have hld : ldB m9 by9 (m9 - 1 - c0) = decide (by9 c0 ≠ 4294967295) := by unfold ldB; rw [show m9 - 1 - (m9 - 1 - c0) = c0 by omega]
    refine lv_iload hx hb dM_guess_96 (lv_at hl 3 rfl) ?_
    refine lv_iload hx hb dM_guess_98 (lv_at hl 1 rfl) ?_
    refine nw_icmp_ge (tgt := 214) hx hb (by omega) (by omega) dM_guess_100 (by decide) (fun c1 => absurd (show m9 ≤ c0 from c1) (by omega)) (fun c1 => ?_)
    refine lv_aload_n hx hb dM_guess_103 rfl (lv_at hl 0 rfl) ?_
    refine hw_get (v := .ref (ml 9)) (C := RM) (T := TM) (N := 16) hx hb hts inM hown hK hW hM.1 rfl 14 (by decide) (hts _ bw_531) (fun _ h9 => h9) rfl dM_guess_104 ?_
    refine lv_iload hx hb dM_guess_107 (lv_at hl 3 rfl) ?_
    refine hw_iald hx hb hK hW 0 hM.2.2.2.2.2.2.2.2.2.2.1 rfl (vp_in_nI (show c0 < 20 by omega) (by omega)) dM_guess_109 ?_
    refine tp_i (show (ni by9) (nI c0).toNatClampNeg = nI (by9 c0) from by rw [nI_clamp (by omega)]; rfl) ?_
    refine lv_iconst (v := (-1)) hx hb dM_guess_110 (by decide) ?_
    refine lv_icmp_eq (tgt := 117) hx hb dM_guess_111 (by decide) (fun cb => ?_) (fun cb => ?_)
    · have hfree : ldB m9 by9 (m9 - 1 - c0) = false := by rw [hld, (nI_m1N hbi).mp cb]; decide
      have hls2 := lsI_add hls (by omega) hfree
      have hlc2 := hls2.2.2.2
      refine lv_iconst (v := nI 0) hx hb dM_guess_117 (by decide) ?_
      refine lv_istore (lv' := [(7, .int (nI 0)), (0, .ref mo), (4, .int (nI m9)), (5, .int (nI k)), (6, .int (nI c0))]) hx hb dM_guess_118 hl (by decide) rfl (fun ls hl => ?_)
      obtain ⟨bz9, ebz⟩ : ∃ z, z = ba1 := ⟨_, rfl⟩
      rw [← ebz] at hM hbb hv
      have hv0 := hv
      have hFr1 := hFr
      refine lp_M_gu_i (ba := bz9) hD hm hG htb (show k < 20 by omega) (show c0 < m9 by omega) ⟨hx, hb, hml, hts, hown, hK, hk, hAA⟩ 20 0 bz9 w1 (by omega) hM moF.rf hbb (fun j hj => absurd hj (by omega)) (fun _ _ => rfl) _ _ hW hS ls (lv_sub hl [1, 2, 3, 4, 0] rfl) ?_
      intro ba1 w1 hM hFr hbb hv hold H locs hW hS ls hl
      have hFr := hFr1.tr hFr
      refine lv_iinc (v := nI (k + 1)) (lv' := [(5, .int (nI (k + 1))), (0, .ref mo), (4, .int (nI m9)), (6, .int (nI c0))]) hx hb dM_guess_205 hl (k := 2) rfl (nI_1 _) (by decide) rfl (fun ls hl => ?_)
      refine lv_iinc (v := nI (c0 + 1)) (lv' := [(6, .int (nI (c0 + 1))), (5, .int (nI (k + 1))), (0, .ref mo), (4, .int (nI m9))]) hx hb dM_guess_208 hl (k := 3) rfl (nI_1 _) (by decide) rfl (fun ls hl => ?_)
      refine lv_goto (tgt := 96) hx hb dM_guess_211 (by decide) ?_
      exact ih (c0 + 1) (k + 1) (va_up be k (m9 - 1 - c0)) ba1 w1 (by omega) hM hFr hbb (by rw [show m9 - (c0 + 1) = m9 - 1 - c0 by omega]; exact hls2) (fun k1 hk1 i hi => by
        by_cases e8 : k1 = k
        · rw [e8, va_up_eq, show m9 - 1 - (m9 - 1 - c0) = c0 by omega]; exact hv i hi
        · rw [va_up_no e8, hold _ (by omega)]; exact hv0 k1 (by omega) i hi) H locs hW hS ls (lv_sub hl [2, 3, 1, 0] rfl) kk0
    · refine lv_goto (tgt := 208) hx hb dM_guess_114 (by decide) ?_
      refine lv_iinc (v := nI (c0 + 1)) (lv' := [(6, .int (nI (c0 + 1))), (0, .ref mo), (4, .int (nI m9)), (5, .int (nI k))]) hx hb dM_guess_208 hl (k := 3) rfl (nI_1 _) (by decide) rfl (fun ls hl => ?_)
      refine lv_goto (tgt := 96) hx hb dM_guess_211 (by decide) ?_
      exact ih (c0 + 1) k be ba1 w1 (by omega) hM hFr hbb (by rw [show m9 - (c0 + 1) = m9 - 1 - c0 by omega]; exact lsI_led hls (by rw [hld]; exact decide_eq_true (fun h9 => cb ((nI_m1N hbi).mpr h9)))) hv H locs hW hS ls (lv_sub hl [1, 2, 3, 0] rfl) kk0

set_option maxHeartbeats 1000000 in
set_option maxRecDepth 100000 in
theorem c_M_guess (l : Launch) (D : va_G) (g : Nat → ClassId) (ad : Nat → Nat) (tb : Nat) (sa : Nat → Nat) (w : Wd) (sz : Nat) (mo : Nat) (ml : Nat → Nat) (cd mn : Nat) (ki on tw od fa st rs : Nat → Nat) (me fo fd : Nat) (ba ta by9 : Nat → Nat) (nd : Nat → Bool) (hD : moD ml) (hM0 : moW g w mo ml cd mn ki on tw od fa st rs me fo fd ba ta by9 nd) (σ : Nat → SD) (hS9 : mS σ mn ki on tw od fa st) (hrs : ∀ x, x < 2560 → rs x < 32003) (htb : ∀ x, x < 1280 → ta x < 32003) (hba : ∀ x, x < 400 → ba x < 32003) (f9 o9 d9 : Int32) : MI l D g ad tb sa yM_guess cM_guess 8 (some (.int)) 5 133 0 0 w sz [.ref mo, .int f9, .int o9, .int d9] (fun r w' => moF mo ml w w' ∧ ((¬ inC mn f9 ∧ moW g w' mo ml 1 mn ki on tw od fa st rs me fo fd ba ta by9 nd) ∨ (inC mn f9 ∧ ¬ (inC 5 o9 ∧ inC 4 d9) ∧ moW g w' mo ml 2 mn ki on tw od fa st rs me fo fd ba ta by9 nd) ∨ ∃ f o d fe rs1 ta1 by1 ba1, f < mn ∧ o < 5 ∧ d < 4 ∧ f9 = nI f ∧ o9 = nI o ∧ d9 = nI d ∧ r = nI fe ∧ fe ≤ 20 ∧ gsd (sval σ f) o d (fe, o, d, fun k y => ba1 (20 * k + ((o + 1) * (d + 1) - 1 - y))) ∧ moW g w' mo ml 0 mn ki on tw od fa st rs1 fe o d ba1 ta1 by1 nd ∧ (∀ x, x < 2560 → rs1 x < 32003) ∧ (∀ x, x < 1280 → ta1 x < 32003) ∧ ∀ x, x < 400 → ba1 x < 32003)) := by
  refine hm_MI (by decide) (Nat.le_of_ble_eq_true rfl) ?_
  intro p e s m below meth c A ls hx hb hr hml hts hown hlocks hin hout hsz hW hK hk hS hAA hl
  have hl : lv_has ls 8 [(0, .ref mo), (1, .int f9), (2, .int o9), (3, .int d9)] := hl
  have hM := hM0
  have hFr : moF mo ml w w := moF.rf
  have hmn := hS9.1
  have hb1 := bz_le (inB mn f9)
  refine lv_aload_n hx hb dM_guess_0 rfl (lv_at hl 0 rfl) ?_
  refine lv_aload_n hx hb dM_guess_1 rfl (lv_at hl 0 rfl) ?_
  refine lv_iload_n hx hb dM_guess_2 rfl (lv_at hl 1 rfl) ?_
  refine kc_VI (n := 1) (As := [.int f9]) (rest := [.ref mo]) ⟨hx, hb, hml, hown, hts⟩ (c_M_isThere l D g ad tb sa w s.heap.size mo ml cd mn ki on tw od fa st rs me fo fd ba ta by9 nd hM (by omega) f9) bw_587 bw_589 bs_17 bw_3 bw_590 (by decide +kernel) rfl rfl hM.1 ⟨by decide, by decide⟩ hW hK hk hS hAA rfl hl.1 rfl (Nat.le_of_ble_eq_true rfl) dM_guess_3 ⟨by decide, by decide⟩ (fun r1 w2 H locs hp hW hS => ?_)
  obtain ⟨hw9, hr9⟩ := hp
  rw [hw9] at hW
  subst hr9
  refine nw_if_ne (tgt := 13) hx hb (by omega) dM_guess_6 (by decide) (fun c1 => ?_) (fun c1 => ?_)
  · obtain ⟨f, hfc, ef⟩ := (inB_iff (by omega)).mp (bz_t c1)
    rw [ef] at hl
    obtain ⟨q1, q2, q3, q4, q5, q6⟩ := hS9.2.2 f hfc
    have hb3 := bz_le (inB 5 o9)
    have hb4 := bz_le (inB 4 d9)
    refine lv_iload_n hx hb dM_guess_13 rfl (lv_at hl 2 rfl) ?_
    refine lv_i2l hx hb dM_guess_14 rfl ?_
    refine lv_lconst (v := lN 0) hx hb dM_guess_15 (by decide) ?_
    refine lv_ldc2 (v := 4) hx hb hown (hts _ bw_681) dM_guess_16 ?_
    refine tp_l (show (4 : Int64) = lN 4 by decide) ?_
    refine kc_SI (n := 3) (As := [.long o9.toInt64, .long (lN 0), .long (lN 4)]) (rest := [.ref mo]) ⟨hx, hb, hml, hown, hts⟩ (c_M_in l D g ad tb sa w H.size (o9.toInt64) (lN 0) (lN 4)) bw_576 bw_577 bw_3 bw_578 (by decide +kernel) ⟨by decide, by decide⟩ hW hK hk hS hAA rfl hl.1 rfl (Nat.le_of_ble_eq_true rfl) dM_guess_19 ⟨by decide, by decide⟩ (fun r3 w4 H locs hp hW hS => ?_)
    obtain ⟨hw9, hr9⟩ := hp
    rw [hw9] at hW
    subst hr9
    refine tp_i (show nI (bz (decide ((lN 0).toInt ≤ o9.toInt64.toInt ∧ o9.toInt64.toInt ≤ (lN 4).toInt))) = nI (bz (inB 5 o9)) from by rw [in_le (by omega)]) ?_
    refine nw_if_eq (tgt := 37) hx hb (by omega) dM_guess_22 (by decide) (fun c2 => ?_) (fun c2 => ?_)
    · refine lv_iconst (v := nI 2) hx hb dM_guess_37 (by decide) ?_
      refine lv_goto (tgt := 42) hx hb dM_guess_38 (by decide) ?_
      refine hw_put (v := .int (nI 2)) (ty := .int) (C := RM) (T := TM) (N := 16) hx hb hts inM tyM tyM_ok nmM hown hK hW hS hM.1 rfl 0 (by decide) (hts _ bw_517) (fun _ h9 => h9) rfl (by decide +kernel) rfl rfl (Nat.le_of_ble_eq_true rfl) dM_guess_42 (fun H locs hW hS => ?_)
      have hW : hw D vwCl A (hwu w mo (.inr (4, [.int (nI 2), .int (nI mn), .ref (ml 0), .ref (ml 1), .ref (ml 2), .ref (ml 3), .ref (ml 4), .ref (ml 5), .ref (ml 6), .int (nI me), .int (nI fo), .int (nI fd), .ref (ml 7), .ref (ml 8), .ref (ml 9), .ref (ml 10)]))) H := hW
      obtain ⟨w5, ew5⟩ : ∃ z, z = hwu w mo (.inr (4, [.int (nI 2), .int (nI mn), .ref (ml 0), .ref (ml 1), .ref (ml 2), .ref (ml 3), .ref (ml 4), .ref (ml 5), .ref (ml 6), .int (nI me), .int (nI fo), .int (nI fd), .ref (ml 7), .ref (ml 8), .ref (ml 9), .ref (ml 10)])) := ⟨_, rfl⟩
      rw [← ew5] at hW
      have hM : moW g w5 mo ml 2 mn ki on tw od fa st rs me fo fd ba ta by9 nd := by rw [ew5]; exact hM.set_m _ _ _ _ _
      have hFr : moF mo ml w w5 := hFr.tr (by rw [ew5]; exact moF_m)
      refine lv_aload_n hx hb dM_guess_45 rfl (lv_at hl 0 rfl) ?_
      refine hw_get (v := .int (nI 2)) (C := RM) (T := TM) (N := 16) hx hb hts inM hown hK hW hM.1 rfl 0 (by decide) (hts _ bw_517) (fun _ h9 => h9) rfl dM_guess_46 ?_
      refine nw_if_le (tgt := 54) hx hb (by omega) dM_guess_49 (by decide) (fun c6 => absurd c6 (by decide)) (fun c6 => ?_)
      refine lv_iconst (v := nI 0) hx hb dM_guess_52 (by decide) ?_
      exact W.iret (v := nI 0) hx hb hr (fun t ht hW9 => ⟨⟨nI 0, w5, rfl, ⟨hFr, Or.inr (Or.inl ⟨⟨f, hfc, ef⟩, by first | exact fun h9 => (inB_f (by omega)).mp (bz_f c2) h9.1 | exact fun h9 => (inB_f (by omega)).mp (bz_f c3) h9.2, hM⟩)⟩, by rw [ht]; exact hW, va_K.moved hW9.alike hK⟩, hS.F ht⟩) hS.2.2 dM_guess_53
    · refine lv_iload_n hx hb dM_guess_25 rfl (lv_at hl 3 rfl) ?_
      refine lv_i2l hx hb dM_guess_26 rfl ?_
      refine lv_lconst (v := lN 0) hx hb dM_guess_27 (by decide) ?_
      refine lv_ldc2 (v := 3) hx hb hown (hts _ bw_575) dM_guess_28 ?_
      refine tp_l (show (3 : Int64) = lN 3 by decide) ?_
      refine kc_SI (n := 3) (As := [.long d9.toInt64, .long (lN 0), .long (lN 3)]) (rest := [.ref mo]) ⟨hx, hb, hml, hown, hts⟩ (c_M_in l D g ad tb sa w H.size (d9.toInt64) (lN 0) (lN 3)) bw_576 bw_577 bw_3 bw_578 (by decide +kernel) ⟨by decide, by decide⟩ hW hK hk hS hAA rfl hl.1 rfl (Nat.le_of_ble_eq_true rfl) dM_guess_31 ⟨by decide, by decide⟩ (fun r7 w8 H locs hp hW hS => ?_)
      obtain ⟨hw9, hr9⟩ := hp
      rw [hw9] at hW
      subst hr9
      refine tp_i (show nI (bz (decide ((lN 0).toInt ≤ d9.toInt64.toInt ∧ d9.toInt64.toInt ≤ (lN 3).toInt))) = nI (bz (inB 4 d9)) from by rw [in_le (by omega)]) ?_
      refine nw_if_ne (tgt := 41) hx hb (by omega) dM_guess_34 (by decide) (fun c3 => ?_) (fun c3 => ?_)
      · obtain ⟨o, hoc, eo⟩ := (inB_iff (by omega)).mp (bz_t c2)
        obtain ⟨d, hdc, ed⟩ := (inB_iff (by omega)).mp (bz_t c3)
        rw [eo, ed] at hl
        have hcm := we_cn (show o ≤ 4 by omega) (show d ≤ 3 by omega)
        refine lv_iconst (v := nI 0) hx hb dM_guess_41 (by decide) ?_
        refine hw_put (v := .int (nI 0)) (ty := .int) (C := RM) (T := TM) (N := 16) hx hb hts inM tyM tyM_ok nmM hown hK hW hS hM.1 rfl 0 (by decide) (hts _ bw_517) (fun _ h9 => h9) rfl (by decide +kernel) rfl rfl (Nat.le_of_ble_eq_true rfl) dM_guess_42 (fun H locs hW hS => ?_)
        have hW : hw D vwCl A (hwu w mo (.inr (4, [.int (nI 0), .int (nI mn), .ref (ml 0), .ref (ml 1), .ref (ml 2), .ref (ml 3), .ref (ml 4), .ref (ml 5), .ref (ml 6), .int (nI me), .int (nI fo), .int (nI fd), .ref (ml 7), .ref (ml 8), .ref (ml 9), .ref (ml 10)]))) H := hW
        obtain ⟨w9, ew9⟩ : ∃ z, z = hwu w mo (.inr (4, [.int (nI 0), .int (nI mn), .ref (ml 0), .ref (ml 1), .ref (ml 2), .ref (ml 3), .ref (ml 4), .ref (ml 5), .ref (ml 6), .int (nI me), .int (nI fo), .int (nI fd), .ref (ml 7), .ref (ml 8), .ref (ml 9), .ref (ml 10)])) := ⟨_, rfl⟩
        rw [← ew9] at hW
        have hM : moW g w9 mo ml 0 mn ki on tw od fa st rs me fo fd ba ta by9 nd := by rw [ew9]; exact hM.set_m _ _ _ _ _
        have hFr : moF mo ml w w9 := hFr.tr (by rw [ew9]; exact moF_m)
        refine lv_aload_n hx hb dM_guess_45 rfl (lv_at hl 0 rfl) ?_
        refine hw_get (v := .int (nI 0)) (C := RM) (T := TM) (N := 16) hx hb hts inM hown hK hW hM.1 rfl 0 (by decide) (hts _ bw_517) (fun _ h9 => h9) rfl dM_guess_46 ?_
        refine nw_if_le (tgt := 54) hx hb (by omega) dM_guess_49 (by decide) (fun c10 => ?_) (fun c10 => absurd c10 (by decide))
        refine lv_iload_n hx hb dM_guess_54 rfl (lv_at hl 2 rfl) ?_
        refine lv_iconst (v := nI 1) hx hb dM_guess_55 (by decide) ?_
        refine lv_iadd hx hb dM_guess_56 ?_
        refine tp_i (show (nI o) + (nI 1) = nI (o + 1) from nI_add _ _) ?_
        refine lv_iload_n hx hb dM_guess_57 rfl (lv_at hl 3 rfl) ?_
        refine lv_iconst (v := nI 1) hx hb dM_guess_58 (by decide) ?_
        refine lv_iadd hx hb dM_guess_59 ?_
        refine tp_i (show (nI d) + (nI 1) = nI (d + 1) from nI_add _ _) ?_
        refine lv_imul hx hb dM_guess_60 ?_
        refine tp_i (show (nI (o + 1)) * (nI (d + 1)) = nI ((o + 1) * (d + 1)) from pk_mul _ _) ?_
        refine lv_istore (lv' := [(4, .int (nI ((o + 1) * (d + 1)))), (0, .ref mo), (1, .int (nI f)), (2, .int (nI o)), (3, .int (nI d))]) hx hb dM_guess_61 hl (by decide) rfl (fun ls hl => ?_)
        refine lv_aload_n hx hb dM_guess_63 rfl (lv_at hl 1 rfl) ?_
        refine lv_iload_n hx hb dM_guess_64 rfl (lv_at hl 2 rfl) ?_
        refine lv_iload_n hx hb dM_guess_65 rfl (lv_at hl 3 rfl) ?_
        refine lv_iload_n hx hb dM_guess_66 rfl (lv_at hl 4 rfl) ?_
        refine kc_VV (n := 3) (As := [.int (nI f), .int (nI o), .int (nI d)]) (rest := []) ⟨hx, hb, hml, hown, hts⟩ (c_M_fill l D g ad tb sa w9 H.size mo ml 0 mn ki on tw od fa st rs me fo fd ba ta by9 nd hD hM σ hS9 hrs f o d hfc (by omega) (by omega) htb) bw_682 bw_684 bs_24 bw_3 bw_685 (by decide +kernel) rfl rfl hM.1 ⟨by decide, by decide⟩ hW hK hk hS hAA rfl hl.1 rfl (Nat.le_of_ble_eq_true rfl) dM_guess_67 ⟨by decide, by decide⟩ (fun w12 H locs hp hW hS => ?_)
        obtain ⟨rs2, ta2, hF9, hM, hrs, htb, hfi⟩ := hp
        have hFr : moF mo ml w w12 := hFr.tr hF9
        refine lv_aload_n hx hb dM_guess_70 rfl (lv_at hl 1 rfl) ?_
        refine lv_aload_n hx hb dM_guess_71 rfl (lv_at hl 1 rfl) ?_
        refine lv_iload hx hb dM_guess_72 (lv_at hl 0 rfl) ?_
        refine kc_VI (n := 1) (As := [.int (nI ((o + 1) * (d + 1)))]) (rest := [.ref mo]) ⟨hx, hb, hml, hown, hts⟩ (c_M_clear l D g ad tb sa w12 H.size mo ml 0 mn ki on tw od fa st rs2 me fo fd ba ta2 by9 nd hD hM ((o + 1) * (d + 1)) hcm htb) bw_686 bw_688 bs_25 bw_3 bw_689 (by decide +kernel) rfl rfl hM.1 ⟨by decide, by decide⟩ hW hK hk hS hAA rfl hl.1 rfl (Nat.le_of_ble_eq_true rfl) dM_guess_74 ⟨by decide, by decide⟩ (fun r13 w14 H locs hp hW hS => ?_)
        obtain ⟨row, fe, ta3, by3, hr9, hF9, hM, htb, hG, hfe⟩ := hp
        subst hr9
        have hFr : moF mo ml w w14 := hFr.tr hF9
        have hfl := fr_le (ldB ((o + 1) * (d + 1)) by3) ((o + 1) * (d + 1))
        refine hw_put (v := .int (nI fe)) (ty := .int) (C := RM) (T := TM) (N := 16) hx hb hts inM tyM tyM_ok nmM hown hK hW hS hM.1 rfl 9 (by decide) (hts _ bw_526) (fun _ h9 => h9) rfl (by decide +kernel) rfl rfl (Nat.le_of_ble_eq_true rfl) dM_guess_77 (fun H locs hW hS => ?_)
        have hW : hw D vwCl A (hwu w14 mo (.inr (4, [.int (nI 0), .int (nI mn), .ref (ml 0), .ref (ml 1), .ref (ml 2), .ref (ml 3), .ref (ml 4), .ref (ml 5), .ref (ml 6), .int (nI fe), .int (nI fo), .int (nI fd), .ref (ml 7), .ref (ml 8), .ref (ml 9), .ref (ml 10)]))) H := hW
        obtain ⟨w15, ew15⟩ : ∃ z, z = hwu w14 mo (.inr (4, [.int (nI 0), .int (nI mn), .ref (ml 0), .ref (ml 1), .ref (ml 2), .ref (ml 3), .ref (ml 4), .ref (ml 5), .ref (ml 6), .int (nI fe), .int (nI fo), .int (nI fd), .ref (ml 7), .ref (ml 8), .ref (ml 9), .ref (ml 10)])) := ⟨_, rfl⟩
        rw [← ew15] at hW
        have hM : moW g w15 mo ml 0 mn ki on tw od fa st rs2 fe fo fd ba ta3 by3 nd := by rw [ew15]; exact hM.set_m _ _ _ _ _
        have hFr : moF mo ml w w15 := hFr.tr (by rw [ew15]; exact moF_m)
        refine lv_aload_n hx hb dM_guess_80 rfl (lv_at hl 1 rfl) ?_
        refine lv_iload_n hx hb dM_guess_81 rfl (lv_at hl 3 rfl) ?_
        refine hw_put (v := .int (nI o)) (ty := .int) (C := RM) (T := TM) (N := 16) hx hb hts inM tyM tyM_ok nmM hown hK hW hS hM.1 rfl 10 (by decide) (hts _ bw_527) (fun _ h9 => h9) rfl (by decide +kernel) rfl rfl (Nat.le_of_ble_eq_true rfl) dM_guess_82 (fun H locs hW hS => ?_)
        have hW : hw D vwCl A (hwu w15 mo (.inr (4, [.int (nI 0), .int (nI mn), .ref (ml 0), .ref (ml 1), .ref (ml 2), .ref (ml 3), .ref (ml 4), .ref (ml 5), .ref (ml 6), .int (nI fe), .int (nI o), .int (nI fd), .ref (ml 7), .ref (ml 8), .ref (ml 9), .ref (ml 10)]))) H := hW
        obtain ⟨w16, ew16⟩ : ∃ z, z = hwu w15 mo (.inr (4, [.int (nI 0), .int (nI mn), .ref (ml 0), .ref (ml 1), .ref (ml 2), .ref (ml 3), .ref (ml 4), .ref (ml 5), .ref (ml 6), .int (nI fe), .int (nI o), .int (nI fd), .ref (ml 7), .ref (ml 8), .ref (ml 9), .ref (ml 10)])) := ⟨_, rfl⟩
        rw [← ew16] at hW
        have hM : moW g w16 mo ml 0 mn ki on tw od fa st rs2 fe o fd ba ta3 by3 nd := by rw [ew16]; exact hM.set_m _ _ _ _ _
        have hFr : moF mo ml w w16 := hFr.tr (by rw [ew16]; exact moF_m)
        refine lv_aload_n hx hb dM_guess_85 rfl (lv_at hl 1 rfl) ?_
        refine lv_iload_n hx hb dM_guess_86 rfl (lv_at hl 4 rfl) ?_
        refine hw_put (v := .int (nI d)) (ty := .int) (C := RM) (T := TM) (N := 16) hx hb hts inM tyM tyM_ok nmM hown hK hW hS hM.1 rfl 11 (by decide) (hts _ bw_528) (fun _ h9 => h9) rfl (by decide +kernel) rfl rfl (Nat.le_of_ble_eq_true rfl) dM_guess_87 (fun H locs hW hS => ?_)
        have hW : hw D vwCl A (hwu w16 mo (.inr (4, [.int (nI 0), .int (nI mn), .ref (ml 0), .ref (ml 1), .ref (ml 2), .ref (ml 3), .ref (ml 4), .ref (ml 5), .ref (ml 6), .int (nI fe), .int (nI o), .int (nI d), .ref (ml 7), .ref (ml 8), .ref (ml 9), .ref (ml 10)]))) H := hW
        obtain ⟨w17, ew17⟩ : ∃ z, z = hwu w16 mo (.inr (4, [.int (nI 0), .int (nI mn), .ref (ml 0), .ref (ml 1), .ref (ml 2), .ref (ml 3), .ref (ml 4), .ref (ml 5), .ref (ml 6), .int (nI fe), .int (nI o), .int (nI d), .ref (ml 7), .ref (ml 8), .ref (ml 9), .ref (ml 10)])) := ⟨_, rfl⟩
        rw [← ew17] at hW
        have hM : moW g w17 mo ml 0 mn ki on tw od fa st rs2 fe o d ba ta3 by3 nd := by rw [ew17]; exact hM.set_m _ _ _ _ _
        have hFr : moF mo ml w w17 := hFr.tr (by rw [ew17]; exact moF_m)
        refine lv_iconst (v := nI 0) hx hb dM_guess_90 (by decide) ?_
        refine lv_istore (lv' := [(5, .int (nI 0)), (4, .int (nI ((o + 1) * (d + 1)))), (0, .ref mo), (1, .int (nI f)), (2, .int (nI o)), (3, .int (nI d))]) hx hb dM_guess_91 hl (by decide) rfl (fun ls hl => ?_)
        refine lv_iconst (v := nI 0) hx hb dM_guess_93 (by decide) ?_
        refine lv_istore (lv' := [(6, .int (nI 0)), (5, .int (nI 0)), (4, .int (nI ((o + 1) * (d + 1)))), (0, .ref mo), (1, .int (nI f)), (2, .int (nI o)), (3, .int (nI d))]) hx hb dM_guess_94 hl (by decide) rfl (fun ls hl => ?_)
        have hFr1 := hFr
        refine lp_M_gu_o hD hcm hG htb ⟨hx, hb, hml, hts, hown, hK, hk, hAA⟩ ((o + 1) * (d + 1)) 0 0 (fun _ => 0) ba w17 (by omega) hM moF.rf hba (by rw [Nat.sub_zero]; exact lsI_0) (fun k1 h9 => absurd h9 (by omega)) _ _ hW hS ls (lv_sub hl [3, 2, 1, 0] rfl) ?_
        intro k be ba1 w1 hM hFr hbb hls hv H locs hW hS ls hl
        have hFr := hFr1.tr hFr
        have hgs := gj_gsd hfi hcm hG hls hv
        rw [← hfe] at hgs
        refine lv_aload_n hx hb dM_guess_214 rfl (lv_at hl 0 rfl) ?_
        refine hw_get (v := .int (nI fe)) (C := RM) (T := TM) (N := 16) hx hb hts inM hown hK hW hM.1 rfl 9 (by decide) (hts _ bw_526) (fun _ h9 => h9) rfl dM_guess_215 ?_
        exact W.iret (v := nI fe) hx hb hr (fun t ht hW9 => ⟨⟨nI fe, w1, rfl, ⟨hFr, Or.inr (Or.inr ⟨f, o, d, fe, rs2, ta3, by3, ba1, hfc, hoc, hdc, ef, eo, ed, rfl, by omega, hgs, hM, hrs, htb, hbb⟩)⟩, by rw [ht]; exact hW, va_K.moved hW9.alike hK⟩, hS.F ht⟩) hS.2.2 dM_guess_218
      · refine lv_iconst (v := nI 2) hx hb dM_guess_37 (by decide) ?_
        refine lv_goto (tgt := 42) hx hb dM_guess_38 (by decide) ?_
        refine hw_put (v := .int (nI 2)) (ty := .int) (C := RM) (T := TM) (N := 16) hx hb hts inM tyM tyM_ok nmM hown hK hW hS hM.1 rfl 0 (by decide) (hts _ bw_517) (fun _ h9 => h9) rfl (by decide +kernel) rfl rfl (Nat.le_of_ble_eq_true rfl) dM_guess_42 (fun H locs hW hS => ?_)
        have hW : hw D vwCl A (hwu w mo (.inr (4, [.int (nI 2), .int (nI mn), .ref (ml 0), .ref (ml 1), .ref (ml 2), .ref (ml 3), .ref (ml 4), .ref (ml 5), .ref (ml 6), .int (nI me), .int (nI fo), .int (nI fd), .ref (ml 7), .ref (ml 8), .ref (ml 9), .ref (ml 10)]))) H := hW
        obtain ⟨w18, ew18⟩ : ∃ z, z = hwu w mo (.inr (4, [.int (nI 2), .int (nI mn), .ref (ml 0), .ref (ml 1), .ref (ml 2), .ref (ml 3), .ref (ml 4), .ref (ml 5), .ref (ml 6), .int (nI me), .int (nI fo), .int (nI fd), .ref (ml 7), .ref (ml 8), .ref (ml 9), .ref (ml 10)])) := ⟨_, rfl⟩
        rw [← ew18] at hW
        have hM : moW g w18 mo ml 2 mn ki on tw od fa st rs me fo fd ba ta by9 nd := by rw [ew18]; exact hM.set_m _ _ _ _ _
        have hFr : moF mo ml w w18 := hFr.tr (by rw [ew18]; exact moF_m)
        refine lv_aload_n hx hb dM_guess_45 rfl (lv_at hl 0 rfl) ?_
        refine hw_get (v := .int (nI 2)) (C := RM) (T := TM) (N := 16) hx hb hts inM hown hK hW hM.1 rfl 0 (by decide) (hts _ bw_517) (fun _ h9 => h9) rfl dM_guess_46 ?_
        refine nw_if_le (tgt := 54) hx hb (by omega) dM_guess_49 (by decide) (fun c19 => absurd c19 (by decide)) (fun c19 => ?_)
        refine lv_iconst (v := nI 0) hx hb dM_guess_52 (by decide) ?_
        exact W.iret (v := nI 0) hx hb hr (fun t ht hW9 => ⟨⟨nI 0, w18, rfl, ⟨hFr, Or.inr (Or.inl ⟨⟨f, hfc, ef⟩, by first | exact fun h9 => (inB_f (by omega)).mp (bz_f c2) h9.1 | exact fun h9 => (inB_f (by omega)).mp (bz_f c3) h9.2, hM⟩)⟩, by rw [ht]; exact hW, va_K.moved hW9.alike hK⟩, hS.F ht⟩) hS.2.2 dM_guess_53
  · refine lv_iconst (v := nI 1) hx hb dM_guess_9 (by decide) ?_
    refine lv_goto (tgt := 42) hx hb dM_guess_10 (by decide) ?_
    refine hw_put (v := .int (nI 1)) (ty := .int) (C := RM) (T := TM) (N := 16) hx hb hts inM tyM tyM_ok nmM hown hK hW hS hM.1 rfl 0 (by decide) (hts _ bw_517) (fun _ h9 => h9) rfl (by decide +kernel) rfl rfl (Nat.le_of_ble_eq_true rfl) dM_guess_42 (fun H locs hW hS => ?_)
    have hW : hw D vwCl A (hwu w mo (.inr (4, [.int (nI 1), .int (nI mn), .ref (ml 0), .ref (ml 1), .ref (ml 2), .ref (ml 3), .ref (ml 4), .ref (ml 5), .ref (ml 6), .int (nI me), .int (nI fo), .int (nI fd), .ref (ml 7), .ref (ml 8), .ref (ml 9), .ref (ml 10)]))) H := hW
    obtain ⟨w20, ew20⟩ : ∃ z, z = hwu w mo (.inr (4, [.int (nI 1), .int (nI mn), .ref (ml 0), .ref (ml 1), .ref (ml 2), .ref (ml 3), .ref (ml 4), .ref (ml 5), .ref (ml 6), .int (nI me), .int (nI fo), .int (nI fd), .ref (ml 7), .ref (ml 8), .ref (ml 9), .ref (ml 10)])) := ⟨_, rfl⟩
    rw [← ew20] at hW
    have hM : moW g w20 mo ml 1 mn ki on tw od fa st rs me fo fd ba ta by9 nd := by rw [ew20]; exact hM.set_m _ _ _ _ _
    have hFr : moF mo ml w w20 := hFr.tr (by rw [ew20]; exact moF_m)
    refine lv_aload_n hx hb dM_guess_45 rfl (lv_at hl 0 rfl) ?_
    refine hw_get (v := .int (nI 1)) (C := RM) (T := TM) (N := 16) hx hb hts inM hown hK hW hM.1 rfl 0 (by decide) (hts _ bw_517) (fun _ h9 => h9) rfl dM_guess_46 ?_
    refine nw_if_le (tgt := 54) hx hb (by omega) dM_guess_49 (by decide) (fun c21 => absurd c21 (by decide)) (fun c21 => ?_)
    refine lv_iconst (v := nI 0) hx hb dM_guess_52 (by decide) ?_
    exact W.iret (v := nI 0) hx hb hr (fun t ht hW9 => ⟨⟨nI 0, w20, rfl, ⟨hFr, Or.inl ⟨(inB_f (by omega)).mp (bz_f c1), hM⟩⟩, by rw [ht]; exact hW, va_K.moved hW9.alike hK⟩, hS.F ht⟩) hS.2.2 dM_guess_53
