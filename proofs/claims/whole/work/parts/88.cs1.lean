theorem xI.ob {g : Nat → ClassId} {ad : Nat → Nat} {w : Wd} {ro : Nat → Nat} {a : Nat} {σ : Nat → SD} {cnt : Nat} {γ : GU} (h : xI g ad w ro a σ cnt γ) : ∃ fs, w a = some (.inr (0, fs)) := by
  obtain ⟨al, fh, T, pt, rfl, hX, hF, hT⟩ := h
  obtain ⟨h1, h2, h3, h4, h5⟩ := hX
  exact ⟨_, h3.1⟩
set_option maxHeartbeats 1000000 in
set_option maxRecDepth 100000 in
theorem cs_function {p : Program} {l : Launch} {e : Env} {s : State} {m : MethodId} {args : Array Value} {below : List Frame} {meth : Method} {c : Code} {Q : State → Prop} {D : va_G} {g : Nat → ClassId} {ad : Nat → Nat} {tb : Nat} {sa : Nat → Nat} {A : Nat → Prop} {b L : Nat} {xs : Nat → Int32} (hSc : va_X b L xs s s.heap) (hbl : b < s.heap.size) (hbA : ¬ A b) (hL : L ≤ 3072) {ro : Nat → Nat} {x mo ou i ce sl : Nat} {σ : Nat → SD} {cnt : Nat} {γ : GU} {w : Wd} {H : Heap} {locs : List Loc} {ls : Array Slot} (hl0 : l.stackTraces = false) (hi6 : i + 6 ≤ L) (hce : ce + 5 ≤ 601024) (hsl : sl + 160 ≤ 7293033) (hj : jI g ad w ro x mo ou σ cnt γ) (C0 : cx p s m args c A cL_law 7 RL D g ad tb sa) (hW : hw D vwCl A w H) (hS : va_S A s.heap H locs) (hl : lv_has ls 7 [(0, .ref b), (1, .ref x), (2, .ref mo), (3, .ref ou), (4, .int (nI i))]) (kk : ∀ (σ' : Nat → SD) (cnt' : Nat) (γ' : GU) (ro' : Nat → Nat) (w1 : Wd), jI g ad w1 ro' x mo ou σ' cnt' γ' → ∀ (H : Heap) (locs : List Loc), hw D vwCl A w1 H → va_S A s.heap H locs → ∀ ls : Array Slot, lv_has ls 7 [(0, .ref b), (1, .ref x), (2, .ref mo), (3, .ref ou), (4, .int (nI i))] → W p l e (rmL 12 444 601024 7293033) s m args below meth c H locs (ce + 5) (sl + 160) Q (F0 m 1394 ls [])) : W p l e (rmL 12 444 601024 7293033) s m args below meth c H locs ce sl Q (F0 m 128 ls []) := by
  obtain ⟨hx, hb, hml, hts, hown, hK, hk, hAA⟩ := C0
  obtain ⟨fs, hob⟩ := hj.1.ob
  obtain ⟨-, -, ⟨foO, hOu⟩, hRo⟩ := id hj
  refine lv_aload_n hx hb dL_law_128 rfl (lv_at hl 1 rfl) ?_
  refine lv_aload_n hx hb dL_law_129 rfl (lv_at hl 0 rfl) ?_
  refine lv_iload hx hb dL_law_130 (lv_at hl 4 rfl) ?_
  refine lv_iconst (v := nI 1) hx hb dL_law_132 (by decide) ?_
  refine lv_iadd hx hb dL_law_133 ?_
  refine tp_i (show (nI i) + (nI 1) = nI (i + 1) from nI_add _ _) ?_
  refine va_sld hx hb hSc hbl hbA hS (vp_in_nI (show i + 1 < L by omega) (by omega)) dL_law_134 ?_
  refine lv_aload_n hx hb dL_law_135 rfl (lv_at hl 3 rfl) ?_
  refine kc_LI (n := 3) (As := [.ref x, .int (xs (nI (i + 1)).toNatClampNeg), .ref ou]) (rest := []) ⟨hx, hb, hml, hown, hts⟩ (c_L_function l D g ad tb sa w H.size _ _ x ou fs foO (xs (nI (i + 1)).toNatClampNeg) (c_X_function l D g ad tb sa w H.size hl0 ro x σ cnt γ hj.1 (xs (nI (i + 1)).toNatClampNeg)) hob (fun x9 w9 h9 => by obtain ⟨o, ro', eo, ho1, ho3, h4, ex, hI, hkp⟩ := h9; exact (hkp _ _ hOu (by omega)).1) (fun E w9 h9 => h9.2.elim (fun q => Or.inl q.1) (fun q => Or.inr q.1))) bw_79 bw_80 bw_0 bw_81 (by decide +kernel) ⟨by decide, by decide⟩ hW hK hk hS hAA rfl hl.1 rfl (Nat.le_of_ble_eq_true rfl) dL_law_136 ⟨by show _ ≤ 601024; omega, by show _ ≤ 7293033; omega⟩ (fun r w1 H locs hp hW hS => ?_)
  obtain ⟨k, σ1, cnt1, γ1, ro1, fo1, rfl, hk4, hJ, hou, hfin⟩ := j_function (o9 := (xs (nI (i + 1)).toNatClampNeg)) hj hp
  obtain ⟨-, ⟨cd, ml, ki, on, tw, od, fa, st, rs, me, fo, fd, ba, ta, by9, nd, hR, hMo, hS9, b1, b2, b3, hg⟩, -⟩ := id hJ
  have h40 := hS9.1
  refine lv_istore (lv' := [(5, .int (nI k)), (0, .ref b), (1, .ref x), (2, .ref mo), (3, .ref ou), (4, .int (nI i))]) hx hb dL_law_139 hl (by decide) rfl (fun ls hl => ?_)
  refine lv_aload_n hx hb dL_law_141 rfl (lv_at hl 3 rfl) ?_
  refine lv_aload_n hx hb dL_law_142 rfl (lv_at hl 1 rfl) ?_
  refine lv_iload hx hb dL_law_143 (lv_at hl 5 rfl) ?_
  refine lv_iconst (v := nI 1) hx hb dL_law_145 (by decide) ?_
  refine lv_iadd hx hb dL_law_146 ?_
  refine tp_i (show (nI i) + (nI 1) = nI (i + 1) from nI_add _ _) ?_
  refine va_sld hx hb hSc hbl hbA hS (vp_in_nI (show i + 1 < L by omega) (by omega)) dL_law_147 ?_
  refine kc_VI (n := 1) (As := [.int (xs (nI (i + 1)).toNatClampNeg)]) (rest := []) ⟨hx, hb, hml, hown, hts⟩ (c_M_function l D g ad tb sa w1 H.size mo ml cd cnt ki on tw od fa st rs me fo fd ba ta by9 nd hR.D hMo h40 (xs (nI (i + 1)).toNatClampNeg)) bw_571 bw_572 bw_573 bw_3 bw_574 (by decide +kernel) rfl rfl hMo.1 ⟨by decide, by decide⟩ hW hK hk hS hAA rfl hl.1 rfl (Nat.le_of_ble_eq_true rfl) dL_law_148 ⟨by show _ ≤ 601024; omega, by show _ ≤ 7293033; omega⟩ (fun r w2 H locs hp hW hS => ?_)
  obtain ⟨hj2, hmi, ho2, heq⟩ := hfin ml cd ki on tw od fa st rs me fo fd ba ta by9 nd hR hMo hS9 b1 b2 b3 hg _ _ hp
  rw [← ho2] at hou
  obtain ⟨ml2, ki2, on2, tw2, od2, fa2, st2, rs2, me2, fo2, fd2, ba2, ta2, by2, nd2, hR2, hMo2, -⟩ := id hmi
  refine lv_istore (lv' := [(6, .int r), (5, .int (nI k)), (0, .ref b), (1, .ref x), (2, .ref mo), (3, .ref ou), (4, .int (nI i))]) hx hb dL_law_151 hl (by decide) rfl (fun ls hl => ?_)
  refine lv_aload_n hx hb dL_law_153 rfl (lv_at hl 4 rfl) ?_
  refine kc_VI (n := 0) (As := []) (rest := []) ⟨hx, hb, hml, hown, hts⟩ (c_M_thrown l D g ad tb sa w2 H.size mo ml2 k cnt1 ki2 on2 tw2 od2 fa2 st2 rs2 me2 fo2 fd2 ba2 ta2 by2 nd2 hMo2) bw_567 bw_568 bw_569 bw_3 bw_570 (by decide +kernel) rfl rfl hMo2.1 ⟨by decide, by decide⟩ hW hK hk hS hAA rfl hl.1 rfl (Nat.le_of_ble_eq_true rfl) dL_law_154 ⟨by show _ ≤ 601024; omega, by show _ ≤ 7293033; omega⟩ (fun r3 w3 H locs hp hW hS => ?_)
  obtain ⟨hw9, hr9⟩ := hp
  rw [hw9] at hW
  subst hr9
  refine lv_iload hx hb dL_law_157 (lv_at hl 1 rfl) ?_
  refine nw_icmp_eq (tgt := 164) hx hb (by omega) (by omega) dL_law_159 (by decide) (fun c1 => ?_) (fun c1 => absurd rfl c1)
  refine lv_iload hx hb dL_law_164 (lv_at hl 1 rfl) ?_
  refine nw_if_ne (tgt := 181) hx hb (by omega) dL_law_166 (by decide) (fun c0 => ?_) (fun c0 => ?_)
  · refine lv_goto (tgt := 1394) hx hb dL_law_181 (by decide) ?_
    refine W.widen (k := ce + 5) (n := sl + 160) (by omega) (by omega) ?_
    exact kk σ1 cnt1 γ1 ro1 w2 hj2 H locs hW hS ls (lv_sub hl [2, 3, 4, 5, 6] rfl)
  · refine lv_aload_n hx hb dL_law_169 rfl (lv_at hl 5 rfl) ?_
    refine lv_iconst (v := nI 0) hx hb dL_law_170 (by decide) ?_
    refine hw_lald hx hb hK hW 2 hou rfl (vp_in_nI (show 0 < 1 by omega) (by omega)) dL_law_171 ?_
    refine tp_l (show fo1 (nI 0).toNatClampNeg = fo1 0 from by rw [nI_clamp (by omega)]) ?_
    refine lv_iload hx hb dL_law_172 (lv_at hl 0 rfl) ?_
    refine lv_i2l hx hb dL_law_174 rfl ?_
    refine tp_l (show r.toInt64 = fo1 0 from (heq (by omega)).symm) ?_
    refine W.lcmp hx hb dL_law_175 ?_
    refine lv_if_eq (tgt := 181) hx hb dL_law_176 (by decide) (fun c2 => ?_) (fun c2 => absurd ((lg_cmp_eq _ _).mpr rfl) c2)
    refine lv_goto (tgt := 1394) hx hb dL_law_181 (by decide) ?_
    refine W.widen (k := ce + 5) (n := sl + 160) (by omega) (by omega) ?_
    exact kk σ1 cnt1 γ1 ro1 w2 hj2 H locs hW hS ls (lv_sub hl [2, 3, 4, 5, 6] rfl)

set_option maxHeartbeats 1000000 in
set_option maxRecDepth 100000 in
theorem cs_factor {p : Program} {l : Launch} {e : Env} {s : State} {m : MethodId} {args : Array Value} {below : List Frame} {meth : Method} {c : Code} {Q : State → Prop} {D : va_G} {g : Nat → ClassId} {ad : Nat → Nat} {tb : Nat} {sa : Nat → Nat} {A : Nat → Prop} {b L : Nat} {xs : Nat → Int32} (hSc : va_X b L xs s s.heap) (hbl : b < s.heap.size) (hbA : ¬ A b) (hL : L ≤ 3072) {ro : Nat → Nat} {x mo ou i ce sl : Nat} {σ : Nat → SD} {cnt : Nat} {γ : GU} {w : Wd} {H : Heap} {locs : List Loc} {ls : Array Slot} (hl0 : l.stackTraces = false) (hi6 : i + 6 ≤ L) (hce : ce + 5 ≤ 601024) (hsl : sl + 160 ≤ 7293033) (hj : jI g ad w ro x mo ou σ cnt γ) (C0 : cx p s m args c A cL_law 7 RL D g ad tb sa) (hW : hw D vwCl A w H) (hS : va_S A s.heap H locs) (hl : lv_has ls 7 [(0, .ref b), (1, .ref x), (2, .ref mo), (3, .ref ou), (4, .int (nI i))]) (kk : ∀ (σ' : Nat → SD) (cnt' : Nat) (γ' : GU) (ro' : Nat → Nat) (w1 : Wd), jI g ad w1 ro' x mo ou σ' cnt' γ' → ∀ (H : Heap) (locs : List Loc), hw D vwCl A w1 H → va_S A s.heap H locs → ∀ ls : Array Slot, lv_has ls 7 [(0, .ref b), (1, .ref x), (2, .ref mo), (3, .ref ou), (4, .int (nI i))] → W p l e (rmL 12 444 601024 7293033) s m args below meth c H locs (ce + 5) (sl + 160) Q (F0 m 1394 ls [])) : W p l e (rmL 12 444 601024 7293033) s m args below meth c H locs ce sl Q (F0 m 184 ls []) := by
  obtain ⟨hx, hb, hml, hts, hown, hK, hk, hAA⟩ := C0
  obtain ⟨fs, hob⟩ := hj.1.ob
  obtain ⟨-, -, ⟨foO, hOu⟩, hRo⟩ := id hj
  refine lv_aload_n hx hb dL_law_184 rfl (lv_at hl 1 rfl) ?_
  refine lv_aload_n hx hb dL_law_185 rfl (lv_at hl 0 rfl) ?_
  refine lv_iload hx hb dL_law_186 (lv_at hl 4 rfl) ?_
  refine lv_iconst (v := nI 1) hx hb dL_law_188 (by decide) ?_
  refine lv_iadd hx hb dL_law_189 ?_
  refine tp_i (show (nI i) + (nI 1) = nI (i + 1) from nI_add _ _) ?_
  refine va_sld hx hb hSc hbl hbA hS (vp_in_nI (show i + 1 < L by omega) (by omega)) dL_law_190 ?_
  refine lv_aload_n hx hb dL_law_191 rfl (lv_at hl 0 rfl) ?_
  refine lv_iload hx hb dL_law_192 (lv_at hl 4 rfl) ?_
  refine lv_iconst (v := nI 2) hx hb dL_law_194 (by decide) ?_
  refine lv_iadd hx hb dL_law_195 ?_
  refine tp_i (show (nI i) + (nI 2) = nI (i + 2) from nI_add _ _) ?_
  refine va_sld hx hb hSc hbl hbA hS (vp_in_nI (show i + 2 < L by omega) (by omega)) dL_law_196 ?_
  refine lv_aload_n hx hb dL_law_197 rfl (lv_at hl 0 rfl) ?_
  refine lv_iload hx hb dL_law_198 (lv_at hl 4 rfl) ?_
  refine lv_iconst (v := nI 3) hx hb dL_law_200 (by decide) ?_
  refine lv_iadd hx hb dL_law_201 ?_
  refine tp_i (show (nI i) + (nI 3) = nI (i + 3) from nI_add _ _) ?_
  refine va_sld hx hb hSc hbl hbA hS (vp_in_nI (show i + 3 < L by omega) (by omega)) dL_law_202 ?_
  refine lv_aload_n hx hb dL_law_203 rfl (lv_at hl 0 rfl) ?_
  refine lv_iload hx hb dL_law_204 (lv_at hl 4 rfl) ?_
  refine lv_iconst (v := nI 4) hx hb dL_law_206 (by decide) ?_
  refine lv_iadd hx hb dL_law_207 ?_
  refine tp_i (show (nI i) + (nI 4) = nI (i + 4) from nI_add _ _) ?_
  refine va_sld hx hb hSc hbl hbA hS (vp_in_nI (show i + 4 < L by omega) (by omega)) dL_law_208 ?_
  refine lv_i2l hx hb dL_law_209 rfl ?_
  refine lv_bipush (v := nI 32) hx hb dL_law_210 (by decide) ?_
  refine lv_lshl hx hb dL_law_212 rfl ?_
  refine lv_aload_n hx hb dL_law_213 rfl (lv_at hl 0 rfl) ?_
  refine lv_iload hx hb dL_law_214 (lv_at hl 4 rfl) ?_
  refine lv_iconst (v := nI 5) hx hb dL_law_216 (by decide) ?_
  refine lv_iadd hx hb dL_law_217 ?_
  refine tp_i (show (nI i) + (nI 5) = nI (i + 5) from nI_add _ _) ?_
  refine va_sld hx hb hSc hbl hbA hS (vp_in_nI (show i + 5 < L by omega) (by omega)) dL_law_218 ?_
  refine lv_i2l hx hb dL_law_219 rfl ?_
  refine lv_ldc2 (v := 4294967295) hx hb hown (hts _ bw_698) dL_law_220 ?_
  refine tp_l (show (4294967295 : Int64) = lN 4294967295 by decide) ?_
  refine lv_land hx hb dL_law_223 ?_
  refine lv_lor hx hb dL_law_224 ?_
  refine lv_aload_n hx hb dL_law_225 rfl (lv_at hl 3 rfl) ?_
  refine kc_LI (n := 6) (As := [.ref x, .int (xs (nI (i + 1)).toNatClampNeg), .int (xs (nI (i + 2)).toNatClampNeg), .int (xs (nI (i + 3)).toNatClampNeg), .long ((((xs (nI (i + 4)).toNatClampNeg).toInt64) <<< ((nI 32).toInt64 &&& 63)) ||| (((xs (nI (i + 5)).toNatClampNeg).toInt64) &&& (lN 4294967295))), .ref ou]) (rest := []) ⟨hx, hb, hml, hown, hts⟩ (c_L_factor l D g ad tb sa w H.size _ _ x ou fs foO (xs (nI (i + 1)).toNatClampNeg) (xs (nI (i + 2)).toNatClampNeg) (xs (nI (i + 3)).toNatClampNeg) ((((xs (nI (i + 4)).toNatClampNeg).toInt64) <<< ((nI 32).toInt64 &&& 63)) ||| (((xs (nI (i + 5)).toNatClampNeg).toInt64) &&& (lN 4294967295))) (c_X_factor l D g ad tb sa w H.size hl0 ro x σ cnt γ hj.1 (xs (nI (i + 1)).toNatClampNeg) (xs (nI (i + 2)).toNatClampNeg) (xs (nI (i + 3)).toNatClampNeg) ((((xs (nI (i + 4)).toNatClampNeg).toInt64) <<< ((nI 32).toInt64 &&& 63)) ||| (((xs (nI (i + 5)).toNatClampNeg).toInt64) &&& (lN 4294967295)))) hob (fun x9 w9 h9 => by obtain ⟨f, i, p, hf, ef, ht, hi, hp0, ei, ep, ex, hI, hkp⟩ := h9; exact (hkp _ _ hOu (by omega)).1) (fun E w9 h9 => h9.2.elim (fun q => Or.inl q.1) (fun q => Or.inr q.1))) bw_219 bw_220 bw_0 bw_221 (by decide +kernel) ⟨by decide, by decide⟩ hW hK hk hS hAA rfl hl.1 rfl (Nat.le_of_ble_eq_true rfl) dL_law_226 ⟨by show _ ≤ 601024; omega, by show _ ≤ 7293033; omega⟩ (fun r w1 H locs hp hW hS => ?_)
  obtain ⟨k, σ1, cnt1, γ1, ro1, fo1, rfl, hk4, hJ, hou, hfin⟩ := j_factor (f9 := (xs (nI (i + 1)).toNatClampNeg)) (i9 := (xs (nI (i + 2)).toNatClampNeg)) (p9 := (xs (nI (i + 3)).toNatClampNeg)) (v9 := ((((xs (nI (i + 4)).toNatClampNeg).toInt64) <<< ((nI 32).toInt64 &&& 63)) ||| (((xs (nI (i + 5)).toNatClampNeg).toInt64) &&& (lN 4294967295)))) hj hp
  obtain ⟨-, ⟨cd, ml, ki, on, tw, od, fa, st, rs, me, fo, fd, ba, ta, by9, nd, hR, hMo, hS9, b1, b2, b3, hg⟩, -⟩ := id hJ
  have h40 := hS9.1
  refine lv_istore (lv' := [(5, .int (nI k)), (0, .ref b), (1, .ref x), (2, .ref mo), (3, .ref ou), (4, .int (nI i))]) hx hb dL_law_229 hl (by decide) rfl (fun ls hl => ?_)
  refine lv_aload_n hx hb dL_law_231 rfl (lv_at hl 3 rfl) ?_
  refine lv_aload_n hx hb dL_law_232 rfl (lv_at hl 1 rfl) ?_
  refine lv_iload hx hb dL_law_233 (lv_at hl 5 rfl) ?_
  refine lv_iconst (v := nI 1) hx hb dL_law_235 (by decide) ?_
  refine lv_iadd hx hb dL_law_236 ?_
  refine tp_i (show (nI i) + (nI 1) = nI (i + 1) from nI_add _ _) ?_
  refine va_sld hx hb hSc hbl hbA hS (vp_in_nI (show i + 1 < L by omega) (by omega)) dL_law_237 ?_
  refine lv_aload_n hx hb dL_law_238 rfl (lv_at hl 1 rfl) ?_
  refine lv_iload hx hb dL_law_239 (lv_at hl 5 rfl) ?_
  refine lv_iconst (v := nI 2) hx hb dL_law_241 (by decide) ?_
  refine lv_iadd hx hb dL_law_242 ?_
  refine tp_i (show (nI i) + (nI 2) = nI (i + 2) from nI_add _ _) ?_
  refine va_sld hx hb hSc hbl hbA hS (vp_in_nI (show i + 2 < L by omega) (by omega)) dL_law_243 ?_
  refine lv_aload_n hx hb dL_law_244 rfl (lv_at hl 1 rfl) ?_
  refine lv_iload hx hb dL_law_245 (lv_at hl 5 rfl) ?_
  refine lv_iconst (v := nI 3) hx hb dL_law_247 (by decide) ?_
  refine lv_iadd hx hb dL_law_248 ?_
  refine tp_i (show (nI i) + (nI 3) = nI (i + 3) from nI_add _ _) ?_
  refine va_sld hx hb hSc hbl hbA hS (vp_in_nI (show i + 3 < L by omega) (by omega)) dL_law_249 ?_
  refine lv_aload_n hx hb dL_law_250 rfl (lv_at hl 1 rfl) ?_
  refine lv_iload hx hb dL_law_251 (lv_at hl 5 rfl) ?_
  refine lv_iconst (v := nI 4) hx hb dL_law_253 (by decide) ?_
  refine lv_iadd hx hb dL_law_254 ?_
  refine tp_i (show (nI i) + (nI 4) = nI (i + 4) from nI_add _ _) ?_
  refine va_sld hx hb hSc hbl hbA hS (vp_in_nI (show i + 4 < L by omega) (by omega)) dL_law_255 ?_
  refine lv_i2l hx hb dL_law_256 rfl ?_
  refine lv_bipush (v := nI 32) hx hb dL_law_257 (by decide) ?_
  refine lv_lshl hx hb dL_law_259 rfl ?_
  refine lv_aload_n hx hb dL_law_260 rfl (lv_at hl 1 rfl) ?_
  refine lv_iload hx hb dL_law_261 (lv_at hl 5 rfl) ?_
  refine lv_iconst (v := nI 5) hx hb dL_law_263 (by decide) ?_
  refine lv_iadd hx hb dL_law_264 ?_
  refine tp_i (show (nI i) + (nI 5) = nI (i + 5) from nI_add _ _) ?_
  refine va_sld hx hb hSc hbl hbA hS (vp_in_nI (show i + 5 < L by omega) (by omega)) dL_law_265 ?_
  refine lv_i2l hx hb dL_law_266 rfl ?_
  refine lv_ldc2 (v := 4294967295) hx hb hown (hts _ bw_698) dL_law_267 ?_
  refine tp_l (show (4294967295 : Int64) = lN 4294967295 by decide) ?_
  refine lv_land hx hb dL_law_270 ?_
  refine lv_lor hx hb dL_law_271 ?_
  refine kc_VI (n := 4) (As := [.int (xs (nI (i + 1)).toNatClampNeg), .int (xs (nI (i + 2)).toNatClampNeg), .int (xs (nI (i + 3)).toNatClampNeg), .long ((((xs (nI (i + 4)).toNatClampNeg).toInt64) <<< ((nI 32).toInt64 &&& 63)) ||| (((xs (nI (i + 5)).toNatClampNeg).toInt64) &&& (lN 4294967295)))]) (rest := []) ⟨hx, hb, hml, hown, hts⟩ (c_M_factor l D g ad tb sa w1 H.size mo ml cd cnt ki on tw od fa st rs me fo fd ba ta by9 nd hR.D hMo σ hS9 (xs (nI (i + 1)).toNatClampNeg) (xs (nI (i + 2)).toNatClampNeg) (xs (nI (i + 3)).toNatClampNeg) ((((xs (nI (i + 4)).toNatClampNeg).toInt64) <<< ((nI 32).toInt64 &&& 63)) ||| (((xs (nI (i + 5)).toNatClampNeg).toInt64) &&& (lN 4294967295)))) bw_583 bw_584 bw_585 bw_3 bw_586 (by decide +kernel) rfl rfl hMo.1 ⟨by decide, by decide⟩ hW hK hk hS hAA rfl hl.1 rfl (Nat.le_of_ble_eq_true rfl) dL_law_272 ⟨by show _ ≤ 601024; omega, by show _ ≤ 7293033; omega⟩ (fun r w2 H locs hp hW hS => ?_)
  obtain ⟨hj2, hmi, ho2, heq⟩ := hfin ml cd ki on tw od fa st rs me fo fd ba ta by9 nd hR hMo hS9 b1 b2 b3 hg _ _ hp
  rw [← ho2] at hou
  obtain ⟨ml2, ki2, on2, tw2, od2, fa2, st2, rs2, me2, fo2, fd2, ba2, ta2, by2, nd2, hR2, hMo2, -⟩ := id hmi
  refine lv_istore (lv' := [(6, .int r), (5, .int (nI k)), (0, .ref b), (1, .ref x), (2, .ref mo), (3, .ref ou), (4, .int (nI i))]) hx hb dL_law_275 hl (by decide) rfl (fun ls hl => ?_)
  refine lv_aload_n hx hb dL_law_277 rfl (lv_at hl 4 rfl) ?_
  refine kc_VI (n := 0) (As := []) (rest := []) ⟨hx, hb, hml, hown, hts⟩ (c_M_thrown l D g ad tb sa w2 H.size mo ml2 k cnt1 ki2 on2 tw2 od2 fa2 st2 rs2 me2 fo2 fd2 ba2 ta2 by2 nd2 hMo2) bw_567 bw_568 bw_569 bw_3 bw_570 (by decide +kernel) rfl rfl hMo2.1 ⟨by decide, by decide⟩ hW hK hk hS hAA rfl hl.1 rfl (Nat.le_of_ble_eq_true rfl) dL_law_278 ⟨by show _ ≤ 601024; omega, by show _ ≤ 7293033; omega⟩ (fun r3 w3 H locs hp hW hS => ?_)
  obtain ⟨hw9, hr9⟩ := hp
  rw [hw9] at hW
  subst hr9
  refine lv_iload hx hb dL_law_281 (lv_at hl 1 rfl) ?_
  refine nw_icmp_eq (tgt := 288) hx hb (by omega) (by omega) dL_law_283 (by decide) (fun c1 => ?_) (fun c1 => absurd rfl c1)
  refine lv_iload hx hb dL_law_288 (lv_at hl 1 rfl) ?_
  refine nw_if_ne (tgt := 312) hx hb (by omega) dL_law_290 (by decide) (fun c0 => ?_) (fun c0 => ?_)
  · refine lv_goto (tgt := 1394) hx hb dL_law_312 (by decide) ?_
    refine W.widen (k := ce + 5) (n := sl + 160) (by omega) (by omega) ?_
    exact kk σ1 cnt1 γ1 ro1 w2 hj2 H locs hW hS ls (lv_sub hl [2, 3, 4, 5, 6] rfl)
  · refine lv_aload_n hx hb dL_law_293 rfl (lv_at hl 5 rfl) ?_
    refine lv_iconst (v := nI 0) hx hb dL_law_294 (by decide) ?_
    refine hw_lald hx hb hK hW 2 hou rfl (vp_in_nI (show 0 < 1 by omega) (by omega)) dL_law_295 ?_
    refine tp_l (show fo1 (nI 0).toNatClampNeg = fo1 0 from by rw [nI_clamp (by omega)]) ?_
    refine lv_iload hx hb dL_law_296 (lv_at hl 0 rfl) ?_
    refine lv_if_eq (tgt := 305) hx hb dL_law_298 (by decide) (fun cr => ?_) (fun cr => ?_)
    · refine lv_lconst (v := lN 0) hx hb dL_law_305 (by decide) ?_
      refine tp_l (show lN 0 = fo1 0 from by rw [heq (by omega), if_pos cr]) ?_
      refine W.lcmp hx hb dL_law_306 ?_
      refine lv_if_eq (tgt := 312) hx hb dL_law_307 (by decide) (fun c2 => ?_) (fun c2 => absurd ((lg_cmp_eq _ _).mpr rfl) c2)
      refine lv_goto (tgt := 1394) hx hb dL_law_312 (by decide) ?_
      refine W.widen (k := ce + 5) (n := sl + 160) (by omega) (by omega) ?_
      exact kk σ1 cnt1 γ1 ro1 w2 hj2 H locs hW hS ls (lv_sub hl [2, 3, 4, 5, 6] rfl)
    · refine lv_lconst (v := lN 1) hx hb dL_law_301 (by decide) ?_
      refine lv_goto (tgt := 306) hx hb dL_law_302 (by decide) ?_
      refine tp_l (show lN 1 = fo1 0 from by rw [heq (by omega), if_neg cr]) ?_
      refine W.lcmp hx hb dL_law_306 ?_
      refine lv_if_eq (tgt := 312) hx hb dL_law_307 (by decide) (fun c3 => ?_) (fun c3 => absurd ((lg_cmp_eq _ _).mpr rfl) c3)
      refine lv_goto (tgt := 1394) hx hb dL_law_312 (by decide) ?_
      refine W.widen (k := ce + 5) (n := sl + 160) (by omega) (by omega) ?_
      exact kk σ1 cnt1 γ1 ro1 w2 hj2 H locs hW hS ls (lv_sub hl [2, 3, 4, 5, 6] rfl)

set_option maxHeartbeats 1000000 in
set_option maxRecDepth 100000 in
theorem cs_start {p : Program} {l : Launch} {e : Env} {s : State} {m : MethodId} {args : Array Value} {below : List Frame} {meth : Method} {c : Code} {Q : State → Prop} {D : va_G} {g : Nat → ClassId} {ad : Nat → Nat} {tb : Nat} {sa : Nat → Nat} {A : Nat → Prop} {b L : Nat} {xs : Nat → Int32} (hSc : va_X b L xs s s.heap) (hbl : b < s.heap.size) (hbA : ¬ A b) (hL : L ≤ 3072) {ro : Nat → Nat} {x mo ou i ce sl : Nat} {σ : Nat → SD} {cnt : Nat} {γ : GU} {w : Wd} {H : Heap} {locs : List Loc} {ls : Array Slot} (hl0 : l.stackTraces = false) (hi6 : i + 6 ≤ L) (hce : ce + 5 ≤ 601024) (hsl : sl + 160 ≤ 7293033) (hj : jI g ad w ro x mo ou σ cnt γ) (C0 : cx p s m args c A cL_law 7 RL D g ad tb sa) (hW : hw D vwCl A w H) (hS : va_S A s.heap H locs) (hl : lv_has ls 7 [(0, .ref b), (1, .ref x), (2, .ref mo), (3, .ref ou), (4, .int (nI i))]) (kk : ∀ (σ' : Nat → SD) (cnt' : Nat) (γ' : GU) (ro' : Nat → Nat) (w1 : Wd), jI g ad w1 ro' x mo ou σ' cnt' γ' → ∀ (H : Heap) (locs : List Loc), hw D vwCl A w1 H → va_S A s.heap H locs → ∀ ls : Array Slot, lv_has ls 7 [(0, .ref b), (1, .ref x), (2, .ref mo), (3, .ref ou), (4, .int (nI i))] → W p l e (rmL 12 444 601024 7293033) s m args below meth c H locs (ce + 5) (sl + 160) Q (F0 m 1394 ls [])) : W p l e (rmL 12 444 601024 7293033) s m args below meth c H locs ce sl Q (F0 m 315 ls []) := by
  obtain ⟨hx, hb, hml, hts, hown, hK, hk, hAA⟩ := C0
  obtain ⟨fs, hob⟩ := hj.1.ob
  obtain ⟨-, -, ⟨foO, hOu⟩, hRo⟩ := id hj
  refine lv_aload_n hx hb dL_law_315 rfl (lv_at hl 1 rfl) ?_
  refine lv_aload_n hx hb dL_law_316 rfl (lv_at hl 0 rfl) ?_
  refine lv_iload hx hb dL_law_317 (lv_at hl 4 rfl) ?_
  refine lv_iconst (v := nI 1) hx hb dL_law_319 (by decide) ?_
  refine lv_iadd hx hb dL_law_320 ?_
  refine tp_i (show (nI i) + (nI 1) = nI (i + 1) from nI_add _ _) ?_
  refine va_sld hx hb hSc hbl hbA hS (vp_in_nI (show i + 1 < L by omega) (by omega)) dL_law_321 ?_
  refine lv_aload_n hx hb dL_law_322 rfl (lv_at hl 0 rfl) ?_
  refine lv_iload hx hb dL_law_323 (lv_at hl 4 rfl) ?_
  refine lv_iconst (v := nI 2) hx hb dL_law_325 (by decide) ?_
  refine lv_iadd hx hb dL_law_326 ?_
  refine tp_i (show (nI i) + (nI 2) = nI (i + 2) from nI_add _ _) ?_
  refine va_sld hx hb hSc hbl hbA hS (vp_in_nI (show i + 2 < L by omega) (by omega)) dL_law_327 ?_
  refine lv_aload_n hx hb dL_law_328 rfl (lv_at hl 0 rfl) ?_
  refine lv_iload hx hb dL_law_329 (lv_at hl 4 rfl) ?_
  refine lv_iconst (v := nI 3) hx hb dL_law_331 (by decide) ?_
  refine lv_iadd hx hb dL_law_332 ?_
  refine tp_i (show (nI i) + (nI 3) = nI (i + 3) from nI_add _ _) ?_
  refine va_sld hx hb hSc hbl hbA hS (vp_in_nI (show i + 3 < L by omega) (by omega)) dL_law_333 ?_
  refine lv_i2l hx hb dL_law_334 rfl ?_
  refine lv_bipush (v := nI 32) hx hb dL_law_335 (by decide) ?_
  refine lv_lshl hx hb dL_law_337 rfl ?_
  refine lv_aload_n hx hb dL_law_338 rfl (lv_at hl 0 rfl) ?_
  refine lv_iload hx hb dL_law_339 (lv_at hl 4 rfl) ?_
  refine lv_iconst (v := nI 4) hx hb dL_law_341 (by decide) ?_
  refine lv_iadd hx hb dL_law_342 ?_
  refine tp_i (show (nI i) + (nI 4) = nI (i + 4) from nI_add _ _) ?_
  refine va_sld hx hb hSc hbl hbA hS (vp_in_nI (show i + 4 < L by omega) (by omega)) dL_law_343 ?_
  refine lv_i2l hx hb dL_law_344 rfl ?_
  refine lv_ldc2 (v := 4294967295) hx hb hown (hts _ bw_698) dL_law_345 ?_
  refine tp_l (show (4294967295 : Int64) = lN 4294967295 by decide) ?_
  refine lv_land hx hb dL_law_348 ?_
  refine lv_lor hx hb dL_law_349 ?_
  refine lv_aload_n hx hb dL_law_350 rfl (lv_at hl 3 rfl) ?_
  refine kc_LI (n := 5) (As := [.ref x, .int (xs (nI (i + 1)).toNatClampNeg), .int (xs (nI (i + 2)).toNatClampNeg), .long ((((xs (nI (i + 3)).toNatClampNeg).toInt64) <<< ((nI 32).toInt64 &&& 63)) ||| (((xs (nI (i + 4)).toNatClampNeg).toInt64) &&& (lN 4294967295))), .ref ou]) (rest := []) ⟨hx, hb, hml, hown, hts⟩ (c_L_start l D g ad tb sa w H.size _ _ x ou fs foO (xs (nI (i + 1)).toNatClampNeg) (xs (nI (i + 2)).toNatClampNeg) ((((xs (nI (i + 3)).toNatClampNeg).toInt64) <<< ((nI 32).toInt64 &&& 63)) ||| (((xs (nI (i + 4)).toNatClampNeg).toInt64) &&& (lN 4294967295))) (c_X_start l D g ad tb sa w H.size hl0 ro x σ cnt γ hj.1 (xs (nI (i + 1)).toNatClampNeg) (xs (nI (i + 2)).toNatClampNeg) ((((xs (nI (i + 3)).toNatClampNeg).toInt64) <<< ((nI 32).toInt64 &&& 63)) ||| (((xs (nI (i + 4)).toNatClampNeg).toInt64) &&& (lN 4294967295)))) hob (fun x9 w9 h9 => by obtain ⟨f, n, hf, hn, ef, en, ht, ex, hI, hkp⟩ := h9; exact (hkp _ _ hOu (by omega)).1) (fun E w9 h9 => h9.2.elim (fun q => Or.inl q.1) (fun q => Or.inr q.1))) bw_271 bw_272 bw_0 bw_273 (by decide +kernel) ⟨by decide, by decide⟩ hW hK hk hS hAA rfl hl.1 rfl (Nat.le_of_ble_eq_true rfl) dL_law_351 ⟨by show _ ≤ 601024; omega, by show _ ≤ 7293033; omega⟩ (fun r w1 H locs hp hW hS => ?_)
  obtain ⟨k, σ1, cnt1, γ1, ro1, fo1, rfl, hk4, hJ, hou, hfin⟩ := j_start (f9 := (xs (nI (i + 1)).toNatClampNeg)) (n9 := (xs (nI (i + 2)).toNatClampNeg)) (v9 := ((((xs (nI (i + 3)).toNatClampNeg).toInt64) <<< ((nI 32).toInt64 &&& 63)) ||| (((xs (nI (i + 4)).toNatClampNeg).toInt64) &&& (lN 4294967295)))) hj hp
  obtain ⟨-, ⟨cd, ml, ki, on, tw, od, fa, st, rs, me, fo, fd, ba, ta, by9, nd, hR, hMo, hS9, b1, b2, b3, hg⟩, -⟩ := id hJ
  have h40 := hS9.1
  refine lv_istore (lv' := [(5, .int (nI k)), (0, .ref b), (1, .ref x), (2, .ref mo), (3, .ref ou), (4, .int (nI i))]) hx hb dL_law_354 hl (by decide) rfl (fun ls hl => ?_)
  refine lv_aload_n hx hb dL_law_356 rfl (lv_at hl 3 rfl) ?_
  refine lv_aload_n hx hb dL_law_357 rfl (lv_at hl 1 rfl) ?_
  refine lv_iload hx hb dL_law_358 (lv_at hl 5 rfl) ?_
  refine lv_iconst (v := nI 1) hx hb dL_law_360 (by decide) ?_
  refine lv_iadd hx hb dL_law_361 ?_
  refine tp_i (show (nI i) + (nI 1) = nI (i + 1) from nI_add _ _) ?_
  refine va_sld hx hb hSc hbl hbA hS (vp_in_nI (show i + 1 < L by omega) (by omega)) dL_law_362 ?_
  refine lv_aload_n hx hb dL_law_363 rfl (lv_at hl 1 rfl) ?_
  refine lv_iload hx hb dL_law_364 (lv_at hl 5 rfl) ?_
  refine lv_iconst (v := nI 2) hx hb dL_law_366 (by decide) ?_
  refine lv_iadd hx hb dL_law_367 ?_
  refine tp_i (show (nI i) + (nI 2) = nI (i + 2) from nI_add _ _) ?_
  refine va_sld hx hb hSc hbl hbA hS (vp_in_nI (show i + 2 < L by omega) (by omega)) dL_law_368 ?_
  refine lv_aload_n hx hb dL_law_369 rfl (lv_at hl 1 rfl) ?_
  refine lv_iload hx hb dL_law_370 (lv_at hl 5 rfl) ?_
  refine lv_iconst (v := nI 3) hx hb dL_law_372 (by decide) ?_
  refine lv_iadd hx hb dL_law_373 ?_
  refine tp_i (show (nI i) + (nI 3) = nI (i + 3) from nI_add _ _) ?_
  refine va_sld hx hb hSc hbl hbA hS (vp_in_nI (show i + 3 < L by omega) (by omega)) dL_law_374 ?_
  refine lv_i2l hx hb dL_law_375 rfl ?_
  refine lv_bipush (v := nI 32) hx hb dL_law_376 (by decide) ?_
  refine lv_lshl hx hb dL_law_378 rfl ?_
  refine lv_aload_n hx hb dL_law_379 rfl (lv_at hl 1 rfl) ?_
  refine lv_iload hx hb dL_law_380 (lv_at hl 5 rfl) ?_
  refine lv_iconst (v := nI 4) hx hb dL_law_382 (by decide) ?_
  refine lv_iadd hx hb dL_law_383 ?_
  refine tp_i (show (nI i) + (nI 4) = nI (i + 4) from nI_add _ _) ?_
  refine va_sld hx hb hSc hbl hbA hS (vp_in_nI (show i + 4 < L by omega) (by omega)) dL_law_384 ?_
  refine lv_i2l hx hb dL_law_385 rfl ?_
  refine lv_ldc2 (v := 4294967295) hx hb hown (hts _ bw_698) dL_law_386 ?_
  refine tp_l (show (4294967295 : Int64) = lN 4294967295 by decide) ?_
  refine lv_land hx hb dL_law_389 ?_
  refine lv_lor hx hb dL_law_390 ?_
  refine kc_VI (n := 3) (As := [.int (xs (nI (i + 1)).toNatClampNeg), .int (xs (nI (i + 2)).toNatClampNeg), .long ((((xs (nI (i + 3)).toNatClampNeg).toInt64) <<< ((nI 32).toInt64 &&& 63)) ||| (((xs (nI (i + 4)).toNatClampNeg).toInt64) &&& (lN 4294967295)))]) (rest := []) ⟨hx, hb, hml, hown, hts⟩ (c_M_start l D g ad tb sa w1 H.size mo ml cd cnt ki on tw od fa st rs me fo fd ba ta by9 nd hR.D hMo σ hS9 (xs (nI (i + 1)).toNatClampNeg) (xs (nI (i + 2)).toNatClampNeg) ((((xs (nI (i + 3)).toNatClampNeg).toInt64) <<< ((nI 32).toInt64 &&& 63)) ||| (((xs (nI (i + 4)).toNatClampNeg).toInt64) &&& (lN 4294967295)))) bw_596 bw_597 bw_598 bw_3 bw_599 (by decide +kernel) rfl rfl hMo.1 ⟨by decide, by decide⟩ hW hK hk hS hAA rfl hl.1 rfl (Nat.le_of_ble_eq_true rfl) dL_law_391 ⟨by show _ ≤ 601024; omega, by show _ ≤ 7293033; omega⟩ (fun r w2 H locs hp hW hS => ?_)
  obtain ⟨hj2, hmi, ho2, heq⟩ := hfin ml cd ki on tw od fa st rs me fo fd ba ta by9 nd hR hMo hS9 b1 b2 b3 hg _ _ hp
  rw [← ho2] at hou
  obtain ⟨ml2, ki2, on2, tw2, od2, fa2, st2, rs2, me2, fo2, fd2, ba2, ta2, by2, nd2, hR2, hMo2, -⟩ := id hmi
  refine lv_istore (lv' := [(6, .int r), (5, .int (nI k)), (0, .ref b), (1, .ref x), (2, .ref mo), (3, .ref ou), (4, .int (nI i))]) hx hb dL_law_394 hl (by decide) rfl (fun ls hl => ?_)
  refine lv_aload_n hx hb dL_law_396 rfl (lv_at hl 4 rfl) ?_
  refine kc_VI (n := 0) (As := []) (rest := []) ⟨hx, hb, hml, hown, hts⟩ (c_M_thrown l D g ad tb sa w2 H.size mo ml2 k cnt1 ki2 on2 tw2 od2 fa2 st2 rs2 me2 fo2 fd2 ba2 ta2 by2 nd2 hMo2) bw_567 bw_568 bw_569 bw_3 bw_570 (by decide +kernel) rfl rfl hMo2.1 ⟨by decide, by decide⟩ hW hK hk hS hAA rfl hl.1 rfl (Nat.le_of_ble_eq_true rfl) dL_law_397 ⟨by show _ ≤ 601024; omega, by show _ ≤ 7293033; omega⟩ (fun r3 w3 H locs hp hW hS => ?_)
  obtain ⟨hw9, hr9⟩ := hp
  rw [hw9] at hW
  subst hr9
  refine lv_iload hx hb dL_law_400 (lv_at hl 1 rfl) ?_
  refine nw_icmp_eq (tgt := 407) hx hb (by omega) (by omega) dL_law_402 (by decide) (fun c1 => ?_) (fun c1 => absurd rfl c1)
  refine lv_iload hx hb dL_law_407 (lv_at hl 1 rfl) ?_
  refine nw_if_ne (tgt := 431) hx hb (by omega) dL_law_409 (by decide) (fun c0 => ?_) (fun c0 => ?_)
  · refine lv_goto (tgt := 1394) hx hb dL_law_431 (by decide) ?_
    refine W.widen (k := ce + 5) (n := sl + 160) (by omega) (by omega) ?_
    exact kk σ1 cnt1 γ1 ro1 w2 hj2 H locs hW hS ls (lv_sub hl [2, 3, 4, 5, 6] rfl)
  · refine lv_aload_n hx hb dL_law_412 rfl (lv_at hl 5 rfl) ?_
    refine lv_iconst (v := nI 0) hx hb dL_law_413 (by decide) ?_
    refine hw_lald hx hb hK hW 2 hou rfl (vp_in_nI (show 0 < 1 by omega) (by omega)) dL_law_414 ?_
    refine tp_l (show fo1 (nI 0).toNatClampNeg = fo1 0 from by rw [nI_clamp (by omega)]) ?_
    refine lv_iload hx hb dL_law_415 (lv_at hl 0 rfl) ?_
    refine lv_if_eq (tgt := 424) hx hb dL_law_417 (by decide) (fun cr => ?_) (fun cr => ?_)
    · refine lv_lconst (v := lN 0) hx hb dL_law_424 (by decide) ?_
      refine tp_l (show lN 0 = fo1 0 from by rw [heq (by omega), if_pos cr]) ?_
      refine W.lcmp hx hb dL_law_425 ?_
      refine lv_if_eq (tgt := 431) hx hb dL_law_426 (by decide) (fun c2 => ?_) (fun c2 => absurd ((lg_cmp_eq _ _).mpr rfl) c2)
      refine lv_goto (tgt := 1394) hx hb dL_law_431 (by decide) ?_
      refine W.widen (k := ce + 5) (n := sl + 160) (by omega) (by omega) ?_
      exact kk σ1 cnt1 γ1 ro1 w2 hj2 H locs hW hS ls (lv_sub hl [2, 3, 4, 5, 6] rfl)
    · refine lv_lconst (v := lN 1) hx hb dL_law_420 (by decide) ?_
      refine lv_goto (tgt := 425) hx hb dL_law_421 (by decide) ?_
      refine tp_l (show lN 1 = fo1 0 from by rw [heq (by omega), if_neg cr]) ?_
      refine W.lcmp hx hb dL_law_425 ?_
      refine lv_if_eq (tgt := 431) hx hb dL_law_426 (by decide) (fun c3 => ?_) (fun c3 => absurd ((lg_cmp_eq _ _).mpr rfl) c3)
      refine lv_goto (tgt := 1394) hx hb dL_law_431 (by decide) ?_
      refine W.widen (k := ce + 5) (n := sl + 160) (by omega) (by omega) ?_
      exact kk σ1 cnt1 γ1 ro1 w2 hj2 H locs hW hS ls (lv_sub hl [2, 3, 4, 5, 6] rfl)

set_option maxHeartbeats 1000000 in
set_option maxRecDepth 100000 in
theorem cs_add {p : Program} {l : Launch} {e : Env} {s : State} {m : MethodId} {args : Array Value} {below : List Frame} {meth : Method} {c : Code} {Q : State → Prop} {D : va_G} {g : Nat → ClassId} {ad : Nat → Nat} {tb : Nat} {sa : Nat → Nat} {A : Nat → Prop} {b L : Nat} {xs : Nat → Int32} (hSc : va_X b L xs s s.heap) (hbl : b < s.heap.size) (hbA : ¬ A b) (hL : L ≤ 3072) {ro : Nat → Nat} {x mo ou i ce sl : Nat} {σ : Nat → SD} {cnt : Nat} {γ : GU} {w : Wd} {H : Heap} {locs : List Loc} {ls : Array Slot} (hl0 : l.stackTraces = false) (hi6 : i + 6 ≤ L) (hce : ce + 5 ≤ 601024) (hsl : sl + 160 ≤ 7293033) (hj : jI g ad w ro x mo ou σ cnt γ) (C0 : cx p s m args c A cL_law 7 RL D g ad tb sa) (hW : hw D vwCl A w H) (hS : va_S A s.heap H locs) (hl : lv_has ls 7 [(0, .ref b), (1, .ref x), (2, .ref mo), (3, .ref ou), (4, .int (nI i))]) (kk : ∀ (σ' : Nat → SD) (cnt' : Nat) (γ' : GU) (ro' : Nat → Nat) (w1 : Wd), jI g ad w1 ro' x mo ou σ' cnt' γ' → ∀ (H : Heap) (locs : List Loc), hw D vwCl A w1 H → va_S A s.heap H locs → ∀ ls : Array Slot, lv_has ls 7 [(0, .ref b), (1, .ref x), (2, .ref mo), (3, .ref ou), (4, .int (nI i))] → W p l e (rmL 12 444 601024 7293033) s m args below meth c H locs (ce + 5) (sl + 160) Q (F0 m 1394 ls [])) : W p l e (rmL 12 444 601024 7293033) s m args below meth c H locs ce sl Q (F0 m 434 ls []) := by
  obtain ⟨hx, hb, hml, hts, hown, hK, hk, hAA⟩ := C0
  obtain ⟨fs, hob⟩ := hj.1.ob
  obtain ⟨-, -, ⟨foO, hOu⟩, hRo⟩ := id hj
  refine lv_aload_n hx hb dL_law_434 rfl (lv_at hl 1 rfl) ?_
  refine lv_aload_n hx hb dL_law_435 rfl (lv_at hl 0 rfl) ?_
  refine lv_iload hx hb dL_law_436 (lv_at hl 4 rfl) ?_
  refine lv_iconst (v := nI 1) hx hb dL_law_438 (by decide) ?_
  refine lv_iadd hx hb dL_law_439 ?_
  refine tp_i (show (nI i) + (nI 1) = nI (i + 1) from nI_add _ _) ?_
  refine va_sld hx hb hSc hbl hbA hS (vp_in_nI (show i + 1 < L by omega) (by omega)) dL_law_440 ?_
  refine lv_aload_n hx hb dL_law_441 rfl (lv_at hl 0 rfl) ?_
  refine lv_iload hx hb dL_law_442 (lv_at hl 4 rfl) ?_
  refine lv_iconst (v := nI 2) hx hb dL_law_444 (by decide) ?_
  refine lv_iadd hx hb dL_law_445 ?_
  refine tp_i (show (nI i) + (nI 2) = nI (i + 2) from nI_add _ _) ?_
  refine va_sld hx hb hSc hbl hbA hS (vp_in_nI (show i + 2 < L by omega) (by omega)) dL_law_446 ?_
  refine lv_aload_n hx hb dL_law_447 rfl (lv_at hl 3 rfl) ?_
  refine kc_LI (n := 4) (As := [.ref x, .int (xs (nI (i + 1)).toNatClampNeg), .int (xs (nI (i + 2)).toNatClampNeg), .ref ou]) (rest := []) ⟨hx, hb, hml, hown, hts⟩ (c_L_add l D g ad tb sa w H.size _ _ x ou fs foO (xs (nI (i + 1)).toNatClampNeg) (xs (nI (i + 2)).toNatClampNeg) (c_X_add l D g ad tb sa w H.size hl0 ro x σ cnt γ hj.1 (xs (nI (i + 1)).toNatClampNeg) (xs (nI (i + 2)).toNatClampNeg)) hob (fun x9 w9 h9 => by obtain ⟨f, h, ro', hf, hh, ef, eh, h4, ex, hI, hkp⟩ := h9; exact (hkp _ _ hOu (by omega)).1) (fun E w9 h9 => h9.2.elim (fun q => Or.inl q.1) (fun q => Or.inr q.1))) bw_282 bw_283 bw_0 bw_284 (by decide +kernel) ⟨by decide, by decide⟩ hW hK hk hS hAA rfl hl.1 rfl (Nat.le_of_ble_eq_true rfl) dL_law_448 ⟨by show _ ≤ 601024; omega, by show _ ≤ 7293033; omega⟩ (fun r w1 H locs hp hW hS => ?_)
  obtain ⟨k, σ1, cnt1, γ1, ro1, fo1, rfl, hk4, hJ, hou, hfin⟩ := j_add (f9 := (xs (nI (i + 1)).toNatClampNeg)) (g9 := (xs (nI (i + 2)).toNatClampNeg)) hj hp
  obtain ⟨-, ⟨cd, ml, ki, on, tw, od, fa, st, rs, me, fo, fd, ba, ta, by9, nd, hR, hMo, hS9, b1, b2, b3, hg⟩, -⟩ := id hJ
  have h40 := hS9.1
  refine lv_istore (lv' := [(5, .int (nI k)), (0, .ref b), (1, .ref x), (2, .ref mo), (3, .ref ou), (4, .int (nI i))]) hx hb dL_law_451 hl (by decide) rfl (fun ls hl => ?_)
  refine lv_aload_n hx hb dL_law_453 rfl (lv_at hl 3 rfl) ?_
  refine lv_aload_n hx hb dL_law_454 rfl (lv_at hl 1 rfl) ?_
  refine lv_iload hx hb dL_law_455 (lv_at hl 5 rfl) ?_
  refine lv_iconst (v := nI 1) hx hb dL_law_457 (by decide) ?_
  refine lv_iadd hx hb dL_law_458 ?_
  refine tp_i (show (nI i) + (nI 1) = nI (i + 1) from nI_add _ _) ?_
  refine va_sld hx hb hSc hbl hbA hS (vp_in_nI (show i + 1 < L by omega) (by omega)) dL_law_459 ?_
  refine lv_aload_n hx hb dL_law_460 rfl (lv_at hl 1 rfl) ?_
  refine lv_iload hx hb dL_law_461 (lv_at hl 5 rfl) ?_
  refine lv_iconst (v := nI 2) hx hb dL_law_463 (by decide) ?_
  refine lv_iadd hx hb dL_law_464 ?_
  refine tp_i (show (nI i) + (nI 2) = nI (i + 2) from nI_add _ _) ?_
  refine va_sld hx hb hSc hbl hbA hS (vp_in_nI (show i + 2 < L by omega) (by omega)) dL_law_465 ?_
  refine kc_VI (n := 2) (As := [.int (xs (nI (i + 1)).toNatClampNeg), .int (xs (nI (i + 2)).toNatClampNeg)]) (rest := []) ⟨hx, hb, hml, hown, hts⟩ (c_M_add l D g ad tb sa w1 H.size mo ml cd cnt ki on tw od fa st rs me fo fd ba ta by9 nd hR.D hMo h40 (xs (nI (i + 1)).toNatClampNeg) (xs (nI (i + 2)).toNatClampNeg)) bw_601 bw_602 bw_603 bw_3 bw_604 (by decide +kernel) rfl rfl hMo.1 ⟨by decide, by decide⟩ hW hK hk hS hAA rfl hl.1 rfl (Nat.le_of_ble_eq_true rfl) dL_law_466 ⟨by show _ ≤ 601024; omega, by show _ ≤ 7293033; omega⟩ (fun r w2 H locs hp hW hS => ?_)
  obtain ⟨hj2, hmi, ho2, heq⟩ := hfin ml cd ki on tw od fa st rs me fo fd ba ta by9 nd hR hMo hS9 b1 b2 b3 hg _ _ hp
  rw [← ho2] at hou
  obtain ⟨ml2, ki2, on2, tw2, od2, fa2, st2, rs2, me2, fo2, fd2, ba2, ta2, by2, nd2, hR2, hMo2, -⟩ := id hmi
  refine lv_istore (lv' := [(6, .int r), (5, .int (nI k)), (0, .ref b), (1, .ref x), (2, .ref mo), (3, .ref ou), (4, .int (nI i))]) hx hb dL_law_469 hl (by decide) rfl (fun ls hl => ?_)
  refine lv_aload_n hx hb dL_law_471 rfl (lv_at hl 4 rfl) ?_
  refine kc_VI (n := 0) (As := []) (rest := []) ⟨hx, hb, hml, hown, hts⟩ (c_M_thrown l D g ad tb sa w2 H.size mo ml2 k cnt1 ki2 on2 tw2 od2 fa2 st2 rs2 me2 fo2 fd2 ba2 ta2 by2 nd2 hMo2) bw_567 bw_568 bw_569 bw_3 bw_570 (by decide +kernel) rfl rfl hMo2.1 ⟨by decide, by decide⟩ hW hK hk hS hAA rfl hl.1 rfl (Nat.le_of_ble_eq_true rfl) dL_law_472 ⟨by show _ ≤ 601024; omega, by show _ ≤ 7293033; omega⟩ (fun r3 w3 H locs hp hW hS => ?_)
  obtain ⟨hw9, hr9⟩ := hp
  rw [hw9] at hW
  subst hr9
  refine lv_iload hx hb dL_law_475 (lv_at hl 1 rfl) ?_
  refine nw_icmp_eq (tgt := 482) hx hb (by omega) (by omega) dL_law_477 (by decide) (fun c1 => ?_) (fun c1 => absurd rfl c1)
  refine lv_iload hx hb dL_law_482 (lv_at hl 1 rfl) ?_
  refine nw_if_ne (tgt := 499) hx hb (by omega) dL_law_484 (by decide) (fun c0 => ?_) (fun c0 => ?_)
  · refine lv_goto (tgt := 1394) hx hb dL_law_499 (by decide) ?_
    refine W.widen (k := ce + 5) (n := sl + 160) (by omega) (by omega) ?_
    exact kk σ1 cnt1 γ1 ro1 w2 hj2 H locs hW hS ls (lv_sub hl [2, 3, 4, 5, 6] rfl)
  · refine lv_aload_n hx hb dL_law_487 rfl (lv_at hl 5 rfl) ?_
    refine lv_iconst (v := nI 0) hx hb dL_law_488 (by decide) ?_
    refine hw_lald hx hb hK hW 2 hou rfl (vp_in_nI (show 0 < 1 by omega) (by omega)) dL_law_489 ?_
    refine tp_l (show fo1 (nI 0).toNatClampNeg = fo1 0 from by rw [nI_clamp (by omega)]) ?_
    refine lv_iload hx hb dL_law_490 (lv_at hl 0 rfl) ?_
    refine lv_i2l hx hb dL_law_492 rfl ?_
    refine tp_l (show r.toInt64 = fo1 0 from (heq (by omega)).symm) ?_
    refine W.lcmp hx hb dL_law_493 ?_
    refine lv_if_eq (tgt := 499) hx hb dL_law_494 (by decide) (fun c2 => ?_) (fun c2 => absurd ((lg_cmp_eq _ _).mpr rfl) c2)
    refine lv_goto (tgt := 1394) hx hb dL_law_499 (by decide) ?_
    refine W.widen (k := ce + 5) (n := sl + 160) (by omega) (by omega) ?_
    exact kk σ1 cnt1 γ1 ro1 w2 hj2 H locs hW hS ls (lv_sub hl [2, 3, 4, 5, 6] rfl)

set_option maxHeartbeats 1000000 in
set_option maxRecDepth 100000 in
theorem cs_times {p : Program} {l : Launch} {e : Env} {s : State} {m : MethodId} {args : Array Value} {below : List Frame} {meth : Method} {c : Code} {Q : State → Prop} {D : va_G} {g : Nat → ClassId} {ad : Nat → Nat} {tb : Nat} {sa : Nat → Nat} {A : Nat → Prop} {b L : Nat} {xs : Nat → Int32} (hSc : va_X b L xs s s.heap) (hbl : b < s.heap.size) (hbA : ¬ A b) (hL : L ≤ 3072) {ro : Nat → Nat} {x mo ou i ce sl : Nat} {σ : Nat → SD} {cnt : Nat} {γ : GU} {w : Wd} {H : Heap} {locs : List Loc} {ls : Array Slot} (hl0 : l.stackTraces = false) (hi6 : i + 6 ≤ L) (hce : ce + 5 ≤ 601024) (hsl : sl + 160 ≤ 7293033) (hj : jI g ad w ro x mo ou σ cnt γ) (C0 : cx p s m args c A cL_law 7 RL D g ad tb sa) (hW : hw D vwCl A w H) (hS : va_S A s.heap H locs) (hl : lv_has ls 7 [(0, .ref b), (1, .ref x), (2, .ref mo), (3, .ref ou), (4, .int (nI i))]) (kk : ∀ (σ' : Nat → SD) (cnt' : Nat) (γ' : GU) (ro' : Nat → Nat) (w1 : Wd), jI g ad w1 ro' x mo ou σ' cnt' γ' → ∀ (H : Heap) (locs : List Loc), hw D vwCl A w1 H → va_S A s.heap H locs → ∀ ls : Array Slot, lv_has ls 7 [(0, .ref b), (1, .ref x), (2, .ref mo), (3, .ref ou), (4, .int (nI i))] → W p l e (rmL 12 444 601024 7293033) s m args below meth c H locs (ce + 5) (sl + 160) Q (F0 m 1394 ls [])) : W p l e (rmL 12 444 601024 7293033) s m args below meth c H locs ce sl Q (F0 m 502 ls []) := by
  obtain ⟨hx, hb, hml, hts, hown, hK, hk, hAA⟩ := C0
  obtain ⟨fs, hob⟩ := hj.1.ob
  obtain ⟨-, -, ⟨foO, hOu⟩, hRo⟩ := id hj
  refine lv_aload_n hx hb dL_law_502 rfl (lv_at hl 1 rfl) ?_
  refine lv_aload_n hx hb dL_law_503 rfl (lv_at hl 0 rfl) ?_
  refine lv_iload hx hb dL_law_504 (lv_at hl 4 rfl) ?_
  refine lv_iconst (v := nI 1) hx hb dL_law_506 (by decide) ?_
  refine lv_iadd hx hb dL_law_507 ?_
  refine tp_i (show (nI i) + (nI 1) = nI (i + 1) from nI_add _ _) ?_
  refine va_sld hx hb hSc hbl hbA hS (vp_in_nI (show i + 1 < L by omega) (by omega)) dL_law_508 ?_
  refine lv_aload_n hx hb dL_law_509 rfl (lv_at hl 0 rfl) ?_
  refine lv_iload hx hb dL_law_510 (lv_at hl 4 rfl) ?_
  refine lv_iconst (v := nI 2) hx hb dL_law_512 (by decide) ?_
  refine lv_iadd hx hb dL_law_513 ?_
  refine tp_i (show (nI i) + (nI 2) = nI (i + 2) from nI_add _ _) ?_
  refine va_sld hx hb hSc hbl hbA hS (vp_in_nI (show i + 2 < L by omega) (by omega)) dL_law_514 ?_
  refine lv_aload_n hx hb dL_law_515 rfl (lv_at hl 3 rfl) ?_
  refine kc_LI (n := 4) (As := [.ref x, .int (xs (nI (i + 1)).toNatClampNeg), .int (xs (nI (i + 2)).toNatClampNeg), .ref ou]) (rest := []) ⟨hx, hb, hml, hown, hts⟩ (c_L_times l D g ad tb sa w H.size _ _ x ou fs foO (xs (nI (i + 1)).toNatClampNeg) (xs (nI (i + 2)).toNatClampNeg) (c_X_times l D g ad tb sa w H.size hl0 ro x σ cnt γ hj.1 (xs (nI (i + 1)).toNatClampNeg) (xs (nI (i + 2)).toNatClampNeg)) hob (fun x9 w9 h9 => by obtain ⟨f, h, ro', hf, hh, ef, eh, h4, ex, hI, hkp⟩ := h9; exact (hkp _ _ hOu (by omega)).1) (fun E w9 h9 => h9.2.elim (fun q => Or.inl q.1) (fun q => Or.inr q.1))) bw_317 bw_318 bw_0 bw_319 (by decide +kernel) ⟨by decide, by decide⟩ hW hK hk hS hAA rfl hl.1 rfl (Nat.le_of_ble_eq_true rfl) dL_law_516 ⟨by show _ ≤ 601024; omega, by show _ ≤ 7293033; omega⟩ (fun r w1 H locs hp hW hS => ?_)
  obtain ⟨k, σ1, cnt1, γ1, ro1, fo1, rfl, hk4, hJ, hou, hfin⟩ := j_times (f9 := (xs (nI (i + 1)).toNatClampNeg)) (g9 := (xs (nI (i + 2)).toNatClampNeg)) hj hp
  obtain ⟨-, ⟨cd, ml, ki, on, tw, od, fa, st, rs, me, fo, fd, ba, ta, by9, nd, hR, hMo, hS9, b1, b2, b3, hg⟩, -⟩ := id hJ
  have h40 := hS9.1
  refine lv_istore (lv' := [(5, .int (nI k)), (0, .ref b), (1, .ref x), (2, .ref mo), (3, .ref ou), (4, .int (nI i))]) hx hb dL_law_519 hl (by decide) rfl (fun ls hl => ?_)
  refine lv_aload_n hx hb dL_law_521 rfl (lv_at hl 3 rfl) ?_
  refine lv_aload_n hx hb dL_law_522 rfl (lv_at hl 1 rfl) ?_
  refine lv_iload hx hb dL_law_523 (lv_at hl 5 rfl) ?_
  refine lv_iconst (v := nI 1) hx hb dL_law_525 (by decide) ?_
  refine lv_iadd hx hb dL_law_526 ?_
  refine tp_i (show (nI i) + (nI 1) = nI (i + 1) from nI_add _ _) ?_
  refine va_sld hx hb hSc hbl hbA hS (vp_in_nI (show i + 1 < L by omega) (by omega)) dL_law_527 ?_
  refine lv_aload_n hx hb dL_law_528 rfl (lv_at hl 1 rfl) ?_
  refine lv_iload hx hb dL_law_529 (lv_at hl 5 rfl) ?_
  refine lv_iconst (v := nI 2) hx hb dL_law_531 (by decide) ?_
  refine lv_iadd hx hb dL_law_532 ?_
  refine tp_i (show (nI i) + (nI 2) = nI (i + 2) from nI_add _ _) ?_
  refine va_sld hx hb hSc hbl hbA hS (vp_in_nI (show i + 2 < L by omega) (by omega)) dL_law_533 ?_
  refine kc_VI (n := 2) (As := [.int (xs (nI (i + 1)).toNatClampNeg), .int (xs (nI (i + 2)).toNatClampNeg)]) (rest := []) ⟨hx, hb, hml, hown, hts⟩ (c_M_times l D g ad tb sa w1 H.size mo ml cd cnt ki on tw od fa st rs me fo fd ba ta by9 nd hR.D hMo h40 (xs (nI (i + 1)).toNatClampNeg) (xs (nI (i + 2)).toNatClampNeg)) bw_609 bw_610 bw_611 bw_3 bw_612 (by decide +kernel) rfl rfl hMo.1 ⟨by decide, by decide⟩ hW hK hk hS hAA rfl hl.1 rfl (Nat.le_of_ble_eq_true rfl) dL_law_534 ⟨by show _ ≤ 601024; omega, by show _ ≤ 7293033; omega⟩ (fun r w2 H locs hp hW hS => ?_)
  obtain ⟨hj2, hmi, ho2, heq⟩ := hfin ml cd ki on tw od fa st rs me fo fd ba ta by9 nd hR hMo hS9 b1 b2 b3 hg _ _ hp
  rw [← ho2] at hou
  obtain ⟨ml2, ki2, on2, tw2, od2, fa2, st2, rs2, me2, fo2, fd2, ba2, ta2, by2, nd2, hR2, hMo2, -⟩ := id hmi
  refine lv_istore (lv' := [(6, .int r), (5, .int (nI k)), (0, .ref b), (1, .ref x), (2, .ref mo), (3, .ref ou), (4, .int (nI i))]) hx hb dL_law_537 hl (by decide) rfl (fun ls hl => ?_)
  refine lv_aload_n hx hb dL_law_539 rfl (lv_at hl 4 rfl) ?_
  refine kc_VI (n := 0) (As := []) (rest := []) ⟨hx, hb, hml, hown, hts⟩ (c_M_thrown l D g ad tb sa w2 H.size mo ml2 k cnt1 ki2 on2 tw2 od2 fa2 st2 rs2 me2 fo2 fd2 ba2 ta2 by2 nd2 hMo2) bw_567 bw_568 bw_569 bw_3 bw_570 (by decide +kernel) rfl rfl hMo2.1 ⟨by decide, by decide⟩ hW hK hk hS hAA rfl hl.1 rfl (Nat.le_of_ble_eq_true rfl) dL_law_540 ⟨by show _ ≤ 601024; omega, by show _ ≤ 7293033; omega⟩ (fun r3 w3 H locs hp hW hS => ?_)
  obtain ⟨hw9, hr9⟩ := hp
  rw [hw9] at hW
  subst hr9
  refine lv_iload hx hb dL_law_543 (lv_at hl 1 rfl) ?_
  refine nw_icmp_eq (tgt := 550) hx hb (by omega) (by omega) dL_law_545 (by decide) (fun c1 => ?_) (fun c1 => absurd rfl c1)
  refine lv_iload hx hb dL_law_550 (lv_at hl 1 rfl) ?_
  refine nw_if_ne (tgt := 567) hx hb (by omega) dL_law_552 (by decide) (fun c0 => ?_) (fun c0 => ?_)
  · refine lv_goto (tgt := 1394) hx hb dL_law_567 (by decide) ?_
    refine W.widen (k := ce + 5) (n := sl + 160) (by omega) (by omega) ?_
    exact kk σ1 cnt1 γ1 ro1 w2 hj2 H locs hW hS ls (lv_sub hl [2, 3, 4, 5, 6] rfl)
  · refine lv_aload_n hx hb dL_law_555 rfl (lv_at hl 5 rfl) ?_
    refine lv_iconst (v := nI 0) hx hb dL_law_556 (by decide) ?_
    refine hw_lald hx hb hK hW 2 hou rfl (vp_in_nI (show 0 < 1 by omega) (by omega)) dL_law_557 ?_
    refine tp_l (show fo1 (nI 0).toNatClampNeg = fo1 0 from by rw [nI_clamp (by omega)]) ?_
    refine lv_iload hx hb dL_law_558 (lv_at hl 0 rfl) ?_
    refine lv_i2l hx hb dL_law_560 rfl ?_
    refine tp_l (show r.toInt64 = fo1 0 from (heq (by omega)).symm) ?_
    refine W.lcmp hx hb dL_law_561 ?_
    refine lv_if_eq (tgt := 567) hx hb dL_law_562 (by decide) (fun c2 => ?_) (fun c2 => absurd ((lg_cmp_eq _ _).mpr rfl) c2)
    refine lv_goto (tgt := 1394) hx hb dL_law_567 (by decide) ?_
    refine W.widen (k := ce + 5) (n := sl + 160) (by omega) (by omega) ?_
    exact kk σ1 cnt1 γ1 ro1 w2 hj2 H locs hW hS ls (lv_sub hl [2, 3, 4, 5, 6] rfl)

set_option maxHeartbeats 1000000 in
set_option maxRecDepth 100000 in
theorem cs_convolve {p : Program} {l : Launch} {e : Env} {s : State} {m : MethodId} {args : Array Value} {below : List Frame} {meth : Method} {c : Code} {Q : State → Prop} {D : va_G} {g : Nat → ClassId} {ad : Nat → Nat} {tb : Nat} {sa : Nat → Nat} {A : Nat → Prop} {b L : Nat} {xs : Nat → Int32} (hSc : va_X b L xs s s.heap) (hbl : b < s.heap.size) (hbA : ¬ A b) (hL : L ≤ 3072) {ro : Nat → Nat} {x mo ou i ce sl : Nat} {σ : Nat → SD} {cnt : Nat} {γ : GU} {w : Wd} {H : Heap} {locs : List Loc} {ls : Array Slot} (hl0 : l.stackTraces = false) (hi6 : i + 6 ≤ L) (hce : ce + 5 ≤ 601024) (hsl : sl + 160 ≤ 7293033) (hj : jI g ad w ro x mo ou σ cnt γ) (C0 : cx p s m args c A cL_law 7 RL D g ad tb sa) (hW : hw D vwCl A w H) (hS : va_S A s.heap H locs) (hl : lv_has ls 7 [(0, .ref b), (1, .ref x), (2, .ref mo), (3, .ref ou), (4, .int (nI i))]) (kk : ∀ (σ' : Nat → SD) (cnt' : Nat) (γ' : GU) (ro' : Nat → Nat) (w1 : Wd), jI g ad w1 ro' x mo ou σ' cnt' γ' → ∀ (H : Heap) (locs : List Loc), hw D vwCl A w1 H → va_S A s.heap H locs → ∀ ls : Array Slot, lv_has ls 7 [(0, .ref b), (1, .ref x), (2, .ref mo), (3, .ref ou), (4, .int (nI i))] → W p l e (rmL 12 444 601024 7293033) s m args below meth c H locs (ce + 5) (sl + 160) Q (F0 m 1394 ls [])) : W p l e (rmL 12 444 601024 7293033) s m args below meth c H locs ce sl Q (F0 m 570 ls []) := by
  obtain ⟨hx, hb, hml, hts, hown, hK, hk, hAA⟩ := C0
  obtain ⟨fs, hob⟩ := hj.1.ob
  obtain ⟨-, -, ⟨foO, hOu⟩, hRo⟩ := id hj
  refine lv_aload_n hx hb dL_law_570 rfl (lv_at hl 1 rfl) ?_
  refine lv_aload_n hx hb dL_law_571 rfl (lv_at hl 0 rfl) ?_
  refine lv_iload hx hb dL_law_572 (lv_at hl 4 rfl) ?_
  refine lv_iconst (v := nI 1) hx hb dL_law_574 (by decide) ?_
  refine lv_iadd hx hb dL_law_575 ?_
  refine tp_i (show (nI i) + (nI 1) = nI (i + 1) from nI_add _ _) ?_
  refine va_sld hx hb hSc hbl hbA hS (vp_in_nI (show i + 1 < L by omega) (by omega)) dL_law_576 ?_
  refine lv_aload_n hx hb dL_law_577 rfl (lv_at hl 0 rfl) ?_
  refine lv_iload hx hb dL_law_578 (lv_at hl 4 rfl) ?_
  refine lv_iconst (v := nI 2) hx hb dL_law_580 (by decide) ?_
  refine lv_iadd hx hb dL_law_581 ?_
  refine tp_i (show (nI i) + (nI 2) = nI (i + 2) from nI_add _ _) ?_
  refine va_sld hx hb hSc hbl hbA hS (vp_in_nI (show i + 2 < L by omega) (by omega)) dL_law_582 ?_
  refine lv_aload_n hx hb dL_law_583 rfl (lv_at hl 3 rfl) ?_
  refine kc_LI (n := 4) (As := [.ref x, .int (xs (nI (i + 1)).toNatClampNeg), .int (xs (nI (i + 2)).toNatClampNeg), .ref ou]) (rest := []) ⟨hx, hb, hml, hown, hts⟩ (c_L_convolve l D g ad tb sa w H.size _ _ x ou fs foO (xs (nI (i + 1)).toNatClampNeg) (xs (nI (i + 2)).toNatClampNeg) (c_X_convolve l D g ad tb sa w H.size hl0 ro x σ cnt γ hj.1 (xs (nI (i + 1)).toNatClampNeg) (xs (nI (i + 2)).toNatClampNeg)) hob (fun x9 w9 h9 => by obtain ⟨f, h, ro', hf, hh, ef, eh, h4, ex, hI, hkp⟩ := h9; exact (hkp _ _ hOu (by omega)).1) (fun E w9 h9 => h9.2.elim (fun q => Or.inl q.1) (fun q => Or.inr q.1))) bw_326 bw_327 bw_0 bw_328 (by decide +kernel) ⟨by decide, by decide⟩ hW hK hk hS hAA rfl hl.1 rfl (Nat.le_of_ble_eq_true rfl) dL_law_584 ⟨by show _ ≤ 601024; omega, by show _ ≤ 7293033; omega⟩ (fun r w1 H locs hp hW hS => ?_)
  obtain ⟨k, σ1, cnt1, γ1, ro1, fo1, rfl, hk4, hJ, hou, hfin⟩ := j_convolve (f9 := (xs (nI (i + 1)).toNatClampNeg)) (g9 := (xs (nI (i + 2)).toNatClampNeg)) hj hp
  obtain ⟨-, ⟨cd, ml, ki, on, tw, od, fa, st, rs, me, fo, fd, ba, ta, by9, nd, hR, hMo, hS9, b1, b2, b3, hg⟩, -⟩ := id hJ
  have h40 := hS9.1
  refine lv_istore (lv' := [(5, .int (nI k)), (0, .ref b), (1, .ref x), (2, .ref mo), (3, .ref ou), (4, .int (nI i))]) hx hb dL_law_587 hl (by decide) rfl (fun ls hl => ?_)
  refine lv_aload_n hx hb dL_law_589 rfl (lv_at hl 3 rfl) ?_
  refine lv_aload_n hx hb dL_law_590 rfl (lv_at hl 1 rfl) ?_
  refine lv_iload hx hb dL_law_591 (lv_at hl 5 rfl) ?_
  refine lv_iconst (v := nI 1) hx hb dL_law_593 (by decide) ?_
  refine lv_iadd hx hb dL_law_594 ?_
  refine tp_i (show (nI i) + (nI 1) = nI (i + 1) from nI_add _ _) ?_
  refine va_sld hx hb hSc hbl hbA hS (vp_in_nI (show i + 1 < L by omega) (by omega)) dL_law_595 ?_
  refine lv_aload_n hx hb dL_law_596 rfl (lv_at hl 1 rfl) ?_
  refine lv_iload hx hb dL_law_597 (lv_at hl 5 rfl) ?_
  refine lv_iconst (v := nI 2) hx hb dL_law_599 (by decide) ?_
  refine lv_iadd hx hb dL_law_600 ?_
  refine tp_i (show (nI i) + (nI 2) = nI (i + 2) from nI_add _ _) ?_
  refine va_sld hx hb hSc hbl hbA hS (vp_in_nI (show i + 2 < L by omega) (by omega)) dL_law_601 ?_
  refine kc_VI (n := 2) (As := [.int (xs (nI (i + 1)).toNatClampNeg), .int (xs (nI (i + 2)).toNatClampNeg)]) (rest := []) ⟨hx, hb, hml, hown, hts⟩ (c_M_convolve l D g ad tb sa w1 H.size mo ml cd cnt ki on tw od fa st rs me fo fd ba ta by9 nd hR.D hMo h40 (xs (nI (i + 1)).toNatClampNeg) (xs (nI (i + 2)).toNatClampNeg)) bw_613 bw_614 bw_615 bw_3 bw_616 (by decide +kernel) rfl rfl hMo.1 ⟨by decide, by decide⟩ hW hK hk hS hAA rfl hl.1 rfl (Nat.le_of_ble_eq_true rfl) dL_law_602 ⟨by show _ ≤ 601024; omega, by show _ ≤ 7293033; omega⟩ (fun r w2 H locs hp hW hS => ?_)
  obtain ⟨hj2, hmi, ho2, heq⟩ := hfin ml cd ki on tw od fa st rs me fo fd ba ta by9 nd hR hMo hS9 b1 b2 b3 hg _ _ hp
  rw [← ho2] at hou
  obtain ⟨ml2, ki2, on2, tw2, od2, fa2, st2, rs2, me2, fo2, fd2, ba2, ta2, by2, nd2, hR2, hMo2, -⟩ := id hmi
  refine lv_istore (lv' := [(6, .int r), (5, .int (nI k)), (0, .ref b), (1, .ref x), (2, .ref mo), (3, .ref ou), (4, .int (nI i))]) hx hb dL_law_605 hl (by decide) rfl (fun ls hl => ?_)
  refine lv_aload_n hx hb dL_law_607 rfl (lv_at hl 4 rfl) ?_
  refine kc_VI (n := 0) (As := []) (rest := []) ⟨hx, hb, hml, hown, hts⟩ (c_M_thrown l D g ad tb sa w2 H.size mo ml2 k cnt1 ki2 on2 tw2 od2 fa2 st2 rs2 me2 fo2 fd2 ba2 ta2 by2 nd2 hMo2) bw_567 bw_568 bw_569 bw_3 bw_570 (by decide +kernel) rfl rfl hMo2.1 ⟨by decide, by decide⟩ hW hK hk hS hAA rfl hl.1 rfl (Nat.le_of_ble_eq_true rfl) dL_law_608 ⟨by show _ ≤ 601024; omega, by show _ ≤ 7293033; omega⟩ (fun r3 w3 H locs hp hW hS => ?_)
  obtain ⟨hw9, hr9⟩ := hp
  rw [hw9] at hW
  subst hr9
  refine lv_iload hx hb dL_law_611 (lv_at hl 1 rfl) ?_
  refine nw_icmp_eq (tgt := 618) hx hb (by omega) (by omega) dL_law_613 (by decide) (fun c1 => ?_) (fun c1 => absurd rfl c1)
  refine lv_iload hx hb dL_law_618 (lv_at hl 1 rfl) ?_
  refine nw_if_ne (tgt := 635) hx hb (by omega) dL_law_620 (by decide) (fun c0 => ?_) (fun c0 => ?_)
  · refine lv_goto (tgt := 1394) hx hb dL_law_635 (by decide) ?_
    refine W.widen (k := ce + 5) (n := sl + 160) (by omega) (by omega) ?_
    exact kk σ1 cnt1 γ1 ro1 w2 hj2 H locs hW hS ls (lv_sub hl [2, 3, 4, 5, 6] rfl)
  · refine lv_aload_n hx hb dL_law_623 rfl (lv_at hl 5 rfl) ?_
    refine lv_iconst (v := nI 0) hx hb dL_law_624 (by decide) ?_
    refine hw_lald hx hb hK hW 2 hou rfl (vp_in_nI (show 0 < 1 by omega) (by omega)) dL_law_625 ?_
    refine tp_l (show fo1 (nI 0).toNatClampNeg = fo1 0 from by rw [nI_clamp (by omega)]) ?_
    refine lv_iload hx hb dL_law_626 (lv_at hl 0 rfl) ?_
    refine lv_i2l hx hb dL_law_628 rfl ?_
    refine tp_l (show r.toInt64 = fo1 0 from (heq (by omega)).symm) ?_
    refine W.lcmp hx hb dL_law_629 ?_
    refine lv_if_eq (tgt := 635) hx hb dL_law_630 (by decide) (fun c2 => ?_) (fun c2 => absurd ((lg_cmp_eq _ _).mpr rfl) c2)
    refine lv_goto (tgt := 1394) hx hb dL_law_635 (by decide) ?_
    refine W.widen (k := ce + 5) (n := sl + 160) (by omega) (by omega) ?_
    exact kk σ1 cnt1 γ1 ro1 w2 hj2 H locs hW hS ls (lv_sub hl [2, 3, 4, 5, 6] rfl)

set_option maxHeartbeats 1000000 in
set_option maxRecDepth 100000 in
theorem cs_weave {p : Program} {l : Launch} {e : Env} {s : State} {m : MethodId} {args : Array Value} {below : List Frame} {meth : Method} {c : Code} {Q : State → Prop} {D : va_G} {g : Nat → ClassId} {ad : Nat → Nat} {tb : Nat} {sa : Nat → Nat} {A : Nat → Prop} {b L : Nat} {xs : Nat → Int32} (hSc : va_X b L xs s s.heap) (hbl : b < s.heap.size) (hbA : ¬ A b) (hL : L ≤ 3072) {ro : Nat → Nat} {x mo ou i ce sl : Nat} {σ : Nat → SD} {cnt : Nat} {γ : GU} {w : Wd} {H : Heap} {locs : List Loc} {ls : Array Slot} (hl0 : l.stackTraces = false) (hi6 : i + 6 ≤ L) (hce : ce + 5 ≤ 601024) (hsl : sl + 160 ≤ 7293033) (hj : jI g ad w ro x mo ou σ cnt γ) (C0 : cx p s m args c A cL_law 7 RL D g ad tb sa) (hW : hw D vwCl A w H) (hS : va_S A s.heap H locs) (hl : lv_has ls 7 [(0, .ref b), (1, .ref x), (2, .ref mo), (3, .ref ou), (4, .int (nI i))]) (kk : ∀ (σ' : Nat → SD) (cnt' : Nat) (γ' : GU) (ro' : Nat → Nat) (w1 : Wd), jI g ad w1 ro' x mo ou σ' cnt' γ' → ∀ (H : Heap) (locs : List Loc), hw D vwCl A w1 H → va_S A s.heap H locs → ∀ ls : Array Slot, lv_has ls 7 [(0, .ref b), (1, .ref x), (2, .ref mo), (3, .ref ou), (4, .int (nI i))] → W p l e (rmL 12 444 601024 7293033) s m args below meth c H locs (ce + 5) (sl + 160) Q (F0 m 1394 ls [])) : W p l e (rmL 12 444 601024 7293033) s m args below meth c H locs ce sl Q (F0 m 638 ls []) := by
  obtain ⟨hx, hb, hml, hts, hown, hK, hk, hAA⟩ := C0
  obtain ⟨fs, hob⟩ := hj.1.ob
  obtain ⟨-, -, ⟨foO, hOu⟩, hRo⟩ := id hj
  refine lv_aload_n hx hb dL_law_638 rfl (lv_at hl 1 rfl) ?_
  refine lv_aload_n hx hb dL_law_639 rfl (lv_at hl 0 rfl) ?_
  refine lv_iload hx hb dL_law_640 (lv_at hl 4 rfl) ?_
  refine lv_iconst (v := nI 1) hx hb dL_law_642 (by decide) ?_
  refine lv_iadd hx hb dL_law_643 ?_
  refine tp_i (show (nI i) + (nI 1) = nI (i + 1) from nI_add _ _) ?_
  refine va_sld hx hb hSc hbl hbA hS (vp_in_nI (show i + 1 < L by omega) (by omega)) dL_law_644 ?_
  refine lv_aload_n hx hb dL_law_645 rfl (lv_at hl 0 rfl) ?_
  refine lv_iload hx hb dL_law_646 (lv_at hl 4 rfl) ?_
  refine lv_iconst (v := nI 2) hx hb dL_law_648 (by decide) ?_
  refine lv_iadd hx hb dL_law_649 ?_
  refine tp_i (show (nI i) + (nI 2) = nI (i + 2) from nI_add _ _) ?_
  refine va_sld hx hb hSc hbl hbA hS (vp_in_nI (show i + 2 < L by omega) (by omega)) dL_law_650 ?_
  refine lv_aload_n hx hb dL_law_651 rfl (lv_at hl 3 rfl) ?_
  refine kc_LI (n := 4) (As := [.ref x, .int (xs (nI (i + 1)).toNatClampNeg), .int (xs (nI (i + 2)).toNatClampNeg), .ref ou]) (rest := []) ⟨hx, hb, hml, hown, hts⟩ (c_L_weave l D g ad tb sa w H.size _ _ x ou fs foO (xs (nI (i + 1)).toNatClampNeg) (xs (nI (i + 2)).toNatClampNeg) (c_X_weave l D g ad tb sa w H.size hl0 ro x σ cnt γ hj.1 (xs (nI (i + 1)).toNatClampNeg) (xs (nI (i + 2)).toNatClampNeg)) hob (fun x9 w9 h9 => by obtain ⟨f, h, ro', hf, hh, ef, eh, h4, ex, hI, hkp⟩ := h9; exact (hkp _ _ hOu (by omega)).1) (fun E w9 h9 => h9.2.elim (fun q => Or.inl q.1) (fun q => Or.inr q.1))) bw_335 bw_336 bw_0 bw_337 (by decide +kernel) ⟨by decide, by decide⟩ hW hK hk hS hAA rfl hl.1 rfl (Nat.le_of_ble_eq_true rfl) dL_law_652 ⟨by show _ ≤ 601024; omega, by show _ ≤ 7293033; omega⟩ (fun r w1 H locs hp hW hS => ?_)
  obtain ⟨k, σ1, cnt1, γ1, ro1, fo1, rfl, hk4, hJ, hou, hfin⟩ := j_weave (f9 := (xs (nI (i + 1)).toNatClampNeg)) (g9 := (xs (nI (i + 2)).toNatClampNeg)) hj hp
  obtain ⟨-, ⟨cd, ml, ki, on, tw, od, fa, st, rs, me, fo, fd, ba, ta, by9, nd, hR, hMo, hS9, b1, b2, b3, hg⟩, -⟩ := id hJ
  have h40 := hS9.1
  refine lv_istore (lv' := [(5, .int (nI k)), (0, .ref b), (1, .ref x), (2, .ref mo), (3, .ref ou), (4, .int (nI i))]) hx hb dL_law_655 hl (by decide) rfl (fun ls hl => ?_)
  refine lv_aload_n hx hb dL_law_657 rfl (lv_at hl 3 rfl) ?_
  refine lv_aload_n hx hb dL_law_658 rfl (lv_at hl 1 rfl) ?_
  refine lv_iload hx hb dL_law_659 (lv_at hl 5 rfl) ?_
  refine lv_iconst (v := nI 1) hx hb dL_law_661 (by decide) ?_
  refine lv_iadd hx hb dL_law_662 ?_
  refine tp_i (show (nI i) + (nI 1) = nI (i + 1) from nI_add _ _) ?_
  refine va_sld hx hb hSc hbl hbA hS (vp_in_nI (show i + 1 < L by omega) (by omega)) dL_law_663 ?_
  refine lv_aload_n hx hb dL_law_664 rfl (lv_at hl 1 rfl) ?_
  refine lv_iload hx hb dL_law_665 (lv_at hl 5 rfl) ?_
  refine lv_iconst (v := nI 2) hx hb dL_law_667 (by decide) ?_
  refine lv_iadd hx hb dL_law_668 ?_
  refine tp_i (show (nI i) + (nI 2) = nI (i + 2) from nI_add _ _) ?_
  refine va_sld hx hb hSc hbl hbA hS (vp_in_nI (show i + 2 < L by omega) (by omega)) dL_law_669 ?_
  refine kc_VI (n := 2) (As := [.int (xs (nI (i + 1)).toNatClampNeg), .int (xs (nI (i + 2)).toNatClampNeg)]) (rest := []) ⟨hx, hb, hml, hown, hts⟩ (c_M_weave l D g ad tb sa w1 H.size mo ml cd cnt ki on tw od fa st rs me fo fd ba ta by9 nd hR.D hMo h40 (xs (nI (i + 1)).toNatClampNeg) (xs (nI (i + 2)).toNatClampNeg)) bw_617 bw_618 bw_619 bw_3 bw_620 (by decide +kernel) rfl rfl hMo.1 ⟨by decide, by decide⟩ hW hK hk hS hAA rfl hl.1 rfl (Nat.le_of_ble_eq_true rfl) dL_law_670 ⟨by show _ ≤ 601024; omega, by show _ ≤ 7293033; omega⟩ (fun r w2 H locs hp hW hS => ?_)
  obtain ⟨hj2, hmi, ho2, heq⟩ := hfin ml cd ki on tw od fa st rs me fo fd ba ta by9 nd hR hMo hS9 b1 b2 b3 hg _ _ hp
  rw [← ho2] at hou
  obtain ⟨ml2, ki2, on2, tw2, od2, fa2, st2, rs2, me2, fo2, fd2, ba2, ta2, by2, nd2, hR2, hMo2, -⟩ := id hmi
  refine lv_istore (lv' := [(6, .int r), (5, .int (nI k)), (0, .ref b), (1, .ref x), (2, .ref mo), (3, .ref ou), (4, .int (nI i))]) hx hb dL_law_673 hl (by decide) rfl (fun ls hl => ?_)
  refine lv_aload_n hx hb dL_law_675 rfl (lv_at hl 4 rfl) ?_
  refine kc_VI (n := 0) (As := []) (rest := []) ⟨hx, hb, hml, hown, hts⟩ (c_M_thrown l D g ad tb sa w2 H.size mo ml2 k cnt1 ki2 on2 tw2 od2 fa2 st2 rs2 me2 fo2 fd2 ba2 ta2 by2 nd2 hMo2) bw_567 bw_568 bw_569 bw_3 bw_570 (by decide +kernel) rfl rfl hMo2.1 ⟨by decide, by decide⟩ hW hK hk hS hAA rfl hl.1 rfl (Nat.le_of_ble_eq_true rfl) dL_law_676 ⟨by show _ ≤ 601024; omega, by show _ ≤ 7293033; omega⟩ (fun r3 w3 H locs hp hW hS => ?_)
  obtain ⟨hw9, hr9⟩ := hp
  rw [hw9] at hW
  subst hr9
  refine lv_iload hx hb dL_law_679 (lv_at hl 1 rfl) ?_
  refine nw_icmp_eq (tgt := 686) hx hb (by omega) (by omega) dL_law_681 (by decide) (fun c1 => ?_) (fun c1 => absurd rfl c1)
  refine lv_iload hx hb dL_law_686 (lv_at hl 1 rfl) ?_
  refine nw_if_ne (tgt := 703) hx hb (by omega) dL_law_688 (by decide) (fun c0 => ?_) (fun c0 => ?_)
  · refine lv_goto (tgt := 1394) hx hb dL_law_703 (by decide) ?_
    refine W.widen (k := ce + 5) (n := sl + 160) (by omega) (by omega) ?_
    exact kk σ1 cnt1 γ1 ro1 w2 hj2 H locs hW hS ls (lv_sub hl [2, 3, 4, 5, 6] rfl)
  · refine lv_aload_n hx hb dL_law_691 rfl (lv_at hl 5 rfl) ?_
    refine lv_iconst (v := nI 0) hx hb dL_law_692 (by decide) ?_
    refine hw_lald hx hb hK hW 2 hou rfl (vp_in_nI (show 0 < 1 by omega) (by omega)) dL_law_693 ?_
    refine tp_l (show fo1 (nI 0).toNatClampNeg = fo1 0 from by rw [nI_clamp (by omega)]) ?_
    refine lv_iload hx hb dL_law_694 (lv_at hl 0 rfl) ?_
    refine lv_i2l hx hb dL_law_696 rfl ?_
    refine tp_l (show r.toInt64 = fo1 0 from (heq (by omega)).symm) ?_
    refine W.lcmp hx hb dL_law_697 ?_
    refine lv_if_eq (tgt := 703) hx hb dL_law_698 (by decide) (fun c2 => ?_) (fun c2 => absurd ((lg_cmp_eq _ _).mpr rfl) c2)
    refine lv_goto (tgt := 1394) hx hb dL_law_703 (by decide) ?_
    refine W.widen (k := ce + 5) (n := sl + 160) (by omega) (by omega) ?_
    exact kk σ1 cnt1 γ1 ro1 w2 hj2 H locs hW hS ls (lv_sub hl [2, 3, 4, 5, 6] rfl)

set_option maxHeartbeats 1000000 in
set_option maxRecDepth 100000 in
theorem cs_shift {p : Program} {l : Launch} {e : Env} {s : State} {m : MethodId} {args : Array Value} {below : List Frame} {meth : Method} {c : Code} {Q : State → Prop} {D : va_G} {g : Nat → ClassId} {ad : Nat → Nat} {tb : Nat} {sa : Nat → Nat} {A : Nat → Prop} {b L : Nat} {xs : Nat → Int32} (hSc : va_X b L xs s s.heap) (hbl : b < s.heap.size) (hbA : ¬ A b) (hL : L ≤ 3072) {ro : Nat → Nat} {x mo ou i ce sl : Nat} {σ : Nat → SD} {cnt : Nat} {γ : GU} {w : Wd} {H : Heap} {locs : List Loc} {ls : Array Slot} (hl0 : l.stackTraces = false) (hi6 : i + 6 ≤ L) (hce : ce + 5 ≤ 601024) (hsl : sl + 160 ≤ 7293033) (hj : jI g ad w ro x mo ou σ cnt γ) (C0 : cx p s m args c A cL_law 7 RL D g ad tb sa) (hW : hw D vwCl A w H) (hS : va_S A s.heap H locs) (hl : lv_has ls 7 [(0, .ref b), (1, .ref x), (2, .ref mo), (3, .ref ou), (4, .int (nI i))]) (kk : ∀ (σ' : Nat → SD) (cnt' : Nat) (γ' : GU) (ro' : Nat → Nat) (w1 : Wd), jI g ad w1 ro' x mo ou σ' cnt' γ' → ∀ (H : Heap) (locs : List Loc), hw D vwCl A w1 H → va_S A s.heap H locs → ∀ ls : Array Slot, lv_has ls 7 [(0, .ref b), (1, .ref x), (2, .ref mo), (3, .ref ou), (4, .int (nI i))] → W p l e (rmL 12 444 601024 7293033) s m args below meth c H locs (ce + 5) (sl + 160) Q (F0 m 1394 ls [])) : W p l e (rmL 12 444 601024 7293033) s m args below meth c H locs ce sl Q (F0 m 706 ls []) := by
  obtain ⟨hx, hb, hml, hts, hown, hK, hk, hAA⟩ := C0
  obtain ⟨fs, hob⟩ := hj.1.ob
  obtain ⟨-, -, ⟨foO, hOu⟩, hRo⟩ := id hj
  refine lv_aload_n hx hb dL_law_706 rfl (lv_at hl 1 rfl) ?_
  refine lv_aload_n hx hb dL_law_707 rfl (lv_at hl 0 rfl) ?_
  refine lv_iload hx hb dL_law_708 (lv_at hl 4 rfl) ?_
  refine lv_iconst (v := nI 1) hx hb dL_law_710 (by decide) ?_
  refine lv_iadd hx hb dL_law_711 ?_
  refine tp_i (show (nI i) + (nI 1) = nI (i + 1) from nI_add _ _) ?_
  refine va_sld hx hb hSc hbl hbA hS (vp_in_nI (show i + 1 < L by omega) (by omega)) dL_law_712 ?_
  refine lv_aload_n hx hb dL_law_713 rfl (lv_at hl 0 rfl) ?_
  refine lv_iload hx hb dL_law_714 (lv_at hl 4 rfl) ?_
  refine lv_iconst (v := nI 2) hx hb dL_law_716 (by decide) ?_
  refine lv_iadd hx hb dL_law_717 ?_
  refine tp_i (show (nI i) + (nI 2) = nI (i + 2) from nI_add _ _) ?_
  refine va_sld hx hb hSc hbl hbA hS (vp_in_nI (show i + 2 < L by omega) (by omega)) dL_law_718 ?_
  refine lv_aload_n hx hb dL_law_719 rfl (lv_at hl 3 rfl) ?_
  refine kc_LI (n := 4) (As := [.ref x, .int (xs (nI (i + 1)).toNatClampNeg), .int (xs (nI (i + 2)).toNatClampNeg), .ref ou]) (rest := []) ⟨hx, hb, hml, hown, hts⟩ (c_L_shift l D g ad tb sa w H.size _ _ x ou fs foO (xs (nI (i + 1)).toNatClampNeg) (xs (nI (i + 2)).toNatClampNeg) (c_X_shift l D g ad tb sa w H.size hl0 ro x σ cnt γ hj.1 (xs (nI (i + 1)).toNatClampNeg) (xs (nI (i + 2)).toNatClampNeg)) hob (fun x9 w9 h9 => by obtain ⟨f, di, ro', hf, ef, hdi, edi, h4, ex, hI, hkp⟩ := h9; exact (hkp _ _ hOu (by omega)).1) (fun E w9 h9 => h9.2.elim (fun q => Or.inl q.1) (fun h9 => Or.inr (h9.elim (fun q => Or.inl q.1) (fun q => Or.inr q.1))))) bw_344 bw_345 bw_0 bw_346 (by decide +kernel) ⟨by decide, by decide⟩ hW hK hk hS hAA rfl hl.1 rfl (Nat.le_of_ble_eq_true rfl) dL_law_720 ⟨by show _ ≤ 601024; omega, by show _ ≤ 7293033; omega⟩ (fun r w1 H locs hp hW hS => ?_)
  obtain ⟨k, σ1, cnt1, γ1, ro1, fo1, rfl, hk4, hJ, hou, hfin⟩ := j_shift (f9 := (xs (nI (i + 1)).toNatClampNeg)) (k9 := (xs (nI (i + 2)).toNatClampNeg)) hj hp
  obtain ⟨-, ⟨cd, ml, ki, on, tw, od, fa, st, rs, me, fo, fd, ba, ta, by9, nd, hR, hMo, hS9, b1, b2, b3, hg⟩, -⟩ := id hJ
  have h40 := hS9.1
  refine lv_istore (lv' := [(5, .int (nI k)), (0, .ref b), (1, .ref x), (2, .ref mo), (3, .ref ou), (4, .int (nI i))]) hx hb dL_law_723 hl (by decide) rfl (fun ls hl => ?_)
  refine lv_aload_n hx hb dL_law_725 rfl (lv_at hl 3 rfl) ?_
  refine lv_aload_n hx hb dL_law_726 rfl (lv_at hl 1 rfl) ?_
  refine lv_iload hx hb dL_law_727 (lv_at hl 5 rfl) ?_
  refine lv_iconst (v := nI 1) hx hb dL_law_729 (by decide) ?_
  refine lv_iadd hx hb dL_law_730 ?_
  refine tp_i (show (nI i) + (nI 1) = nI (i + 1) from nI_add _ _) ?_
  refine va_sld hx hb hSc hbl hbA hS (vp_in_nI (show i + 1 < L by omega) (by omega)) dL_law_731 ?_
  refine lv_aload_n hx hb dL_law_732 rfl (lv_at hl 1 rfl) ?_
  refine lv_iload hx hb dL_law_733 (lv_at hl 5 rfl) ?_
  refine lv_iconst (v := nI 2) hx hb dL_law_735 (by decide) ?_
  refine lv_iadd hx hb dL_law_736 ?_
  refine tp_i (show (nI i) + (nI 2) = nI (i + 2) from nI_add _ _) ?_
  refine va_sld hx hb hSc hbl hbA hS (vp_in_nI (show i + 2 < L by omega) (by omega)) dL_law_737 ?_
  refine kc_VI (n := 2) (As := [.int (xs (nI (i + 1)).toNatClampNeg), .int (xs (nI (i + 2)).toNatClampNeg)]) (rest := []) ⟨hx, hb, hml, hown, hts⟩ (c_M_shift l D g ad tb sa w1 H.size mo ml cd cnt ki on tw od fa st rs me fo fd ba ta by9 nd hR.D hMo h40 (xs (nI (i + 1)).toNatClampNeg) (xs (nI (i + 2)).toNatClampNeg)) bw_621 bw_622 bw_623 bw_3 bw_624 (by decide +kernel) rfl rfl hMo.1 ⟨by decide, by decide⟩ hW hK hk hS hAA rfl hl.1 rfl (Nat.le_of_ble_eq_true rfl) dL_law_738 ⟨by show _ ≤ 601024; omega, by show _ ≤ 7293033; omega⟩ (fun r w2 H locs hp hW hS => ?_)
  obtain ⟨hj2, hmi, ho2, heq⟩ := hfin ml cd ki on tw od fa st rs me fo fd ba ta by9 nd hR hMo hS9 b1 b2 b3 hg _ _ hp
  rw [← ho2] at hou
  obtain ⟨ml2, ki2, on2, tw2, od2, fa2, st2, rs2, me2, fo2, fd2, ba2, ta2, by2, nd2, hR2, hMo2, -⟩ := id hmi
  refine lv_istore (lv' := [(6, .int r), (5, .int (nI k)), (0, .ref b), (1, .ref x), (2, .ref mo), (3, .ref ou), (4, .int (nI i))]) hx hb dL_law_741 hl (by decide) rfl (fun ls hl => ?_)
  refine lv_aload_n hx hb dL_law_743 rfl (lv_at hl 4 rfl) ?_
  refine kc_VI (n := 0) (As := []) (rest := []) ⟨hx, hb, hml, hown, hts⟩ (c_M_thrown l D g ad tb sa w2 H.size mo ml2 k cnt1 ki2 on2 tw2 od2 fa2 st2 rs2 me2 fo2 fd2 ba2 ta2 by2 nd2 hMo2) bw_567 bw_568 bw_569 bw_3 bw_570 (by decide +kernel) rfl rfl hMo2.1 ⟨by decide, by decide⟩ hW hK hk hS hAA rfl hl.1 rfl (Nat.le_of_ble_eq_true rfl) dL_law_744 ⟨by show _ ≤ 601024; omega, by show _ ≤ 7293033; omega⟩ (fun r3 w3 H locs hp hW hS => ?_)
  obtain ⟨hw9, hr9⟩ := hp
  rw [hw9] at hW
  subst hr9
  refine lv_iload hx hb dL_law_747 (lv_at hl 1 rfl) ?_
  refine nw_icmp_eq (tgt := 754) hx hb (by omega) (by omega) dL_law_749 (by decide) (fun c1 => ?_) (fun c1 => absurd rfl c1)
  refine lv_iload hx hb dL_law_754 (lv_at hl 1 rfl) ?_
  refine nw_if_ne (tgt := 771) hx hb (by omega) dL_law_756 (by decide) (fun c0 => ?_) (fun c0 => ?_)
  · refine lv_goto (tgt := 1394) hx hb dL_law_771 (by decide) ?_
    refine W.widen (k := ce + 5) (n := sl + 160) (by omega) (by omega) ?_
    exact kk σ1 cnt1 γ1 ro1 w2 hj2 H locs hW hS ls (lv_sub hl [2, 3, 4, 5, 6] rfl)
  · refine lv_aload_n hx hb dL_law_759 rfl (lv_at hl 5 rfl) ?_
    refine lv_iconst (v := nI 0) hx hb dL_law_760 (by decide) ?_
    refine hw_lald hx hb hK hW 2 hou rfl (vp_in_nI (show 0 < 1 by omega) (by omega)) dL_law_761 ?_
    refine tp_l (show fo1 (nI 0).toNatClampNeg = fo1 0 from by rw [nI_clamp (by omega)]) ?_
    refine lv_iload hx hb dL_law_762 (lv_at hl 0 rfl) ?_
    refine lv_i2l hx hb dL_law_764 rfl ?_
    refine tp_l (show r.toInt64 = fo1 0 from (heq (by omega)).symm) ?_
    refine W.lcmp hx hb dL_law_765 ?_
    refine lv_if_eq (tgt := 771) hx hb dL_law_766 (by decide) (fun c2 => ?_) (fun c2 => absurd ((lg_cmp_eq _ _).mpr rfl) c2)
    refine lv_goto (tgt := 1394) hx hb dL_law_771 (by decide) ?_
    refine W.widen (k := ce + 5) (n := sl + 160) (by omega) (by omega) ?_
    exact kk σ1 cnt1 γ1 ro1 w2 hj2 H locs hW hS ls (lv_sub hl [2, 3, 4, 5, 6] rfl)

set_option maxHeartbeats 1000000 in
set_option maxRecDepth 100000 in
theorem cs_sums {p : Program} {l : Launch} {e : Env} {s : State} {m : MethodId} {args : Array Value} {below : List Frame} {meth : Method} {c : Code} {Q : State → Prop} {D : va_G} {g : Nat → ClassId} {ad : Nat → Nat} {tb : Nat} {sa : Nat → Nat} {A : Nat → Prop} {b L : Nat} {xs : Nat → Int32} (hSc : va_X b L xs s s.heap) (hbl : b < s.heap.size) (hbA : ¬ A b) (hL : L ≤ 3072) {ro : Nat → Nat} {x mo ou i ce sl : Nat} {σ : Nat → SD} {cnt : Nat} {γ : GU} {w : Wd} {H : Heap} {locs : List Loc} {ls : Array Slot} (hl0 : l.stackTraces = false) (hi6 : i + 6 ≤ L) (hce : ce + 5 ≤ 601024) (hsl : sl + 160 ≤ 7293033) (hj : jI g ad w ro x mo ou σ cnt γ) (C0 : cx p s m args c A cL_law 7 RL D g ad tb sa) (hW : hw D vwCl A w H) (hS : va_S A s.heap H locs) (hl : lv_has ls 7 [(0, .ref b), (1, .ref x), (2, .ref mo), (3, .ref ou), (4, .int (nI i))]) (kk : ∀ (σ' : Nat → SD) (cnt' : Nat) (γ' : GU) (ro' : Nat → Nat) (w1 : Wd), jI g ad w1 ro' x mo ou σ' cnt' γ' → ∀ (H : Heap) (locs : List Loc), hw D vwCl A w1 H → va_S A s.heap H locs → ∀ ls : Array Slot, lv_has ls 7 [(0, .ref b), (1, .ref x), (2, .ref mo), (3, .ref ou), (4, .int (nI i))] → W p l e (rmL 12 444 601024 7293033) s m args below meth c H locs (ce + 5) (sl + 160) Q (F0 m 1394 ls [])) : W p l e (rmL 12 444 601024 7293033) s m args below meth c H locs ce sl Q (F0 m 774 ls []) := by
  obtain ⟨hx, hb, hml, hts, hown, hK, hk, hAA⟩ := C0
  obtain ⟨fs, hob⟩ := hj.1.ob
  obtain ⟨-, -, ⟨foO, hOu⟩, hRo⟩ := id hj
  refine lv_aload_n hx hb dL_law_774 rfl (lv_at hl 1 rfl) ?_
  refine lv_aload_n hx hb dL_law_775 rfl (lv_at hl 0 rfl) ?_
  refine lv_iload hx hb dL_law_776 (lv_at hl 4 rfl) ?_
  refine lv_iconst (v := nI 1) hx hb dL_law_778 (by decide) ?_
  refine lv_iadd hx hb dL_law_779 ?_
  refine tp_i (show (nI i) + (nI 1) = nI (i + 1) from nI_add _ _) ?_
  refine va_sld hx hb hSc hbl hbA hS (vp_in_nI (show i + 1 < L by omega) (by omega)) dL_law_780 ?_
  refine lv_aload_n hx hb dL_law_781 rfl (lv_at hl 3 rfl) ?_
  refine kc_LI (n := 3) (As := [.ref x, .int (xs (nI (i + 1)).toNatClampNeg), .ref ou]) (rest := []) ⟨hx, hb, hml, hown, hts⟩ (c_L_sums l D g ad tb sa w H.size _ _ x ou fs foO (xs (nI (i + 1)).toNatClampNeg) (c_X_sums l D g ad tb sa w H.size hl0 ro x σ cnt γ hj.1 (xs (nI (i + 1)).toNatClampNeg)) hob (fun x9 w9 h9 => by obtain ⟨f, h, ro', hf, hh, ef, eh, h4, ex, hI, hkp⟩ := h9; exact (hkp _ _ hOu (by omega)).1) (fun E w9 h9 => h9.2.elim (fun q => Or.inl q.1) (fun q => Or.inr q.1))) bw_354 bw_355 bw_0 bw_356 (by decide +kernel) ⟨by decide, by decide⟩ hW hK hk hS hAA rfl hl.1 rfl (Nat.le_of_ble_eq_true rfl) dL_law_782 ⟨by show _ ≤ 601024; omega, by show _ ≤ 7293033; omega⟩ (fun r w1 H locs hp hW hS => ?_)
  obtain ⟨k, σ1, cnt1, γ1, ro1, fo1, rfl, hk4, hJ, hou, hfin⟩ := j_sums (f9 := (xs (nI (i + 1)).toNatClampNeg)) hj hp
  obtain ⟨-, ⟨cd, ml, ki, on, tw, od, fa, st, rs, me, fo, fd, ba, ta, by9, nd, hR, hMo, hS9, b1, b2, b3, hg⟩, -⟩ := id hJ
  have h40 := hS9.1
  refine lv_istore (lv' := [(5, .int (nI k)), (0, .ref b), (1, .ref x), (2, .ref mo), (3, .ref ou), (4, .int (nI i))]) hx hb dL_law_785 hl (by decide) rfl (fun ls hl => ?_)
  refine lv_aload_n hx hb dL_law_787 rfl (lv_at hl 3 rfl) ?_
  refine lv_aload_n hx hb dL_law_788 rfl (lv_at hl 1 rfl) ?_
  refine lv_iload hx hb dL_law_789 (lv_at hl 5 rfl) ?_
  refine lv_iconst (v := nI 1) hx hb dL_law_791 (by decide) ?_
  refine lv_iadd hx hb dL_law_792 ?_
  refine tp_i (show (nI i) + (nI 1) = nI (i + 1) from nI_add _ _) ?_
  refine va_sld hx hb hSc hbl hbA hS (vp_in_nI (show i + 1 < L by omega) (by omega)) dL_law_793 ?_
  refine kc_VI (n := 1) (As := [.int (xs (nI (i + 1)).toNatClampNeg)]) (rest := []) ⟨hx, hb, hml, hown, hts⟩ (c_M_sums l D g ad tb sa w1 H.size mo ml cd cnt ki on tw od fa st rs me fo fd ba ta by9 nd hR.D hMo h40 (xs (nI (i + 1)).toNatClampNeg)) bw_630 bw_631 bw_632 bw_3 bw_633 (by decide +kernel) rfl rfl hMo.1 ⟨by decide, by decide⟩ hW hK hk hS hAA rfl hl.1 rfl (Nat.le_of_ble_eq_true rfl) dL_law_794 ⟨by show _ ≤ 601024; omega, by show _ ≤ 7293033; omega⟩ (fun r w2 H locs hp hW hS => ?_)
  obtain ⟨hj2, hmi, ho2, heq⟩ := hfin ml cd ki on tw od fa st rs me fo fd ba ta by9 nd hR hMo hS9 b1 b2 b3 hg _ _ hp
  rw [← ho2] at hou
  obtain ⟨ml2, ki2, on2, tw2, od2, fa2, st2, rs2, me2, fo2, fd2, ba2, ta2, by2, nd2, hR2, hMo2, -⟩ := id hmi
  refine lv_istore (lv' := [(6, .int r), (5, .int (nI k)), (0, .ref b), (1, .ref x), (2, .ref mo), (3, .ref ou), (4, .int (nI i))]) hx hb dL_law_797 hl (by decide) rfl (fun ls hl => ?_)
  refine lv_aload_n hx hb dL_law_799 rfl (lv_at hl 4 rfl) ?_
  refine kc_VI (n := 0) (As := []) (rest := []) ⟨hx, hb, hml, hown, hts⟩ (c_M_thrown l D g ad tb sa w2 H.size mo ml2 k cnt1 ki2 on2 tw2 od2 fa2 st2 rs2 me2 fo2 fd2 ba2 ta2 by2 nd2 hMo2) bw_567 bw_568 bw_569 bw_3 bw_570 (by decide +kernel) rfl rfl hMo2.1 ⟨by decide, by decide⟩ hW hK hk hS hAA rfl hl.1 rfl (Nat.le_of_ble_eq_true rfl) dL_law_800 ⟨by show _ ≤ 601024; omega, by show _ ≤ 7293033; omega⟩ (fun r3 w3 H locs hp hW hS => ?_)
  obtain ⟨hw9, hr9⟩ := hp
  rw [hw9] at hW
  subst hr9
  refine lv_iload hx hb dL_law_803 (lv_at hl 1 rfl) ?_
  refine nw_icmp_eq (tgt := 810) hx hb (by omega) (by omega) dL_law_805 (by decide) (fun c1 => ?_) (fun c1 => absurd rfl c1)
  refine lv_iload hx hb dL_law_810 (lv_at hl 1 rfl) ?_
  refine nw_if_ne (tgt := 827) hx hb (by omega) dL_law_812 (by decide) (fun c0 => ?_) (fun c0 => ?_)
  · refine lv_goto (tgt := 1394) hx hb dL_law_827 (by decide) ?_
    refine W.widen (k := ce + 5) (n := sl + 160) (by omega) (by omega) ?_
    exact kk σ1 cnt1 γ1 ro1 w2 hj2 H locs hW hS ls (lv_sub hl [2, 3, 4, 5, 6] rfl)
  · refine lv_aload_n hx hb dL_law_815 rfl (lv_at hl 5 rfl) ?_
    refine lv_iconst (v := nI 0) hx hb dL_law_816 (by decide) ?_
    refine hw_lald hx hb hK hW 2 hou rfl (vp_in_nI (show 0 < 1 by omega) (by omega)) dL_law_817 ?_
    refine tp_l (show fo1 (nI 0).toNatClampNeg = fo1 0 from by rw [nI_clamp (by omega)]) ?_
    refine lv_iload hx hb dL_law_818 (lv_at hl 0 rfl) ?_
    refine lv_i2l hx hb dL_law_820 rfl ?_
    refine tp_l (show r.toInt64 = fo1 0 from (heq (by omega)).symm) ?_
    refine W.lcmp hx hb dL_law_821 ?_
    refine lv_if_eq (tgt := 827) hx hb dL_law_822 (by decide) (fun c2 => ?_) (fun c2 => absurd ((lg_cmp_eq _ _).mpr rfl) c2)
    refine lv_goto (tgt := 1394) hx hb dL_law_827 (by decide) ?_
    refine W.widen (k := ce + 5) (n := sl + 160) (by omega) (by omega) ?_
    exact kk σ1 cnt1 γ1 ro1 w2 hj2 H locs hW hS ls (lv_sub hl [2, 3, 4, 5, 6] rfl)
