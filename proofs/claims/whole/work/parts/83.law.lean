set_option maxHeartbeats 1000000 in
set_option maxRecDepth 100000 in
theorem c_L_function (l : Launch) (D : va_G) (g : Nat → ClassId) (ad : Nat → Nat) (tb : Nat) (sa : Nat → Nat) (w : Wd) (sz : Nat) (post : Int32 → Wd → Prop) (xp : String → Wd → Prop) (a ou : Nat) (fs : List Value) (fo : Nat → Int64) (i0 : Int32) (hX : XI l D g ad tb sa yX_function cX_function 3 (some (.int)) 7 110 5 160 w sz [.ref a, .int i0] post xp) (hob : w a = some (.inr (0, fs))) (hpo : ∀ x9 w1, post x9 w1 → w1 ou = some (.inl (g 2, 1, .inr (.inl fo)))) (hxp : ∀ E w1, xp E w1 → E = xNS ∨ E = xNA) : LI l D g ad tb sa yL_function cL_function 4 (some .int) [(0, 9, 12, 13), (0, 9, 15, 15)] 8 132 5 160 w sz [.ref a, .int i0, .ref ou] (fun r w' => (∃ x9 w1 fo1, post x9 w1 ∧ r = nI 0 ∧ fo1 0 = x9.toInt64 ∧ w' = hwu w1 ou (.inl (g 2, 1, .inr (.inl fo1)))) ∨ ∃ E, xp E w' ∧ ((E = xNS ∧ r = nI 1) ∨ (E = xNA ∧ r = nI 2))) := by
  refine hm_LI (by decide) (Nat.le_of_ble_eq_true rfl) ?_
  intro p e s m below meth c A ls hx hb hr hml hts hown hlocks hin htab hsz hW hK hk hS hAA hl
  subst hsz
  have hl : lv_has ls 4 [(0, .ref a), (1, .int i0), (2, .ref ou)] := hl
  refine lv_aload_n hx hb dL_function_0 rfl (lv_at hl 2 rfl) ?_
  refine lv_iconst (v := nI 0) hx hb dL_function_1 (by decide) ?_
  refine lv_aload_n hx hb dL_function_2 rfl (lv_at hl 0 rfl) ?_
  refine lv_iload_n hx hb dL_function_3 rfl (lv_at hl 1 rfl) ?_
  refine kx_VI (n := 1) (As := [.int i0]) (rest := [.int (nI 0), .ref ou]) ⟨hx, hb, hml, hown, hts⟩ hX bw_84 bw_85 bw_86 bw_1 bw_87 (by decide +kernel) rfl rfl hob ⟨by decide, by decide⟩ hW hK hk hS hAA rfl hl.1 rfl (Nat.le_of_ble_eq_true rfl) dL_function_4 ⟨by decide, by decide⟩ (fun E9 ce9 q9 w9 H locs hp hW hS hc1 hc2 hc3 => ?_) (fun r9 w9 H locs hp hW hS => ?_)
  · have hE := hxp E9 w9 hp
    rcases hE with rfl | rfl
    · refine vx_catch (name := "java/lang/IllegalStateException") hown [] (⟨0, 9, 12, 13⟩ : ExceptionTableEntry) [(⟨0, 9, 15, 15⟩ : ExceptionTableEntry)] (htab.trans rfl) (fun z hz => by simp at hz) rfl (by decide) (hts _ bw_82) (va_Nw.use rfl (hk.1 kw_94 (by simp [twL]))) hc1 hc2 hc3 ?_
      refine lv_astore_n (lv' := [(3, .ref q9), (0, .ref a), (1, .int i0), (2, .ref ou)]) hx hb dL_function_12 rfl hl (by decide) rfl (fun ls hl => ?_)
      refine lv_iconst (v := nI 1) hx hb dL_function_13 (by decide) ?_
      exact W.iret (v := nI 1) hx hb hr (fun t ht hW9 => ⟨⟨nI 1, w9, rfl, Or.inr ⟨_, hp, Or.inl ⟨rfl, rfl⟩⟩, by rw [ht]; exact hW, va_K.moved hW9.alike hK⟩, hS.F ht⟩) hS.2.2 dL_function_14
    · refine vx_catch (name := "java/lang/IllegalArgumentException") hown [(⟨0, 9, 12, 13⟩ : ExceptionTableEntry)] (⟨0, 9, 15, 15⟩ : ExceptionTableEntry) [] (htab.trans rfl) (fun z hz => by
            simp only [List.mem_cons, List.not_mem_nil, or_false] at hz
            rcases hz with rfl
            · exact Or.inr ⟨by decide, "java/lang/IllegalStateException", hts _ bw_82, (hk.2.2.2.2.2.2.2.2.2 ("java/lang/IllegalArgumentException", "java/lang/IllegalStateException") (by simp [nCs]))⟩) rfl (by decide) (hts _ bw_83) (va_Nw.use rfl (hk.1 kw_162 (by simp [twL]))) hc1 hc2 hc3 ?_
      refine lv_astore_n (lv' := [(3, .ref q9), (0, .ref a), (1, .int i0), (2, .ref ou)]) hx hb dL_function_15 rfl hl (by decide) rfl (fun ls hl => ?_)
      refine lv_iconst (v := nI 2) hx hb dL_function_16 (by decide) ?_
      exact W.iret (v := nI 2) hx hb hr (fun t ht hW9 => ⟨⟨nI 2, w9, rfl, Or.inr ⟨_, hp, Or.inr (⟨rfl, rfl⟩)⟩, by rw [ht]; exact hW, va_K.moved hW9.alike hK⟩, hS.F ht⟩) hS.2.2 dL_function_17
  · have hou := hpo r9 w9 hp
    refine lv_i2l hx hb dL_function_7 rfl ?_
    refine hw_last hx hb hK hW hS 2 hou rfl (vp_in_nI (show 0 < 1 by omega) (by omega)) dL_function_8 (fun H locs hW hS => ?_)
    obtain ⟨w1, ew9⟩ : ∃ z, z = hwu w9 ou (.inl (g 2, 1, .inr (.inl (vp_updL fo (nI 0).toNatClampNeg r9.toInt64)))) := ⟨_, rfl⟩
    rw [← ew9] at hW
    refine lv_goto (tgt := 18) hx hb dL_function_9 (by decide) ?_
    refine lv_iconst (v := nI 0) hx hb dL_function_18 (by decide) ?_
    exact W.iret (v := nI 0) hx hb hr (fun t ht hW9 => ⟨⟨nI 0, w1, rfl, Or.inl ⟨r9, w9, _, hp, rfl, by show (if 0 = (nI 0).toNatClampNeg then _ else _) = _; rw [if_pos (by decide)], ew9⟩, by rw [ht]; exact hW, va_K.moved hW9.alike hK⟩, hS.F ht⟩) hS.2.2 dL_function_19

set_option maxHeartbeats 1000000 in
set_option maxRecDepth 100000 in
theorem c_L_factor (l : Launch) (D : va_G) (g : Nat → ClassId) (ad : Nat → Nat) (tb : Nat) (sa : Nat → Nat) (w : Wd) (sz : Nat) (post : Int32 → Wd → Prop) (xp : String → Wd → Prop) (a ou : Nat) (fs : List Value) (fo : Nat → Int64) (i0 : Int32) (i1 : Int32) (i2 : Int32) (v3 : Int64) (hX : XI l D g ad tb sa yX_factor cX_factor 7 (some (.boolean)) 7 112 3 18 w sz [.ref a, .int i0, .int i1, .int i2, .long v3] post xp) (hob : w a = some (.inr (0, fs))) (hpo : ∀ x9 w1, post x9 w1 → w1 ou = some (.inl (g 2, 1, .inr (.inl fo)))) (hxp : ∀ E w1, xp E w1 → E = xNI ∨ E = xNA) : LI l D g ad tb sa yL_factor cL_factor 8 (some .int) [(0, 21, 24, 21), (0, 21, 28, 15)] 8 138 3 18 w sz [.ref a, .int i0, .int i1, .int i2, .long v3, .ref ou] (fun r w' => (∃ x9 w1 fo1, post x9 w1 ∧ r = nI 0 ∧ fo1 0 = (if x9 = 0 then lN 0 else lN 1) ∧ w' = hwu w1 ou (.inl (g 2, 1, .inr (.inl fo1)))) ∨ ∃ E, xp E w' ∧ ((E = xNI ∧ r = nI 1) ∨ (E = xNA ∧ r = nI 2))) := by
  refine hm_LI (by decide) (Nat.le_of_ble_eq_true rfl) ?_
  intro p e s m below meth c A ls hx hb hr hml hts hown hlocks hin htab hsz hW hK hk hS hAA hl
  subst hsz
  have hl : lv_has ls 8 [(0, .ref a), (1, .int i0), (2, .int i1), (3, .int i2), (4, .long v3), (6, .ref ou)] := hl
  refine lv_aload hx hb dL_factor_0 (lv_at hl 5 rfl) ?_
  refine lv_iconst (v := nI 0) hx hb dL_factor_2 (by decide) ?_
  refine lv_aload_n hx hb dL_factor_3 rfl (lv_at hl 0 rfl) ?_
  refine lv_iload_n hx hb dL_factor_4 rfl (lv_at hl 1 rfl) ?_
  refine lv_iload_n hx hb dL_factor_5 rfl (lv_at hl 2 rfl) ?_
  refine lv_iload_n hx hb dL_factor_6 rfl (lv_at hl 3 rfl) ?_
  refine lv_lload hx hb dL_factor_7 (lv_at hl 4 rfl) ?_
  refine kx_VI (n := 4) (As := [.int i0, .int i1, .int i2, .long v3]) (rest := [.int (nI 0), .ref ou]) ⟨hx, hb, hml, hown, hts⟩ hX bw_223 bw_224 bw_225 bw_1 bw_226 (by decide +kernel) rfl rfl hob ⟨by decide, by decide⟩ hW hK hk hS hAA rfl hl.1 rfl (Nat.le_of_ble_eq_true rfl) dL_factor_9 ⟨by decide, by decide⟩ (fun E9 ce9 q9 w9 H locs hp hW hS hc1 hc2 hc3 => ?_) (fun r9 w9 H locs hp hW hS => ?_)
  · have hE := hxp E9 w9 hp
    rcases hE with rfl | rfl
    · refine vx_catch (name := "java/lang/IndexOutOfBoundsException") hown [] (⟨0, 21, 24, 21⟩ : ExceptionTableEntry) [(⟨0, 21, 28, 15⟩ : ExceptionTableEntry)] (htab.trans rfl) (fun z hz => by simp at hz) rfl (by decide) (hts _ bw_222) (va_Nw.use rfl (hk.1 kw_233 (by simp [twL]))) hc1 hc2 hc3 ?_
      refine lv_astore (lv' := [(7, .ref q9), (0, .ref a), (1, .int i0), (2, .int i1), (3, .int i2), (4, .long v3), (6, .ref ou)]) hx hb dL_factor_24 hl (by decide) rfl (fun ls hl => ?_)
      refine lv_iconst (v := nI 1) hx hb dL_factor_26 (by decide) ?_
      exact W.iret (v := nI 1) hx hb hr (fun t ht hW9 => ⟨⟨nI 1, w9, rfl, Or.inr ⟨_, hp, Or.inl ⟨rfl, rfl⟩⟩, by rw [ht]; exact hW, va_K.moved hW9.alike hK⟩, hS.F ht⟩) hS.2.2 dL_factor_27
    · refine vx_catch (name := "java/lang/IllegalArgumentException") hown [(⟨0, 21, 24, 21⟩ : ExceptionTableEntry)] (⟨0, 21, 28, 15⟩ : ExceptionTableEntry) [] (htab.trans rfl) (fun z hz => by
            simp only [List.mem_cons, List.not_mem_nil, or_false] at hz
            rcases hz with rfl
            · exact Or.inr ⟨by decide, "java/lang/IndexOutOfBoundsException", hts _ bw_222, (hk.2.2.2.2.2.2.2.2.2 ("java/lang/IllegalArgumentException", "java/lang/IndexOutOfBoundsException") (by simp [nCs]))⟩) rfl (by decide) (hts _ bw_83) (va_Nw.use rfl (hk.1 kw_162 (by simp [twL]))) hc1 hc2 hc3 ?_
      refine lv_astore (lv' := [(7, .ref q9), (0, .ref a), (1, .int i0), (2, .int i1), (3, .int i2), (4, .long v3), (6, .ref ou)]) hx hb dL_factor_28 hl (by decide) rfl (fun ls hl => ?_)
      refine lv_iconst (v := nI 2) hx hb dL_factor_30 (by decide) ?_
      exact W.iret (v := nI 2) hx hb hr (fun t ht hW9 => ⟨⟨nI 2, w9, rfl, Or.inr ⟨_, hp, Or.inr (⟨rfl, rfl⟩)⟩, by rw [ht]; exact hW, va_K.moved hW9.alike hK⟩, hS.F ht⟩) hS.2.2 dL_factor_31
  · have hou := hpo r9 w9 hp
    refine lv_if_eq (tgt := 19) hx hb dL_factor_12 (by decide) (fun cz => ?_) (fun cz => ?_)
    · refine lv_lconst (v := lN 0) hx hb dL_factor_19 (by decide) ?_
      refine hw_last hx hb hK hW hS 2 hou rfl (vp_in_nI (show 0 < 1 by omega) (by omega)) dL_factor_20 (fun H locs hW hS => ?_)
      obtain ⟨w1, ew9⟩ : ∃ z, z = hwu w9 ou (.inl (g 2, 1, .inr (.inl (vp_updL fo (nI 0).toNatClampNeg (lN 0))))) := ⟨_, rfl⟩
      rw [← ew9] at hW
      refine lv_goto (tgt := 32) hx hb dL_factor_21 (by decide) ?_
      refine lv_iconst (v := nI 0) hx hb dL_factor_32 (by decide) ?_
      exact W.iret (v := nI 0) hx hb hr (fun t ht hW9 => ⟨⟨nI 0, w1, rfl, Or.inl ⟨r9, w9, _, hp, rfl, by show (if 0 = (nI 0).toNatClampNeg then _ else _) = _; rw [if_pos (by decide)]; rw [if_pos cz], ew9⟩, by rw [ht]; exact hW, va_K.moved hW9.alike hK⟩, hS.F ht⟩) hS.2.2 dL_factor_33
    · refine lv_lconst (v := lN 1) hx hb dL_factor_15 (by decide) ?_
      refine lv_goto (tgt := 20) hx hb dL_factor_16 (by decide) ?_
      refine hw_last hx hb hK hW hS 2 hou rfl (vp_in_nI (show 0 < 1 by omega) (by omega)) dL_factor_20 (fun H locs hW hS => ?_)
      obtain ⟨w2, ew9⟩ : ∃ z, z = hwu w9 ou (.inl (g 2, 1, .inr (.inl (vp_updL fo (nI 0).toNatClampNeg (lN 1))))) := ⟨_, rfl⟩
      rw [← ew9] at hW
      refine lv_goto (tgt := 32) hx hb dL_factor_21 (by decide) ?_
      refine lv_iconst (v := nI 0) hx hb dL_factor_32 (by decide) ?_
      exact W.iret (v := nI 0) hx hb hr (fun t ht hW9 => ⟨⟨nI 0, w2, rfl, Or.inl ⟨r9, w9, _, hp, rfl, by show (if 0 = (nI 0).toNatClampNeg then _ else _) = _; rw [if_pos (by decide)]; rw [if_neg cz], ew9⟩, by rw [ht]; exact hW, va_K.moved hW9.alike hK⟩, hS.F ht⟩) hS.2.2 dL_factor_33

set_option maxHeartbeats 1000000 in
set_option maxRecDepth 100000 in
theorem c_L_start (l : Launch) (D : va_G) (g : Nat → ClassId) (ad : Nat → Nat) (tb : Nat) (sa : Nat → Nat) (w : Wd) (sz : Nat) (post : Int32 → Wd → Prop) (xp : String → Wd → Prop) (a ou : Nat) (fs : List Value) (fo : Nat → Int64) (i0 : Int32) (i1 : Int32) (v2 : Int64) (hX : XI l D g ad tb sa yX_start cX_start 6 (some (.boolean)) 7 112 3 18 w sz [.ref a, .int i0, .int i1, .long v2] post xp) (hob : w a = some (.inr (0, fs))) (hpo : ∀ x9 w1, post x9 w1 → w1 ou = some (.inl (g 2, 1, .inr (.inl fo)))) (hxp : ∀ E w1, xp E w1 → E = xNI ∨ E = xNA) : LI l D g ad tb sa yL_start cL_start 7 (some .int) [(0, 19, 22, 21), (0, 19, 26, 15)] 8 137 3 18 w sz [.ref a, .int i0, .int i1, .long v2, .ref ou] (fun r w' => (∃ x9 w1 fo1, post x9 w1 ∧ r = nI 0 ∧ fo1 0 = (if x9 = 0 then lN 0 else lN 1) ∧ w' = hwu w1 ou (.inl (g 2, 1, .inr (.inl fo1)))) ∨ ∃ E, xp E w' ∧ ((E = xNI ∧ r = nI 1) ∨ (E = xNA ∧ r = nI 2))) := by
  refine hm_LI (by decide) (Nat.le_of_ble_eq_true rfl) ?_
  intro p e s m below meth c A ls hx hb hr hml hts hown hlocks hin htab hsz hW hK hk hS hAA hl
  subst hsz
  have hl : lv_has ls 7 [(0, .ref a), (1, .int i0), (2, .int i1), (3, .long v2), (5, .ref ou)] := hl
  refine lv_aload hx hb dL_start_0 (lv_at hl 4 rfl) ?_
  refine lv_iconst (v := nI 0) hx hb dL_start_2 (by decide) ?_
  refine lv_aload_n hx hb dL_start_3 rfl (lv_at hl 0 rfl) ?_
  refine lv_iload_n hx hb dL_start_4 rfl (lv_at hl 1 rfl) ?_
  refine lv_iload_n hx hb dL_start_5 rfl (lv_at hl 2 rfl) ?_
  refine lv_lload_n hx hb dL_start_6 rfl (lv_at hl 3 rfl) ?_
  refine kx_VI (n := 3) (As := [.int i0, .int i1, .long v2]) (rest := [.int (nI 0), .ref ou]) ⟨hx, hb, hml, hown, hts⟩ hX bw_274 bw_275 bw_276 bw_1 bw_277 (by decide +kernel) rfl rfl hob ⟨by decide, by decide⟩ hW hK hk hS hAA rfl hl.1 rfl (Nat.le_of_ble_eq_true rfl) dL_start_7 ⟨by decide, by decide⟩ (fun E9 ce9 q9 w9 H locs hp hW hS hc1 hc2 hc3 => ?_) (fun r9 w9 H locs hp hW hS => ?_)
  · have hE := hxp E9 w9 hp
    rcases hE with rfl | rfl
    · refine vx_catch (name := "java/lang/IndexOutOfBoundsException") hown [] (⟨0, 19, 22, 21⟩ : ExceptionTableEntry) [(⟨0, 19, 26, 15⟩ : ExceptionTableEntry)] (htab.trans rfl) (fun z hz => by simp at hz) rfl (by decide) (hts _ bw_222) (va_Nw.use rfl (hk.1 kw_233 (by simp [twL]))) hc1 hc2 hc3 ?_
      refine lv_astore (lv' := [(6, .ref q9), (0, .ref a), (1, .int i0), (2, .int i1), (3, .long v2), (5, .ref ou)]) hx hb dL_start_22 hl (by decide) rfl (fun ls hl => ?_)
      refine lv_iconst (v := nI 1) hx hb dL_start_24 (by decide) ?_
      exact W.iret (v := nI 1) hx hb hr (fun t ht hW9 => ⟨⟨nI 1, w9, rfl, Or.inr ⟨_, hp, Or.inl ⟨rfl, rfl⟩⟩, by rw [ht]; exact hW, va_K.moved hW9.alike hK⟩, hS.F ht⟩) hS.2.2 dL_start_25
    · refine vx_catch (name := "java/lang/IllegalArgumentException") hown [(⟨0, 19, 22, 21⟩ : ExceptionTableEntry)] (⟨0, 19, 26, 15⟩ : ExceptionTableEntry) [] (htab.trans rfl) (fun z hz => by
            simp only [List.mem_cons, List.not_mem_nil, or_false] at hz
            rcases hz with rfl
            · exact Or.inr ⟨by decide, "java/lang/IndexOutOfBoundsException", hts _ bw_222, (hk.2.2.2.2.2.2.2.2.2 ("java/lang/IllegalArgumentException", "java/lang/IndexOutOfBoundsException") (by simp [nCs]))⟩) rfl (by decide) (hts _ bw_83) (va_Nw.use rfl (hk.1 kw_162 (by simp [twL]))) hc1 hc2 hc3 ?_
      refine lv_astore (lv' := [(6, .ref q9), (0, .ref a), (1, .int i0), (2, .int i1), (3, .long v2), (5, .ref ou)]) hx hb dL_start_26 hl (by decide) rfl (fun ls hl => ?_)
      refine lv_iconst (v := nI 2) hx hb dL_start_28 (by decide) ?_
      exact W.iret (v := nI 2) hx hb hr (fun t ht hW9 => ⟨⟨nI 2, w9, rfl, Or.inr ⟨_, hp, Or.inr (⟨rfl, rfl⟩)⟩, by rw [ht]; exact hW, va_K.moved hW9.alike hK⟩, hS.F ht⟩) hS.2.2 dL_start_29
  · have hou := hpo r9 w9 hp
    refine lv_if_eq (tgt := 17) hx hb dL_start_10 (by decide) (fun cz => ?_) (fun cz => ?_)
    · refine lv_lconst (v := lN 0) hx hb dL_start_17 (by decide) ?_
      refine hw_last hx hb hK hW hS 2 hou rfl (vp_in_nI (show 0 < 1 by omega) (by omega)) dL_start_18 (fun H locs hW hS => ?_)
      obtain ⟨w1, ew9⟩ : ∃ z, z = hwu w9 ou (.inl (g 2, 1, .inr (.inl (vp_updL fo (nI 0).toNatClampNeg (lN 0))))) := ⟨_, rfl⟩
      rw [← ew9] at hW
      refine lv_goto (tgt := 30) hx hb dL_start_19 (by decide) ?_
      refine lv_iconst (v := nI 0) hx hb dL_start_30 (by decide) ?_
      exact W.iret (v := nI 0) hx hb hr (fun t ht hW9 => ⟨⟨nI 0, w1, rfl, Or.inl ⟨r9, w9, _, hp, rfl, by show (if 0 = (nI 0).toNatClampNeg then _ else _) = _; rw [if_pos (by decide)]; rw [if_pos cz], ew9⟩, by rw [ht]; exact hW, va_K.moved hW9.alike hK⟩, hS.F ht⟩) hS.2.2 dL_start_31
    · refine lv_lconst (v := lN 1) hx hb dL_start_13 (by decide) ?_
      refine lv_goto (tgt := 18) hx hb dL_start_14 (by decide) ?_
      refine hw_last hx hb hK hW hS 2 hou rfl (vp_in_nI (show 0 < 1 by omega) (by omega)) dL_start_18 (fun H locs hW hS => ?_)
      obtain ⟨w2, ew9⟩ : ∃ z, z = hwu w9 ou (.inl (g 2, 1, .inr (.inl (vp_updL fo (nI 0).toNatClampNeg (lN 1))))) := ⟨_, rfl⟩
      rw [← ew9] at hW
      refine lv_goto (tgt := 30) hx hb dL_start_19 (by decide) ?_
      refine lv_iconst (v := nI 0) hx hb dL_start_30 (by decide) ?_
      exact W.iret (v := nI 0) hx hb hr (fun t ht hW9 => ⟨⟨nI 0, w2, rfl, Or.inl ⟨r9, w9, _, hp, rfl, by show (if 0 = (nI 0).toNatClampNeg then _ else _) = _; rw [if_pos (by decide)]; rw [if_neg cz], ew9⟩, by rw [ht]; exact hW, va_K.moved hW9.alike hK⟩, hS.F ht⟩) hS.2.2 dL_start_31

set_option maxHeartbeats 1000000 in
set_option maxRecDepth 100000 in
theorem c_L_add (l : Launch) (D : va_G) (g : Nat → ClassId) (ad : Nat → Nat) (tb : Nat) (sa : Nat → Nat) (w : Wd) (sz : Nat) (post : Int32 → Wd → Prop) (xp : String → Wd → Prop) (a ou : Nat) (fs : List Value) (fo : Nat → Int64) (i0 : Int32) (i1 : Int32) (hX : XI l D g ad tb sa yX_add cX_add 3 (some (.int)) 8 138 5 96 w sz [.ref a, .int i0, .int i1] post xp) (hob : w a = some (.inr (0, fs))) (hpo : ∀ x9 w1, post x9 w1 → w1 ou = some (.inl (g 2, 1, .inr (.inl fo)))) (hxp : ∀ E w1, xp E w1 → E = xNI ∨ E = xNS) : LI l D g ad tb sa yL_add cL_add 5 (some .int) [(0, 10, 13, 21), (0, 10, 17, 13)] 9 160 5 96 w sz [.ref a, .int i0, .int i1, .ref ou] (fun r w' => (∃ x9 w1 fo1, post x9 w1 ∧ r = nI 0 ∧ fo1 0 = x9.toInt64 ∧ w' = hwu w1 ou (.inl (g 2, 1, .inr (.inl fo1)))) ∨ ∃ E, xp E w' ∧ ((E = xNI ∧ r = nI 1) ∨ (E = xNS ∧ r = nI 2))) := by
  refine hm_LI (by decide) (Nat.le_of_ble_eq_true rfl) ?_
  intro p e s m below meth c A ls hx hb hr hml hts hown hlocks hin htab hsz hW hK hk hS hAA hl
  subst hsz
  have hl : lv_has ls 5 [(0, .ref a), (1, .int i0), (2, .int i1), (3, .ref ou)] := hl
  refine lv_aload_n hx hb dL_add_0 rfl (lv_at hl 3 rfl) ?_
  refine lv_iconst (v := nI 0) hx hb dL_add_1 (by decide) ?_
  refine lv_aload_n hx hb dL_add_2 rfl (lv_at hl 0 rfl) ?_
  refine lv_iload_n hx hb dL_add_3 rfl (lv_at hl 1 rfl) ?_
  refine lv_iload_n hx hb dL_add_4 rfl (lv_at hl 2 rfl) ?_
  refine kx_VI (n := 2) (As := [.int i0, .int i1]) (rest := [.int (nI 0), .ref ou]) ⟨hx, hb, hml, hown, hts⟩ hX bw_285 bw_286 bw_287 bw_1 bw_288 (by decide +kernel) rfl rfl hob ⟨by decide, by decide⟩ hW hK hk hS hAA rfl hl.1 rfl (Nat.le_of_ble_eq_true rfl) dL_add_5 ⟨by decide, by decide⟩ (fun E9 ce9 q9 w9 H locs hp hW hS hc1 hc2 hc3 => ?_) (fun r9 w9 H locs hp hW hS => ?_)
  · have hE := hxp E9 w9 hp
    rcases hE with rfl | rfl
    · refine vx_catch (name := "java/lang/IndexOutOfBoundsException") hown [] (⟨0, 10, 13, 21⟩ : ExceptionTableEntry) [(⟨0, 10, 17, 13⟩ : ExceptionTableEntry)] (htab.trans rfl) (fun z hz => by simp at hz) rfl (by decide) (hts _ bw_222) (va_Nw.use rfl (hk.1 kw_233 (by simp [twL]))) hc1 hc2 hc3 ?_
      refine lv_astore (lv' := [(4, .ref q9), (0, .ref a), (1, .int i0), (2, .int i1), (3, .ref ou)]) hx hb dL_add_13 hl (by decide) rfl (fun ls hl => ?_)
      refine lv_iconst (v := nI 1) hx hb dL_add_15 (by decide) ?_
      exact W.iret (v := nI 1) hx hb hr (fun t ht hW9 => ⟨⟨nI 1, w9, rfl, Or.inr ⟨_, hp, Or.inl ⟨rfl, rfl⟩⟩, by rw [ht]; exact hW, va_K.moved hW9.alike hK⟩, hS.F ht⟩) hS.2.2 dL_add_16
    · refine vx_catch (name := "java/lang/IllegalStateException") hown [(⟨0, 10, 13, 21⟩ : ExceptionTableEntry)] (⟨0, 10, 17, 13⟩ : ExceptionTableEntry) [] (htab.trans rfl) (fun z hz => by
            simp only [List.mem_cons, List.not_mem_nil, or_false] at hz
            rcases hz with rfl
            · exact Or.inr ⟨by decide, "java/lang/IndexOutOfBoundsException", hts _ bw_222, (hk.2.2.2.2.2.2.2.2.2 ("java/lang/IllegalStateException", "java/lang/IndexOutOfBoundsException") (by simp [nCs]))⟩) rfl (by decide) (hts _ bw_82) (va_Nw.use rfl (hk.1 kw_94 (by simp [twL]))) hc1 hc2 hc3 ?_
      refine lv_astore (lv' := [(4, .ref q9), (0, .ref a), (1, .int i0), (2, .int i1), (3, .ref ou)]) hx hb dL_add_17 hl (by decide) rfl (fun ls hl => ?_)
      refine lv_iconst (v := nI 2) hx hb dL_add_19 (by decide) ?_
      exact W.iret (v := nI 2) hx hb hr (fun t ht hW9 => ⟨⟨nI 2, w9, rfl, Or.inr ⟨_, hp, Or.inr (⟨rfl, rfl⟩)⟩, by rw [ht]; exact hW, va_K.moved hW9.alike hK⟩, hS.F ht⟩) hS.2.2 dL_add_20
  · have hou := hpo r9 w9 hp
    refine lv_i2l hx hb dL_add_8 rfl ?_
    refine hw_last hx hb hK hW hS 2 hou rfl (vp_in_nI (show 0 < 1 by omega) (by omega)) dL_add_9 (fun H locs hW hS => ?_)
    obtain ⟨w1, ew9⟩ : ∃ z, z = hwu w9 ou (.inl (g 2, 1, .inr (.inl (vp_updL fo (nI 0).toNatClampNeg r9.toInt64)))) := ⟨_, rfl⟩
    rw [← ew9] at hW
    refine lv_goto (tgt := 21) hx hb dL_add_10 (by decide) ?_
    refine lv_iconst (v := nI 0) hx hb dL_add_21 (by decide) ?_
    exact W.iret (v := nI 0) hx hb hr (fun t ht hW9 => ⟨⟨nI 0, w1, rfl, Or.inl ⟨r9, w9, _, hp, rfl, by show (if 0 = (nI 0).toNatClampNeg then _ else _) = _; rw [if_pos (by decide)], ew9⟩, by rw [ht]; exact hW, va_K.moved hW9.alike hK⟩, hS.F ht⟩) hS.2.2 dL_add_22

set_option maxHeartbeats 1000000 in
set_option maxRecDepth 100000 in
theorem c_L_times (l : Launch) (D : va_G) (g : Nat → ClassId) (ad : Nat → Nat) (tb : Nat) (sa : Nat → Nat) (w : Wd) (sz : Nat) (post : Int32 → Wd → Prop) (xp : String → Wd → Prop) (a ou : Nat) (fs : List Value) (fo : Nat → Int64) (i0 : Int32) (i1 : Int32) (hX : XI l D g ad tb sa yX_times cX_times 3 (some (.int)) 8 138 5 96 w sz [.ref a, .int i0, .int i1] post xp) (hob : w a = some (.inr (0, fs))) (hpo : ∀ x9 w1, post x9 w1 → w1 ou = some (.inl (g 2, 1, .inr (.inl fo)))) (hxp : ∀ E w1, xp E w1 → E = xNI ∨ E = xNS) : LI l D g ad tb sa yL_times cL_times 5 (some .int) [(0, 10, 13, 21), (0, 10, 17, 13)] 9 160 5 96 w sz [.ref a, .int i0, .int i1, .ref ou] (fun r w' => (∃ x9 w1 fo1, post x9 w1 ∧ r = nI 0 ∧ fo1 0 = x9.toInt64 ∧ w' = hwu w1 ou (.inl (g 2, 1, .inr (.inl fo1)))) ∨ ∃ E, xp E w' ∧ ((E = xNI ∧ r = nI 1) ∨ (E = xNS ∧ r = nI 2))) := by
  refine hm_LI (by decide) (Nat.le_of_ble_eq_true rfl) ?_
  intro p e s m below meth c A ls hx hb hr hml hts hown hlocks hin htab hsz hW hK hk hS hAA hl
  subst hsz
  have hl : lv_has ls 5 [(0, .ref a), (1, .int i0), (2, .int i1), (3, .ref ou)] := hl
  refine lv_aload_n hx hb dL_times_0 rfl (lv_at hl 3 rfl) ?_
  refine lv_iconst (v := nI 0) hx hb dL_times_1 (by decide) ?_
  refine lv_aload_n hx hb dL_times_2 rfl (lv_at hl 0 rfl) ?_
  refine lv_iload_n hx hb dL_times_3 rfl (lv_at hl 1 rfl) ?_
  refine lv_iload_n hx hb dL_times_4 rfl (lv_at hl 2 rfl) ?_
  refine kx_VI (n := 2) (As := [.int i0, .int i1]) (rest := [.int (nI 0), .ref ou]) ⟨hx, hb, hml, hown, hts⟩ hX bw_320 bw_321 bw_322 bw_1 bw_323 (by decide +kernel) rfl rfl hob ⟨by decide, by decide⟩ hW hK hk hS hAA rfl hl.1 rfl (Nat.le_of_ble_eq_true rfl) dL_times_5 ⟨by decide, by decide⟩ (fun E9 ce9 q9 w9 H locs hp hW hS hc1 hc2 hc3 => ?_) (fun r9 w9 H locs hp hW hS => ?_)
  · have hE := hxp E9 w9 hp
    rcases hE with rfl | rfl
    · refine vx_catch (name := "java/lang/IndexOutOfBoundsException") hown [] (⟨0, 10, 13, 21⟩ : ExceptionTableEntry) [(⟨0, 10, 17, 13⟩ : ExceptionTableEntry)] (htab.trans rfl) (fun z hz => by simp at hz) rfl (by decide) (hts _ bw_222) (va_Nw.use rfl (hk.1 kw_233 (by simp [twL]))) hc1 hc2 hc3 ?_
      refine lv_astore (lv' := [(4, .ref q9), (0, .ref a), (1, .int i0), (2, .int i1), (3, .ref ou)]) hx hb dL_times_13 hl (by decide) rfl (fun ls hl => ?_)
      refine lv_iconst (v := nI 1) hx hb dL_times_15 (by decide) ?_
      exact W.iret (v := nI 1) hx hb hr (fun t ht hW9 => ⟨⟨nI 1, w9, rfl, Or.inr ⟨_, hp, Or.inl ⟨rfl, rfl⟩⟩, by rw [ht]; exact hW, va_K.moved hW9.alike hK⟩, hS.F ht⟩) hS.2.2 dL_times_16
    · refine vx_catch (name := "java/lang/IllegalStateException") hown [(⟨0, 10, 13, 21⟩ : ExceptionTableEntry)] (⟨0, 10, 17, 13⟩ : ExceptionTableEntry) [] (htab.trans rfl) (fun z hz => by
            simp only [List.mem_cons, List.not_mem_nil, or_false] at hz
            rcases hz with rfl
            · exact Or.inr ⟨by decide, "java/lang/IndexOutOfBoundsException", hts _ bw_222, (hk.2.2.2.2.2.2.2.2.2 ("java/lang/IllegalStateException", "java/lang/IndexOutOfBoundsException") (by simp [nCs]))⟩) rfl (by decide) (hts _ bw_82) (va_Nw.use rfl (hk.1 kw_94 (by simp [twL]))) hc1 hc2 hc3 ?_
      refine lv_astore (lv' := [(4, .ref q9), (0, .ref a), (1, .int i0), (2, .int i1), (3, .ref ou)]) hx hb dL_times_17 hl (by decide) rfl (fun ls hl => ?_)
      refine lv_iconst (v := nI 2) hx hb dL_times_19 (by decide) ?_
      exact W.iret (v := nI 2) hx hb hr (fun t ht hW9 => ⟨⟨nI 2, w9, rfl, Or.inr ⟨_, hp, Or.inr (⟨rfl, rfl⟩)⟩, by rw [ht]; exact hW, va_K.moved hW9.alike hK⟩, hS.F ht⟩) hS.2.2 dL_times_20
  · have hou := hpo r9 w9 hp
    refine lv_i2l hx hb dL_times_8 rfl ?_
    refine hw_last hx hb hK hW hS 2 hou rfl (vp_in_nI (show 0 < 1 by omega) (by omega)) dL_times_9 (fun H locs hW hS => ?_)
    obtain ⟨w1, ew9⟩ : ∃ z, z = hwu w9 ou (.inl (g 2, 1, .inr (.inl (vp_updL fo (nI 0).toNatClampNeg r9.toInt64)))) := ⟨_, rfl⟩
    rw [← ew9] at hW
    refine lv_goto (tgt := 21) hx hb dL_times_10 (by decide) ?_
    refine lv_iconst (v := nI 0) hx hb dL_times_21 (by decide) ?_
    exact W.iret (v := nI 0) hx hb hr (fun t ht hW9 => ⟨⟨nI 0, w1, rfl, Or.inl ⟨r9, w9, _, hp, rfl, by show (if 0 = (nI 0).toNatClampNeg then _ else _) = _; rw [if_pos (by decide)], ew9⟩, by rw [ht]; exact hW, va_K.moved hW9.alike hK⟩, hS.F ht⟩) hS.2.2 dL_times_22

set_option maxHeartbeats 1000000 in
set_option maxRecDepth 100000 in
theorem c_L_convolve (l : Launch) (D : va_G) (g : Nat → ClassId) (ad : Nat → Nat) (tb : Nat) (sa : Nat → Nat) (w : Wd) (sz : Nat) (post : Int32 → Wd → Prop) (xp : String → Wd → Prop) (a ou : Nat) (fs : List Value) (fo : Nat → Int64) (i0 : Int32) (i1 : Int32) (hX : XI l D g ad tb sa yX_convolve cX_convolve 3 (some (.int)) 8 138 5 96 w sz [.ref a, .int i0, .int i1] post xp) (hob : w a = some (.inr (0, fs))) (hpo : ∀ x9 w1, post x9 w1 → w1 ou = some (.inl (g 2, 1, .inr (.inl fo)))) (hxp : ∀ E w1, xp E w1 → E = xNI ∨ E = xNS) : LI l D g ad tb sa yL_convolve cL_convolve 5 (some .int) [(0, 10, 13, 21), (0, 10, 17, 13)] 9 160 5 96 w sz [.ref a, .int i0, .int i1, .ref ou] (fun r w' => (∃ x9 w1 fo1, post x9 w1 ∧ r = nI 0 ∧ fo1 0 = x9.toInt64 ∧ w' = hwu w1 ou (.inl (g 2, 1, .inr (.inl fo1)))) ∨ ∃ E, xp E w' ∧ ((E = xNI ∧ r = nI 1) ∨ (E = xNS ∧ r = nI 2))) := by
  refine hm_LI (by decide) (Nat.le_of_ble_eq_true rfl) ?_
  intro p e s m below meth c A ls hx hb hr hml hts hown hlocks hin htab hsz hW hK hk hS hAA hl
  subst hsz
  have hl : lv_has ls 5 [(0, .ref a), (1, .int i0), (2, .int i1), (3, .ref ou)] := hl
  refine lv_aload_n hx hb dL_convolve_0 rfl (lv_at hl 3 rfl) ?_
  refine lv_iconst (v := nI 0) hx hb dL_convolve_1 (by decide) ?_
  refine lv_aload_n hx hb dL_convolve_2 rfl (lv_at hl 0 rfl) ?_
  refine lv_iload_n hx hb dL_convolve_3 rfl (lv_at hl 1 rfl) ?_
  refine lv_iload_n hx hb dL_convolve_4 rfl (lv_at hl 2 rfl) ?_
  refine kx_VI (n := 2) (As := [.int i0, .int i1]) (rest := [.int (nI 0), .ref ou]) ⟨hx, hb, hml, hown, hts⟩ hX bw_329 bw_330 bw_331 bw_1 bw_332 (by decide +kernel) rfl rfl hob ⟨by decide, by decide⟩ hW hK hk hS hAA rfl hl.1 rfl (Nat.le_of_ble_eq_true rfl) dL_convolve_5 ⟨by decide, by decide⟩ (fun E9 ce9 q9 w9 H locs hp hW hS hc1 hc2 hc3 => ?_) (fun r9 w9 H locs hp hW hS => ?_)
  · have hE := hxp E9 w9 hp
    rcases hE with rfl | rfl
    · refine vx_catch (name := "java/lang/IndexOutOfBoundsException") hown [] (⟨0, 10, 13, 21⟩ : ExceptionTableEntry) [(⟨0, 10, 17, 13⟩ : ExceptionTableEntry)] (htab.trans rfl) (fun z hz => by simp at hz) rfl (by decide) (hts _ bw_222) (va_Nw.use rfl (hk.1 kw_233 (by simp [twL]))) hc1 hc2 hc3 ?_
      refine lv_astore (lv' := [(4, .ref q9), (0, .ref a), (1, .int i0), (2, .int i1), (3, .ref ou)]) hx hb dL_convolve_13 hl (by decide) rfl (fun ls hl => ?_)
      refine lv_iconst (v := nI 1) hx hb dL_convolve_15 (by decide) ?_
      exact W.iret (v := nI 1) hx hb hr (fun t ht hW9 => ⟨⟨nI 1, w9, rfl, Or.inr ⟨_, hp, Or.inl ⟨rfl, rfl⟩⟩, by rw [ht]; exact hW, va_K.moved hW9.alike hK⟩, hS.F ht⟩) hS.2.2 dL_convolve_16
    · refine vx_catch (name := "java/lang/IllegalStateException") hown [(⟨0, 10, 13, 21⟩ : ExceptionTableEntry)] (⟨0, 10, 17, 13⟩ : ExceptionTableEntry) [] (htab.trans rfl) (fun z hz => by
            simp only [List.mem_cons, List.not_mem_nil, or_false] at hz
            rcases hz with rfl
            · exact Or.inr ⟨by decide, "java/lang/IndexOutOfBoundsException", hts _ bw_222, (hk.2.2.2.2.2.2.2.2.2 ("java/lang/IllegalStateException", "java/lang/IndexOutOfBoundsException") (by simp [nCs]))⟩) rfl (by decide) (hts _ bw_82) (va_Nw.use rfl (hk.1 kw_94 (by simp [twL]))) hc1 hc2 hc3 ?_
      refine lv_astore (lv' := [(4, .ref q9), (0, .ref a), (1, .int i0), (2, .int i1), (3, .ref ou)]) hx hb dL_convolve_17 hl (by decide) rfl (fun ls hl => ?_)
      refine lv_iconst (v := nI 2) hx hb dL_convolve_19 (by decide) ?_
      exact W.iret (v := nI 2) hx hb hr (fun t ht hW9 => ⟨⟨nI 2, w9, rfl, Or.inr ⟨_, hp, Or.inr (⟨rfl, rfl⟩)⟩, by rw [ht]; exact hW, va_K.moved hW9.alike hK⟩, hS.F ht⟩) hS.2.2 dL_convolve_20
  · have hou := hpo r9 w9 hp
    refine lv_i2l hx hb dL_convolve_8 rfl ?_
    refine hw_last hx hb hK hW hS 2 hou rfl (vp_in_nI (show 0 < 1 by omega) (by omega)) dL_convolve_9 (fun H locs hW hS => ?_)
    obtain ⟨w1, ew9⟩ : ∃ z, z = hwu w9 ou (.inl (g 2, 1, .inr (.inl (vp_updL fo (nI 0).toNatClampNeg r9.toInt64)))) := ⟨_, rfl⟩
    rw [← ew9] at hW
    refine lv_goto (tgt := 21) hx hb dL_convolve_10 (by decide) ?_
    refine lv_iconst (v := nI 0) hx hb dL_convolve_21 (by decide) ?_
    exact W.iret (v := nI 0) hx hb hr (fun t ht hW9 => ⟨⟨nI 0, w1, rfl, Or.inl ⟨r9, w9, _, hp, rfl, by show (if 0 = (nI 0).toNatClampNeg then _ else _) = _; rw [if_pos (by decide)], ew9⟩, by rw [ht]; exact hW, va_K.moved hW9.alike hK⟩, hS.F ht⟩) hS.2.2 dL_convolve_22

set_option maxHeartbeats 1000000 in
set_option maxRecDepth 100000 in
theorem c_L_weave (l : Launch) (D : va_G) (g : Nat → ClassId) (ad : Nat → Nat) (tb : Nat) (sa : Nat → Nat) (w : Wd) (sz : Nat) (post : Int32 → Wd → Prop) (xp : String → Wd → Prop) (a ou : Nat) (fs : List Value) (fo : Nat → Int64) (i0 : Int32) (i1 : Int32) (hX : XI l D g ad tb sa yX_weave cX_weave 3 (some (.int)) 8 138 5 96 w sz [.ref a, .int i0, .int i1] post xp) (hob : w a = some (.inr (0, fs))) (hpo : ∀ x9 w1, post x9 w1 → w1 ou = some (.inl (g 2, 1, .inr (.inl fo)))) (hxp : ∀ E w1, xp E w1 → E = xNI ∨ E = xNS) : LI l D g ad tb sa yL_weave cL_weave 5 (some .int) [(0, 10, 13, 21), (0, 10, 17, 13)] 9 160 5 96 w sz [.ref a, .int i0, .int i1, .ref ou] (fun r w' => (∃ x9 w1 fo1, post x9 w1 ∧ r = nI 0 ∧ fo1 0 = x9.toInt64 ∧ w' = hwu w1 ou (.inl (g 2, 1, .inr (.inl fo1)))) ∨ ∃ E, xp E w' ∧ ((E = xNI ∧ r = nI 1) ∨ (E = xNS ∧ r = nI 2))) := by
  refine hm_LI (by decide) (Nat.le_of_ble_eq_true rfl) ?_
  intro p e s m below meth c A ls hx hb hr hml hts hown hlocks hin htab hsz hW hK hk hS hAA hl
  subst hsz
  have hl : lv_has ls 5 [(0, .ref a), (1, .int i0), (2, .int i1), (3, .ref ou)] := hl
  refine lv_aload_n hx hb dL_weave_0 rfl (lv_at hl 3 rfl) ?_
  refine lv_iconst (v := nI 0) hx hb dL_weave_1 (by decide) ?_
  refine lv_aload_n hx hb dL_weave_2 rfl (lv_at hl 0 rfl) ?_
  refine lv_iload_n hx hb dL_weave_3 rfl (lv_at hl 1 rfl) ?_
  refine lv_iload_n hx hb dL_weave_4 rfl (lv_at hl 2 rfl) ?_
  refine kx_VI (n := 2) (As := [.int i0, .int i1]) (rest := [.int (nI 0), .ref ou]) ⟨hx, hb, hml, hown, hts⟩ hX bw_338 bw_339 bw_340 bw_1 bw_341 (by decide +kernel) rfl rfl hob ⟨by decide, by decide⟩ hW hK hk hS hAA rfl hl.1 rfl (Nat.le_of_ble_eq_true rfl) dL_weave_5 ⟨by decide, by decide⟩ (fun E9 ce9 q9 w9 H locs hp hW hS hc1 hc2 hc3 => ?_) (fun r9 w9 H locs hp hW hS => ?_)
  · have hE := hxp E9 w9 hp
    rcases hE with rfl | rfl
    · refine vx_catch (name := "java/lang/IndexOutOfBoundsException") hown [] (⟨0, 10, 13, 21⟩ : ExceptionTableEntry) [(⟨0, 10, 17, 13⟩ : ExceptionTableEntry)] (htab.trans rfl) (fun z hz => by simp at hz) rfl (by decide) (hts _ bw_222) (va_Nw.use rfl (hk.1 kw_233 (by simp [twL]))) hc1 hc2 hc3 ?_
      refine lv_astore (lv' := [(4, .ref q9), (0, .ref a), (1, .int i0), (2, .int i1), (3, .ref ou)]) hx hb dL_weave_13 hl (by decide) rfl (fun ls hl => ?_)
      refine lv_iconst (v := nI 1) hx hb dL_weave_15 (by decide) ?_
      exact W.iret (v := nI 1) hx hb hr (fun t ht hW9 => ⟨⟨nI 1, w9, rfl, Or.inr ⟨_, hp, Or.inl ⟨rfl, rfl⟩⟩, by rw [ht]; exact hW, va_K.moved hW9.alike hK⟩, hS.F ht⟩) hS.2.2 dL_weave_16
    · refine vx_catch (name := "java/lang/IllegalStateException") hown [(⟨0, 10, 13, 21⟩ : ExceptionTableEntry)] (⟨0, 10, 17, 13⟩ : ExceptionTableEntry) [] (htab.trans rfl) (fun z hz => by
            simp only [List.mem_cons, List.not_mem_nil, or_false] at hz
            rcases hz with rfl
            · exact Or.inr ⟨by decide, "java/lang/IndexOutOfBoundsException", hts _ bw_222, (hk.2.2.2.2.2.2.2.2.2 ("java/lang/IllegalStateException", "java/lang/IndexOutOfBoundsException") (by simp [nCs]))⟩) rfl (by decide) (hts _ bw_82) (va_Nw.use rfl (hk.1 kw_94 (by simp [twL]))) hc1 hc2 hc3 ?_
      refine lv_astore (lv' := [(4, .ref q9), (0, .ref a), (1, .int i0), (2, .int i1), (3, .ref ou)]) hx hb dL_weave_17 hl (by decide) rfl (fun ls hl => ?_)
      refine lv_iconst (v := nI 2) hx hb dL_weave_19 (by decide) ?_
      exact W.iret (v := nI 2) hx hb hr (fun t ht hW9 => ⟨⟨nI 2, w9, rfl, Or.inr ⟨_, hp, Or.inr (⟨rfl, rfl⟩)⟩, by rw [ht]; exact hW, va_K.moved hW9.alike hK⟩, hS.F ht⟩) hS.2.2 dL_weave_20
  · have hou := hpo r9 w9 hp
    refine lv_i2l hx hb dL_weave_8 rfl ?_
    refine hw_last hx hb hK hW hS 2 hou rfl (vp_in_nI (show 0 < 1 by omega) (by omega)) dL_weave_9 (fun H locs hW hS => ?_)
    obtain ⟨w1, ew9⟩ : ∃ z, z = hwu w9 ou (.inl (g 2, 1, .inr (.inl (vp_updL fo (nI 0).toNatClampNeg r9.toInt64)))) := ⟨_, rfl⟩
    rw [← ew9] at hW
    refine lv_goto (tgt := 21) hx hb dL_weave_10 (by decide) ?_
    refine lv_iconst (v := nI 0) hx hb dL_weave_21 (by decide) ?_
    exact W.iret (v := nI 0) hx hb hr (fun t ht hW9 => ⟨⟨nI 0, w1, rfl, Or.inl ⟨r9, w9, _, hp, rfl, by show (if 0 = (nI 0).toNatClampNeg then _ else _) = _; rw [if_pos (by decide)], ew9⟩, by rw [ht]; exact hW, va_K.moved hW9.alike hK⟩, hS.F ht⟩) hS.2.2 dL_weave_22

set_option maxHeartbeats 1000000 in
set_option maxRecDepth 100000 in
theorem c_L_shift (l : Launch) (D : va_G) (g : Nat → ClassId) (ad : Nat → Nat) (tb : Nat) (sa : Nat → Nat) (w : Wd) (sz : Nat) (post : Int32 → Wd → Prop) (xp : String → Wd → Prop) (a ou : Nat) (fs : List Value) (fo : Nat → Int64) (i0 : Int32) (i1 : Int32) (hX : XI l D g ad tb sa yX_shift cX_shift 5 (some (.int)) 7 112 4 90 w sz [.ref a, .int i0, .int i1] post xp) (hob : w a = some (.inr (0, fs))) (hpo : ∀ x9 w1, post x9 w1 → w1 ou = some (.inl (g 2, 1, .inr (.inl fo)))) (hxp : ∀ E w1, xp E w1 → E = xNI ∨ E = xNS ∨ E = xNA) : LI l D g ad tb sa yL_shift cL_shift 5 (some .int) [(0, 10, 13, 21), (0, 10, 17, 13), (0, 10, 21, 15)] 8 136 4 90 w sz [.ref a, .int i0, .int i1, .ref ou] (fun r w' => (∃ x9 w1 fo1, post x9 w1 ∧ r = nI 0 ∧ fo1 0 = x9.toInt64 ∧ w' = hwu w1 ou (.inl (g 2, 1, .inr (.inl fo1)))) ∨ ∃ E, xp E w' ∧ ((E = xNI ∧ r = nI 1) ∨ (E = xNS ∧ r = nI 2) ∨ (E = xNA ∧ r = nI 3))) := by
  refine hm_LI (by decide) (Nat.le_of_ble_eq_true rfl) ?_
  intro p e s m below meth c A ls hx hb hr hml hts hown hlocks hin htab hsz hW hK hk hS hAA hl
  subst hsz
  have hl : lv_has ls 5 [(0, .ref a), (1, .int i0), (2, .int i1), (3, .ref ou)] := hl
  refine lv_aload_n hx hb dL_shift_0 rfl (lv_at hl 3 rfl) ?_
  refine lv_iconst (v := nI 0) hx hb dL_shift_1 (by decide) ?_
  refine lv_aload_n hx hb dL_shift_2 rfl (lv_at hl 0 rfl) ?_
  refine lv_iload_n hx hb dL_shift_3 rfl (lv_at hl 1 rfl) ?_
  refine lv_iload_n hx hb dL_shift_4 rfl (lv_at hl 2 rfl) ?_
  refine kx_VI (n := 2) (As := [.int i0, .int i1]) (rest := [.int (nI 0), .ref ou]) ⟨hx, hb, hml, hown, hts⟩ hX bw_347 bw_348 bw_349 bw_1 bw_350 (by decide +kernel) rfl rfl hob ⟨by decide, by decide⟩ hW hK hk hS hAA rfl hl.1 rfl (Nat.le_of_ble_eq_true rfl) dL_shift_5 ⟨by decide, by decide⟩ (fun E9 ce9 q9 w9 H locs hp hW hS hc1 hc2 hc3 => ?_) (fun r9 w9 H locs hp hW hS => ?_)
  · have hE := hxp E9 w9 hp
    rcases hE with rfl | rfl | rfl
    · refine vx_catch (name := "java/lang/IndexOutOfBoundsException") hown [] (⟨0, 10, 13, 21⟩ : ExceptionTableEntry) [(⟨0, 10, 17, 13⟩ : ExceptionTableEntry), (⟨0, 10, 21, 15⟩ : ExceptionTableEntry)] (htab.trans rfl) (fun z hz => by simp at hz) rfl (by decide) (hts _ bw_222) (va_Nw.use rfl (hk.1 kw_233 (by simp [twL]))) hc1 hc2 hc3 ?_
      refine lv_astore (lv' := [(4, .ref q9), (0, .ref a), (1, .int i0), (2, .int i1), (3, .ref ou)]) hx hb dL_shift_13 hl (by decide) rfl (fun ls hl => ?_)
      refine lv_iconst (v := nI 1) hx hb dL_shift_15 (by decide) ?_
      exact W.iret (v := nI 1) hx hb hr (fun t ht hW9 => ⟨⟨nI 1, w9, rfl, Or.inr ⟨_, hp, Or.inl ⟨rfl, rfl⟩⟩, by rw [ht]; exact hW, va_K.moved hW9.alike hK⟩, hS.F ht⟩) hS.2.2 dL_shift_16
    · refine vx_catch (name := "java/lang/IllegalStateException") hown [(⟨0, 10, 13, 21⟩ : ExceptionTableEntry)] (⟨0, 10, 17, 13⟩ : ExceptionTableEntry) [(⟨0, 10, 21, 15⟩ : ExceptionTableEntry)] (htab.trans rfl) (fun z hz => by
            simp only [List.mem_cons, List.not_mem_nil, or_false] at hz
            rcases hz with rfl
            · exact Or.inr ⟨by decide, "java/lang/IndexOutOfBoundsException", hts _ bw_222, (hk.2.2.2.2.2.2.2.2.2 ("java/lang/IllegalStateException", "java/lang/IndexOutOfBoundsException") (by simp [nCs]))⟩) rfl (by decide) (hts _ bw_82) (va_Nw.use rfl (hk.1 kw_94 (by simp [twL]))) hc1 hc2 hc3 ?_
      refine lv_astore (lv' := [(4, .ref q9), (0, .ref a), (1, .int i0), (2, .int i1), (3, .ref ou)]) hx hb dL_shift_17 hl (by decide) rfl (fun ls hl => ?_)
      refine lv_iconst (v := nI 2) hx hb dL_shift_19 (by decide) ?_
      exact W.iret (v := nI 2) hx hb hr (fun t ht hW9 => ⟨⟨nI 2, w9, rfl, Or.inr ⟨_, hp, Or.inr (Or.inl ⟨rfl, rfl⟩)⟩, by rw [ht]; exact hW, va_K.moved hW9.alike hK⟩, hS.F ht⟩) hS.2.2 dL_shift_20
    · refine vx_catch (name := "java/lang/IllegalArgumentException") hown [(⟨0, 10, 13, 21⟩ : ExceptionTableEntry), (⟨0, 10, 17, 13⟩ : ExceptionTableEntry)] (⟨0, 10, 21, 15⟩ : ExceptionTableEntry) [] (htab.trans rfl) (fun z hz => by
            simp only [List.mem_cons, List.not_mem_nil, or_false] at hz
            rcases hz with rfl | rfl
            · exact Or.inr ⟨by decide, "java/lang/IndexOutOfBoundsException", hts _ bw_222, (hk.2.2.2.2.2.2.2.2.2 ("java/lang/IllegalArgumentException", "java/lang/IndexOutOfBoundsException") (by simp [nCs]))⟩
            · exact Or.inr ⟨by decide, "java/lang/IllegalStateException", hts _ bw_82, (hk.2.2.2.2.2.2.2.2.2 ("java/lang/IllegalArgumentException", "java/lang/IllegalStateException") (by simp [nCs]))⟩) rfl (by decide) (hts _ bw_83) (va_Nw.use rfl (hk.1 kw_162 (by simp [twL]))) hc1 hc2 hc3 ?_
      refine lv_astore (lv' := [(4, .ref q9), (0, .ref a), (1, .int i0), (2, .int i1), (3, .ref ou)]) hx hb dL_shift_21 hl (by decide) rfl (fun ls hl => ?_)
      refine lv_iconst (v := nI 3) hx hb dL_shift_23 (by decide) ?_
      exact W.iret (v := nI 3) hx hb hr (fun t ht hW9 => ⟨⟨nI 3, w9, rfl, Or.inr ⟨_, hp, Or.inr (Or.inr (⟨rfl, rfl⟩))⟩, by rw [ht]; exact hW, va_K.moved hW9.alike hK⟩, hS.F ht⟩) hS.2.2 dL_shift_24
  · have hou := hpo r9 w9 hp
    refine lv_i2l hx hb dL_shift_8 rfl ?_
    refine hw_last hx hb hK hW hS 2 hou rfl (vp_in_nI (show 0 < 1 by omega) (by omega)) dL_shift_9 (fun H locs hW hS => ?_)
    obtain ⟨w1, ew9⟩ : ∃ z, z = hwu w9 ou (.inl (g 2, 1, .inr (.inl (vp_updL fo (nI 0).toNatClampNeg r9.toInt64)))) := ⟨_, rfl⟩
    rw [← ew9] at hW
    refine lv_goto (tgt := 25) hx hb dL_shift_10 (by decide) ?_
    refine lv_iconst (v := nI 0) hx hb dL_shift_25 (by decide) ?_
    exact W.iret (v := nI 0) hx hb hr (fun t ht hW9 => ⟨⟨nI 0, w1, rfl, Or.inl ⟨r9, w9, _, hp, rfl, by show (if 0 = (nI 0).toNatClampNeg then _ else _) = _; rw [if_pos (by decide)], ew9⟩, by rw [ht]; exact hW, va_K.moved hW9.alike hK⟩, hS.F ht⟩) hS.2.2 dL_shift_26

set_option maxHeartbeats 1000000 in
set_option maxRecDepth 100000 in
theorem c_L_sums (l : Launch) (D : va_G) (g : Nat → ClassId) (ad : Nat → Nat) (tb : Nat) (sa : Nat → Nat) (w : Wd) (sz : Nat) (post : Int32 → Wd → Prop) (xp : String → Wd → Prop) (a ou : Nat) (fs : List Value) (fo : Nat → Int64) (i0 : Int32) (hX : XI l D g ad tb sa yX_sums cX_sums 2 (some (.int)) 8 138 5 96 w sz [.ref a, .int i0] post xp) (hob : w a = some (.inr (0, fs))) (hpo : ∀ x9 w1, post x9 w1 → w1 ou = some (.inl (g 2, 1, .inr (.inl fo)))) (hxp : ∀ E w1, xp E w1 → E = xNI ∨ E = xNS) : LI l D g ad tb sa yL_sums cL_sums 4 (some .int) [(0, 9, 12, 21), (0, 9, 15, 13)] 9 159 5 96 w sz [.ref a, .int i0, .ref ou] (fun r w' => (∃ x9 w1 fo1, post x9 w1 ∧ r = nI 0 ∧ fo1 0 = x9.toInt64 ∧ w' = hwu w1 ou (.inl (g 2, 1, .inr (.inl fo1)))) ∨ ∃ E, xp E w' ∧ ((E = xNI ∧ r = nI 1) ∨ (E = xNS ∧ r = nI 2))) := by
  refine hm_LI (by decide) (Nat.le_of_ble_eq_true rfl) ?_
  intro p e s m below meth c A ls hx hb hr hml hts hown hlocks hin htab hsz hW hK hk hS hAA hl
  subst hsz
  have hl : lv_has ls 4 [(0, .ref a), (1, .int i0), (2, .ref ou)] := hl
  refine lv_aload_n hx hb dL_sums_0 rfl (lv_at hl 2 rfl) ?_
  refine lv_iconst (v := nI 0) hx hb dL_sums_1 (by decide) ?_
  refine lv_aload_n hx hb dL_sums_2 rfl (lv_at hl 0 rfl) ?_
  refine lv_iload_n hx hb dL_sums_3 rfl (lv_at hl 1 rfl) ?_
  refine kx_VI (n := 1) (As := [.int i0]) (rest := [.int (nI 0), .ref ou]) ⟨hx, hb, hml, hown, hts⟩ hX bw_357 bw_358 bw_359 bw_1 bw_360 (by decide +kernel) rfl rfl hob ⟨by decide, by decide⟩ hW hK hk hS hAA rfl hl.1 rfl (Nat.le_of_ble_eq_true rfl) dL_sums_4 ⟨by decide, by decide⟩ (fun E9 ce9 q9 w9 H locs hp hW hS hc1 hc2 hc3 => ?_) (fun r9 w9 H locs hp hW hS => ?_)
  · have hE := hxp E9 w9 hp
    rcases hE with rfl | rfl
    · refine vx_catch (name := "java/lang/IndexOutOfBoundsException") hown [] (⟨0, 9, 12, 21⟩ : ExceptionTableEntry) [(⟨0, 9, 15, 13⟩ : ExceptionTableEntry)] (htab.trans rfl) (fun z hz => by simp at hz) rfl (by decide) (hts _ bw_222) (va_Nw.use rfl (hk.1 kw_233 (by simp [twL]))) hc1 hc2 hc3 ?_
      refine lv_astore_n (lv' := [(3, .ref q9), (0, .ref a), (1, .int i0), (2, .ref ou)]) hx hb dL_sums_12 rfl hl (by decide) rfl (fun ls hl => ?_)
      refine lv_iconst (v := nI 1) hx hb dL_sums_13 (by decide) ?_
      exact W.iret (v := nI 1) hx hb hr (fun t ht hW9 => ⟨⟨nI 1, w9, rfl, Or.inr ⟨_, hp, Or.inl ⟨rfl, rfl⟩⟩, by rw [ht]; exact hW, va_K.moved hW9.alike hK⟩, hS.F ht⟩) hS.2.2 dL_sums_14
    · refine vx_catch (name := "java/lang/IllegalStateException") hown [(⟨0, 9, 12, 21⟩ : ExceptionTableEntry)] (⟨0, 9, 15, 13⟩ : ExceptionTableEntry) [] (htab.trans rfl) (fun z hz => by
            simp only [List.mem_cons, List.not_mem_nil, or_false] at hz
            rcases hz with rfl
            · exact Or.inr ⟨by decide, "java/lang/IndexOutOfBoundsException", hts _ bw_222, (hk.2.2.2.2.2.2.2.2.2 ("java/lang/IllegalStateException", "java/lang/IndexOutOfBoundsException") (by simp [nCs]))⟩) rfl (by decide) (hts _ bw_82) (va_Nw.use rfl (hk.1 kw_94 (by simp [twL]))) hc1 hc2 hc3 ?_
      refine lv_astore_n (lv' := [(3, .ref q9), (0, .ref a), (1, .int i0), (2, .ref ou)]) hx hb dL_sums_15 rfl hl (by decide) rfl (fun ls hl => ?_)
      refine lv_iconst (v := nI 2) hx hb dL_sums_16 (by decide) ?_
      exact W.iret (v := nI 2) hx hb hr (fun t ht hW9 => ⟨⟨nI 2, w9, rfl, Or.inr ⟨_, hp, Or.inr (⟨rfl, rfl⟩)⟩, by rw [ht]; exact hW, va_K.moved hW9.alike hK⟩, hS.F ht⟩) hS.2.2 dL_sums_17
  · have hou := hpo r9 w9 hp
    refine lv_i2l hx hb dL_sums_7 rfl ?_
    refine hw_last hx hb hK hW hS 2 hou rfl (vp_in_nI (show 0 < 1 by omega) (by omega)) dL_sums_8 (fun H locs hW hS => ?_)
    obtain ⟨w1, ew9⟩ : ∃ z, z = hwu w9 ou (.inl (g 2, 1, .inr (.inl (vp_updL fo (nI 0).toNatClampNeg r9.toInt64)))) := ⟨_, rfl⟩
    rw [← ew9] at hW
    refine lv_goto (tgt := 18) hx hb dL_sums_9 (by decide) ?_
    refine lv_iconst (v := nI 0) hx hb dL_sums_18 (by decide) ?_
    exact W.iret (v := nI 0) hx hb hr (fun t ht hW9 => ⟨⟨nI 0, w1, rfl, Or.inl ⟨r9, w9, _, hp, rfl, by show (if 0 = (nI 0).toNatClampNeg then _ else _) = _; rw [if_pos (by decide)], ew9⟩, by rw [ht]; exact hW, va_K.moved hW9.alike hK⟩, hS.F ht⟩) hS.2.2 dL_sums_19

set_option maxHeartbeats 1000000 in
set_option maxRecDepth 100000 in
theorem c_L_derive (l : Launch) (D : va_G) (g : Nat → ClassId) (ad : Nat → Nat) (tb : Nat) (sa : Nat → Nat) (w : Wd) (sz : Nat) (post : Int32 → Wd → Prop) (xp : String → Wd → Prop) (a ou : Nat) (fs : List Value) (fo : Nat → Int64) (i0 : Int32) (hX : XI l D g ad tb sa yX_derive cX_derive 2 (some (.int)) 8 138 5 96 w sz [.ref a, .int i0] post xp) (hob : w a = some (.inr (0, fs))) (hpo : ∀ x9 w1, post x9 w1 → w1 ou = some (.inl (g 2, 1, .inr (.inl fo)))) (hxp : ∀ E w1, xp E w1 → E = xNI ∨ E = xNS) : LI l D g ad tb sa yL_derive cL_derive 4 (some .int) [(0, 9, 12, 21), (0, 9, 15, 13)] 9 159 5 96 w sz [.ref a, .int i0, .ref ou] (fun r w' => (∃ x9 w1 fo1, post x9 w1 ∧ r = nI 0 ∧ fo1 0 = x9.toInt64 ∧ w' = hwu w1 ou (.inl (g 2, 1, .inr (.inl fo1)))) ∨ ∃ E, xp E w' ∧ ((E = xNI ∧ r = nI 1) ∨ (E = xNS ∧ r = nI 2))) := by
  refine hm_LI (by decide) (Nat.le_of_ble_eq_true rfl) ?_
  intro p e s m below meth c A ls hx hb hr hml hts hown hlocks hin htab hsz hW hK hk hS hAA hl
  subst hsz
  have hl : lv_has ls 4 [(0, .ref a), (1, .int i0), (2, .ref ou)] := hl
  refine lv_aload_n hx hb dL_derive_0 rfl (lv_at hl 2 rfl) ?_
  refine lv_iconst (v := nI 0) hx hb dL_derive_1 (by decide) ?_
  refine lv_aload_n hx hb dL_derive_2 rfl (lv_at hl 0 rfl) ?_
  refine lv_iload_n hx hb dL_derive_3 rfl (lv_at hl 1 rfl) ?_
  refine kx_VI (n := 1) (As := [.int i0]) (rest := [.int (nI 0), .ref ou]) ⟨hx, hb, hml, hown, hts⟩ hX bw_366 bw_367 bw_368 bw_1 bw_369 (by decide +kernel) rfl rfl hob ⟨by decide, by decide⟩ hW hK hk hS hAA rfl hl.1 rfl (Nat.le_of_ble_eq_true rfl) dL_derive_4 ⟨by decide, by decide⟩ (fun E9 ce9 q9 w9 H locs hp hW hS hc1 hc2 hc3 => ?_) (fun r9 w9 H locs hp hW hS => ?_)
  · have hE := hxp E9 w9 hp
    rcases hE with rfl | rfl
    · refine vx_catch (name := "java/lang/IndexOutOfBoundsException") hown [] (⟨0, 9, 12, 21⟩ : ExceptionTableEntry) [(⟨0, 9, 15, 13⟩ : ExceptionTableEntry)] (htab.trans rfl) (fun z hz => by simp at hz) rfl (by decide) (hts _ bw_222) (va_Nw.use rfl (hk.1 kw_233 (by simp [twL]))) hc1 hc2 hc3 ?_
      refine lv_astore_n (lv' := [(3, .ref q9), (0, .ref a), (1, .int i0), (2, .ref ou)]) hx hb dL_derive_12 rfl hl (by decide) rfl (fun ls hl => ?_)
      refine lv_iconst (v := nI 1) hx hb dL_derive_13 (by decide) ?_
      exact W.iret (v := nI 1) hx hb hr (fun t ht hW9 => ⟨⟨nI 1, w9, rfl, Or.inr ⟨_, hp, Or.inl ⟨rfl, rfl⟩⟩, by rw [ht]; exact hW, va_K.moved hW9.alike hK⟩, hS.F ht⟩) hS.2.2 dL_derive_14
    · refine vx_catch (name := "java/lang/IllegalStateException") hown [(⟨0, 9, 12, 21⟩ : ExceptionTableEntry)] (⟨0, 9, 15, 13⟩ : ExceptionTableEntry) [] (htab.trans rfl) (fun z hz => by
            simp only [List.mem_cons, List.not_mem_nil, or_false] at hz
            rcases hz with rfl
            · exact Or.inr ⟨by decide, "java/lang/IndexOutOfBoundsException", hts _ bw_222, (hk.2.2.2.2.2.2.2.2.2 ("java/lang/IllegalStateException", "java/lang/IndexOutOfBoundsException") (by simp [nCs]))⟩) rfl (by decide) (hts _ bw_82) (va_Nw.use rfl (hk.1 kw_94 (by simp [twL]))) hc1 hc2 hc3 ?_
      refine lv_astore_n (lv' := [(3, .ref q9), (0, .ref a), (1, .int i0), (2, .ref ou)]) hx hb dL_derive_15 rfl hl (by decide) rfl (fun ls hl => ?_)
      refine lv_iconst (v := nI 2) hx hb dL_derive_16 (by decide) ?_
      exact W.iret (v := nI 2) hx hb hr (fun t ht hW9 => ⟨⟨nI 2, w9, rfl, Or.inr ⟨_, hp, Or.inr (⟨rfl, rfl⟩)⟩, by rw [ht]; exact hW, va_K.moved hW9.alike hK⟩, hS.F ht⟩) hS.2.2 dL_derive_17
  · have hou := hpo r9 w9 hp
    refine lv_i2l hx hb dL_derive_7 rfl ?_
    refine hw_last hx hb hK hW hS 2 hou rfl (vp_in_nI (show 0 < 1 by omega) (by omega)) dL_derive_8 (fun H locs hW hS => ?_)
    obtain ⟨w1, ew9⟩ : ∃ z, z = hwu w9 ou (.inl (g 2, 1, .inr (.inl (vp_updL fo (nI 0).toNatClampNeg r9.toInt64)))) := ⟨_, rfl⟩
    rw [← ew9] at hW
    refine lv_goto (tgt := 18) hx hb dL_derive_9 (by decide) ?_
    refine lv_iconst (v := nI 0) hx hb dL_derive_18 (by decide) ?_
    exact W.iret (v := nI 0) hx hb hr (fun t ht hW9 => ⟨⟨nI 0, w1, rfl, Or.inl ⟨r9, w9, _, hp, rfl, by show (if 0 = (nI 0).toNatClampNeg then _ else _) = _; rw [if_pos (by decide)], ew9⟩, by rw [ht]; exact hW, va_K.moved hW9.alike hK⟩, hS.F ht⟩) hS.2.2 dL_derive_19

set_option maxHeartbeats 1000000 in
set_option maxRecDepth 100000 in
theorem c_L_value (l : Launch) (D : va_G) (g : Nat → ClassId) (ad : Nat → Nat) (tb : Nat) (sa : Nat → Nat) (w : Wd) (sz : Nat) (post : Int32 → Wd → Prop) (xp : String → Wd → Prop) (a ou : Nat) (fs : List Value) (fo : Nat → Int64) (i0 : Int32) (i1 : Int32) (hX : XI l D g ad tb sa yX_value cX_value 4 (some (.int)) 7 117 2 12 w sz [.ref a, .int i0, .int i1] post xp) (hob : w a = some (.inr (0, fs))) (hpo : ∀ x9 w1, post x9 w1 → w1 ou = some (.inl (g 2, 1, .inr (.inl fo)))) (hxp : ∀ E w1, xp E w1 → E = xNI) : LI l D g ad tb sa yL_value cL_value 5 (some .int) [(0, 10, 13, 21)] 8 140 2 12 w sz [.ref a, .int i0, .int i1, .ref ou] (fun r w' => (∃ x9 w1 fo1, post x9 w1 ∧ r = nI 0 ∧ fo1 0 = x9.toInt64 ∧ w' = hwu w1 ou (.inl (g 2, 1, .inr (.inl fo1)))) ∨ ∃ E, xp E w' ∧ ((E = xNI ∧ r = nI 1))) := by
  refine hm_LI (by decide) (Nat.le_of_ble_eq_true rfl) ?_
  intro p e s m below meth c A ls hx hb hr hml hts hown hlocks hin htab hsz hW hK hk hS hAA hl
  subst hsz
  have hl : lv_has ls 5 [(0, .ref a), (1, .int i0), (2, .int i1), (3, .ref ou)] := hl
  refine lv_aload_n hx hb dL_value_0 rfl (lv_at hl 3 rfl) ?_
  refine lv_iconst (v := nI 0) hx hb dL_value_1 (by decide) ?_
  refine lv_aload_n hx hb dL_value_2 rfl (lv_at hl 0 rfl) ?_
  refine lv_iload_n hx hb dL_value_3 rfl (lv_at hl 1 rfl) ?_
  refine lv_iload_n hx hb dL_value_4 rfl (lv_at hl 2 rfl) ?_
  refine kx_VI (n := 2) (As := [.int i0, .int i1]) (rest := [.int (nI 0), .ref ou]) ⟨hx, hb, hml, hown, hts⟩ hX bw_375 bw_376 bw_377 bw_1 bw_378 (by decide +kernel) rfl rfl hob ⟨by decide, by decide⟩ hW hK hk hS hAA rfl hl.1 rfl (Nat.le_of_ble_eq_true rfl) dL_value_5 ⟨by decide, by decide⟩ (fun E9 ce9 q9 w9 H locs hp hW hS hc1 hc2 hc3 => ?_) (fun r9 w9 H locs hp hW hS => ?_)
  · have hE := hxp E9 w9 hp
    subst hE
    refine vx_catch (name := "java/lang/IndexOutOfBoundsException") hown [] (⟨0, 10, 13, 21⟩ : ExceptionTableEntry) [] (htab.trans rfl) (fun z hz => by simp at hz) rfl (by decide) (hts _ bw_222) (va_Nw.use rfl (hk.1 kw_233 (by simp [twL]))) hc1 hc2 hc3 ?_
    refine lv_astore (lv' := [(4, .ref q9), (0, .ref a), (1, .int i0), (2, .int i1), (3, .ref ou)]) hx hb dL_value_13 hl (by decide) rfl (fun ls hl => ?_)
    refine lv_iconst (v := nI 1) hx hb dL_value_15 (by decide) ?_
    exact W.iret (v := nI 1) hx hb hr (fun t ht hW9 => ⟨⟨nI 1, w9, rfl, Or.inr ⟨_, hp, ⟨rfl, rfl⟩⟩, by rw [ht]; exact hW, va_K.moved hW9.alike hK⟩, hS.F ht⟩) hS.2.2 dL_value_16
  · have hou := hpo r9 w9 hp
    refine lv_i2l hx hb dL_value_8 rfl ?_
    refine hw_last hx hb hK hW hS 2 hou rfl (vp_in_nI (show 0 < 1 by omega) (by omega)) dL_value_9 (fun H locs hW hS => ?_)
    obtain ⟨w1, ew9⟩ : ∃ z, z = hwu w9 ou (.inl (g 2, 1, .inr (.inl (vp_updL fo (nI 0).toNatClampNeg r9.toInt64)))) := ⟨_, rfl⟩
    rw [← ew9] at hW
    refine lv_goto (tgt := 17) hx hb dL_value_10 (by decide) ?_
    refine lv_iconst (v := nI 0) hx hb dL_value_17 (by decide) ?_
    exact W.iret (v := nI 0) hx hb hr (fun t ht hW9 => ⟨⟨nI 0, w1, rfl, Or.inl ⟨r9, w9, _, hp, rfl, by show (if 0 = (nI 0).toNatClampNeg then _ else _) = _; rw [if_pos (by decide)], ew9⟩, by rw [ht]; exact hW, va_K.moved hW9.alike hK⟩, hS.F ht⟩) hS.2.2 dL_value_18

set_option maxHeartbeats 1000000 in
set_option maxRecDepth 100000 in
theorem c_L_singular (l : Launch) (D : va_G) (g : Nat → ClassId) (ad : Nat → Nat) (tb : Nat) (sa : Nat → Nat) (w : Wd) (sz : Nat) (post : Int32 → Wd → Prop) (xp : String → Wd → Prop) (a ou : Nat) (fs : List Value) (fo : Nat → Int64) (i0 : Int32) (hX : XI l D g ad tb sa yX_singular cX_singular 2 (some (.int)) 7 112 2 12 w sz [.ref a, .int i0] post xp) (hob : w a = some (.inr (0, fs))) (hpo : ∀ x9 w1, post x9 w1 → w1 ou = some (.inl (g 2, 1, .inr (.inl fo)))) (hxp : ∀ E w1, xp E w1 → E = xNI ∨ E = xNA) : LI l D g ad tb sa yL_singular cL_singular 4 (some .int) [(0, 9, 12, 21), (0, 9, 15, 15)] 8 133 2 12 w sz [.ref a, .int i0, .ref ou] (fun r w' => (∃ x9 w1 fo1, post x9 w1 ∧ r = nI 0 ∧ fo1 0 = x9.toInt64 ∧ w' = hwu w1 ou (.inl (g 2, 1, .inr (.inl fo1)))) ∨ ∃ E, xp E w' ∧ ((E = xNI ∧ r = nI 1) ∨ (E = xNA ∧ r = nI 2))) := by
  refine hm_LI (by decide) (Nat.le_of_ble_eq_true rfl) ?_
  intro p e s m below meth c A ls hx hb hr hml hts hown hlocks hin htab hsz hW hK hk hS hAA hl
  subst hsz
  have hl : lv_has ls 4 [(0, .ref a), (1, .int i0), (2, .ref ou)] := hl
  refine lv_aload_n hx hb dL_singular_0 rfl (lv_at hl 2 rfl) ?_
  refine lv_iconst (v := nI 0) hx hb dL_singular_1 (by decide) ?_
  refine lv_aload_n hx hb dL_singular_2 rfl (lv_at hl 0 rfl) ?_
  refine lv_iload_n hx hb dL_singular_3 rfl (lv_at hl 1 rfl) ?_
  refine kx_VI (n := 1) (As := [.int i0]) (rest := [.int (nI 0), .ref ou]) ⟨hx, hb, hml, hown, hts⟩ hX bw_427 bw_428 bw_429 bw_1 bw_430 (by decide +kernel) rfl rfl hob ⟨by decide, by decide⟩ hW hK hk hS hAA rfl hl.1 rfl (Nat.le_of_ble_eq_true rfl) dL_singular_4 ⟨by decide, by decide⟩ (fun E9 ce9 q9 w9 H locs hp hW hS hc1 hc2 hc3 => ?_) (fun r9 w9 H locs hp hW hS => ?_)
  · have hE := hxp E9 w9 hp
    rcases hE with rfl | rfl
    · refine vx_catch (name := "java/lang/IndexOutOfBoundsException") hown [] (⟨0, 9, 12, 21⟩ : ExceptionTableEntry) [(⟨0, 9, 15, 15⟩ : ExceptionTableEntry)] (htab.trans rfl) (fun z hz => by simp at hz) rfl (by decide) (hts _ bw_222) (va_Nw.use rfl (hk.1 kw_233 (by simp [twL]))) hc1 hc2 hc3 ?_
      refine lv_astore_n (lv' := [(3, .ref q9), (0, .ref a), (1, .int i0), (2, .ref ou)]) hx hb dL_singular_12 rfl hl (by decide) rfl (fun ls hl => ?_)
      refine lv_iconst (v := nI 1) hx hb dL_singular_13 (by decide) ?_
      exact W.iret (v := nI 1) hx hb hr (fun t ht hW9 => ⟨⟨nI 1, w9, rfl, Or.inr ⟨_, hp, Or.inl ⟨rfl, rfl⟩⟩, by rw [ht]; exact hW, va_K.moved hW9.alike hK⟩, hS.F ht⟩) hS.2.2 dL_singular_14
    · refine vx_catch (name := "java/lang/IllegalArgumentException") hown [(⟨0, 9, 12, 21⟩ : ExceptionTableEntry)] (⟨0, 9, 15, 15⟩ : ExceptionTableEntry) [] (htab.trans rfl) (fun z hz => by
            simp only [List.mem_cons, List.not_mem_nil, or_false] at hz
            rcases hz with rfl
            · exact Or.inr ⟨by decide, "java/lang/IndexOutOfBoundsException", hts _ bw_222, (hk.2.2.2.2.2.2.2.2.2 ("java/lang/IllegalArgumentException", "java/lang/IndexOutOfBoundsException") (by simp [nCs]))⟩) rfl (by decide) (hts _ bw_83) (va_Nw.use rfl (hk.1 kw_162 (by simp [twL]))) hc1 hc2 hc3 ?_
      refine lv_astore_n (lv' := [(3, .ref q9), (0, .ref a), (1, .int i0), (2, .ref ou)]) hx hb dL_singular_15 rfl hl (by decide) rfl (fun ls hl => ?_)
      refine lv_iconst (v := nI 2) hx hb dL_singular_16 (by decide) ?_
      exact W.iret (v := nI 2) hx hb hr (fun t ht hW9 => ⟨⟨nI 2, w9, rfl, Or.inr ⟨_, hp, Or.inr (⟨rfl, rfl⟩)⟩, by rw [ht]; exact hW, va_K.moved hW9.alike hK⟩, hS.F ht⟩) hS.2.2 dL_singular_17
  · have hou := hpo r9 w9 hp
    refine lv_i2l hx hb dL_singular_7 rfl ?_
    refine hw_last hx hb hK hW hS 2 hou rfl (vp_in_nI (show 0 < 1 by omega) (by omega)) dL_singular_8 (fun H locs hW hS => ?_)
    obtain ⟨w1, ew9⟩ : ∃ z, z = hwu w9 ou (.inl (g 2, 1, .inr (.inl (vp_updL fo (nI 0).toNatClampNeg r9.toInt64)))) := ⟨_, rfl⟩
    rw [← ew9] at hW
    refine lv_goto (tgt := 18) hx hb dL_singular_9 (by decide) ?_
    refine lv_iconst (v := nI 0) hx hb dL_singular_18 (by decide) ?_
    exact W.iret (v := nI 0) hx hb hr (fun t ht hW9 => ⟨⟨nI 0, w1, rfl, Or.inl ⟨r9, w9, _, hp, rfl, by show (if 0 = (nI 0).toNatClampNeg then _ else _) = _; rw [if_pos (by decide)], ew9⟩, by rw [ht]; exact hW, va_K.moved hW9.alike hK⟩, hS.F ht⟩) hS.2.2 dL_singular_19

set_option maxHeartbeats 1000000 in
set_option maxRecDepth 100000 in
theorem c_L_guess (l : Launch) (D : va_G) (g : Nat → ClassId) (ad : Nat → Nat) (tb : Nat) (sa : Nat → Nat) (w : Wd) (sz : Nat) (post : Int32 → Wd → Prop) (xp : String → Wd → Prop) (a ou : Nat) (fs : List Value) (fo : Nat → Int64) (i0 : Int32) (i1 : Int32) (i2 : Int32) (hX : XI l D g ad tb sa yX_guess cX_guess 5 (some (.int)) 7 117 2 12 w sz [.ref a, .int i0, .int i1, .int i2] post xp) (hob : w a = some (.inr (0, fs))) (hpo : ∀ x9 w1, post x9 w1 → w1 ou = some (.inl (g 2, 1, .inr (.inl fo)))) (hxp : ∀ E w1, xp E w1 → E = xNI ∨ E = xNA) : LI l D g ad tb sa yL_guess cL_guess 6 (some .int) [(0, 12, 15, 21), (0, 12, 19, 15)] 8 141 2 12 w sz [.ref a, .int i0, .int i1, .int i2, .ref ou] (fun r w' => (∃ x9 w1 fo1, post x9 w1 ∧ r = nI 0 ∧ fo1 0 = x9.toInt64 ∧ w' = hwu w1 ou (.inl (g 2, 1, .inr (.inl fo1)))) ∨ ∃ E, xp E w' ∧ ((E = xNI ∧ r = nI 1) ∨ (E = xNA ∧ r = nI 2))) := by
  refine hm_LI (by decide) (Nat.le_of_ble_eq_true rfl) ?_
  intro p e s m below meth c A ls hx hb hr hml hts hown hlocks hin htab hsz hW hK hk hS hAA hl
  subst hsz
  have hl : lv_has ls 6 [(0, .ref a), (1, .int i0), (2, .int i1), (3, .int i2), (4, .ref ou)] := hl
  refine lv_aload hx hb dL_guess_0 (lv_at hl 4 rfl) ?_
  refine lv_iconst (v := nI 0) hx hb dL_guess_2 (by decide) ?_
  refine lv_aload_n hx hb dL_guess_3 rfl (lv_at hl 0 rfl) ?_
  refine lv_iload_n hx hb dL_guess_4 rfl (lv_at hl 1 rfl) ?_
  refine lv_iload_n hx hb dL_guess_5 rfl (lv_at hl 2 rfl) ?_
  refine lv_iload_n hx hb dL_guess_6 rfl (lv_at hl 3 rfl) ?_
  refine kx_VI (n := 3) (As := [.int i0, .int i1, .int i2]) (rest := [.int (nI 0), .ref ou]) ⟨hx, hb, hml, hown, hts⟩ hX bw_438 bw_439 bw_440 bw_1 bw_441 (by decide +kernel) rfl rfl hob ⟨by decide, by decide⟩ hW hK hk hS hAA rfl hl.1 rfl (Nat.le_of_ble_eq_true rfl) dL_guess_7 ⟨by decide, by decide⟩ (fun E9 ce9 q9 w9 H locs hp hW hS hc1 hc2 hc3 => ?_) (fun r9 w9 H locs hp hW hS => ?_)
  · have hE := hxp E9 w9 hp
    rcases hE with rfl | rfl
    · refine vx_catch (name := "java/lang/IndexOutOfBoundsException") hown [] (⟨0, 12, 15, 21⟩ : ExceptionTableEntry) [(⟨0, 12, 19, 15⟩ : ExceptionTableEntry)] (htab.trans rfl) (fun z hz => by simp at hz) rfl (by decide) (hts _ bw_222) (va_Nw.use rfl (hk.1 kw_233 (by simp [twL]))) hc1 hc2 hc3 ?_
      refine lv_astore (lv' := [(5, .ref q9), (0, .ref a), (1, .int i0), (2, .int i1), (3, .int i2), (4, .ref ou)]) hx hb dL_guess_15 hl (by decide) rfl (fun ls hl => ?_)
      refine lv_iconst (v := nI 1) hx hb dL_guess_17 (by decide) ?_
      exact W.iret (v := nI 1) hx hb hr (fun t ht hW9 => ⟨⟨nI 1, w9, rfl, Or.inr ⟨_, hp, Or.inl ⟨rfl, rfl⟩⟩, by rw [ht]; exact hW, va_K.moved hW9.alike hK⟩, hS.F ht⟩) hS.2.2 dL_guess_18
    · refine vx_catch (name := "java/lang/IllegalArgumentException") hown [(⟨0, 12, 15, 21⟩ : ExceptionTableEntry)] (⟨0, 12, 19, 15⟩ : ExceptionTableEntry) [] (htab.trans rfl) (fun z hz => by
            simp only [List.mem_cons, List.not_mem_nil, or_false] at hz
            rcases hz with rfl
            · exact Or.inr ⟨by decide, "java/lang/IndexOutOfBoundsException", hts _ bw_222, (hk.2.2.2.2.2.2.2.2.2 ("java/lang/IllegalArgumentException", "java/lang/IndexOutOfBoundsException") (by simp [nCs]))⟩) rfl (by decide) (hts _ bw_83) (va_Nw.use rfl (hk.1 kw_162 (by simp [twL]))) hc1 hc2 hc3 ?_
      refine lv_astore (lv' := [(5, .ref q9), (0, .ref a), (1, .int i0), (2, .int i1), (3, .int i2), (4, .ref ou)]) hx hb dL_guess_19 hl (by decide) rfl (fun ls hl => ?_)
      refine lv_iconst (v := nI 2) hx hb dL_guess_21 (by decide) ?_
      exact W.iret (v := nI 2) hx hb hr (fun t ht hW9 => ⟨⟨nI 2, w9, rfl, Or.inr ⟨_, hp, Or.inr (⟨rfl, rfl⟩)⟩, by rw [ht]; exact hW, va_K.moved hW9.alike hK⟩, hS.F ht⟩) hS.2.2 dL_guess_22
  · have hou := hpo r9 w9 hp
    refine lv_i2l hx hb dL_guess_10 rfl ?_
    refine hw_last hx hb hK hW hS 2 hou rfl (vp_in_nI (show 0 < 1 by omega) (by omega)) dL_guess_11 (fun H locs hW hS => ?_)
    obtain ⟨w1, ew9⟩ : ∃ z, z = hwu w9 ou (.inl (g 2, 1, .inr (.inl (vp_updL fo (nI 0).toNatClampNeg r9.toInt64)))) := ⟨_, rfl⟩
    rw [← ew9] at hW
    refine lv_goto (tgt := 23) hx hb dL_guess_12 (by decide) ?_
    refine lv_iconst (v := nI 0) hx hb dL_guess_23 (by decide) ?_
    exact W.iret (v := nI 0) hx hb hr (fun t ht hW9 => ⟨⟨nI 0, w1, rfl, Or.inl ⟨r9, w9, _, hp, rfl, by show (if 0 = (nI 0).toNatClampNeg then _ else _) = _; rw [if_pos (by decide)], ew9⟩, by rw [ht]; exact hW, va_K.moved hW9.alike hK⟩, hS.F ht⟩) hS.2.2 dL_guess_24

set_option maxHeartbeats 1000000 in
set_option maxRecDepth 100000 in
theorem c_L_rule (l : Launch) (D : va_G) (g : Nat → ClassId) (ad : Nat → Nat) (tb : Nat) (sa : Nat → Nat) (w : Wd) (sz : Nat) (post : Int32 → Wd → Prop) (xp : String → Wd → Prop) (a ou : Nat) (fs : List Value) (fo : Nat → Int64) (i0 : Int32) (i1 : Int32) (i2 : Int32) (hX : XI l D g ad tb sa yX_rule cX_rule 4 (some (.int)) 6 90 1 6 w sz [.ref a, .int i0, .int i1, .int i2] post xp) (hob : w a = some (.inr (0, fs))) (hpo : ∀ x9 w1, post x9 w1 → w1 ou = some (.inl (g 2, 1, .inr (.inl fo)))) (hxp : ∀ E w1, xp E w1 → E = xNI) : LI l D g ad tb sa yL_rule cL_rule 6 (some .int) [(0, 12, 15, 21)] 7 113 1 6 w sz [.ref a, .int i0, .int i1, .int i2, .ref ou] (fun r w' => (∃ x9 w1 fo1, post x9 w1 ∧ r = nI 0 ∧ fo1 0 = x9.toInt64 ∧ w' = hwu w1 ou (.inl (g 2, 1, .inr (.inl fo1)))) ∨ ∃ E, xp E w' ∧ ((E = xNI ∧ r = nI 1))) := by
  refine hm_LI (by decide) (Nat.le_of_ble_eq_true rfl) ?_
  intro p e s m below meth c A ls hx hb hr hml hts hown hlocks hin htab hsz hW hK hk hS hAA hl
  subst hsz
  have hl : lv_has ls 6 [(0, .ref a), (1, .int i0), (2, .int i1), (3, .int i2), (4, .ref ou)] := hl
  refine lv_aload hx hb dL_rule_0 (lv_at hl 4 rfl) ?_
  refine lv_iconst (v := nI 0) hx hb dL_rule_2 (by decide) ?_
  refine lv_aload_n hx hb dL_rule_3 rfl (lv_at hl 0 rfl) ?_
  refine lv_iload_n hx hb dL_rule_4 rfl (lv_at hl 1 rfl) ?_
  refine lv_iload_n hx hb dL_rule_5 rfl (lv_at hl 2 rfl) ?_
  refine lv_iload_n hx hb dL_rule_6 rfl (lv_at hl 3 rfl) ?_
  refine kx_VI (n := 3) (As := [.int i0, .int i1, .int i2]) (rest := [.int (nI 0), .ref ou]) ⟨hx, hb, hml, hown, hts⟩ hX bw_481 bw_482 bw_483 bw_1 bw_484 (by decide +kernel) rfl rfl hob ⟨by decide, by decide⟩ hW hK hk hS hAA rfl hl.1 rfl (Nat.le_of_ble_eq_true rfl) dL_rule_7 ⟨by decide, by decide⟩ (fun E9 ce9 q9 w9 H locs hp hW hS hc1 hc2 hc3 => ?_) (fun r9 w9 H locs hp hW hS => ?_)
  · have hE := hxp E9 w9 hp
    subst hE
    refine vx_catch (name := "java/lang/IndexOutOfBoundsException") hown [] (⟨0, 12, 15, 21⟩ : ExceptionTableEntry) [] (htab.trans rfl) (fun z hz => by simp at hz) rfl (by decide) (hts _ bw_222) (va_Nw.use rfl (hk.1 kw_233 (by simp [twL]))) hc1 hc2 hc3 ?_
    refine lv_astore (lv' := [(5, .ref q9), (0, .ref a), (1, .int i0), (2, .int i1), (3, .int i2), (4, .ref ou)]) hx hb dL_rule_15 hl (by decide) rfl (fun ls hl => ?_)
    refine lv_iconst (v := nI 1) hx hb dL_rule_17 (by decide) ?_
    exact W.iret (v := nI 1) hx hb hr (fun t ht hW9 => ⟨⟨nI 1, w9, rfl, Or.inr ⟨_, hp, ⟨rfl, rfl⟩⟩, by rw [ht]; exact hW, va_K.moved hW9.alike hK⟩, hS.F ht⟩) hS.2.2 dL_rule_18
  · have hou := hpo r9 w9 hp
    refine lv_i2l hx hb dL_rule_10 rfl ?_
    refine hw_last hx hb hK hW hS 2 hou rfl (vp_in_nI (show 0 < 1 by omega) (by omega)) dL_rule_11 (fun H locs hW hS => ?_)
    obtain ⟨w1, ew9⟩ : ∃ z, z = hwu w9 ou (.inl (g 2, 1, .inr (.inl (vp_updL fo (nI 0).toNatClampNeg r9.toInt64)))) := ⟨_, rfl⟩
    rw [← ew9] at hW
    refine lv_goto (tgt := 19) hx hb dL_rule_12 (by decide) ?_
    refine lv_iconst (v := nI 0) hx hb dL_rule_19 (by decide) ?_
    exact W.iret (v := nI 0) hx hb hr (fun t ht hW9 => ⟨⟨nI 0, w1, rfl, Or.inl ⟨r9, w9, _, hp, rfl, by show (if 0 = (nI 0).toNatClampNeg then _ else _) = _; rw [if_pos (by decide)], ew9⟩, by rw [ht]; exact hW, va_K.moved hW9.alike hK⟩, hS.F ht⟩) hS.2.2 dL_rule_20

set_option maxHeartbeats 1000000 in
set_option maxRecDepth 100000 in
theorem c_L_least (l : Launch) (D : va_G) (g : Nat → ClassId) (ad : Nat → Nat) (tb : Nat) (sa : Nat → Nat) (w : Wd) (sz : Nat) (post : Int32 → Wd → Prop) (xp : String → Wd → Prop) (a ou : Nat) (fs : List Value) (fo : Nat → Int64) (i0 : Int32) (i1 : Int32) (hX : XI l D g ad tb sa yX_least cX_least 6 (some (.int)) 7 117 2 12 w sz [.ref a, .int i0, .int i1] post xp) (hob : w a = some (.inr (0, fs))) (hpo : ∀ x9 w1, post x9 w1 → w1 ou = some (.inl (g 2, 1, .inr (.inl fo)))) (hxp : ∀ E w1, xp E w1 → E = xNI ∨ E = xNA) : LI l D g ad tb sa yL_least cL_least 5 (some .int) [(0, 10, 13, 21), (0, 10, 17, 15)] 8 142 2 12 w sz [.ref a, .int i0, .int i1, .ref ou] (fun r w' => (∃ x9 w1 fo1, post x9 w1 ∧ r = nI 0 ∧ fo1 0 = x9.toInt64 ∧ w' = hwu w1 ou (.inl (g 2, 1, .inr (.inl fo1)))) ∨ ∃ E, xp E w' ∧ ((E = xNI ∧ r = nI 1) ∨ (E = xNA ∧ r = nI 2))) := by
  refine hm_LI (by decide) (Nat.le_of_ble_eq_true rfl) ?_
  intro p e s m below meth c A ls hx hb hr hml hts hown hlocks hin htab hsz hW hK hk hS hAA hl
  subst hsz
  have hl : lv_has ls 5 [(0, .ref a), (1, .int i0), (2, .int i1), (3, .ref ou)] := hl
  refine lv_aload_n hx hb dL_least_0 rfl (lv_at hl 3 rfl) ?_
  refine lv_iconst (v := nI 0) hx hb dL_least_1 (by decide) ?_
  refine lv_aload_n hx hb dL_least_2 rfl (lv_at hl 0 rfl) ?_
  refine lv_iload_n hx hb dL_least_3 rfl (lv_at hl 1 rfl) ?_
  refine lv_iload_n hx hb dL_least_4 rfl (lv_at hl 2 rfl) ?_
  refine kx_VI (n := 2) (As := [.int i0, .int i1]) (rest := [.int (nI 0), .ref ou]) ⟨hx, hb, hml, hown, hts⟩ hX bw_493 bw_494 bw_495 bw_1 bw_496 (by decide +kernel) rfl rfl hob ⟨by decide, by decide⟩ hW hK hk hS hAA rfl hl.1 rfl (Nat.le_of_ble_eq_true rfl) dL_least_5 ⟨by decide, by decide⟩ (fun E9 ce9 q9 w9 H locs hp hW hS hc1 hc2 hc3 => ?_) (fun r9 w9 H locs hp hW hS => ?_)
  · have hE := hxp E9 w9 hp
    rcases hE with rfl | rfl
    · refine vx_catch (name := "java/lang/IndexOutOfBoundsException") hown [] (⟨0, 10, 13, 21⟩ : ExceptionTableEntry) [(⟨0, 10, 17, 15⟩ : ExceptionTableEntry)] (htab.trans rfl) (fun z hz => by simp at hz) rfl (by decide) (hts _ bw_222) (va_Nw.use rfl (hk.1 kw_233 (by simp [twL]))) hc1 hc2 hc3 ?_
      refine lv_astore (lv' := [(4, .ref q9), (0, .ref a), (1, .int i0), (2, .int i1), (3, .ref ou)]) hx hb dL_least_13 hl (by decide) rfl (fun ls hl => ?_)
      refine lv_iconst (v := nI 1) hx hb dL_least_15 (by decide) ?_
      exact W.iret (v := nI 1) hx hb hr (fun t ht hW9 => ⟨⟨nI 1, w9, rfl, Or.inr ⟨_, hp, Or.inl ⟨rfl, rfl⟩⟩, by rw [ht]; exact hW, va_K.moved hW9.alike hK⟩, hS.F ht⟩) hS.2.2 dL_least_16
    · refine vx_catch (name := "java/lang/IllegalArgumentException") hown [(⟨0, 10, 13, 21⟩ : ExceptionTableEntry)] (⟨0, 10, 17, 15⟩ : ExceptionTableEntry) [] (htab.trans rfl) (fun z hz => by
            simp only [List.mem_cons, List.not_mem_nil, or_false] at hz
            rcases hz with rfl
            · exact Or.inr ⟨by decide, "java/lang/IndexOutOfBoundsException", hts _ bw_222, (hk.2.2.2.2.2.2.2.2.2 ("java/lang/IllegalArgumentException", "java/lang/IndexOutOfBoundsException") (by simp [nCs]))⟩) rfl (by decide) (hts _ bw_83) (va_Nw.use rfl (hk.1 kw_162 (by simp [twL]))) hc1 hc2 hc3 ?_
      refine lv_astore (lv' := [(4, .ref q9), (0, .ref a), (1, .int i0), (2, .int i1), (3, .ref ou)]) hx hb dL_least_17 hl (by decide) rfl (fun ls hl => ?_)
      refine lv_iconst (v := nI 2) hx hb dL_least_19 (by decide) ?_
      exact W.iret (v := nI 2) hx hb hr (fun t ht hW9 => ⟨⟨nI 2, w9, rfl, Or.inr ⟨_, hp, Or.inr (⟨rfl, rfl⟩)⟩, by rw [ht]; exact hW, va_K.moved hW9.alike hK⟩, hS.F ht⟩) hS.2.2 dL_least_20
  · have hou := hpo r9 w9 hp
    refine lv_i2l hx hb dL_least_8 rfl ?_
    refine hw_last hx hb hK hW hS 2 hou rfl (vp_in_nI (show 0 < 1 by omega) (by omega)) dL_least_9 (fun H locs hW hS => ?_)
    obtain ⟨w1, ew9⟩ : ∃ z, z = hwu w9 ou (.inl (g 2, 1, .inr (.inl (vp_updL fo (nI 0).toNatClampNeg r9.toInt64)))) := ⟨_, rfl⟩
    rw [← ew9] at hW
    refine lv_goto (tgt := 21) hx hb dL_least_10 (by decide) ?_
    refine lv_iconst (v := nI 0) hx hb dL_least_21 (by decide) ?_
    exact W.iret (v := nI 0) hx hb hr (fun t ht hW9 => ⟨⟨nI 0, w1, rfl, Or.inl ⟨r9, w9, _, hp, rfl, by show (if 0 = (nI 0).toNatClampNeg then _ else _) = _; rw [if_pos (by decide)], ew9⟩, by rw [ht]; exact hW, va_K.moved hW9.alike hK⟩, hS.F ht⟩) hS.2.2 dL_least_22

set_option maxHeartbeats 1000000 in
set_option maxRecDepth 100000 in
theorem c_L_differ (l : Launch) (D : va_G) (g : Nat → ClassId) (ad : Nat → Nat) (tb : Nat) (sa : Nat → Nat) (w : Wd) (sz : Nat) (post : Int32 → Wd → Prop) (xp : String → Wd → Prop) (a ou : Nat) (fs : List Value) (fo : Nat → Int64) (i0 : Int32) (i1 : Int32) (hX : XI l D g ad tb sa yX_differ cX_differ 8 (some (.int)) 7 117 2 12 w sz [.ref a, .int i0, .int i1] post xp) (hob : w a = some (.inr (0, fs))) (hpo : ∀ x9 w1, post x9 w1 → w1 ou = some (.inl (g 2, 1, .inr (.inl fo)))) (hxp : ∀ E w1, xp E w1 → E = xNI) : LI l D g ad tb sa yL_differ cL_differ 5 (some .int) [(0, 10, 13, 21)] 8 144 2 12 w sz [.ref a, .int i0, .int i1, .ref ou] (fun r w' => (∃ x9 w1 fo1, post x9 w1 ∧ r = nI 0 ∧ fo1 0 = x9.toInt64 ∧ w' = hwu w1 ou (.inl (g 2, 1, .inr (.inl fo1)))) ∨ ∃ E, xp E w' ∧ ((E = xNI ∧ r = nI 1))) := by
  refine hm_LI (by decide) (Nat.le_of_ble_eq_true rfl) ?_
  intro p e s m below meth c A ls hx hb hr hml hts hown hlocks hin htab hsz hW hK hk hS hAA hl
  subst hsz
  have hl : lv_has ls 5 [(0, .ref a), (1, .int i0), (2, .int i1), (3, .ref ou)] := hl
  refine lv_aload_n hx hb dL_differ_0 rfl (lv_at hl 3 rfl) ?_
  refine lv_iconst (v := nI 0) hx hb dL_differ_1 (by decide) ?_
  refine lv_aload_n hx hb dL_differ_2 rfl (lv_at hl 0 rfl) ?_
  refine lv_iload_n hx hb dL_differ_3 rfl (lv_at hl 1 rfl) ?_
  refine lv_iload_n hx hb dL_differ_4 rfl (lv_at hl 2 rfl) ?_
  refine kx_VI (n := 2) (As := [.int i0, .int i1]) (rest := [.int (nI 0), .ref ou]) ⟨hx, hb, hml, hown, hts⟩ hX bw_500 bw_501 bw_502 bw_1 bw_503 (by decide +kernel) rfl rfl hob ⟨by decide, by decide⟩ hW hK hk hS hAA rfl hl.1 rfl (Nat.le_of_ble_eq_true rfl) dL_differ_5 ⟨by decide, by decide⟩ (fun E9 ce9 q9 w9 H locs hp hW hS hc1 hc2 hc3 => ?_) (fun r9 w9 H locs hp hW hS => ?_)
  · have hE := hxp E9 w9 hp
    subst hE
    refine vx_catch (name := "java/lang/IndexOutOfBoundsException") hown [] (⟨0, 10, 13, 21⟩ : ExceptionTableEntry) [] (htab.trans rfl) (fun z hz => by simp at hz) rfl (by decide) (hts _ bw_222) (va_Nw.use rfl (hk.1 kw_233 (by simp [twL]))) hc1 hc2 hc3 ?_
    refine lv_astore (lv' := [(4, .ref q9), (0, .ref a), (1, .int i0), (2, .int i1), (3, .ref ou)]) hx hb dL_differ_13 hl (by decide) rfl (fun ls hl => ?_)
    refine lv_iconst (v := nI 1) hx hb dL_differ_15 (by decide) ?_
    exact W.iret (v := nI 1) hx hb hr (fun t ht hW9 => ⟨⟨nI 1, w9, rfl, Or.inr ⟨_, hp, ⟨rfl, rfl⟩⟩, by rw [ht]; exact hW, va_K.moved hW9.alike hK⟩, hS.F ht⟩) hS.2.2 dL_differ_16
  · have hou := hpo r9 w9 hp
    refine lv_i2l hx hb dL_differ_8 rfl ?_
    refine hw_last hx hb hK hW hS 2 hou rfl (vp_in_nI (show 0 < 1 by omega) (by omega)) dL_differ_9 (fun H locs hW hS => ?_)
    obtain ⟨w1, ew9⟩ : ∃ z, z = hwu w9 ou (.inl (g 2, 1, .inr (.inl (vp_updL fo (nI 0).toNatClampNeg r9.toInt64)))) := ⟨_, rfl⟩
    rw [← ew9] at hW
    refine lv_goto (tgt := 17) hx hb dL_differ_10 (by decide) ?_
    refine lv_iconst (v := nI 0) hx hb dL_differ_17 (by decide) ?_
    exact W.iret (v := nI 0) hx hb hr (fun t ht hW9 => ⟨⟨nI 0, w1, rfl, Or.inl ⟨r9, w9, _, hp, rfl, by show (if 0 = (nI 0).toNatClampNeg then _ else _) = _; rw [if_pos (by decide)], ew9⟩, by rw [ht]; exact hW, va_K.moved hW9.alike hK⟩, hS.F ht⟩) hS.2.2 dL_differ_18

set_option maxHeartbeats 1000000 in
set_option maxRecDepth 100000 in
theorem c_L_hangs (l : Launch) (D : va_G) (g : Nat → ClassId) (ad : Nat → Nat) (tb : Nat) (sa : Nat → Nat) (w : Wd) (sz : Nat) (post : Int32 → Wd → Prop) (xp : String → Wd → Prop) (a ou : Nat) (fs : List Value) (fo : Nat → Int64) (i0 : Int32) (i1 : Int32) (hX : XI l D g ad tb sa yX_hangs cX_hangs 4 (some (.boolean)) 7 112 2 12 w sz [.ref a, .int i0, .int i1] post xp) (hob : w a = some (.inr (0, fs))) (hpo : ∀ x9 w1, post x9 w1 → w1 ou = some (.inl (g 2, 1, .inr (.inl fo)))) (hxp : ∀ E w1, xp E w1 → E = xNI) : LI l D g ad tb sa yL_hangs cL_hangs 5 (some .int) [(0, 17, 20, 21)] 8 135 2 12 w sz [.ref a, .int i0, .int i1, .ref ou] (fun r w' => (∃ x9 w1 fo1, post x9 w1 ∧ r = nI 0 ∧ fo1 0 = (if x9 = 0 then lN 0 else lN 1) ∧ w' = hwu w1 ou (.inl (g 2, 1, .inr (.inl fo1)))) ∨ ∃ E, xp E w' ∧ ((E = xNI ∧ r = nI 1))) := by
  refine hm_LI (by decide) (Nat.le_of_ble_eq_true rfl) ?_
  intro p e s m below meth c A ls hx hb hr hml hts hown hlocks hin htab hsz hW hK hk hS hAA hl
  subst hsz
  have hl : lv_has ls 5 [(0, .ref a), (1, .int i0), (2, .int i1), (3, .ref ou)] := hl
  refine lv_aload_n hx hb dL_hangs_0 rfl (lv_at hl 3 rfl) ?_
  refine lv_iconst (v := nI 0) hx hb dL_hangs_1 (by decide) ?_
  refine lv_aload_n hx hb dL_hangs_2 rfl (lv_at hl 0 rfl) ?_
  refine lv_iload_n hx hb dL_hangs_3 rfl (lv_at hl 1 rfl) ?_
  refine lv_iload_n hx hb dL_hangs_4 rfl (lv_at hl 2 rfl) ?_
  refine kx_VI (n := 2) (As := [.int i0, .int i1]) (rest := [.int (nI 0), .ref ou]) ⟨hx, hb, hml, hown, hts⟩ hX bw_507 bw_508 bw_509 bw_1 bw_510 (by decide +kernel) rfl rfl hob ⟨by decide, by decide⟩ hW hK hk hS hAA rfl hl.1 rfl (Nat.le_of_ble_eq_true rfl) dL_hangs_5 ⟨by decide, by decide⟩ (fun E9 ce9 q9 w9 H locs hp hW hS hc1 hc2 hc3 => ?_) (fun r9 w9 H locs hp hW hS => ?_)
  · have hE := hxp E9 w9 hp
    subst hE
    refine vx_catch (name := "java/lang/IndexOutOfBoundsException") hown [] (⟨0, 17, 20, 21⟩ : ExceptionTableEntry) [] (htab.trans rfl) (fun z hz => by simp at hz) rfl (by decide) (hts _ bw_222) (va_Nw.use rfl (hk.1 kw_233 (by simp [twL]))) hc1 hc2 hc3 ?_
    refine lv_astore (lv' := [(4, .ref q9), (0, .ref a), (1, .int i0), (2, .int i1), (3, .ref ou)]) hx hb dL_hangs_20 hl (by decide) rfl (fun ls hl => ?_)
    refine lv_iconst (v := nI 1) hx hb dL_hangs_22 (by decide) ?_
    exact W.iret (v := nI 1) hx hb hr (fun t ht hW9 => ⟨⟨nI 1, w9, rfl, Or.inr ⟨_, hp, ⟨rfl, rfl⟩⟩, by rw [ht]; exact hW, va_K.moved hW9.alike hK⟩, hS.F ht⟩) hS.2.2 dL_hangs_23
  · have hou := hpo r9 w9 hp
    refine lv_if_eq (tgt := 15) hx hb dL_hangs_8 (by decide) (fun cz => ?_) (fun cz => ?_)
    · refine lv_lconst (v := lN 0) hx hb dL_hangs_15 (by decide) ?_
      refine hw_last hx hb hK hW hS 2 hou rfl (vp_in_nI (show 0 < 1 by omega) (by omega)) dL_hangs_16 (fun H locs hW hS => ?_)
      obtain ⟨w1, ew9⟩ : ∃ z, z = hwu w9 ou (.inl (g 2, 1, .inr (.inl (vp_updL fo (nI 0).toNatClampNeg (lN 0))))) := ⟨_, rfl⟩
      rw [← ew9] at hW
      refine lv_goto (tgt := 24) hx hb dL_hangs_17 (by decide) ?_
      refine lv_iconst (v := nI 0) hx hb dL_hangs_24 (by decide) ?_
      exact W.iret (v := nI 0) hx hb hr (fun t ht hW9 => ⟨⟨nI 0, w1, rfl, Or.inl ⟨r9, w9, _, hp, rfl, by show (if 0 = (nI 0).toNatClampNeg then _ else _) = _; rw [if_pos (by decide)]; rw [if_pos cz], ew9⟩, by rw [ht]; exact hW, va_K.moved hW9.alike hK⟩, hS.F ht⟩) hS.2.2 dL_hangs_25
    · refine lv_lconst (v := lN 1) hx hb dL_hangs_11 (by decide) ?_
      refine lv_goto (tgt := 16) hx hb dL_hangs_12 (by decide) ?_
      refine hw_last hx hb hK hW hS 2 hou rfl (vp_in_nI (show 0 < 1 by omega) (by omega)) dL_hangs_16 (fun H locs hW hS => ?_)
      obtain ⟨w2, ew9⟩ : ∃ z, z = hwu w9 ou (.inl (g 2, 1, .inr (.inl (vp_updL fo (nI 0).toNatClampNeg (lN 1))))) := ⟨_, rfl⟩
      rw [← ew9] at hW
      refine lv_goto (tgt := 24) hx hb dL_hangs_17 (by decide) ?_
      refine lv_iconst (v := nI 0) hx hb dL_hangs_24 (by decide) ?_
      exact W.iret (v := nI 0) hx hb hr (fun t ht hW9 => ⟨⟨nI 0, w2, rfl, Or.inl ⟨r9, w9, _, hp, rfl, by show (if 0 = (nI 0).toNatClampNeg then _ else _) = _; rw [if_pos (by decide)]; rw [if_neg cz], ew9⟩, by rw [ht]; exact hW, va_K.moved hW9.alike hK⟩, hS.F ht⟩) hS.2.2 dL_hangs_25
