set_option maxHeartbeats 1000000 in
set_option maxRecDepth 100000 in
theorem lp_M_fold {p : Program} {l : Launch} {e : Env} {s : State} {m : MethodId} {args : Array Value} {below : List Frame} {meth : Method} {c : Code} {Q : State → Prop} {D : va_G} {g : Nat → ClassId} {ad : Nat → Nat} {tb : Nat} {sa : Nat → Nat} {A : Nat → Prop} {w : Wd} {mo : Nat} {ml : Nat → Nat} {cd mn : Nat} {ki on tw od fa st rs : Nat → Nat} {me fo fd : Nat} {ba ta by9 : Nat → Nat} {nd : Nat → Bool} {f h n : Nat} (hM0 : moW g w mo ml cd mn ki on tw od fa st rs me fo fd ba ta by9 nd) (hn : n < 64) (hf : f < 40) (hh : h < 40) (hrs : ∀ x, x < 2560 → rs x < 32003) (C0 : cx p s m args c A cM_numberOf 8 RM D g ad tb sa) : ∀ (e9 : Nat) (i : Nat) (w1 : Wd), (i + e9 = n + 1) → (w1 = w) → ∀ (H : Heap) (locs : List Loc), hw D vwCl A w1 H → va_S A s.heap H locs → ∀ ls : Array Slot, lv_has ls 8 [(0, .ref mo), (2, .int (nI n)), (3, .int (nI (64 * f))), (4, .int (nI (64 * h))), (5, .long (lN (ns (fun i => rs (64 * f + i) * rs (64 * h + (n - i))) i % 32003))), (7, .int (nI i))] → (∀ (w1 : Wd), (w1 = w) → ∀ (H : Heap) (locs : List Loc), hw D vwCl A w1 H → va_S A s.heap H locs → ∀ ls : Array Slot, lv_has ls 8 [(5, .long (lN (ns (fun i => rs (64 * f + i) * rs (64 * h + (n - i))) (n + 1) % 32003)))] → W p l e (rmL 2 55 0 0) s m args below meth c H locs 0 0 Q (F0 m 170 ls [])) → W p l e (rmL 2 55 0 0) s m args below meth c H locs 0 0 Q (F0 m 127 ls []) := by
  obtain ⟨hx, hb, hml, hts, hown, hK, hk, hAA⟩ := C0
  intro e9
  induction e9 with
  | zero =>
    intro i w1 hi ew H locs hW hS ls hl kk0
    subst ew
    have hM := hM0
    refine lv_iload hx hb dM_numberOf_127 (lv_at hl 5 rfl) ?_
    refine lv_iload_n hx hb dM_numberOf_129 rfl (lv_at hl 1 rfl) ?_
    refine nw_icmp_gt (tgt := 170) hx hb (by omega) (by omega) dM_numberOf_130 (by decide) (fun c1 => ?_) (fun c1 => absurd c1 (by omega))
    rw [show i = n + 1 by omega] at hl
    exact kk0 w1 rfl H locs hW hS ls (lv_sub hl [4] rfl)
  | succ e9 ih =>
    intro i w1 hi ew H locs hW hS ls hl kk0
    subst ew
    have hM := hM0
    have hr1 := hrs (64 * f + i) (by omega)
    have hr2 := hrs (64 * h + (n - i)) (by omega)
    have hml9 := mul_small hr1 hr2
    have hsl : ns (fun i => rs (64 * f + i) * rs (64 * h + (n - i))) i % 32003 < 32003 := Nat.mod_lt _ (by decide)
    refine lv_iload hx hb dM_numberOf_127 (lv_at hl 5 rfl) ?_
    refine lv_iload_n hx hb dM_numberOf_129 rfl (lv_at hl 1 rfl) ?_
    refine nw_icmp_gt (tgt := 170) hx hb (by omega) (by omega) dM_numberOf_130 (by decide) (fun c1 => absurd (show n < i from c1) (by omega)) (fun c1 => ?_)
    refine lv_lload hx hb dM_numberOf_133 (lv_at hl 4 rfl) ?_
    refine lv_aload_n hx hb dM_numberOf_135 rfl (lv_at hl 0 rfl) ?_
    refine hw_get (v := .ref (ml 6)) (C := RM) (T := TM) (N := 16) hx hb hts inM hown hK hW hM.1 rfl 8 (by decide) (hts _ bw_525) (fun _ h9 => h9) rfl dM_numberOf_136 ?_
    refine lv_iload_n hx hb dM_numberOf_139 rfl (lv_at hl 2 rfl) ?_
    refine lv_iload hx hb dM_numberOf_140 (lv_at hl 5 rfl) ?_
    refine lv_iadd hx hb dM_numberOf_142 ?_
    refine tp_i (show (nI (64 * f)) + (nI i) = nI ((64 * f) + i) from nI_add _ _) ?_
    refine hw_lald hx hb hK hW 2 hM.2.2.2.2.2.2.2.1 rfl (vp_in_nI (show (64 * f) + i < 2560 by omega) (by omega)) dM_numberOf_143 ?_
    refine tp_l (show (nl rs) (nI ((64 * f) + i)).toNatClampNeg = lN (rs ((64 * f) + i)) from by rw [nI_clamp (by omega)]; rfl) ?_
    refine lv_aload_n hx hb dM_numberOf_144 rfl (lv_at hl 0 rfl) ?_
    refine hw_get (v := .ref (ml 6)) (C := RM) (T := TM) (N := 16) hx hb hts inM hown hK hW hM.1 rfl 8 (by decide) (hts _ bw_525) (fun _ h9 => h9) rfl dM_numberOf_145 ?_
    refine lv_iload hx hb dM_numberOf_148 (lv_at hl 3 rfl) ?_
    refine lv_iload_n hx hb dM_numberOf_150 rfl (lv_at hl 1 rfl) ?_
    refine lv_iadd hx hb dM_numberOf_151 ?_
    refine tp_i (show (nI (64 * h)) + (nI n) = nI ((64 * h) + n) from nI_add _ _) ?_
    refine lv_iload hx hb dM_numberOf_152 (lv_at hl 5 rfl) ?_
    refine lv_isub hx hb dM_numberOf_154 ?_
    refine tp_i (show (nI ((64 * h) + n)) - (nI i) = nI (64 * h + (n - i)) from by rw [pk_sub (by omega), show 64 * h + n - i = 64 * h + (n - i) by omega]) ?_
    refine hw_lald hx hb hK hW 2 hM.2.2.2.2.2.2.2.1 rfl (vp_in_nI (show 64 * h + (n - i) < 2560 by omega) (by omega)) dM_numberOf_155 ?_
    refine tp_l (show (nl rs) (nI (64 * h + (n - i))).toNatClampNeg = lN (rs (64 * h + (n - i))) from by rw [nI_clamp (by omega)]; rfl) ?_
    refine lv_lmul hx hb dM_numberOf_156 ?_
    refine tp_l (show (lN (rs ((64 * f) + i))) * (lN (rs (64 * h + (n - i)))) = lN ((rs ((64 * f) + i)) * (rs (64 * h + (n - i)))) from lN_mul _ _) ?_
    refine lv_ladd hx hb dM_numberOf_157 ?_
    refine tp_l (show (lN (ns (fun i => rs (64 * f + i) * rs (64 * h + (n - i))) i % 32003)) + (lN ((rs ((64 * f) + i)) * (rs (64 * h + (n - i))))) = lN ((ns (fun i => rs (64 * f + i) * rs (64 * h + (n - i))) i % 32003) + ((rs ((64 * f) + i)) * (rs (64 * h + (n - i))))) from lN_add _ _) ?_
    refine lv_ldc2 (v := 32003) hx hb hown (hts _ bw_595) dM_numberOf_158 ?_
    refine tp_l (show (32003 : Int64) = lN 32003 by decide) ?_
    refine lv_lrem hx hb dM_numberOf_161 (by decide) ?_
    refine tp_l (show (lN ((ns (fun i => rs (64 * f + i) * rs (64 * h + (n - i))) i % 32003) + ((rs ((64 * f) + i)) * (rs (64 * h + (n - i)))))) - (lN ((ns (fun i => rs (64 * f + i) * rs (64 * h + (n - i))) i % 32003) + ((rs ((64 * f) + i)) * (rs (64 * h + (n - i)))))) / (lN 32003) * (lN 32003) = lN (ns (fun i => rs (64 * f + i) * rs (64 * h + (n - i))) (i + 1) % 32003) from by rw [lrem_lN (by omega), ns_mod]) ?_
    refine lv_lstore (lv' := [(5, .long (lN (ns (fun i => rs (64 * f + i) * rs (64 * h + (n - i))) (i + 1) % 32003))), (0, .ref mo), (2, .int (nI n)), (3, .int (nI (64 * f))), (4, .int (nI (64 * h))), (7, .int (nI i))]) hx hb dM_numberOf_162 hl (by decide) rfl (fun ls hl => ?_)
    refine lv_iinc (v := nI (i + 1)) (lv' := [(7, .int (nI (i + 1))), (5, .long (lN (ns (fun i => rs (64 * f + i) * rs (64 * h + (n - i))) (i + 1) % 32003))), (0, .ref mo), (2, .int (nI n)), (3, .int (nI (64 * f))), (4, .int (nI (64 * h)))]) hx hb dM_numberOf_164 hl (k := 5) rfl (nI_1 _) (by decide) rfl (fun ls hl => ?_)
    refine lv_goto (tgt := 127) hx hb dM_numberOf_167 (by decide) ?_
    exact ih (i + 1) w1 (by omega) rfl H locs hW hS ls (lv_sub hl [2, 3, 4, 5, 1, 0] rfl) kk0

set_option maxHeartbeats 1000000 in
set_option maxRecDepth 100000 in
theorem c_M_numberOf (l : Launch) (D : va_G) (g : Nat → ClassId) (ad : Nat → Nat) (tb : Nat) (sa : Nat → Nat) (w : Wd) (sz : Nat) (mo : Nat) (ml : Nat → Nat) (cd mn : Nat) (ki on tw od fa st rs : Nat → Nat) (me fo fd : Nat) (ba ta by9 : Nat → Nat) (nd : Nat → Bool) (hM : moW g w mo ml cd mn ki on tw od fa st rs me fo fd ba ta by9 nd) (σ : Nat → SD) (hS9 : mS σ mn ki on tw od fa st) (s9 n : Nat) (hsc : s9 < mn) (hn : n < 64) (hrs : ∀ x, x < 2560 → rs x < 32003) (hpr : ∀ j, j < s9 → ∀ m, m < 64 → rs (64 * j + m) = sval σ j m) (hpn : ∀ m, m < n → rs (64 * s9 + m) = sval σ s9 m) : ML l D g ad tb sa yM_numberOf cM_numberOf 8 (some (.long)) 2 55 0 0 w sz [.ref mo, .int (nI s9), .int (nI n)] (fun r w' => w' = w ∧ r = lN (sval σ s9 n)) := by
  refine hm_ML (by decide) (Nat.le_of_ble_eq_true rfl) ?_
  intro p e s m below meth c A ls hx hb hr hml hts hown hlocks hin hout hsz hW hK hk hS hAA hl
  have hl : lv_has ls 8 [(0, .ref mo), (1, .int (nI s9)), (2, .int (nI n))] := hl
  have hmn := hS9.1
  obtain ⟨q1, q2, q3, q4, q5, q6⟩ := hS9.2.2 s9 hsc
  refine lv_bipush (v := nI 64) hx hb dM_numberOf_0 (by decide) ?_
  refine lv_aload_n hx hb dM_numberOf_2 rfl (lv_at hl 0 rfl) ?_
  refine hw_get (v := .ref (ml 1)) (C := RM) (T := TM) (N := 16) hx hb hts inM hown hK hW hM.1 rfl 3 (by decide) (hts _ bw_520) (fun _ h9 => h9) rfl dM_numberOf_3 ?_
  refine lv_iload_n hx hb dM_numberOf_6 rfl (lv_at hl 1 rfl) ?_
  refine hw_iald hx hb hK hW 0 hM.2.2.1 rfl (vp_in_nI (show s9 < 40 by omega) (by omega)) dM_numberOf_7 ?_
  refine tp_i (show (ni on) (nI s9).toNatClampNeg = nI (on s9) from by rw [nI_clamp (by omega)]; rfl) ?_
  refine lv_imul hx hb dM_numberOf_8 ?_
  refine tp_i (show (nI 64) * (nI (on s9)) = nI (64 * (on s9)) from pk_mul _ _) ?_
  refine lv_istore_n (lv' := [(3, .int (nI (64 * (on s9)))), (0, .ref mo), (1, .int (nI s9)), (2, .int (nI n))]) hx hb dM_numberOf_9 rfl hl (by decide) rfl (fun ls hl => ?_)
  refine lv_bipush (v := nI 64) hx hb dM_numberOf_10 (by decide) ?_
  refine lv_aload_n hx hb dM_numberOf_12 rfl (lv_at hl 1 rfl) ?_
  refine hw_get (v := .ref (ml 2)) (C := RM) (T := TM) (N := 16) hx hb hts inM hown hK hW hM.1 rfl 4 (by decide) (hts _ bw_521) (fun _ h9 => h9) rfl dM_numberOf_13 ?_
  refine lv_iload_n hx hb dM_numberOf_16 rfl (lv_at hl 2 rfl) ?_
  refine hw_iald hx hb hK hW 0 hM.2.2.2.1 rfl (vp_in_nI (show s9 < 40 by omega) (by omega)) dM_numberOf_17 ?_
  refine tp_i (show (ni tw) (nI s9).toNatClampNeg = nI (tw s9) from by rw [nI_clamp (by omega)]; rfl) ?_
  refine lv_imul hx hb dM_numberOf_18 ?_
  refine tp_i (show (nI 64) * (nI (tw s9)) = nI (64 * (tw s9)) from pk_mul _ _) ?_
  refine lv_istore (lv' := [(4, .int (nI (64 * (tw s9)))), (3, .int (nI (64 * (on s9)))), (0, .ref mo), (1, .int (nI s9)), (2, .int (nI n))]) hx hb dM_numberOf_19 hl (by decide) rfl (fun ls hl => ?_)
  refine lv_aload_n hx hb dM_numberOf_21 rfl (lv_at hl 2 rfl) ?_
  refine hw_get (v := .ref (ml 0)) (C := RM) (T := TM) (N := 16) hx hb hts inM hown hK hW hM.1 rfl 2 (by decide) (hts _ bw_519) (fun _ h9 => h9) rfl dM_numberOf_22 ?_
  refine lv_iload_n hx hb dM_numberOf_25 rfl (lv_at hl 3 rfl) ?_
  refine hw_iald hx hb hK hW 0 hM.2.1 rfl (vp_in_nI (show s9 < 40 by omega) (by omega)) dM_numberOf_26 ?_
  refine tp_i (show (ni ki) (nI s9).toNatClampNeg = nI (ki s9) from by rw [nI_clamp (by omega)]; rfl) ?_
  refine tp_i (show nI (ki s9) = nI (sTg (σ s9)) from by rw [q1]) ?_
  have hP := sval_at hS9.2.1 hsc hn
  have hcase : sTg (σ s9) = 0 ∨ sTg (σ s9) = 1 ∨ sTg (σ s9) = 2 ∨ sTg (σ s9) = 3 ∨ sTg (σ s9) = 4 ∨ sTg (σ s9) = 5 ∨ sTg (σ s9) = 6 ∨ sTg (σ s9) = 7 := by omega
  rcases hcase with hk9 | hk9 | hk9 | hk9 | hk9 | hk9 | hk9 | hk9
  · rw [hk9]
    refine lv_tableIn (off := 41) (tgt := 68) hx hb dM_numberOf_27 (by decide) (by decide) (by decide) (by decide) ?_
    refine lv_aload_n hx hb dM_numberOf_68 rfl (lv_at hl 2 rfl) ?_
    refine lv_iload_n hx hb dM_numberOf_69 rfl (lv_at hl 3 rfl) ?_
    refine lv_iload_n hx hb dM_numberOf_70 rfl (lv_at hl 4 rfl) ?_
    refine kc_VL (n := 2) (As := [.int (nI s9), .int (nI n)]) (rest := []) ⟨hx, hb, hml, hown, hts⟩ (c_M_recurred l D g ad tb sa w s.heap.size mo ml cd mn ki on tw od fa st rs me fo fd ba ta by9 nd hM σ hS9 s9 n hsc hk9 hn hrs) bw_650 bw_652 bs_22 bw_3 bw_653 (by decide +kernel) rfl rfl hM.1 ⟨by decide, by decide⟩ hW hK hk hS hAA rfl hl.1 rfl (Nat.le_of_ble_eq_true rfl) dM_numberOf_71 ⟨by decide, by decide⟩ (fun r1 w2 H locs hp hW hS => ?_)
    obtain ⟨hw9, hr9⟩ := hp
    rw [hw9] at hW
    subst hr9
    exact W.lret (v := lN (rAt (sP (σ s9)) (sF (σ s9)) (sS (σ s9)) (fun m => rs (64 * s9 + m)) n)) hx hb hr (fun t ht hW9 => ⟨⟨lN (rAt (sP (σ s9)) (sF (σ s9)) (sS (σ s9)) (fun m => rs (64 * s9 + m)) n), w, rfl, ⟨rfl, by rw [hP]; unfold atP; rw [if_pos hk9]; exact congrArg lN (rAt_congr (fun m hm => hpn m hm))⟩, by rw [ht]; exact hW, va_K.moved hW9.alike hK⟩, hS.F ht⟩) hS.2.2 dM_numberOf_74
  · rw [hk9]
    refine lv_tableIn (off := 48) (tgt := 75) hx hb dM_numberOf_27 (by decide) (by decide) (by decide) (by decide) ?_
    obtain ⟨p1, p2⟩ := hS9.2.1 s9 hsc (by omega)
    obtain ⟨y1, y2, y3, y4⟩ := q4 (by omega)
    have hF := hpr _ p1
    have hG := hpr _ p2
    rw [y1] at hl
    rw [y2 (by omega)] at hl
    have hFn := hF n hn
    have hGn := hG n hn
    have hr1 := hrs (64 * sP (σ s9) + n) (by omega)
    have hr2 := hrs (64 * sQ (σ s9) + n) (by omega)
    have hml9 := mul_small hr1 hr2
    refine lv_aload_n hx hb dM_numberOf_75 rfl (lv_at hl 2 rfl) ?_
    refine hw_get (v := .ref (ml 6)) (C := RM) (T := TM) (N := 16) hx hb hts inM hown hK hW hM.1 rfl 8 (by decide) (hts _ bw_525) (fun _ h9 => h9) rfl dM_numberOf_76 ?_
    refine lv_iload_n hx hb dM_numberOf_79 rfl (lv_at hl 1 rfl) ?_
    refine lv_iload_n hx hb dM_numberOf_80 rfl (lv_at hl 4 rfl) ?_
    refine lv_iadd hx hb dM_numberOf_81 ?_
    refine tp_i (show (nI (64 * sP (σ s9))) + (nI n) = nI ((64 * sP (σ s9)) + n) from nI_add _ _) ?_
    refine hw_lald hx hb hK hW 2 hM.2.2.2.2.2.2.2.1 rfl (vp_in_nI (show (64 * sP (σ s9)) + n < 2560 by omega) (by omega)) dM_numberOf_82 ?_
    refine tp_l (show (nl rs) (nI ((64 * sP (σ s9)) + n)).toNatClampNeg = lN (rs ((64 * sP (σ s9)) + n)) from by rw [nI_clamp (by omega)]; rfl) ?_
    refine lv_aload_n hx hb dM_numberOf_83 rfl (lv_at hl 2 rfl) ?_
    refine hw_get (v := .ref (ml 6)) (C := RM) (T := TM) (N := 16) hx hb hts inM hown hK hW hM.1 rfl 8 (by decide) (hts _ bw_525) (fun _ h9 => h9) rfl dM_numberOf_84 ?_
    refine lv_iload hx hb dM_numberOf_87 (lv_at hl 0 rfl) ?_
    refine lv_iload_n hx hb dM_numberOf_89 rfl (lv_at hl 4 rfl) ?_
    refine lv_iadd hx hb dM_numberOf_90 ?_
    refine tp_i (show (nI (64 * sQ (σ s9))) + (nI n) = nI ((64 * sQ (σ s9)) + n) from nI_add _ _) ?_
    refine hw_lald hx hb hK hW 2 hM.2.2.2.2.2.2.2.1 rfl (vp_in_nI (show (64 * sQ (σ s9)) + n < 2560 by omega) (by omega)) dM_numberOf_91 ?_
    refine tp_l (show (nl rs) (nI ((64 * sQ (σ s9)) + n)).toNatClampNeg = lN (rs ((64 * sQ (σ s9)) + n)) from by rw [nI_clamp (by omega)]; rfl) ?_
    refine lv_ladd hx hb dM_numberOf_92 ?_
    refine tp_l (show (lN (rs ((64 * sP (σ s9)) + n))) + (lN (rs ((64 * sQ (σ s9)) + n))) = lN ((rs ((64 * sP (σ s9)) + n)) + (rs ((64 * sQ (σ s9)) + n))) from lN_add _ _) ?_
    refine lv_ldc2 (v := 32003) hx hb hown (hts _ bw_595) dM_numberOf_93 ?_
    refine tp_l (show (32003 : Int64) = lN 32003 by decide) ?_
    refine lv_lrem hx hb dM_numberOf_96 (by decide) ?_
    refine tp_l (show (lN ((rs ((64 * sP (σ s9)) + n)) + (rs ((64 * sQ (σ s9)) + n)))) - (lN ((rs ((64 * sP (σ s9)) + n)) + (rs ((64 * sQ (σ s9)) + n)))) / (lN 32003) * (lN 32003) = lN ((rs (64 * sP (σ s9) + n) + rs (64 * sQ (σ s9) + n)) % 32003) from lrem_lN (by omega)) ?_
    exact W.lret (v := lN ((rs (64 * sP (σ s9) + n) + rs (64 * sQ (σ s9) + n)) % 32003)) hx hb hr (fun t ht hW9 => ⟨⟨lN ((rs (64 * sP (σ s9) + n) + rs (64 * sQ (σ s9) + n)) % 32003), w, rfl, ⟨rfl, by rw [hP]; unfold atP; rw [if_neg (by omega), hk9]; show _ = lN ((_ + _) % 32003); rw [hFn, hGn]⟩, by rw [ht]; exact hW, va_K.moved hW9.alike hK⟩, hS.F ht⟩) hS.2.2 dM_numberOf_97
  · rw [hk9]
    refine lv_tableIn (off := 71) (tgt := 98) hx hb dM_numberOf_27 (by decide) (by decide) (by decide) (by decide) ?_
    obtain ⟨p1, p2⟩ := hS9.2.1 s9 hsc (by omega)
    obtain ⟨y1, y2, y3, y4⟩ := q4 (by omega)
    have hF := hpr _ p1
    have hG := hpr _ p2
    rw [y1] at hl
    rw [y2 (by omega)] at hl
    have hFn := hF n hn
    have hGn := hG n hn
    have hr1 := hrs (64 * sP (σ s9) + n) (by omega)
    have hr2 := hrs (64 * sQ (σ s9) + n) (by omega)
    have hml9 := mul_small hr1 hr2
    refine lv_aload_n hx hb dM_numberOf_98 rfl (lv_at hl 2 rfl) ?_
    refine hw_get (v := .ref (ml 6)) (C := RM) (T := TM) (N := 16) hx hb hts inM hown hK hW hM.1 rfl 8 (by decide) (hts _ bw_525) (fun _ h9 => h9) rfl dM_numberOf_99 ?_
    refine lv_iload_n hx hb dM_numberOf_102 rfl (lv_at hl 1 rfl) ?_
    refine lv_iload_n hx hb dM_numberOf_103 rfl (lv_at hl 4 rfl) ?_
    refine lv_iadd hx hb dM_numberOf_104 ?_
    refine tp_i (show (nI (64 * sP (σ s9))) + (nI n) = nI ((64 * sP (σ s9)) + n) from nI_add _ _) ?_
    refine hw_lald hx hb hK hW 2 hM.2.2.2.2.2.2.2.1 rfl (vp_in_nI (show (64 * sP (σ s9)) + n < 2560 by omega) (by omega)) dM_numberOf_105 ?_
    refine tp_l (show (nl rs) (nI ((64 * sP (σ s9)) + n)).toNatClampNeg = lN (rs ((64 * sP (σ s9)) + n)) from by rw [nI_clamp (by omega)]; rfl) ?_
    refine lv_aload_n hx hb dM_numberOf_106 rfl (lv_at hl 2 rfl) ?_
    refine hw_get (v := .ref (ml 6)) (C := RM) (T := TM) (N := 16) hx hb hts inM hown hK hW hM.1 rfl 8 (by decide) (hts _ bw_525) (fun _ h9 => h9) rfl dM_numberOf_107 ?_
    refine lv_iload hx hb dM_numberOf_110 (lv_at hl 0 rfl) ?_
    refine lv_iload_n hx hb dM_numberOf_112 rfl (lv_at hl 4 rfl) ?_
    refine lv_iadd hx hb dM_numberOf_113 ?_
    refine tp_i (show (nI (64 * sQ (σ s9))) + (nI n) = nI ((64 * sQ (σ s9)) + n) from nI_add _ _) ?_
    refine hw_lald hx hb hK hW 2 hM.2.2.2.2.2.2.2.1 rfl (vp_in_nI (show (64 * sQ (σ s9)) + n < 2560 by omega) (by omega)) dM_numberOf_114 ?_
    refine tp_l (show (nl rs) (nI ((64 * sQ (σ s9)) + n)).toNatClampNeg = lN (rs ((64 * sQ (σ s9)) + n)) from by rw [nI_clamp (by omega)]; rfl) ?_
    refine lv_lmul hx hb dM_numberOf_115 ?_
    refine tp_l (show (lN (rs ((64 * sP (σ s9)) + n))) * (lN (rs ((64 * sQ (σ s9)) + n))) = lN ((rs ((64 * sP (σ s9)) + n)) * (rs ((64 * sQ (σ s9)) + n))) from lN_mul _ _) ?_
    refine lv_ldc2 (v := 32003) hx hb hown (hts _ bw_595) dM_numberOf_116 ?_
    refine tp_l (show (32003 : Int64) = lN 32003 by decide) ?_
    refine lv_lrem hx hb dM_numberOf_119 (by decide) ?_
    refine tp_l (show (lN ((rs ((64 * sP (σ s9)) + n)) * (rs ((64 * sQ (σ s9)) + n)))) - (lN ((rs ((64 * sP (σ s9)) + n)) * (rs ((64 * sQ (σ s9)) + n)))) / (lN 32003) * (lN 32003) = lN (rs (64 * sP (σ s9) + n) * rs (64 * sQ (σ s9) + n) % 32003) from lrem_lN (by omega)) ?_
    exact W.lret (v := lN (rs (64 * sP (σ s9) + n) * rs (64 * sQ (σ s9) + n) % 32003)) hx hb hr (fun t ht hW9 => ⟨⟨lN (rs (64 * sP (σ s9) + n) * rs (64 * sQ (σ s9) + n) % 32003), w, rfl, ⟨rfl, by rw [hP]; unfold atP; rw [if_neg (by omega), hk9]; show _ = lN (_ * _ % 32003); rw [hFn, hGn]⟩, by rw [ht]; exact hW, va_K.moved hW9.alike hK⟩, hS.F ht⟩) hS.2.2 dM_numberOf_120
  · rw [hk9]
    refine lv_tableIn (off := 94) (tgt := 121) hx hb dM_numberOf_27 (by decide) (by decide) (by decide) (by decide) ?_
    obtain ⟨p1, p2⟩ := hS9.2.1 s9 hsc (by omega)
    obtain ⟨y1, y2, y3, y4⟩ := q4 (by omega)
    have hF := hpr _ p1
    have hG := hpr _ p2
    rw [y1] at hl
    rw [y2 (by omega)] at hl
    have hFn := hF n hn
    have hGn := hG n hn
    have hr1 := hrs (64 * sP (σ s9) + n) (by omega)
    have hr2 := hrs (64 * sQ (σ s9) + n) (by omega)
    have hml9 := mul_small hr1 hr2
    refine lv_lconst (v := lN 0) hx hb dM_numberOf_121 (by decide) ?_
    refine lv_lstore (lv' := [(5, .long (lN 0)), (4, .int (nI (64 * sQ (σ s9)))), (3, .int (nI (64 * sP (σ s9)))), (0, .ref mo), (1, .int (nI s9)), (2, .int (nI n))]) hx hb dM_numberOf_122 hl (by decide) rfl (fun ls hl => ?_)
    refine lv_iconst (v := nI 0) hx hb dM_numberOf_124 (by decide) ?_
    refine lv_istore (lv' := [(7, .int (nI 0)), (5, .long (lN 0)), (4, .int (nI (64 * sQ (σ s9)))), (3, .int (nI (64 * sP (σ s9)))), (0, .ref mo), (1, .int (nI s9)), (2, .int (nI n))]) hx hb dM_numberOf_125 hl (by decide) rfl (fun ls hl => ?_)
    have hl : lv_has ls 8 [(0, .ref mo), (2, .int (nI n)), (3, .int (nI (64 * sP (σ s9)))), (4, .int (nI (64 * sQ (σ s9)))), (5, .long (lN (ns (fun i => rs (64 * sP (σ s9) + i) * rs (64 * sQ (σ s9) + (n - i))) 0 % 32003))), (7, .int (nI 0))] := lv_sub hl [4, 6, 3, 2, 1, 0] rfl
    refine lp_M_fold hM hn (show sP (σ s9) < 40 by omega) (show sQ (σ s9) < 40 by omega) hrs ⟨hx, hb, hml, hts, hown, hK, hk, hAA⟩ (n + 1) 0 w (by omega) rfl _ _ hW hS ls (lv_sub hl [0, 1, 2, 3, 4, 5] rfl) ?_
    intro w1 ew H locs hW hS ls hl
    rw [ew] at hW
    refine lv_lload hx hb dM_numberOf_170 (lv_at hl 0 rfl) ?_
    exact W.lret (v := lN (ns (fun i => rs (64 * sP (σ s9) + i) * rs (64 * sQ (σ s9) + (n - i))) (n + 1) % 32003)) hx hb hr (fun t ht hW9 => ⟨⟨lN (ns (fun i => rs (64 * sP (σ s9) + i) * rs (64 * sQ (σ s9) + (n - i))) (n + 1) % 32003), w, rfl, ⟨rfl, by rw [hP]; unfold atP; rw [if_neg (by omega), hk9]; show _ = lN (ns _ (n + 1) % 32003); rw [ns_congr (fun i hi => by rw [hF i (by omega), hG (n - i) (by omega)])]⟩, by rw [ht]; exact hW, va_K.moved hW9.alike hK⟩, hS.F ht⟩) hS.2.2 dM_numberOf_172
  · rw [hk9]
    refine lv_tableIn (off := 146) (tgt := 173) hx hb dM_numberOf_27 (by decide) (by decide) (by decide) (by decide) ?_
    obtain ⟨p1, p2⟩ := hS9.2.1 s9 hsc (by omega)
    obtain ⟨y1, y2, y3, y4⟩ := q4 (by omega)
    have hF := hpr _ p1
    have hG := hpr _ p2
    rw [y1] at hl
    rw [y2 (by omega)] at hl
    have hFn := hF n hn
    have hGn := hG n hn
    have hr1 := hrs (64 * sP (σ s9) + n) (by omega)
    have hr2 := hrs (64 * sQ (σ s9) + n) (by omega)
    have hml9 := mul_small hr1 hr2
    refine lv_iload_n hx hb dM_numberOf_173 rfl (lv_at hl 4 rfl) ?_
    refine lv_iconst (v := nI 2) hx hb dM_numberOf_174 (by decide) ?_
    refine lv_irem hx hb dM_numberOf_175 (by decide) ?_
    refine tp_i (show (nI n) - (nI n) / (nI 2) * (nI 2) = nI (n % 2) from pk_rem (by omega) (by decide) (by decide)) ?_
    refine nw_if_ne (tgt := 192) hx hb (by omega) dM_numberOf_176 (by decide) (fun c1 => ?_) (fun c1 => ?_)
    · refine lv_aload_n hx hb dM_numberOf_192 rfl (lv_at hl 2 rfl) ?_
      refine hw_get (v := .ref (ml 6)) (C := RM) (T := TM) (N := 16) hx hb hts inM hown hK hW hM.1 rfl 8 (by decide) (hts _ bw_525) (fun _ h9 => h9) rfl dM_numberOf_193 ?_
      refine lv_iload hx hb dM_numberOf_196 (lv_at hl 0 rfl) ?_
      refine lv_iload_n hx hb dM_numberOf_198 rfl (lv_at hl 4 rfl) ?_
      refine lv_iconst (v := nI 2) hx hb dM_numberOf_199 (by decide) ?_
      refine lv_idiv hx hb dM_numberOf_200 (by decide) ?_
      refine tp_i (show (nI n) / (nI 2) = nI (n / 2) from pk_div (by omega) (by decide) (by decide)) ?_
      refine lv_iadd hx hb dM_numberOf_201 ?_
      refine tp_i (show (nI (64 * sQ (σ s9))) + (nI (n / 2)) = nI ((64 * sQ (σ s9)) + (n / 2)) from nI_add _ _) ?_
      refine hw_lald hx hb hK hW 2 hM.2.2.2.2.2.2.2.1 rfl (vp_in_nI (show (64 * sQ (σ s9)) + (n / 2) < 2560 by omega) (by omega)) dM_numberOf_202 ?_
      refine tp_l (show (nl rs) (nI ((64 * sQ (σ s9)) + (n / 2))).toNatClampNeg = lN (rs ((64 * sQ (σ s9)) + (n / 2))) from by rw [nI_clamp (by omega)]; rfl) ?_
      exact W.lret (v := lN (rs ((64 * sQ (σ s9)) + (n / 2)))) hx hb hr (fun t ht hW9 => ⟨⟨lN (rs ((64 * sQ (σ s9)) + (n / 2))), w, rfl, ⟨rfl, by rw [hP]; unfold atP; rw [if_neg (by omega), hk9]; show _ = lN (if n % 2 = 0 then _ else _); rw [if_neg c1, hG _ (by omega), show (n - 1) / 2 = n / 2 by omega]⟩, by rw [ht]; exact hW, va_K.moved hW9.alike hK⟩, hS.F ht⟩) hS.2.2 dM_numberOf_203
    · refine lv_aload_n hx hb dM_numberOf_179 rfl (lv_at hl 2 rfl) ?_
      refine hw_get (v := .ref (ml 6)) (C := RM) (T := TM) (N := 16) hx hb hts inM hown hK hW hM.1 rfl 8 (by decide) (hts _ bw_525) (fun _ h9 => h9) rfl dM_numberOf_180 ?_
      refine lv_iload_n hx hb dM_numberOf_183 rfl (lv_at hl 1 rfl) ?_
      refine lv_iload_n hx hb dM_numberOf_184 rfl (lv_at hl 4 rfl) ?_
      refine lv_iconst (v := nI 2) hx hb dM_numberOf_185 (by decide) ?_
      refine lv_idiv hx hb dM_numberOf_186 (by decide) ?_
      refine tp_i (show (nI n) / (nI 2) = nI (n / 2) from pk_div (by omega) (by decide) (by decide)) ?_
      refine lv_iadd hx hb dM_numberOf_187 ?_
      refine tp_i (show (nI (64 * sP (σ s9))) + (nI (n / 2)) = nI ((64 * sP (σ s9)) + (n / 2)) from nI_add _ _) ?_
      refine hw_lald hx hb hK hW 2 hM.2.2.2.2.2.2.2.1 rfl (vp_in_nI (show (64 * sP (σ s9)) + (n / 2) < 2560 by omega) (by omega)) dM_numberOf_188 ?_
      refine tp_l (show (nl rs) (nI ((64 * sP (σ s9)) + (n / 2))).toNatClampNeg = lN (rs ((64 * sP (σ s9)) + (n / 2))) from by rw [nI_clamp (by omega)]; rfl) ?_
      refine lv_goto (tgt := 203) hx hb dM_numberOf_189 (by decide) ?_
      exact W.lret (v := lN (rs ((64 * sP (σ s9)) + (n / 2)))) hx hb hr (fun t ht hW9 => ⟨⟨lN (rs ((64 * sP (σ s9)) + (n / 2))), w, rfl, ⟨rfl, by rw [hP]; unfold atP; rw [if_neg (by omega), hk9]; show _ = lN (if n % 2 = 0 then _ else _); rw [if_pos c1, hF _ (by omega)]⟩, by rw [ht]; exact hW, va_K.moved hW9.alike hK⟩, hS.F ht⟩) hS.2.2 dM_numberOf_203
  · rw [hk9]
    refine lv_tableIn (off := 177) (tgt := 204) hx hb dM_numberOf_27 (by decide) (by decide) (by decide) (by decide) ?_
    obtain ⟨p1, p2⟩ := hS9.2.1 s9 hsc (by omega)
    obtain ⟨y1, y2, y3, y4⟩ := q4 (by omega)
    have hF := hpr _ p1
    have hG := hpr _ p2
    rw [y1] at hl
    have hr1 := hrs (64 * sP (σ s9) + n) (by omega)
    have hr2 := hrs (64 * sQ (σ s9) + n) (by omega)
    have hml9 := mul_small hr1 hr2
    obtain ⟨y5, y6⟩ := y3 hk9
    refine lv_iload_n hx hb dM_numberOf_204 rfl (lv_at hl 4 rfl) ?_
    refine lv_aload_n hx hb dM_numberOf_205 rfl (lv_at hl 2 rfl) ?_
    refine hw_get (v := .ref (ml 2)) (C := RM) (T := TM) (N := 16) hx hb hts inM hown hK hW hM.1 rfl 4 (by decide) (hts _ bw_521) (fun _ h9 => h9) rfl dM_numberOf_206 ?_
    refine lv_iload_n hx hb dM_numberOf_209 rfl (lv_at hl 3 rfl) ?_
    refine hw_iald hx hb hK hW 0 hM.2.2.2.1 rfl (vp_in_nI (show s9 < 40 by omega) (by omega)) dM_numberOf_210 ?_
    refine tp_i (show (ni tw) (nI s9).toNatClampNeg = nI (tw s9) from by rw [nI_clamp (by omega)]; rfl) ?_
    refine tp_i (show nI (tw s9) = nI (sDi (σ s9)) from by rw [y5]) ?_
    refine lv_iadd hx hb dM_numberOf_211 ?_
    refine tp_i (show (nI n) + (nI (sDi (σ s9))) = nI (n + (sDi (σ s9))) from nI_add _ _) ?_
    refine lv_bipush (v := nI 64) hx hb dM_numberOf_212 (by decide) ?_
    refine nw_icmp_ge (tgt := 235) hx hb (by omega) (by omega) dM_numberOf_214 (by decide) (fun c1 => ?_) (fun c1 => ?_)
    · refine lv_lconst (v := lN 0) hx hb dM_numberOf_235 (by decide) ?_
      exact W.lret (v := lN 0) hx hb hr (fun t ht hW9 => ⟨⟨lN 0, w, rfl, ⟨rfl, by rw [hP]; unfold atP; rw [if_neg (by omega), hk9]; show _ = lN (if n + sDi (σ s9) < 64 then _ else 0); rw [if_neg (by omega)]⟩, by rw [ht]; exact hW, va_K.moved hW9.alike hK⟩, hS.F ht⟩) hS.2.2 dM_numberOf_236
    · refine lv_aload_n hx hb dM_numberOf_217 rfl (lv_at hl 2 rfl) ?_
      refine hw_get (v := .ref (ml 6)) (C := RM) (T := TM) (N := 16) hx hb hts inM hown hK hW hM.1 rfl 8 (by decide) (hts _ bw_525) (fun _ h9 => h9) rfl dM_numberOf_218 ?_
      refine lv_iload_n hx hb dM_numberOf_221 rfl (lv_at hl 1 rfl) ?_
      refine lv_iload_n hx hb dM_numberOf_222 rfl (lv_at hl 4 rfl) ?_
      refine lv_iadd hx hb dM_numberOf_223 ?_
      refine tp_i (show (nI (64 * sP (σ s9))) + (nI n) = nI ((64 * sP (σ s9)) + n) from nI_add _ _) ?_
      refine lv_aload_n hx hb dM_numberOf_224 rfl (lv_at hl 2 rfl) ?_
      refine hw_get (v := .ref (ml 2)) (C := RM) (T := TM) (N := 16) hx hb hts inM hown hK hW hM.1 rfl 4 (by decide) (hts _ bw_521) (fun _ h9 => h9) rfl dM_numberOf_225 ?_
      refine lv_iload_n hx hb dM_numberOf_228 rfl (lv_at hl 3 rfl) ?_
      refine hw_iald hx hb hK hW 0 hM.2.2.2.1 rfl (vp_in_nI (show s9 < 40 by omega) (by omega)) dM_numberOf_229 ?_
      refine tp_i (show (ni tw) (nI s9).toNatClampNeg = nI (tw s9) from by rw [nI_clamp (by omega)]; rfl) ?_
      refine tp_i (show nI (tw s9) = nI (sDi (σ s9)) from by rw [y5]) ?_
      refine lv_iadd hx hb dM_numberOf_230 ?_
      refine tp_i (show (nI ((64 * sP (σ s9)) + n)) + (nI (sDi (σ s9))) = nI (((64 * sP (σ s9)) + n) + (sDi (σ s9))) from nI_add _ _) ?_
      refine hw_lald hx hb hK hW 2 hM.2.2.2.2.2.2.2.1 rfl (vp_in_nI (show ((64 * sP (σ s9)) + n) + (sDi (σ s9)) < 2560 by omega) (by omega)) dM_numberOf_231 ?_
      refine tp_l (show (nl rs) (nI (((64 * sP (σ s9)) + n) + (sDi (σ s9)))).toNatClampNeg = lN (rs (((64 * sP (σ s9)) + n) + (sDi (σ s9)))) from by rw [nI_clamp (by omega)]; rfl) ?_
      refine lv_goto (tgt := 236) hx hb dM_numberOf_232 (by decide) ?_
      exact W.lret (v := lN (rs (((64 * sP (σ s9)) + n) + (sDi (σ s9))))) hx hb hr (fun t ht hW9 => ⟨⟨lN (rs (((64 * sP (σ s9)) + n) + (sDi (σ s9)))), w, rfl, ⟨rfl, by rw [hP]; unfold atP; rw [if_neg (by omega), hk9]; show _ = lN (if n + sDi (σ s9) < 64 then _ else 0); rw [if_pos (by omega), Nat.add_assoc, hF _ (by omega)]⟩, by rw [ht]; exact hW, va_K.moved hW9.alike hK⟩, hS.F ht⟩) hS.2.2 dM_numberOf_236
  · rw [hk9]
    refine lv_tableIn (off := 210) (tgt := 237) hx hb dM_numberOf_27 (by decide) (by decide) (by decide) (by decide) ?_
    obtain ⟨p1, p2⟩ := hS9.2.1 s9 hsc (by omega)
    obtain ⟨y1, y2, y3, y4⟩ := q4 (by omega)
    have hF := hpr _ p1
    have hG := hpr _ p2
    rw [y1] at hl
    have hr1 := hrs (64 * sP (σ s9) + n) (by omega)
    have hr2 := hrs (64 * sQ (σ s9) + n) (by omega)
    have hml9 := mul_small hr1 hr2
    refine lv_iload_n hx hb dM_numberOf_237 rfl (lv_at hl 4 rfl) ?_
    refine nw_if_le (tgt := 257) hx hb (by omega) dM_numberOf_238 (by decide) (fun c1 => ?_) (fun c1 => ?_)
    · refine lv_lconst (v := lN 0) hx hb dM_numberOf_257 (by decide) ?_
      refine lv_aload_n hx hb dM_numberOf_258 rfl (lv_at hl 2 rfl) ?_
      refine hw_get (v := .ref (ml 6)) (C := RM) (T := TM) (N := 16) hx hb hts inM hown hK hW hM.1 rfl 8 (by decide) (hts _ bw_525) (fun _ h9 => h9) rfl dM_numberOf_259 ?_
      refine lv_iload_n hx hb dM_numberOf_262 rfl (lv_at hl 1 rfl) ?_
      refine lv_iload_n hx hb dM_numberOf_263 rfl (lv_at hl 4 rfl) ?_
      refine lv_iadd hx hb dM_numberOf_264 ?_
      refine tp_i (show (nI (64 * sP (σ s9))) + (nI n) = nI ((64 * sP (σ s9)) + n) from nI_add _ _) ?_
      refine hw_lald hx hb hK hW 2 hM.2.2.2.2.2.2.2.1 rfl (vp_in_nI (show (64 * sP (σ s9)) + n < 2560 by omega) (by omega)) dM_numberOf_265 ?_
      refine tp_l (show (nl rs) (nI ((64 * sP (σ s9)) + n)).toNatClampNeg = lN (rs ((64 * sP (σ s9)) + n)) from by rw [nI_clamp (by omega)]; rfl) ?_
      refine lv_ladd hx hb dM_numberOf_266 ?_
      refine tp_l (show (lN 0) + (lN (rs ((64 * sP (σ s9)) + n))) = lN (0 + (rs ((64 * sP (σ s9)) + n))) from lN_add _ _) ?_
      refine lv_ldc2 (v := 32003) hx hb hown (hts _ bw_595) dM_numberOf_267 ?_
      refine tp_l (show (32003 : Int64) = lN 32003 by decide) ?_
      refine lv_lrem hx hb dM_numberOf_270 (by decide) ?_
      refine tp_l (show (lN (0 + (rs ((64 * sP (σ s9)) + n)))) - (lN (0 + (rs ((64 * sP (σ s9)) + n)))) / (lN 32003) * (lN 32003) = lN ((0 + rs (64 * sP (σ s9) + n)) % 32003) from lrem_lN (by omega)) ?_
      exact W.lret (v := lN ((0 + rs (64 * sP (σ s9) + n)) % 32003)) hx hb hr (fun t ht hW9 => ⟨⟨lN ((0 + rs (64 * sP (σ s9) + n)) % 32003), w, rfl, ⟨rfl, by rw [hP]; unfold atP; rw [if_neg (by omega), hk9]; show _ = lN (if n = 0 then _ else (_ + _) % 32003); rw [if_pos (by omega), Nat.zero_add, Nat.mod_eq_of_lt hr1, hF n hn, show n = 0 by omega]⟩, by rw [ht]; exact hW, va_K.moved hW9.alike hK⟩, hS.F ht⟩) hS.2.2 dM_numberOf_271
    · refine lv_aload_n hx hb dM_numberOf_241 rfl (lv_at hl 2 rfl) ?_
      refine hw_get (v := .ref (ml 6)) (C := RM) (T := TM) (N := 16) hx hb hts inM hown hK hW hM.1 rfl 8 (by decide) (hts _ bw_525) (fun _ h9 => h9) rfl dM_numberOf_242 ?_
      have hr3 := hrs (64 * s9 + n - 1) (by omega)
      refine lv_bipush (v := nI 64) hx hb dM_numberOf_245 (by decide) ?_
      refine lv_iload_n hx hb dM_numberOf_247 rfl (lv_at hl 3 rfl) ?_
      refine lv_imul hx hb dM_numberOf_248 ?_
      refine tp_i (show (nI 64) * (nI s9) = nI (64 * s9) from pk_mul _ _) ?_
      refine lv_iload_n hx hb dM_numberOf_249 rfl (lv_at hl 4 rfl) ?_
      refine lv_iadd hx hb dM_numberOf_250 ?_
      refine tp_i (show (nI (64 * s9)) + (nI n) = nI ((64 * s9) + n) from nI_add _ _) ?_
      refine lv_iconst (v := nI 1) hx hb dM_numberOf_251 (by decide) ?_
      refine lv_isub hx hb dM_numberOf_252 ?_
      refine tp_i (show (nI ((64 * s9) + n)) - (nI 1) = nI (((64 * s9) + n) - 1) from pk_sub (by omega)) ?_
      refine hw_lald hx hb hK hW 2 hM.2.2.2.2.2.2.2.1 rfl (vp_in_nI (show ((64 * s9) + n) - 1 < 2560 by omega) (by omega)) dM_numberOf_253 ?_
      refine tp_l (show (nl rs) (nI (((64 * s9) + n) - 1)).toNatClampNeg = lN (rs (((64 * s9) + n) - 1)) from by rw [nI_clamp (by omega)]; rfl) ?_
      refine lv_goto (tgt := 258) hx hb dM_numberOf_254 (by decide) ?_
      refine lv_aload_n hx hb dM_numberOf_258 rfl (lv_at hl 2 rfl) ?_
      refine hw_get (v := .ref (ml 6)) (C := RM) (T := TM) (N := 16) hx hb hts inM hown hK hW hM.1 rfl 8 (by decide) (hts _ bw_525) (fun _ h9 => h9) rfl dM_numberOf_259 ?_
      refine lv_iload_n hx hb dM_numberOf_262 rfl (lv_at hl 1 rfl) ?_
      refine lv_iload_n hx hb dM_numberOf_263 rfl (lv_at hl 4 rfl) ?_
      refine lv_iadd hx hb dM_numberOf_264 ?_
      refine tp_i (show (nI (64 * sP (σ s9))) + (nI n) = nI ((64 * sP (σ s9)) + n) from nI_add _ _) ?_
      refine hw_lald hx hb hK hW 2 hM.2.2.2.2.2.2.2.1 rfl (vp_in_nI (show (64 * sP (σ s9)) + n < 2560 by omega) (by omega)) dM_numberOf_265 ?_
      refine tp_l (show (nl rs) (nI ((64 * sP (σ s9)) + n)).toNatClampNeg = lN (rs ((64 * sP (σ s9)) + n)) from by rw [nI_clamp (by omega)]; rfl) ?_
      refine lv_ladd hx hb dM_numberOf_266 ?_
      refine tp_l (show (lN (rs (((64 * s9) + n) - 1))) + (lN (rs ((64 * sP (σ s9)) + n))) = lN ((rs (((64 * s9) + n) - 1)) + (rs ((64 * sP (σ s9)) + n))) from lN_add _ _) ?_
      refine lv_ldc2 (v := 32003) hx hb hown (hts _ bw_595) dM_numberOf_267 ?_
      refine tp_l (show (32003 : Int64) = lN 32003 by decide) ?_
      refine lv_lrem hx hb dM_numberOf_270 (by decide) ?_
      refine tp_l (show (lN ((rs (((64 * s9) + n) - 1)) + (rs ((64 * sP (σ s9)) + n)))) - (lN ((rs (((64 * s9) + n) - 1)) + (rs ((64 * sP (σ s9)) + n)))) / (lN 32003) * (lN 32003) = lN ((rs (64 * s9 + n - 1) + rs (64 * sP (σ s9) + n)) % 32003) from lrem_lN (by omega)) ?_
      exact W.lret (v := lN ((rs (64 * s9 + n - 1) + rs (64 * sP (σ s9) + n)) % 32003)) hx hb hr (fun t ht hW9 => ⟨⟨lN ((rs (64 * s9 + n - 1) + rs (64 * sP (σ s9) + n)) % 32003), w, rfl, ⟨rfl, by rw [hP]; unfold atP; rw [if_neg (by omega), hk9]; show _ = lN (if n = 0 then _ else (_ + _) % 32003); rw [if_neg (by omega), ← hF n hn, ← hpn (n - 1) (by omega), show 64 * s9 + (n - 1) = 64 * s9 + n - 1 by omega]⟩, by rw [ht]; exact hW, va_K.moved hW9.alike hK⟩, hS.F ht⟩) hS.2.2 dM_numberOf_271
  · rw [hk9]
    refine lv_tableOut (tgt := 272) hx hb dM_numberOf_27 (by decide) (by decide) ?_
    obtain ⟨p1, p2⟩ := hS9.2.1 s9 hsc (by omega)
    obtain ⟨y1, y2, y3, y4⟩ := q4 (by omega)
    have hF := hpr _ p1
    have hG := hpr _ p2
    rw [y1] at hl
    have hr1 := hrs (64 * sP (σ s9) + n) (by omega)
    have hr2 := hrs (64 * sQ (σ s9) + n) (by omega)
    have hml9 := mul_small hr1 hr2
    refine lv_iload_n hx hb dM_numberOf_272 rfl (lv_at hl 4 rfl) ?_
    refine lv_bipush (v := nI 63) hx hb dM_numberOf_273 (by decide) ?_
    refine nw_icmp_ne (tgt := 282) hx hb (by omega) (by omega) dM_numberOf_275 (by decide) (fun c1 => ?_) (fun c1 => ?_)
    · have hr3 := hrs (64 * sP (σ s9) + n + 1) (by omega)
      have hml8 : (n + 1) * rs (64 * sP (σ s9) + n + 1) ≤ 64 * 32002 := Nat.mul_le_mul (by omega) (by omega)
      refine lv_iload_n hx hb dM_numberOf_282 rfl (lv_at hl 4 rfl) ?_
      refine lv_iconst (v := nI 1) hx hb dM_numberOf_283 (by decide) ?_
      refine lv_iadd hx hb dM_numberOf_284 ?_
      refine tp_i (show (nI n) + (nI 1) = nI (n + 1) from nI_add _ _) ?_
      refine lv_i2l (v := lN (n + 1)) hx hb dM_numberOf_285 (nI_l (by omega)) ?_
      refine lv_aload_n hx hb dM_numberOf_286 rfl (lv_at hl 2 rfl) ?_
      refine hw_get (v := .ref (ml 6)) (C := RM) (T := TM) (N := 16) hx hb hts inM hown hK hW hM.1 rfl 8 (by decide) (hts _ bw_525) (fun _ h9 => h9) rfl dM_numberOf_287 ?_
      refine lv_iload_n hx hb dM_numberOf_290 rfl (lv_at hl 1 rfl) ?_
      refine lv_iload_n hx hb dM_numberOf_291 rfl (lv_at hl 4 rfl) ?_
      refine lv_iadd hx hb dM_numberOf_292 ?_
      refine tp_i (show (nI (64 * sP (σ s9))) + (nI n) = nI ((64 * sP (σ s9)) + n) from nI_add _ _) ?_
      refine lv_iconst (v := nI 1) hx hb dM_numberOf_293 (by decide) ?_
      refine lv_iadd hx hb dM_numberOf_294 ?_
      refine tp_i (show (nI ((64 * sP (σ s9)) + n)) + (nI 1) = nI (((64 * sP (σ s9)) + n) + 1) from nI_add _ _) ?_
      refine hw_lald hx hb hK hW 2 hM.2.2.2.2.2.2.2.1 rfl (vp_in_nI (show ((64 * sP (σ s9)) + n) + 1 < 2560 by omega) (by omega)) dM_numberOf_295 ?_
      refine tp_l (show (nl rs) (nI (((64 * sP (σ s9)) + n) + 1)).toNatClampNeg = lN (rs (((64 * sP (σ s9)) + n) + 1)) from by rw [nI_clamp (by omega)]; rfl) ?_
      refine lv_lmul hx hb dM_numberOf_296 ?_
      refine tp_l (show (lN (n + 1)) * (lN (rs (((64 * sP (σ s9)) + n) + 1))) = lN ((n + 1) * (rs (((64 * sP (σ s9)) + n) + 1))) from lN_mul _ _) ?_
      refine lv_ldc2 (v := 32003) hx hb hown (hts _ bw_595) dM_numberOf_297 ?_
      refine tp_l (show (32003 : Int64) = lN 32003 by decide) ?_
      refine lv_lrem hx hb dM_numberOf_300 (by decide) ?_
      refine tp_l (show (lN ((n + 1) * (rs (((64 * sP (σ s9)) + n) + 1)))) - (lN ((n + 1) * (rs (((64 * sP (σ s9)) + n) + 1)))) / (lN 32003) * (lN 32003) = lN ((n + 1) * rs (64 * sP (σ s9) + n + 1) % 32003) from lrem_lN (by omega)) ?_
      exact W.lret (v := lN ((n + 1) * rs (64 * sP (σ s9) + n + 1) % 32003)) hx hb hr (fun t ht hW9 => ⟨⟨lN ((n + 1) * rs (64 * sP (σ s9) + n + 1) % 32003), w, rfl, ⟨rfl, by rw [hP]; unfold atP; rw [if_neg (by omega), hk9]; show _ = lN (if n + 1 < 64 then _ else 0); rw [if_pos (by omega), Nat.add_assoc, hF _ (by omega)]⟩, by rw [ht]; exact hW, va_K.moved hW9.alike hK⟩, hS.F ht⟩) hS.2.2 dM_numberOf_301
    · refine lv_lconst (v := lN 0) hx hb dM_numberOf_278 (by decide) ?_
      refine lv_goto (tgt := 301) hx hb dM_numberOf_279 (by decide) ?_
      exact W.lret (v := lN 0) hx hb hr (fun t ht hW9 => ⟨⟨lN 0, w, rfl, ⟨rfl, by rw [hP]; unfold atP; rw [if_neg (by omega), hk9]; show _ = lN (if n + 1 < 64 then _ else 0); rw [if_neg (by omega)]⟩, by rw [ht]; exact hW, va_K.moved hW9.alike hK⟩, hS.F ht⟩) hS.2.2 dM_numberOf_301
