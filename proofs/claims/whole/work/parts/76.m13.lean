set_option maxHeartbeats 1000000 in
set_option maxRecDepth 100000 in
theorem lp_M_cl_a {p : Program} {l : Launch} {e : Env} {s : State} {m : MethodId} {args : Array Value} {below : List Frame} {meth : Method} {c : Code} {Q : State → Prop} {D : va_G} {g : Nat → ClassId} {ad : Nat → Nat} {tb : Nat} {sa : Nat → Nat} {A : Nat → Prop} {w : Wd} {mo : Nat} {ml : Nat → Nat} {cd mn : Nat} {ki on tw od fa st rs : Nat → Nat} {me fo fd : Nat} {ba ta by9 : Nat → Nat} {nd : Nat → Bool} {m9 fe row c0 : Nat} (hm : m9 ≤ 20) (hc0 : c0 < m9) (hM0 : moW g w mo ml cd mn ki on tw od fa st rs me fo fd ba ta by9 nd) (htb : ∀ x, x < 1280 → ta x < 32003) (C0 : cx p s m args c A cM_clear 12 RM D g ad tb sa) : ∀ (e9 : Nat) (a : Nat) (w1 : Wd), (a + e9 = 64) → (row ≤ a) → (∀ n, row ≤ n → n < a → ta (20 * n + c0) = 0) → (w1 = w) → ∀ (H : Heap) (locs : List Loc), hw D vwCl A w1 H → va_S A s.heap H locs → ∀ ls : Array Slot, lv_has ls 12 [(0, .ref mo), (1, .int (nI m9)), (2, .int (nI fe)), (3, .int (nI row)), (4, .int (nI c0)), (5, .int (nI a))] → (∀ (a : Nat) (w1 : Wd), (a ≤ 64) → (row ≤ a) → (∀ n, row ≤ n → n < a → ta (20 * n + c0) = 0) → (a < 64 → ta (20 * a + c0) ≠ 0) → (w1 = w) → ∀ (H : Heap) (locs : List Loc), hw D vwCl A w1 H → va_S A s.heap H locs → ∀ ls : Array Slot, lv_has ls 12 [(0, .ref mo), (1, .int (nI m9)), (2, .int (nI fe)), (3, .int (nI row)), (4, .int (nI c0)), (5, .int (nI a))] → W p l e (rmL 1 26 0 0) s m args below meth c H locs 0 0 Q (F0 m 48 ls [])) → W p l e (rmL 1 26 0 0) s m args below meth c H locs 0 0 Q (F0 m 17 ls []) := by
  obtain ⟨hx, hb, hml, hts, hown, hK, hk, hAA⟩ := C0
  intro e9
  induction e9 with
  | zero =>
    intro a w1 ha9 har hz ew H locs hW hS ls hl kk0
    subst ew
    have hM := hM0
    refine lv_iload hx hb dM_clear_17 (lv_at hl 5 rfl) ?_
    refine lv_bipush (v := nI 64) hx hb dM_clear_19 (by decide) ?_
    refine nw_icmp_ge (tgt := 48) hx hb (by omega) (by omega) dM_clear_21 (by decide) (fun c1 => ?_) (fun c1 => absurd (show a < 64 from c1) (by omega))
    exact kk0 a w1 (by omega) har hz (fun h9 => absurd h9 (by omega)) rfl H locs hW hS ls (lv_sub hl [0, 1, 2, 3, 4, 5] rfl)
  | succ e9 ih =>
    intro a w1 ha9 har hz ew H locs hW hS ls hl kk0
    subst ew
    have hM := hM0
    have hb1 := htb (20 * a + c0) (by omega)
    refine lv_iload hx hb dM_clear_17 (lv_at hl 5 rfl) ?_
    refine lv_bipush (v := nI 64) hx hb dM_clear_19 (by decide) ?_
    refine nw_icmp_ge (tgt := 48) hx hb (by omega) (by omega) dM_clear_21 (by decide) (fun c1 => absurd (show 64 ≤ a from c1) (by omega)) (fun c1 => ?_)
    refine lv_aload_n hx hb dM_clear_24 rfl (lv_at hl 0 rfl) ?_
    refine hw_get (v := .ref (ml 8)) (C := RM) (T := TM) (N := 16) hx hb hts inM hown hK hW hM.1 rfl 13 (by decide) (hts _ bw_530) (fun _ h9 => h9) rfl dM_clear_25 ?_
    refine lv_bipush (v := nI 20) hx hb dM_clear_28 (by decide) ?_
    refine lv_iload hx hb dM_clear_30 (lv_at hl 5 rfl) ?_
    refine lv_imul hx hb dM_clear_32 ?_
    refine tp_i (show (nI 20) * (nI a) = nI (20 * a) from pk_mul _ _) ?_
    refine lv_iload hx hb dM_clear_33 (lv_at hl 4 rfl) ?_
    refine lv_iadd hx hb dM_clear_35 ?_
    refine tp_i (show (nI (20 * a)) + (nI c0) = nI ((20 * a) + c0) from nI_add _ _) ?_
    refine hw_lald hx hb hK hW 2 hM.2.2.2.2.2.2.2.2.2.1 rfl (vp_in_nI (show (20 * a) + c0 < 1280 by omega) (by omega)) dM_clear_36 ?_
    refine tp_l (show (nl ta) (nI ((20 * a) + c0)).toNatClampNeg = lN (ta ((20 * a) + c0)) from by rw [nI_clamp (by omega)]; rfl) ?_
    refine lv_lconst (v := lN 0) hx hb dM_clear_37 (by decide) ?_
    refine W.lcmp hx hb dM_clear_38 ?_
    refine lv_if_ne (tgt := 48) hx hb dM_clear_39 (by decide) (fun cz => ?_) (fun cz => ?_)
    · exact kk0 a w1 (by omega) har hz (fun _ h9 => cz ((cp_eqN (by omega) (by omega)).mpr h9)) rfl H locs hW hS ls (lv_sub hl [0, 1, 2, 3, 4, 5] rfl)
    · refine lv_iinc (v := nI (a + 1)) (lv' := [(5, .int (nI (a + 1))), (0, .ref mo), (1, .int (nI m9)), (2, .int (nI fe)), (3, .int (nI row)), (4, .int (nI c0))]) hx hb dM_clear_42 hl (k := 5) rfl (nI_1 _) (by decide) rfl (fun ls hl => ?_)
      refine lv_goto (tgt := 17) hx hb dM_clear_45 (by decide) ?_
      exact ih (a + 1) w1 (by omega) (by omega) (fun n h1 h2 => by
        by_cases e8 : n = a
        · rw [e8]; exact (cp_eqN (by omega) (by omega)).mp cz
        · exact hz n h1 (by omega)) rfl H locs hW hS ls (lv_sub hl [1, 2, 3, 4, 5, 0] rfl) kk0

set_option maxHeartbeats 1000000 in
set_option maxRecDepth 100000 in
theorem lp_M_cl_s {p : Program} {l : Launch} {e : Env} {s : State} {m : MethodId} {args : Array Value} {below : List Frame} {meth : Method} {c : Code} {Q : State → Prop} {D : va_G} {g : Nat → ClassId} {ad : Nat → Nat} {tb : Nat} {sa : Nat → Nat} {A : Nat → Prop} {w : Wd} {mo : Nat} {ml : Nat → Nat} {cd mn : Nat} {ki on tw od fa st rs : Nat → Nat} {me fo fd : Nat} {ba ta by9 : Nat → Nat} {nd : Nat → Bool} (hD : moD ml) {m9 fe row c0 : Nat} (hm : m9 ≤ 20) (hc0 : c0 < m9) (hrw : row < 64) {a : Nat} (ha : a < 64) (C0 : cx p s m args c A cM_clear 12 RM D g ad tb sa) : ∀ (e9 : Nat) (k : Nat) (ta1 : Nat → Nat) (w1 : Wd), (k + e9 = m9) → (moW g w1 mo ml cd mn ki on tw od fa st rs me fo fd ba ta1 by9 nd) → (moF mo ml w w1) → (∀ x, x < 1280 → ta1 x < 32003) → (∀ j, j < k → ta1 (20 * a + j) = ta (20 * row + j) ∧ ta1 (20 * row + j) = ta (20 * a + j)) → (∀ n j, n < 64 → j < 20 → (n ≠ a ∧ n ≠ row) ∨ k ≤ j → ta1 (20 * n + j) = ta (20 * n + j)) → ∀ (H : Heap) (locs : List Loc), hw D vwCl A w1 H → va_S A s.heap H locs → ∀ ls : Array Slot, lv_has ls 12 [(0, .ref mo), (1, .int (nI m9)), (2, .int (nI fe)), (3, .int (nI row)), (4, .int (nI c0)), (5, .int (nI a)), (6, .int (nI k))] → (∀ (ta1 : Nat → Nat) (w1 : Wd), (moW g w1 mo ml cd mn ki on tw od fa st rs me fo fd ba ta1 by9 nd) → (moF mo ml w w1) → (∀ x, x < 1280 → ta1 x < 32003) → (∀ j, j < m9 → ta1 (20 * a + j) = ta (20 * row + j) ∧ ta1 (20 * row + j) = ta (20 * a + j)) → (∀ n j, n < 64 → j < 20 → (n ≠ a ∧ n ≠ row) ∨ m9 ≤ j → ta1 (20 * n + j) = ta (20 * n + j)) → ∀ (H : Heap) (locs : List Loc), hw D vwCl A w1 H → va_S A s.heap H locs → ∀ ls : Array Slot, lv_has ls 12 [(0, .ref mo), (1, .int (nI m9)), (2, .int (nI fe)), (3, .int (nI row)), (4, .int (nI c0))] → W p l e (rmL 1 26 0 0) s m args below meth c H locs 0 0 Q (F0 m 138 ls [])) → W p l e (rmL 1 26 0 0) s m args below meth c H locs 0 0 Q (F0 m 72 ls []) := by
  obtain ⟨hx, hb, hml, hts, hown, hK, hk, hAA⟩ := C0
  intro e9
  induction e9 with
  | zero =>
    intro k ta1 w1 hk9 hM hFr htb hs1 hs2 H locs hW hS ls hl kk0
    refine lv_iload hx hb dM_clear_72 (lv_at hl 6 rfl) ?_
    refine lv_iload_n hx hb dM_clear_74 rfl (lv_at hl 1 rfl) ?_
    refine nw_icmp_ge (tgt := 138) hx hb (by omega) (by omega) dM_clear_75 (by decide) (fun c1 => ?_) (fun c1 => absurd (show k < m9 from c1) (by omega))
    rw [show k = m9 by omega] at hs1 hs2
    exact kk0 ta1 w1 hM hFr htb hs1 hs2 H locs hW hS ls (lv_sub hl [0, 1, 2, 3, 4] rfl)
  | succ e9 ih =>
    intro k ta1 w1 hk9 hM hFr htb hs1 hs2 H locs hW hS ls hl kk0
    have hb1 := htb (20 * a + k) (by omega)
    have hb2 := htb (20 * row + k) (by omega)
    have hv1 := hs2 a k ha (by omega) (Or.inr (Nat.le_refl k))
    have hv2 := hs2 row k hrw (by omega) (Or.inr (Nat.le_refl k))
    refine lv_iload hx hb dM_clear_72 (lv_at hl 6 rfl) ?_
    refine lv_iload_n hx hb dM_clear_74 rfl (lv_at hl 1 rfl) ?_
    refine nw_icmp_ge (tgt := 138) hx hb (by omega) (by omega) dM_clear_75 (by decide) (fun c1 => absurd (show m9 ≤ k from c1) (by omega)) (fun c1 => ?_)
    refine lv_aload_n hx hb dM_clear_78 rfl (lv_at hl 0 rfl) ?_
    refine hw_get (v := .ref (ml 8)) (C := RM) (T := TM) (N := 16) hx hb hts inM hown hK hW hM.1 rfl 13 (by decide) (hts _ bw_530) (fun _ h9 => h9) rfl dM_clear_79 ?_
    refine lv_bipush (v := nI 20) hx hb dM_clear_82 (by decide) ?_
    refine lv_iload hx hb dM_clear_84 (lv_at hl 5 rfl) ?_
    refine lv_imul hx hb dM_clear_86 ?_
    refine tp_i (show (nI 20) * (nI a) = nI (20 * a) from pk_mul _ _) ?_
    refine lv_iload hx hb dM_clear_87 (lv_at hl 6 rfl) ?_
    refine lv_iadd hx hb dM_clear_89 ?_
    refine tp_i (show (nI (20 * a)) + (nI k) = nI ((20 * a) + k) from nI_add _ _) ?_
    refine hw_lald hx hb hK hW 2 hM.2.2.2.2.2.2.2.2.2.1 rfl (vp_in_nI (show (20 * a) + k < 1280 by omega) (by omega)) dM_clear_90 ?_
    refine tp_l (show (nl ta1) (nI ((20 * a) + k)).toNatClampNeg = lN (ta1 ((20 * a) + k)) from by rw [nI_clamp (by omega)]; rfl) ?_
    refine lv_lstore (lv' := [(7, .long (lN (ta1 ((20 * a) + k)))), (0, .ref mo), (1, .int (nI m9)), (2, .int (nI fe)), (3, .int (nI row)), (4, .int (nI c0)), (5, .int (nI a)), (6, .int (nI k))]) hx hb dM_clear_91 hl (by decide) rfl (fun ls hl => ?_)
    refine lv_aload_n hx hb dM_clear_93 rfl (lv_at hl 1 rfl) ?_
    refine hw_get (v := .ref (ml 8)) (C := RM) (T := TM) (N := 16) hx hb hts inM hown hK hW hM.1 rfl 13 (by decide) (hts _ bw_530) (fun _ h9 => h9) rfl dM_clear_94 ?_
    refine lv_bipush (v := nI 20) hx hb dM_clear_97 (by decide) ?_
    refine lv_iload hx hb dM_clear_99 (lv_at hl 6 rfl) ?_
    refine lv_imul hx hb dM_clear_101 ?_
    refine tp_i (show (nI 20) * (nI a) = nI (20 * a) from pk_mul _ _) ?_
    refine lv_iload hx hb dM_clear_102 (lv_at hl 7 rfl) ?_
    refine lv_iadd hx hb dM_clear_104 ?_
    refine tp_i (show (nI (20 * a)) + (nI k) = nI ((20 * a) + k) from nI_add _ _) ?_
    refine lv_aload_n hx hb dM_clear_105 rfl (lv_at hl 1 rfl) ?_
    refine hw_get (v := .ref (ml 8)) (C := RM) (T := TM) (N := 16) hx hb hts inM hown hK hW hM.1 rfl 13 (by decide) (hts _ bw_530) (fun _ h9 => h9) rfl dM_clear_106 ?_
    refine lv_bipush (v := nI 20) hx hb dM_clear_109 (by decide) ?_
    refine lv_iload_n hx hb dM_clear_111 rfl (lv_at hl 4 rfl) ?_
    refine lv_imul hx hb dM_clear_112 ?_
    refine tp_i (show (nI 20) * (nI row) = nI (20 * row) from pk_mul _ _) ?_
    refine lv_iload hx hb dM_clear_113 (lv_at hl 7 rfl) ?_
    refine lv_iadd hx hb dM_clear_115 ?_
    refine tp_i (show (nI (20 * row)) + (nI k) = nI ((20 * row) + k) from nI_add _ _) ?_
    refine hw_lald hx hb hK hW 2 hM.2.2.2.2.2.2.2.2.2.1 rfl (vp_in_nI (show (20 * row) + k < 1280 by omega) (by omega)) dM_clear_116 ?_
    refine tp_l (show (nl ta1) (nI ((20 * row) + k)).toNatClampNeg = lN (ta1 ((20 * row) + k)) from by rw [nI_clamp (by omega)]; rfl) ?_
    refine hw_last hx hb hK hW hS 2 hM.2.2.2.2.2.2.2.2.2.1 rfl (vp_in_nI (show (20 * a) + k < 1280 by omega) (by omega)) dM_clear_117 (fun H locs hW hS => ?_)
    rw [nI_clamp (show (20 * a) + k < 2 ^ 31 by omega), nl_upd] at hW
    have hW : hw D vwCl A (hwu w1 (ml 8) (la (g 2) 1280 (va_up ta1 ((20 * a) + k) (ta1 ((20 * row) + k))))) H := hW
    obtain ⟨w2, ew2⟩ : ∃ z, z = hwu w1 (ml 8) (la (g 2) 1280 (va_up ta1 ((20 * a) + k) (ta1 ((20 * row) + k)))) := ⟨_, rfl⟩
    rw [← ew2] at hW
    have hM : moW g w2 mo ml cd mn ki on tw od fa st rs me fo fd ba (va_up ta1 ((20 * a) + k) (ta1 ((20 * row) + k))) by9 nd := by rw [ew2]; exact hM.set_ta hD _
    have hFr : moF mo ml w w2 := hFr.tr (by rw [ew2]; exact moF_a (by decide))
    refine lv_aload_n hx hb dM_clear_118 rfl (lv_at hl 1 rfl) ?_
    refine hw_get (v := .ref (ml 8)) (C := RM) (T := TM) (N := 16) hx hb hts inM hown hK hW hM.1 rfl 13 (by decide) (hts _ bw_530) (fun _ h9 => h9) rfl dM_clear_119 ?_
    refine lv_bipush (v := nI 20) hx hb dM_clear_122 (by decide) ?_
    refine lv_iload_n hx hb dM_clear_124 rfl (lv_at hl 4 rfl) ?_
    refine lv_imul hx hb dM_clear_125 ?_
    refine tp_i (show (nI 20) * (nI row) = nI (20 * row) from pk_mul _ _) ?_
    refine lv_iload hx hb dM_clear_126 (lv_at hl 7 rfl) ?_
    refine lv_iadd hx hb dM_clear_128 ?_
    refine tp_i (show (nI (20 * row)) + (nI k) = nI ((20 * row) + k) from nI_add _ _) ?_
    refine lv_lload hx hb dM_clear_129 (lv_at hl 0 rfl) ?_
    refine hw_last hx hb hK hW hS 2 hM.2.2.2.2.2.2.2.2.2.1 rfl (vp_in_nI (show (20 * row) + k < 1280 by omega) (by omega)) dM_clear_131 (fun H locs hW hS => ?_)
    rw [nI_clamp (show (20 * row) + k < 2 ^ 31 by omega), nl_upd] at hW
    have hW : hw D vwCl A (hwu w2 (ml 8) (la (g 2) 1280 (va_up (va_up ta1 ((20 * a) + k) (ta1 ((20 * row) + k))) ((20 * row) + k) (ta1 ((20 * a) + k))))) H := hW
    obtain ⟨w3, ew3⟩ : ∃ z, z = hwu w2 (ml 8) (la (g 2) 1280 (va_up (va_up ta1 ((20 * a) + k) (ta1 ((20 * row) + k))) ((20 * row) + k) (ta1 ((20 * a) + k)))) := ⟨_, rfl⟩
    rw [← ew3] at hW
    have hM : moW g w3 mo ml cd mn ki on tw od fa st rs me fo fd ba (va_up (va_up ta1 ((20 * a) + k) (ta1 ((20 * row) + k))) ((20 * row) + k) (ta1 ((20 * a) + k))) by9 nd := by rw [ew3]; exact hM.set_ta hD _
    have hFr : moF mo ml w w3 := hFr.tr (by rw [ew3]; exact moF_a (by decide))
    refine lv_iinc (v := nI (k + 1)) (lv' := [(6, .int (nI (k + 1))), (7, .long (lN (ta1 ((20 * a) + k)))), (0, .ref mo), (1, .int (nI m9)), (2, .int (nI fe)), (3, .int (nI row)), (4, .int (nI c0)), (5, .int (nI a))]) hx hb dM_clear_132 hl (k := 7) rfl (nI_1 _) (by decide) rfl (fun ls hl => ?_)
    refine lv_goto (tgt := 72) hx hb dM_clear_135 (by decide) ?_
    exact ih (k + 1) (va_up (va_up ta1 ((20 * a) + k) (ta1 ((20 * row) + k))) ((20 * row) + k) (ta1 ((20 * a) + k))) w3 (by omega) hM hFr (up_lt (up_lt htb hb2) hb1) (fun j hj => by
      by_cases e8 : j = k
      · rw [e8]
        refine ⟨?_, by rw [va_up_eq]; exact hv1⟩
        by_cases e7 : a = row
        · rw [← e7, va_up_eq]; exact hv1
        · rw [va_up_no (by omega), va_up_eq]; exact hv2
      · obtain ⟨u1, u2⟩ := hs1 j (by omega)
        exact ⟨by rw [va_up_no (by omega), va_up_no (by omega)]; exact u1, by rw [va_up_no (by omega), va_up_no (by omega)]; exact u2⟩) (fun n j hn hj h9 => by rw [va_up_no (by omega), va_up_no (by omega)]; exact hs2 n j hn hj (by omega)) H locs hW hS ls (lv_sub hl [2, 3, 4, 5, 6, 7, 0] rfl) kk0

set_option maxHeartbeats 1000000 in
set_option maxRecDepth 100000 in
theorem lp_M_cl_c {p : Program} {l : Launch} {e : Env} {s : State} {m : MethodId} {args : Array Value} {below : List Frame} {meth : Method} {c : Code} {Q : State → Prop} {D : va_G} {g : Nat → ClassId} {ad : Nat → Nat} {tb : Nat} {sa : Nat → Nat} {A : Nat → Prop} {w : Wd} {mo : Nat} {ml : Nat → Nat} {cd mn : Nat} {ki on tw od fa st rs : Nat → Nat} {me fo fd : Nat} {ba ta by9 : Nat → Nat} {nd : Nat → Bool} (hD : moD ml) {m9 fe row c0 : Nat} (hm : m9 ≤ 20) (hc0 : c0 < m9) (hrw : row < 64) {hd : Nat} (hhd : hd < 32003) (C0 : cx p s m args c A cM_clear 12 RM D g ad tb sa) : ∀ (e9 : Nat) (k : Nat) (ta1 : Nat → Nat) (w1 : Wd), (k + e9 = m9) → (moW g w1 mo ml cd mn ki on tw od fa st rs me fo fd ba ta1 by9 nd) → (moF mo ml w w1) → (∀ x, x < 1280 → ta1 x < 32003) → (∀ j, j < k → ta1 (20 * row + j) = ta (20 * row + j) * hd % 32003) → (∀ n j, n < 64 → j < 20 → n ≠ row ∨ k ≤ j → ta1 (20 * n + j) = ta (20 * n + j)) → ∀ (H : Heap) (locs : List Loc), hw D vwCl A w1 H → va_S A s.heap H locs → ∀ ls : Array Slot, lv_has ls 12 [(0, .ref mo), (1, .int (nI m9)), (2, .int (nI fe)), (3, .int (nI row)), (4, .int (nI c0)), (6, .long (lN hd)), (8, .int (nI k))] → (∀ (ta1 : Nat → Nat) (w1 : Wd), (moW g w1 mo ml cd mn ki on tw od fa st rs me fo fd ba ta1 by9 nd) → (moF mo ml w w1) → (∀ x, x < 1280 → ta1 x < 32003) → (∀ j, j < m9 → ta1 (20 * row + j) = ta (20 * row + j) * hd % 32003) → (∀ n j, n < 64 → j < 20 → n ≠ row ∨ m9 ≤ j → ta1 (20 * n + j) = ta (20 * n + j)) → ∀ (H : Heap) (locs : List Loc), hw D vwCl A w1 H → va_S A s.heap H locs → ∀ ls : Array Slot, lv_has ls 12 [(0, .ref mo), (1, .int (nI m9)), (2, .int (nI fe)), (3, .int (nI row)), (4, .int (nI c0))] → W p l e (rmL 1 26 0 0) s m args below meth c H locs 0 0 Q (F0 m 201 ls [])) → W p l e (rmL 1 26 0 0) s m args below meth c H locs 0 0 Q (F0 m 158 ls []) := by
  obtain ⟨hx, hb, hml, hts, hown, hK, hk, hAA⟩ := C0
  intro e9
  induction e9 with
  | zero =>
    intro k ta1 w1 hk9 hM hFr htb hs1 hs2 H locs hW hS ls hl kk0
    refine lv_iload hx hb dM_clear_158 (lv_at hl 6 rfl) ?_
    refine lv_iload_n hx hb dM_clear_160 rfl (lv_at hl 1 rfl) ?_
    refine nw_icmp_ge (tgt := 201) hx hb (by omega) (by omega) dM_clear_161 (by decide) (fun c1 => ?_) (fun c1 => absurd (show k < m9 from c1) (by omega))
    rw [show k = m9 by omega] at hs1 hs2
    exact kk0 ta1 w1 hM hFr htb hs1 hs2 H locs hW hS ls (lv_sub hl [0, 1, 2, 3, 4] rfl)
  | succ e9 ih =>
    intro k ta1 w1 hk9 hM hFr htb hs1 hs2 H locs hW hS ls hl kk0
    have hb2 := htb (20 * row + k) (by omega)
    have hml9 := mul_small hb2 hhd
    have hv2 := hs2 row k hrw (by omega) (Or.inr (Nat.le_refl k))
    refine lv_iload hx hb dM_clear_158 (lv_at hl 6 rfl) ?_
    refine lv_iload_n hx hb dM_clear_160 rfl (lv_at hl 1 rfl) ?_
    refine nw_icmp_ge (tgt := 201) hx hb (by omega) (by omega) dM_clear_161 (by decide) (fun c1 => absurd (show m9 ≤ k from c1) (by omega)) (fun c1 => ?_)
    refine lv_aload_n hx hb dM_clear_164 rfl (lv_at hl 0 rfl) ?_
    refine hw_get (v := .ref (ml 8)) (C := RM) (T := TM) (N := 16) hx hb hts inM hown hK hW hM.1 rfl 13 (by decide) (hts _ bw_530) (fun _ h9 => h9) rfl dM_clear_165 ?_
    refine lv_bipush (v := nI 20) hx hb dM_clear_168 (by decide) ?_
    refine lv_iload_n hx hb dM_clear_170 rfl (lv_at hl 3 rfl) ?_
    refine lv_imul hx hb dM_clear_171 ?_
    refine tp_i (show (nI 20) * (nI row) = nI (20 * row) from pk_mul _ _) ?_
    refine lv_iload hx hb dM_clear_172 (lv_at hl 6 rfl) ?_
    refine lv_iadd hx hb dM_clear_174 ?_
    refine tp_i (show (nI (20 * row)) + (nI k) = nI ((20 * row) + k) from nI_add _ _) ?_
    refine lv_aload_n hx hb dM_clear_175 rfl (lv_at hl 0 rfl) ?_
    refine hw_get (v := .ref (ml 8)) (C := RM) (T := TM) (N := 16) hx hb hts inM hown hK hW hM.1 rfl 13 (by decide) (hts _ bw_530) (fun _ h9 => h9) rfl dM_clear_176 ?_
    refine lv_bipush (v := nI 20) hx hb dM_clear_179 (by decide) ?_
    refine lv_iload_n hx hb dM_clear_181 rfl (lv_at hl 3 rfl) ?_
    refine lv_imul hx hb dM_clear_182 ?_
    refine tp_i (show (nI 20) * (nI row) = nI (20 * row) from pk_mul _ _) ?_
    refine lv_iload hx hb dM_clear_183 (lv_at hl 6 rfl) ?_
    refine lv_iadd hx hb dM_clear_185 ?_
    refine tp_i (show (nI (20 * row)) + (nI k) = nI ((20 * row) + k) from nI_add _ _) ?_
    refine hw_lald hx hb hK hW 2 hM.2.2.2.2.2.2.2.2.2.1 rfl (vp_in_nI (show (20 * row) + k < 1280 by omega) (by omega)) dM_clear_186 ?_
    refine tp_l (show (nl ta1) (nI ((20 * row) + k)).toNatClampNeg = lN (ta1 ((20 * row) + k)) from by rw [nI_clamp (by omega)]; rfl) ?_
    refine lv_lload hx hb dM_clear_187 (lv_at hl 5 rfl) ?_
    refine lv_lmul hx hb dM_clear_189 ?_
    refine tp_l (show (lN (ta1 ((20 * row) + k))) * (lN hd) = lN ((ta1 ((20 * row) + k)) * hd) from lN_mul _ _) ?_
    refine lv_ldc2 (v := 32003) hx hb hown (hts _ bw_595) dM_clear_190 ?_
    refine tp_l (show (32003 : Int64) = lN 32003 by decide) ?_
    refine lv_lrem hx hb dM_clear_193 (by decide) ?_
    refine tp_l (show (lN ((ta1 ((20 * row) + k)) * hd)) - (lN ((ta1 ((20 * row) + k)) * hd)) / (lN 32003) * (lN 32003) = lN (ta1 (20 * row + k) * hd % 32003) from lrem_lN (by omega)) ?_
    refine hw_last hx hb hK hW hS 2 hM.2.2.2.2.2.2.2.2.2.1 rfl (vp_in_nI (show (20 * row) + k < 1280 by omega) (by omega)) dM_clear_194 (fun H locs hW hS => ?_)
    rw [nI_clamp (show (20 * row) + k < 2 ^ 31 by omega), nl_upd] at hW
    have hW : hw D vwCl A (hwu w1 (ml 8) (la (g 2) 1280 (va_up ta1 ((20 * row) + k) (ta1 (20 * row + k) * hd % 32003)))) H := hW
    obtain ⟨w2, ew2⟩ : ∃ z, z = hwu w1 (ml 8) (la (g 2) 1280 (va_up ta1 ((20 * row) + k) (ta1 (20 * row + k) * hd % 32003))) := ⟨_, rfl⟩
    rw [← ew2] at hW
    have hM : moW g w2 mo ml cd mn ki on tw od fa st rs me fo fd ba (va_up ta1 ((20 * row) + k) (ta1 (20 * row + k) * hd % 32003)) by9 nd := by rw [ew2]; exact hM.set_ta hD _
    have hFr : moF mo ml w w2 := hFr.tr (by rw [ew2]; exact moF_a (by decide))
    refine lv_iinc (v := nI (k + 1)) (lv' := [(8, .int (nI (k + 1))), (0, .ref mo), (1, .int (nI m9)), (2, .int (nI fe)), (3, .int (nI row)), (4, .int (nI c0)), (6, .long (lN hd))]) hx hb dM_clear_195 hl (k := 6) rfl (nI_1 _) (by decide) rfl (fun ls hl => ?_)
    refine lv_goto (tgt := 158) hx hb dM_clear_198 (by decide) ?_
    exact ih (k + 1) (va_up ta1 ((20 * row) + k) (ta1 (20 * row + k) * hd % 32003)) w2 (by omega) hM hFr (up_lt htb (Nat.mod_lt _ (by decide))) (fun j hj => by
      by_cases e8 : j = k
      · rw [e8, va_up_eq, hv2]
      · rw [va_up_no (by omega)]; exact hs1 j (by omega)) (fun n j hn hj h9 => by rw [va_up_no (by omega)]; exact hs2 n j hn hj (by omega)) H locs hW hS ls (lv_sub hl [1, 2, 3, 4, 5, 6, 0] rfl) kk0

set_option maxHeartbeats 1000000 in
set_option maxRecDepth 100000 in
theorem lp_M_cl_k {p : Program} {l : Launch} {e : Env} {s : State} {m : MethodId} {args : Array Value} {below : List Frame} {meth : Method} {c : Code} {Q : State → Prop} {D : va_G} {g : Nat → ClassId} {ad : Nat → Nat} {tb : Nat} {sa : Nat → Nat} {A : Nat → Prop} {w : Wd} {mo : Nat} {ml : Nat → Nat} {cd mn : Nat} {ki on tw od fa st rs : Nat → Nat} {me fo fd : Nat} {ba ta by9 : Nat → Nat} {nd : Nat → Bool} (hD : moD ml) {m9 fe row c0 : Nat} (hm : m9 ≤ 20) (hc0 : c0 < m9) (hrw : row < 64) {n qq : Nat} (hn : n < 64) (hnr : n ≠ row) (hq0 : 0 < qq) (hq9 : qq < 32003) (C0 : cx p s m args c A cM_clear 12 RM D g ad tb sa) : ∀ (e9 : Nat) (k : Nat) (ta1 : Nat → Nat) (w1 : Wd), (k + e9 = m9) → (moW g w1 mo ml cd mn ki on tw od fa st rs me fo fd ba ta1 by9 nd) → (moF mo ml w w1) → (∀ x, x < 1280 → ta1 x < 32003) → (∀ j, j < k → ta1 (20 * n + j) = rd ((ta (20 * n + j) : Int) - (qq : Int) * (ta (20 * row + j) : Int))) → (∀ n9 j, n9 < 64 → j < 20 → n9 ≠ n ∨ k ≤ j → ta1 (20 * n9 + j) = ta (20 * n9 + j)) → ∀ (H : Heap) (locs : List Loc), hw D vwCl A w1 H → va_S A s.heap H locs → ∀ ls : Array Slot, lv_has ls 12 [(0, .ref mo), (1, .int (nI m9)), (2, .int (nI fe)), (3, .int (nI row)), (4, .int (nI c0)), (8, .int (nI n)), (9, .long (lN qq)), (11, .int (nI k))] → (∀ (ta1 : Nat → Nat) (w1 : Wd), (moW g w1 mo ml cd mn ki on tw od fa st rs me fo fd ba ta1 by9 nd) → (moF mo ml w w1) → (∀ x, x < 1280 → ta1 x < 32003) → (∀ j, j < m9 → ta1 (20 * n + j) = rd ((ta (20 * n + j) : Int) - (qq : Int) * (ta (20 * row + j) : Int))) → (∀ n9 j, n9 < 64 → j < 20 → n9 ≠ n ∨ m9 ≤ j → ta1 (20 * n9 + j) = ta (20 * n9 + j)) → ∀ (H : Heap) (locs : List Loc), hw D vwCl A w1 H → va_S A s.heap H locs → ∀ ls : Array Slot, lv_has ls 12 [(0, .ref mo), (1, .int (nI m9)), (2, .int (nI fe)), (3, .int (nI row)), (4, .int (nI c0)), (8, .int (nI n))] → W p l e (rmL 1 26 0 0) s m args below meth c H locs 0 0 Q (F0 m 303 ls [])) → W p l e (rmL 1 26 0 0) s m args below meth c H locs 0 0 Q (F0 m 239 ls []) := by
  obtain ⟨hx, hb, hml, hts, hown, hK, hk, hAA⟩ := C0
  intro e9
  induction e9 with
  | zero =>
    intro k ta1 w1 hk9 hM hFr htb hs1 hs2 H locs hW hS ls hl kk0
    refine lv_iload hx hb dM_clear_239 (lv_at hl 7 rfl) ?_
    refine lv_iload_n hx hb dM_clear_241 rfl (lv_at hl 1 rfl) ?_
    refine nw_icmp_ge (tgt := 303) hx hb (by omega) (by omega) dM_clear_242 (by decide) (fun c1 => ?_) (fun c1 => absurd (show k < m9 from c1) (by omega))
    rw [show k = m9 by omega] at hs1 hs2
    exact kk0 ta1 w1 hM hFr htb hs1 hs2 H locs hW hS ls (lv_sub hl [0, 1, 2, 3, 4, 5] rfl)
  | succ e9 ih =>
    intro k ta1 w1 hk9 hM hFr htb hs1 hs2 H locs hW hS ls hl kk0
    have hb1 := htb (20 * n + k) (by omega)
    have hb2 := htb (20 * row + k) (by omega)
    have hml9 := mul_small hq9 hb2
    have hv1 := hs2 n k hn (by omega) (Or.inr (Nat.le_refl k))
    have hv2 := hs2 row k hrw (by omega) (Or.inl (fun q9 => hnr q9.symm))
    refine lv_iload hx hb dM_clear_239 (lv_at hl 7 rfl) ?_
    refine lv_iload_n hx hb dM_clear_241 rfl (lv_at hl 1 rfl) ?_
    refine nw_icmp_ge (tgt := 303) hx hb (by omega) (by omega) dM_clear_242 (by decide) (fun c1 => absurd (show m9 ≤ k from c1) (by omega)) (fun c1 => ?_)
    refine lv_lload hx hb dM_clear_245 (lv_at hl 6 rfl) ?_
    refine lv_lconst (v := lN 0) hx hb dM_clear_247 (by decide) ?_
    refine W.lcmp hx hb dM_clear_248 ?_
    refine lv_if_le (tgt := 303) hx hb dM_clear_249 (by decide) (fun c2 => absurd c2 (Int32.not_le.mpr ((cp_gtN (a := qq) (b := 0) (by omega) (by omega)).mpr hq0))) (fun c2 => ?_)
    refine lv_aload_n hx hb dM_clear_252 rfl (lv_at hl 0 rfl) ?_
    refine hw_get (v := .ref (ml 8)) (C := RM) (T := TM) (N := 16) hx hb hts inM hown hK hW hM.1 rfl 13 (by decide) (hts _ bw_530) (fun _ h9 => h9) rfl dM_clear_253 ?_
    refine lv_bipush (v := nI 20) hx hb dM_clear_256 (by decide) ?_
    refine lv_iload hx hb dM_clear_258 (lv_at hl 5 rfl) ?_
    refine lv_imul hx hb dM_clear_260 ?_
    refine tp_i (show (nI 20) * (nI n) = nI (20 * n) from pk_mul _ _) ?_
    refine lv_iload hx hb dM_clear_261 (lv_at hl 7 rfl) ?_
    refine lv_iadd hx hb dM_clear_263 ?_
    refine tp_i (show (nI (20 * n)) + (nI k) = nI ((20 * n) + k) from nI_add _ _) ?_
    refine lv_aload_n hx hb dM_clear_264 rfl (lv_at hl 0 rfl) ?_
    refine hw_get (v := .ref (ml 8)) (C := RM) (T := TM) (N := 16) hx hb hts inM hown hK hW hM.1 rfl 13 (by decide) (hts _ bw_530) (fun _ h9 => h9) rfl dM_clear_265 ?_
    refine lv_bipush (v := nI 20) hx hb dM_clear_268 (by decide) ?_
    refine lv_iload hx hb dM_clear_270 (lv_at hl 5 rfl) ?_
    refine lv_imul hx hb dM_clear_272 ?_
    refine tp_i (show (nI 20) * (nI n) = nI (20 * n) from pk_mul _ _) ?_
    refine lv_iload hx hb dM_clear_273 (lv_at hl 7 rfl) ?_
    refine lv_iadd hx hb dM_clear_275 ?_
    refine tp_i (show (nI (20 * n)) + (nI k) = nI ((20 * n) + k) from nI_add _ _) ?_
    refine hw_lald hx hb hK hW 2 hM.2.2.2.2.2.2.2.2.2.1 rfl (vp_in_nI (show (20 * n) + k < 1280 by omega) (by omega)) dM_clear_276 ?_
    refine tp_l (show (nl ta1) (nI ((20 * n) + k)).toNatClampNeg = lN (ta1 ((20 * n) + k)) from by rw [nI_clamp (by omega)]; rfl) ?_
    refine lv_lload hx hb dM_clear_277 (lv_at hl 6 rfl) ?_
    refine lv_aload_n hx hb dM_clear_279 rfl (lv_at hl 0 rfl) ?_
    refine hw_get (v := .ref (ml 8)) (C := RM) (T := TM) (N := 16) hx hb hts inM hown hK hW hM.1 rfl 13 (by decide) (hts _ bw_530) (fun _ h9 => h9) rfl dM_clear_280 ?_
    refine lv_bipush (v := nI 20) hx hb dM_clear_283 (by decide) ?_
    refine lv_iload_n hx hb dM_clear_285 rfl (lv_at hl 3 rfl) ?_
    refine lv_imul hx hb dM_clear_286 ?_
    refine tp_i (show (nI 20) * (nI row) = nI (20 * row) from pk_mul _ _) ?_
    refine lv_iload hx hb dM_clear_287 (lv_at hl 7 rfl) ?_
    refine lv_iadd hx hb dM_clear_289 ?_
    refine tp_i (show (nI (20 * row)) + (nI k) = nI ((20 * row) + k) from nI_add _ _) ?_
    refine hw_lald hx hb hK hW 2 hM.2.2.2.2.2.2.2.2.2.1 rfl (vp_in_nI (show (20 * row) + k < 1280 by omega) (by omega)) dM_clear_290 ?_
    refine tp_l (show (nl ta1) (nI ((20 * row) + k)).toNatClampNeg = lN (ta1 ((20 * row) + k)) from by rw [nI_clamp (by omega)]; rfl) ?_
    refine lv_lmul hx hb dM_clear_291 ?_
    refine tp_l (show (lN qq) * (lN (ta1 ((20 * row) + k))) = lN (qq * (ta1 ((20 * row) + k))) from lN_mul _ _) ?_
    refine lv_lsub hx hb dM_clear_292 ?_
    refine kc_SL (n := 1) (As := [.long ((lN (ta1 ((20 * n) + k))) - (lN (qq * (ta1 ((20 * row) + k)))))]) (rest := [.int (nI ((20 * n) + k)), .ref (ml 8)]) ⟨hx, hb, hml, hown, hts⟩ (c_M_modulo l D g ad tb sa w1 H.size ((lN (ta1 ((20 * n) + k))) - (lN (qq * (ta1 ((20 * row) + k)))))) bw_592 bw_593 bw_3 bw_594 (by decide +kernel) ⟨by decide, by decide⟩ hW hK hk hS hAA rfl hl.1 rfl (Nat.le_of_ble_eq_true rfl) dM_clear_293 ⟨by decide, by decide⟩ (fun r3 w4 H locs hp hW hS => ?_)
    obtain ⟨hw9, hr9⟩ := hp
    rw [hw9] at hW
    subst hr9
    refine tp_l (show lN (rd (lN (ta1 (20 * n + k)) - lN (qq * ta1 (20 * row + k))).toInt) = lN (rd ((ta (20 * n + k) : Int) - (qq : Int) * (ta (20 * row + k) : Int))) from by rw [sub_lN (by omega) (by omega), Int.natCast_mul, hv1, hv2]) ?_
    refine hw_last hx hb hK hW hS 2 hM.2.2.2.2.2.2.2.2.2.1 rfl (vp_in_nI (show (20 * n) + k < 1280 by omega) (by omega)) dM_clear_296 (fun H locs hW hS => ?_)
    rw [nI_clamp (show (20 * n) + k < 2 ^ 31 by omega), nl_upd] at hW
    have hW : hw D vwCl A (hwu w1 (ml 8) (la (g 2) 1280 (va_up ta1 ((20 * n) + k) (rd ((ta (20 * n + k) : Int) - (qq : Int) * (ta (20 * row + k) : Int)))))) H := hW
    obtain ⟨w5, ew5⟩ : ∃ z, z = hwu w1 (ml 8) (la (g 2) 1280 (va_up ta1 ((20 * n) + k) (rd ((ta (20 * n + k) : Int) - (qq : Int) * (ta (20 * row + k) : Int))))) := ⟨_, rfl⟩
    rw [← ew5] at hW
    have hM : moW g w5 mo ml cd mn ki on tw od fa st rs me fo fd ba (va_up ta1 ((20 * n) + k) (rd ((ta (20 * n + k) : Int) - (qq : Int) * (ta (20 * row + k) : Int)))) by9 nd := by rw [ew5]; exact hM.set_ta hD _
    have hFr : moF mo ml w w5 := hFr.tr (by rw [ew5]; exact moF_a (by decide))
    refine lv_iinc (v := nI (k + 1)) (lv' := [(11, .int (nI (k + 1))), (0, .ref mo), (1, .int (nI m9)), (2, .int (nI fe)), (3, .int (nI row)), (4, .int (nI c0)), (8, .int (nI n)), (9, .long (lN qq))]) hx hb dM_clear_297 hl (k := 7) rfl (nI_1 _) (by decide) rfl (fun ls hl => ?_)
    refine lv_goto (tgt := 239) hx hb dM_clear_300 (by decide) ?_
    exact ih (k + 1) (va_up ta1 ((20 * n) + k) (rd ((ta (20 * n + k) : Int) - (qq : Int) * (ta (20 * row + k) : Int)))) w5 (by omega) hM hFr (up_lt htb (rd_lt _)) (fun j hj => by
      by_cases e8 : j = k
      · rw [e8, va_up_eq]
      · rw [va_up_no (by omega)]; exact hs1 j (by omega)) (fun n9 j hn9 hj h9 => by rw [va_up_no (by omega)]; exact hs2 n9 j hn9 hj (by omega)) H locs hW hS ls (lv_sub hl [1, 2, 3, 4, 5, 6, 7, 0] rfl) kk0
