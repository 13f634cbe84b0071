set_option maxHeartbeats 1000000 in
set_option maxRecDepth 100000 in
theorem lp_M_hg1 {p : Program} {l : Launch} {e : Env} {s : State} {m : MethodId} {args : Array Value} {below : List Frame} {meth : Method} {c : Code} {Q : State → Prop} {D : va_G} {g : Nat → ClassId} {ad : Nat → Nat} {tb : Nat} {sa : Nat → Nat} {A : Nat → Prop} {w : Wd} {mo : Nat} {ml : Nat → Nat} {cd mn : Nat} {ki on tw od fa st rs : Nat → Nat} {me fo fd : Nat} {ba ta by9 : Nat → Nat}  (hD : moD ml) {f h : Nat} (hf : f < 40) (C0 : cx p s m args c A cM_hangs 4 RM D g ad tb sa) : ∀ (e9 : Nat) (k : Nat) (nd1 : Nat → Bool) (w1 : Wd), (k + e9 = 40) → (moW g w1 mo ml cd mn ki on tw od fa st rs me fo fd ba ta by9 nd1) → (moF mo ml w w1) → (∀ j, j < k → nd1 j = decide (j = f)) → ∀ (H : Heap) (locs : List Loc), hw D vwCl A w1 H → va_S A s.heap H locs → ∀ ls : Array Slot, lv_has ls 4 [(0, .ref mo), (1, .int (nI f)), (2, .int (nI h)), (3, .int (nI k))] → (∀ (nd1 : Nat → Bool) (w1 : Wd), (moW g w1 mo ml cd mn ki on tw od fa st rs me fo fd ba ta by9 nd1) → (moF mo ml w w1) → (∀ j, j < 40 → nd1 j = decide (j = f)) → ∀ (H : Heap) (locs : List Loc), hw D vwCl A w1 H → va_S A s.heap H locs → ∀ ls : Array Slot, lv_has ls 4 [(0, .ref mo), (1, .int (nI f)), (2, .int (nI h))] → W p l e (rmL 2 46 0 0) s m args below meth c H locs 0 0 Q (F0 m 64 ls [])) → W p l e (rmL 2 46 0 0) s m args below meth c H locs 0 0 Q (F0 m 36 ls []) := by
  obtain ⟨hx, hb, hml, hts, hown, hK, hk, hAA⟩ := C0
  intro e9
  induction e9 with
  | zero =>
    intro k nd1 w1 hk9 hM hFr hz H locs hW hS ls hl kk0
    refine lv_iload_n hx hb dM_hangs_36 rfl (lv_at hl 3 rfl) ?_
    refine lv_bipush (v := nI 40) hx hb dM_hangs_37 (by decide) ?_
    refine nw_icmp_ge (tgt := 64) hx hb (by omega) (by omega) dM_hangs_39 (by decide) (fun c1 => ?_) (fun c1 => absurd (show k < 40 from c1) (by omega))
    exact kk0 nd1 w1 hM hFr (fun j hj => hz j (by omega)) H locs hW hS ls (lv_sub hl [0, 1, 2] rfl)
  | succ e9 ih =>
    intro k nd1 w1 hk9 hM hFr hz H locs hW hS ls hl kk0
    refine lv_iload_n hx hb dM_hangs_36 rfl (lv_at hl 3 rfl) ?_
    refine lv_bipush (v := nI 40) hx hb dM_hangs_37 (by decide) ?_
    refine nw_icmp_ge (tgt := 64) hx hb (by omega) (by omega) dM_hangs_39 (by decide) (fun c1 => absurd (show 40 ≤ k from c1) (by omega)) (fun c1 => ?_)
    refine lv_aload_n hx hb dM_hangs_42 rfl (lv_at hl 0 rfl) ?_
    refine hw_get (v := .ref (ml 10)) (C := RM) (T := TM) (N := 16) hx hb hts inM hown hK hW hM.1 rfl 15 (by decide) (hts _ bw_532) (fun _ h9 => h9) rfl dM_hangs_43 ?_
    refine lv_iload_n hx hb dM_hangs_46 rfl (lv_at hl 3 rfl) ?_
    refine lv_iload_n hx hb dM_hangs_47 rfl (lv_at hl 3 rfl) ?_
    refine lv_iload_n hx hb dM_hangs_48 rfl (lv_at hl 1 rfl) ?_
    refine nw_icmp_ne (tgt := 56) hx hb (by omega) (by omega) dM_hangs_49 (by decide) (fun cf => ?_) (fun cf => ?_)
    · refine lv_iconst (v := nI 0) hx hb dM_hangs_56 (by decide) ?_
      refine hw_zast hx hb hK hW hS 1 hM.2.2.2.2.2.2.2.2.2.2.2 rfl (vp_in_nI (show k < 40 by omega) (by omega)) dM_hangs_57 (fun H locs hW hS => ?_)
      rw [nI_clamp (show k < 2 ^ 31 by omega), show vp_nar .boolean (nI 0) = nI 0 from by decide, ni_upd, show (0 : Nat) = (if false = true then 1 else 0) from rfl, bn_up] at hW
      have hW : hw D vwCl A (hwu w1 (ml 10) (ia (g 1) 40 (bn (va_up nd1 k false)))) H := hW
      obtain ⟨w2, ew2⟩ : ∃ z, z = hwu w1 (ml 10) (ia (g 1) 40 (bn (va_up nd1 k false))) := ⟨_, rfl⟩
      rw [← ew2] at hW
      have hM : moW g w2 mo ml cd mn ki on tw od fa st rs me fo fd ba ta by9 (va_up nd1 k false) := by rw [ew2]; exact hM.set_nd hD _
      have hFr : moF mo ml w w2 := hFr.tr (by rw [ew2]; exact moF_a (by decide))
      refine lv_iinc (v := nI (k + 1)) (lv' := [(3, .int (nI (k + 1))), (0, .ref mo), (1, .int (nI f)), (2, .int (nI h))]) hx hb dM_hangs_58 hl (k := 3) rfl (nI_1 _) (by decide) rfl (fun ls hl => ?_)
      refine lv_goto (tgt := 36) hx hb dM_hangs_61 (by decide) ?_
      exact ih (k + 1) (va_up nd1 k false) w2 (by omega) hM hFr (fun j hj => by
        by_cases e8 : j = k
        · rw [e8, va_up_eq, decide_eq_false (show ¬ k = f from cf)]
        · rw [va_up_no e8]; exact hz j (by omega)) H locs hW hS ls (lv_sub hl [1, 2, 3, 0] rfl) kk0
    · refine lv_iconst (v := nI 1) hx hb dM_hangs_52 (by decide) ?_
      refine lv_goto (tgt := 57) hx hb dM_hangs_53 (by decide) ?_
      refine hw_zast hx hb hK hW hS 1 hM.2.2.2.2.2.2.2.2.2.2.2 rfl (vp_in_nI (show k < 40 by omega) (by omega)) dM_hangs_57 (fun H locs hW hS => ?_)
      rw [nI_clamp (show k < 2 ^ 31 by omega), show vp_nar .boolean (nI 1) = nI 1 from by decide, ni_upd, show (1 : Nat) = (if true = true then 1 else 0) from rfl, bn_up] at hW
      have hW : hw D vwCl A (hwu w1 (ml 10) (ia (g 1) 40 (bn (va_up nd1 k true)))) H := hW
      obtain ⟨w3, ew3⟩ : ∃ z, z = hwu w1 (ml 10) (ia (g 1) 40 (bn (va_up nd1 k true))) := ⟨_, rfl⟩
      rw [← ew3] at hW
      have hM : moW g w3 mo ml cd mn ki on tw od fa st rs me fo fd ba ta by9 (va_up nd1 k true) := by rw [ew3]; exact hM.set_nd hD _
      have hFr : moF mo ml w w3 := hFr.tr (by rw [ew3]; exact moF_a (by decide))
      refine lv_iinc (v := nI (k + 1)) (lv' := [(3, .int (nI (k + 1))), (0, .ref mo), (1, .int (nI f)), (2, .int (nI h))]) hx hb dM_hangs_58 hl (k := 3) rfl (nI_1 _) (by decide) rfl (fun ls hl => ?_)
      refine lv_goto (tgt := 36) hx hb dM_hangs_61 (by decide) ?_
      exact ih (k + 1) (va_up nd1 k true) w3 (by omega) hM hFr (fun j hj => by
        by_cases e8 : j = k
        · rw [e8, va_up_eq, decide_eq_true (show k = f from cf)]
        · rw [va_up_no e8]; exact hz j (by omega)) H locs hW hS ls (lv_sub hl [1, 2, 3, 0] rfl) kk0

theorem up_one {nd : Nat → Bool} {a j : Nat} : va_up nd a true j = (nd j || decide (j = a) || decide (j = a)) := by
  unfold va_up
  by_cases h : j = a
  · rw [if_pos h, decide_eq_true h]; simp
  · rw [if_neg h, decide_eq_false h]; simp
theorem up_two {nd : Nat → Bool} {a b j : Nat} : va_up (va_up nd a true) b true j = (nd j || decide (j = a) || decide (j = b)) := by
  unfold va_up
  by_cases h : j = b
  · rw [if_pos h, decide_eq_true h]; simp
  · rw [if_neg h, decide_eq_false h]
    by_cases h2 : j = a
    · rw [if_pos h2, decide_eq_true h2]; simp
    · rw [if_neg h2, decide_eq_false h2]; simp

set_option maxHeartbeats 1000000 in
set_option maxRecDepth 100000 in
theorem lp_M_hg2 {p : Program} {l : Launch} {e : Env} {s : State} {m : MethodId} {args : Array Value} {below : List Frame} {meth : Method} {c : Code} {Q : State → Prop} {D : va_G} {g : Nat → ClassId} {ad : Nat → Nat} {tb : Nat} {sa : Nat → Nat} {A : Nat → Prop} {w : Wd} {mo : Nat} {ml : Nat → Nat} {cd mn : Nat} {ki on tw od fa st rs : Nat → Nat} {me fo fd : Nat} {ba ta by9 : Nat → Nat}  (hD : moD ml) {σ : Nat → SD} (hS9 : mS σ mn ki on tw od fa st) {f h : Nat} (hfc : f < mn) (C0 : cx p s m args c A cM_hangs 4 RM D g ad tb sa) : ∀ (e9 : Nat) (cc : Nat) (nd1 : Nat → Bool) (w1 : Wd), (cc = e9) → (cc ≤ f + 1) → (moW g w1 mo ml cd mn ki on tw od fa st rs me fo fd ba ta by9 nd1) → (moF mo ml w w1) → (hgI σ f cc nd1) → ∀ (H : Heap) (locs : List Loc), hw D vwCl A w1 H → va_S A s.heap H locs → ∀ ls : Array Slot, lv_has ls 4 [(0, .ref mo), (1, .int (nI f)), (2, .int (nI h)), (3, .int (nI cc - nI 1))] → (∀ (nd1 : Nat → Bool) (w1 : Wd), (moW g w1 mo ml cd mn ki on tw od fa st rs me fo fd ba ta by9 nd1) → (moF mo ml w w1) → (hgI σ f 0 nd1) → ∀ (H : Heap) (locs : List Loc), hw D vwCl A w1 H → va_S A s.heap H locs → ∀ ls : Array Slot, lv_has ls 4 [(0, .ref mo), (1, .int (nI f)), (2, .int (nI h))] → W p l e (rmL 2 46 0 0) s m args below meth c H locs 0 0 Q (F0 m 131 ls [])) → W p l e (rmL 2 46 0 0) s m args below meth c H locs 0 0 Q (F0 m 66 ls []) := by
  obtain ⟨hx, hb, hml, hts, hown, hK, hk, hAA⟩ := C0
  intro e9
  induction e9 with
  | zero =>
    intro cc nd1 w1 he hcc hM hFr hI H locs hW hS ls hl kk0
    subst he
    refine lv_iload_n hx hb dM_hangs_66 rfl (lv_at hl 3 rfl) ?_
    refine lv_if_lt (tgt := 131) hx hb dM_hangs_67 (by decide) (fun c1 => ?_) (fun c1 => absurd (show nI 0 - nI 1 < 0 by decide) c1)
    exact kk0 nd1 w1 hM hFr hI H locs hW hS ls (lv_sub hl [0, 1, 2] rfl)
  | succ e9 ih =>
    intro cc nd1 w1 he hcc hM hFr hI H locs hW hS ls hl kk0
    subst he
    rw [nI_p1] at hl
    have hmn := hS9.1
    have hb1 := bn_lt nd1 e9
    obtain ⟨q1, q2, q3, q4, q5, q6⟩ := hS9.2.2 e9 (by omega)
    refine lv_iload_n hx hb dM_hangs_66 rfl (lv_at hl 3 rfl) ?_
    refine nw_if_lt (tgt := 131) hx hb (by omega) dM_hangs_67 (by decide) ?_
    refine lv_aload_n hx hb dM_hangs_70 rfl (lv_at hl 0 rfl) ?_
    refine hw_get (v := .ref (ml 10)) (C := RM) (T := TM) (N := 16) hx hb hts inM hown hK hW hM.1 rfl 15 (by decide) (hts _ bw_532) (fun _ h9 => h9) rfl dM_hangs_71 ?_
    refine lv_iload_n hx hb dM_hangs_74 rfl (lv_at hl 3 rfl) ?_
    refine hw_zald hx hb hK hW 1 hM.2.2.2.2.2.2.2.2.2.2.2 rfl (vp_in_nI (show e9 < 40 by omega) (by omega)) dM_hangs_75 ?_
    refine tp_i (show (ni (bn nd1)) (nI e9).toNatClampNeg = nI ((bn nd1) e9) from by rw [nI_clamp (by omega)]; rfl) ?_
    refine nw_if_eq (tgt := 125) hx hb (by omega) dM_hangs_76 (by decide) (fun cn => ?_) (fun cn => ?_)
    · refine lv_iinc (v := nI e9 - nI 1) (lv' := [(3, .int (nI e9 - nI 1)), (0, .ref mo), (1, .int (nI f)), (2, .int (nI h))]) hx hb dM_hangs_125 hl (k := 3) rfl (nI_m1 e9) (by decide) rfl (fun ls hl => ?_)
      refine lv_goto (tgt := 66) hx hb dM_hangs_128 (by decide) ?_
      exact ih e9 nd1 w1 rfl (by omega) hM hFr (hgI_skip hI (by first | exact Or.inl (bn_f cn) | exact Or.inr ck)) H locs hW hS ls (lv_sub hl [1, 2, 3, 0] rfl) kk0
    · refine lv_aload_n hx hb dM_hangs_79 rfl (lv_at hl 0 rfl) ?_
      refine hw_get (v := .ref (ml 0)) (C := RM) (T := TM) (N := 16) hx hb hts inM hown hK hW hM.1 rfl 2 (by decide) (hts _ bw_519) (fun _ h9 => h9) rfl dM_hangs_80 ?_
      refine lv_iload_n hx hb dM_hangs_83 rfl (lv_at hl 3 rfl) ?_
      refine hw_iald hx hb hK hW 0 hM.2.1 rfl (vp_in_nI (show e9 < 40 by omega) (by omega)) dM_hangs_84 ?_
      refine tp_i (show (ni ki) (nI e9).toNatClampNeg = nI (ki e9) from by rw [nI_clamp (by omega)]; rfl) ?_
      refine tp_i (show nI (ki e9) = nI (sTg (σ e9)) from by rw [q1]) ?_
      refine nw_if_ne (tgt := 91) hx hb (by omega) dM_hangs_85 (by decide) (fun ck => ?_) (fun ck => ?_)
      · obtain ⟨o1, o2⟩ := hS9.2.1 e9 (by omega) (by omega)
        obtain ⟨y1, y2, y3, y4⟩ := q4 (by omega)
        refine lv_aload_n hx hb dM_hangs_91 rfl (lv_at hl 0 rfl) ?_
        refine hw_get (v := .ref (ml 10)) (C := RM) (T := TM) (N := 16) hx hb hts inM hown hK hW hM.1 rfl 15 (by decide) (hts _ bw_532) (fun _ h9 => h9) rfl dM_hangs_92 ?_
        refine lv_aload_n hx hb dM_hangs_95 rfl (lv_at hl 0 rfl) ?_
        refine hw_get (v := .ref (ml 1)) (C := RM) (T := TM) (N := 16) hx hb hts inM hown hK hW hM.1 rfl 3 (by decide) (hts _ bw_520) (fun _ h9 => h9) rfl dM_hangs_96 ?_
        refine lv_iload_n hx hb dM_hangs_99 rfl (lv_at hl 3 rfl) ?_
        refine hw_iald hx hb hK hW 0 hM.2.2.1 rfl (vp_in_nI (show e9 < 40 by omega) (by omega)) dM_hangs_100 ?_
        refine tp_i (show (ni on) (nI e9).toNatClampNeg = nI (on e9) from by rw [nI_clamp (by omega)]; rfl) ?_
        refine tp_i (show nI (on e9) = nI (sP (σ e9)) from by rw [y1]) ?_
        refine lv_iconst (v := nI 1) hx hb dM_hangs_101 (by decide) ?_
        refine hw_zast hx hb hK hW hS 1 hM.2.2.2.2.2.2.2.2.2.2.2 rfl (vp_in_nI (show sP (σ e9) < 40 by omega) (by omega)) dM_hangs_102 (fun H locs hW hS => ?_)
        rw [nI_clamp (show sP (σ e9) < 2 ^ 31 by omega), show vp_nar .boolean (nI 1) = nI 1 from by decide, ni_upd, show (1 : Nat) = (if true = true then 1 else 0) from rfl, bn_up] at hW
        have hW : hw D vwCl A (hwu w1 (ml 10) (ia (g 1) 40 (bn (va_up nd1 (sP (σ e9)) true)))) H := hW
        obtain ⟨w1, ew1⟩ : ∃ z, z = hwu w1 (ml 10) (ia (g 1) 40 (bn (va_up nd1 (sP (σ e9)) true))) := ⟨_, rfl⟩
        rw [← ew1] at hW
        have hM : moW g w1 mo ml cd mn ki on tw od fa st rs me fo fd ba ta by9 (va_up nd1 (sP (σ e9)) true) := by rw [ew1]; exact hM.set_nd hD _
        have hFr : moF mo ml w w1 := hFr.tr (by rw [ew1]; exact moF_a (by decide))
        refine lv_aload_n hx hb dM_hangs_103 rfl (lv_at hl 0 rfl) ?_
        refine hw_get (v := .ref (ml 0)) (C := RM) (T := TM) (N := 16) hx hb hts inM hown hK hW hM.1 rfl 2 (by decide) (hts _ bw_519) (fun _ h9 => h9) rfl dM_hangs_104 ?_
        refine lv_iload_n hx hb dM_hangs_107 rfl (lv_at hl 3 rfl) ?_
        refine hw_iald hx hb hK hW 0 hM.2.1 rfl (vp_in_nI (show e9 < 40 by omega) (by omega)) dM_hangs_108 ?_
        refine tp_i (show (ni ki) (nI e9).toNatClampNeg = nI (ki e9) from by rw [nI_clamp (by omega)]; rfl) ?_
        refine tp_i (show nI (ki e9) = nI (sTg (σ e9)) from by rw [q1]) ?_
        refine lv_iconst (v := nI 5) hx hb dM_hangs_109 (by decide) ?_
        refine nw_icmp_ge (tgt := 125) hx hb (by omega) (by omega) dM_hangs_110 (by decide) (fun c5 => ?_) (fun c5 => ?_)
        · refine lv_iinc (v := nI e9 - nI 1) (lv' := [(3, .int (nI e9 - nI 1)), (0, .ref mo), (1, .int (nI f)), (2, .int (nI h))]) hx hb dM_hangs_125 hl (k := 3) rfl (nI_m1 e9) (by decide) rfl (fun ls hl => ?_)
          refine lv_goto (tgt := 66) hx hb dM_hangs_128 (by decide) ?_
          exact ih e9 (va_up nd1 (sP (σ e9)) true) w1 rfl (by omega) hM hFr (hgI_mark hS9.1 hS9.2.1 hfc hI (by omega) (bn_t cn) (by omega) (fun j => by rw [y4 (by omega)]; exact up_one)) H locs hW hS ls (lv_sub hl [1, 2, 3, 0] rfl) kk0
        · refine lv_aload_n hx hb dM_hangs_113 rfl (lv_at hl 0 rfl) ?_
          refine hw_get (v := .ref (ml 10)) (C := RM) (T := TM) (N := 16) hx hb hts inM hown hK hW hM.1 rfl 15 (by decide) (hts _ bw_532) (fun _ h9 => h9) rfl dM_hangs_114 ?_
          refine lv_aload_n hx hb dM_hangs_117 rfl (lv_at hl 0 rfl) ?_
          refine hw_get (v := .ref (ml 2)) (C := RM) (T := TM) (N := 16) hx hb hts inM hown hK hW hM.1 rfl 4 (by decide) (hts _ bw_521) (fun _ h9 => h9) rfl dM_hangs_118 ?_
          refine lv_iload_n hx hb dM_hangs_121 rfl (lv_at hl 3 rfl) ?_
          refine hw_iald hx hb hK hW 0 hM.2.2.2.1 rfl (vp_in_nI (show e9 < 40 by omega) (by omega)) dM_hangs_122 ?_
          refine tp_i (show (ni tw) (nI e9).toNatClampNeg = nI (tw e9) from by rw [nI_clamp (by omega)]; rfl) ?_
          refine tp_i (show nI (tw e9) = nI (sQ (σ e9)) from by rw [y2 (by omega)]) ?_
          refine lv_iconst (v := nI 1) hx hb dM_hangs_123 (by decide) ?_
          refine hw_zast hx hb hK hW hS 1 hM.2.2.2.2.2.2.2.2.2.2.2 rfl (vp_in_nI (show sQ (σ e9) < 40 by omega) (by omega)) dM_hangs_124 (fun H locs hW hS => ?_)
          rw [nI_clamp (show sQ (σ e9) < 2 ^ 31 by omega), show vp_nar .boolean (nI 1) = nI 1 from by decide, ni_upd, show (1 : Nat) = (if true = true then 1 else 0) from rfl, bn_up] at hW
          have hW : hw D vwCl A (hwu w1 (ml 10) (ia (g 1) 40 (bn (va_up (va_up nd1 (sP (σ e9)) true) (sQ (σ e9)) true)))) H := hW
          obtain ⟨w2, ew2⟩ : ∃ z, z = hwu w1 (ml 10) (ia (g 1) 40 (bn (va_up (va_up nd1 (sP (σ e9)) true) (sQ (σ e9)) true))) := ⟨_, rfl⟩
          rw [← ew2] at hW
          have hM : moW g w2 mo ml cd mn ki on tw od fa st rs me fo fd ba ta by9 (va_up (va_up nd1 (sP (σ e9)) true) (sQ (σ e9)) true) := by rw [ew2]; exact hM.set_nd hD _
          have hFr : moF mo ml w w2 := hFr.tr (by rw [ew2]; exact moF_a (by decide))
          refine lv_iinc (v := nI e9 - nI 1) (lv' := [(3, .int (nI e9 - nI 1)), (0, .ref mo), (1, .int (nI f)), (2, .int (nI h))]) hx hb dM_hangs_125 hl (k := 3) rfl (nI_m1 e9) (by decide) rfl (fun ls hl => ?_)
          refine lv_goto (tgt := 66) hx hb dM_hangs_128 (by decide) ?_
          exact ih e9 (va_up (va_up nd1 (sP (σ e9)) true) (sQ (σ e9)) true) w2 rfl (by omega) hM hFr (hgI_mark hS9.1 hS9.2.1 hfc hI (by omega) (bn_t cn) (by omega) (fun j => up_two)) H locs hW hS ls (lv_sub hl [1, 2, 3, 0] rfl) kk0
      · refine lv_goto (tgt := 125) hx hb dM_hangs_88 (by decide) ?_
        refine lv_iinc (v := nI e9 - nI 1) (lv' := [(3, .int (nI e9 - nI 1)), (0, .ref mo), (1, .int (nI f)), (2, .int (nI h))]) hx hb dM_hangs_125 hl (k := 3) rfl (nI_m1 e9) (by decide) rfl (fun ls hl => ?_)
        refine lv_goto (tgt := 66) hx hb dM_hangs_128 (by decide) ?_
        exact ih e9 nd1 w1 rfl (by omega) hM hFr (hgI_skip hI (by first | exact Or.inl (bn_f cn) | exact Or.inr ck)) H locs hW hS ls (lv_sub hl [1, 2, 3, 0] rfl) kk0

set_option maxHeartbeats 1000000 in
set_option maxRecDepth 100000 in
theorem c_M_hangs (l : Launch) (D : va_G) (g : Nat → ClassId) (ad : Nat → Nat) (tb : Nat) (sa : Nat → Nat) (w : Wd) (sz : Nat) (mo : Nat) (ml : Nat → Nat) (cd mn : Nat) (ki on tw od fa st rs : Nat → Nat) (me fo fd : Nat) (ba ta by9 : Nat → Nat) (nd : Nat → Bool) (hD : moD ml) (hM0 : moW g w mo ml cd mn ki on tw od fa st rs me fo fd ba ta by9 nd) (σ : Nat → SD) (hS9 : mS σ mn ki on tw od fa st) (f9 g9 : Int32) : MI l D g ad tb sa yM_hangs cM_hangs 4 (some (.boolean)) 2 46 0 0 w sz [.ref mo, .int f9, .int g9] (fun r w' => moF mo ml w w' ∧ ((¬ (inC mn f9 ∧ inC mn g9) ∧ moW g w' mo ml 1 mn ki on tw od fa st rs me fo fd ba ta by9 nd) ∨ ∃ f h nd1, f < mn ∧ h < mn ∧ f9 = nI f ∧ g9 = nI h ∧ r = nI (bz (sdep σ f h)) ∧ moW g w' mo ml 0 mn ki on tw od fa st rs me fo fd ba ta by9 nd1)) := by
  refine hm_MI (by decide) (Nat.le_of_ble_eq_true rfl) ?_
  intro p e s m below meth c A ls hx hb hr hml hts hown hlocks hin hout hsz hW hK hk hS hAA hl
  have hl : lv_has ls 4 [(0, .ref mo), (1, .int f9), (2, .int g9)] := hl
  have hM := hM0
  have hFr : moF mo ml w w := moF.rf
  have hmn := hS9.1
  have hb1 := bz_le (inB mn f9)
  have hb2 := bz_le (inB mn g9)
  refine lv_aload_n hx hb dM_hangs_0 rfl (lv_at hl 0 rfl) ?_
  refine lv_aload_n hx hb dM_hangs_1 rfl (lv_at hl 0 rfl) ?_
  refine lv_iload_n hx hb dM_hangs_2 rfl (lv_at hl 1 rfl) ?_
  refine kc_VI (n := 1) (As := [.int f9]) (rest := [.ref mo]) ⟨hx, hb, hml, hown, hts⟩ (c_M_isThere l D g ad tb sa w s.heap.size mo ml cd mn ki on tw od fa st rs me fo fd ba ta by9 nd hM (by omega) f9) bw_587 bw_589 bs_17 bw_3 bw_590 (by decide +kernel) rfl rfl hM.1 ⟨by decide, by decide⟩ hW hK hk hS hAA rfl hl.1 rfl (Nat.le_of_ble_eq_true rfl) dM_hangs_3 ⟨by decide, by decide⟩ (fun r1 w2 H locs hp hW hS => ?_)
  obtain ⟨hw9, hr9⟩ := hp
  rw [hw9] at hW
  subst hr9
  refine nw_if_eq (tgt := 21) hx hb (by omega) dM_hangs_6 (by decide) (fun c1 => ?_) (fun c1 => ?_)
  · refine lv_iconst (v := nI 1) hx hb dM_hangs_21 (by decide) ?_
    refine hw_put (v := .int (nI 1)) (ty := .int) (C := RM) (T := TM) (N := 16) hx hb hts inM tyM tyM_ok nmM hown hK hW hS hM.1 rfl 0 (by decide) (hts _ bw_517) (fun _ h9 => h9) rfl (by decide +kernel) rfl rfl (Nat.le_of_ble_eq_true rfl) dM_hangs_22 (fun H locs hW hS => ?_)
    have hW : hw D vwCl A (hwu w mo (.inr (4, [.int (nI 1), .int (nI mn), .ref (ml 0), .ref (ml 1), .ref (ml 2), .ref (ml 3), .ref (ml 4), .ref (ml 5), .ref (ml 6), .int (nI me), .int (nI fo), .int (nI fd), .ref (ml 7), .ref (ml 8), .ref (ml 9), .ref (ml 10)]))) H := hW
    obtain ⟨w3, ew3⟩ : ∃ z, z = hwu w mo (.inr (4, [.int (nI 1), .int (nI mn), .ref (ml 0), .ref (ml 1), .ref (ml 2), .ref (ml 3), .ref (ml 4), .ref (ml 5), .ref (ml 6), .int (nI me), .int (nI fo), .int (nI fd), .ref (ml 7), .ref (ml 8), .ref (ml 9), .ref (ml 10)])) := ⟨_, rfl⟩
    rw [← ew3] at hW
    have hM : moW g w3 mo ml 1 mn ki on tw od fa st rs me fo fd ba ta by9 nd := by rw [ew3]; exact hM.set_m _ _ _ _ _
    have hFr : moF mo ml w w3 := hFr.tr (by rw [ew3]; exact moF_m)
    refine lv_aload_n hx hb dM_hangs_25 rfl (lv_at hl 0 rfl) ?_
    refine hw_get (v := .int (nI 1)) (C := RM) (T := TM) (N := 16) hx hb hts inM hown hK hW hM.1 rfl 0 (by decide) (hts _ bw_517) (fun _ h9 => h9) rfl dM_hangs_26 ?_
    refine nw_if_le (tgt := 34) hx hb (by omega) dM_hangs_29 (by decide) (fun c4 => absurd c4 (by decide)) (fun c4 => ?_)
    refine lv_iconst (v := nI 0) hx hb dM_hangs_32 (by decide) ?_
    exact W.zret (ty := .boolean) (v := nI 0) hx hb hr (by decide) (fun t ht hW9 => ⟨⟨nI 0, w3, rfl, ⟨hFr, Or.inl ⟨by first | exact fun h9 => (inB_f (by omega)).mp (bz_f c1) h9.1 | exact fun h9 => (inB_f (by omega)).mp (bz_f c2) h9.2, hM⟩⟩, by rw [ht]; exact hW, va_K.moved hW9.alike hK⟩, hS.F ht⟩) hS.2.2 dM_hangs_33
  · refine lv_aload_n hx hb dM_hangs_9 rfl (lv_at hl 0 rfl) ?_
    refine lv_iload_n hx hb dM_hangs_10 rfl (lv_at hl 2 rfl) ?_
    refine kc_VI (n := 1) (As := [.int g9]) (rest := [.ref mo]) ⟨hx, hb, hml, hown, hts⟩ (c_M_isThere l D g ad tb sa w H.size mo ml cd mn ki on tw od fa st rs me fo fd ba ta by9 nd hM (by omega) g9) bw_587 bw_589 bs_17 bw_3 bw_590 (by decide +kernel) rfl rfl hM.1 ⟨by decide, by decide⟩ hW hK hk hS hAA rfl hl.1 rfl (Nat.le_of_ble_eq_true rfl) dM_hangs_11 ⟨by decide, by decide⟩ (fun r5 w6 H locs hp hW hS => ?_)
    obtain ⟨hw9, hr9⟩ := hp
    rw [hw9] at hW
    subst hr9
    refine nw_if_eq (tgt := 21) hx hb (by omega) dM_hangs_14 (by decide) (fun c2 => ?_) (fun c2 => ?_)
    · refine lv_iconst (v := nI 1) hx hb dM_hangs_21 (by decide) ?_
      refine hw_put (v := .int (nI 1)) (ty := .int) (C := RM) (T := TM) (N := 16) hx hb hts inM tyM tyM_ok nmM hown hK hW hS hM.1 rfl 0 (by decide) (hts _ bw_517) (fun _ h9 => h9) rfl (by decide +kernel) rfl rfl (Nat.le_of_ble_eq_true rfl) dM_hangs_22 (fun H locs hW hS => ?_)
      have hW : hw D vwCl A (hwu w mo (.inr (4, [.int (nI 1), .int (nI mn), .ref (ml 0), .ref (ml 1), .ref (ml 2), .ref (ml 3), .ref (ml 4), .ref (ml 5), .ref (ml 6), .int (nI me), .int (nI fo), .int (nI fd), .ref (ml 7), .ref (ml 8), .ref (ml 9), .ref (ml 10)]))) H := hW
      obtain ⟨w7, ew7⟩ : ∃ z, z = hwu w mo (.inr (4, [.int (nI 1), .int (nI mn), .ref (ml 0), .ref (ml 1), .ref (ml 2), .ref (ml 3), .ref (ml 4), .ref (ml 5), .ref (ml 6), .int (nI me), .int (nI fo), .int (nI fd), .ref (ml 7), .ref (ml 8), .ref (ml 9), .ref (ml 10)])) := ⟨_, rfl⟩
      rw [← ew7] at hW
      have hM : moW g w7 mo ml 1 mn ki on tw od fa st rs me fo fd ba ta by9 nd := by rw [ew7]; exact hM.set_m _ _ _ _ _
      have hFr : moF mo ml w w7 := hFr.tr (by rw [ew7]; exact moF_m)
      refine lv_aload_n hx hb dM_hangs_25 rfl (lv_at hl 0 rfl) ?_
      refine hw_get (v := .int (nI 1)) (C := RM) (T := TM) (N := 16) hx hb hts inM hown hK hW hM.1 rfl 0 (by decide) (hts _ bw_517) (fun _ h9 => h9) rfl dM_hangs_26 ?_
      refine nw_if_le (tgt := 34) hx hb (by omega) dM_hangs_29 (by decide) (fun c8 => absurd c8 (by decide)) (fun c8 => ?_)
      refine lv_iconst (v := nI 0) hx hb dM_hangs_32 (by decide) ?_
      exact W.zret (ty := .boolean) (v := nI 0) hx hb hr (by decide) (fun t ht hW9 => ⟨⟨nI 0, w7, rfl, ⟨hFr, Or.inl ⟨by first | exact fun h9 => (inB_f (by omega)).mp (bz_f c1) h9.1 | exact fun h9 => (inB_f (by omega)).mp (bz_f c2) h9.2, hM⟩⟩, by rw [ht]; exact hW, va_K.moved hW9.alike hK⟩, hS.F ht⟩) hS.2.2 dM_hangs_33
    · refine lv_iconst (v := nI 0) hx hb dM_hangs_17 (by decide) ?_
      refine lv_goto (tgt := 22) hx hb dM_hangs_18 (by decide) ?_
      refine hw_put (v := .int (nI 0)) (ty := .int) (C := RM) (T := TM) (N := 16) hx hb hts inM tyM tyM_ok nmM hown hK hW hS hM.1 rfl 0 (by decide) (hts _ bw_517) (fun _ h9 => h9) rfl (by decide +kernel) rfl rfl (Nat.le_of_ble_eq_true rfl) dM_hangs_22 (fun H locs hW hS => ?_)
      have hW : hw D vwCl A (hwu w mo (.inr (4, [.int (nI 0), .int (nI mn), .ref (ml 0), .ref (ml 1), .ref (ml 2), .ref (ml 3), .ref (ml 4), .ref (ml 5), .ref (ml 6), .int (nI me), .int (nI fo), .int (nI fd), .ref (ml 7), .ref (ml 8), .ref (ml 9), .ref (ml 10)]))) H := hW
      obtain ⟨w9, ew9⟩ : ∃ z, z = hwu w mo (.inr (4, [.int (nI 0), .int (nI mn), .ref (ml 0), .ref (ml 1), .ref (ml 2), .ref (ml 3), .ref (ml 4), .ref (ml 5), .ref (ml 6), .int (nI me), .int (nI fo), .int (nI fd), .ref (ml 7), .ref (ml 8), .ref (ml 9), .ref (ml 10)])) := ⟨_, rfl⟩
      rw [← ew9] at hW
      have hM : moW g w9 mo ml 0 mn ki on tw od fa st rs me fo fd ba ta by9 nd := by rw [ew9]; exact hM.set_m _ _ _ _ _
      have hFr : moF mo ml w w9 := hFr.tr (by rw [ew9]; exact moF_m)
      refine lv_aload_n hx hb dM_hangs_25 rfl (lv_at hl 0 rfl) ?_
      refine hw_get (v := .int (nI 0)) (C := RM) (T := TM) (N := 16) hx hb hts inM hown hK hW hM.1 rfl 0 (by decide) (hts _ bw_517) (fun _ h9 => h9) rfl dM_hangs_26 ?_
      refine nw_if_le (tgt := 34) hx hb (by omega) dM_hangs_29 (by decide) (fun c10 => ?_) (fun c10 => absurd c10 (by decide))
      obtain ⟨f, hfc, ef⟩ := (inB_iff (by omega)).mp (bz_t c1)
      obtain ⟨h, hhc, eh⟩ := (inB_iff (by omega)).mp (bz_t c2)
      rw [ef, eh] at hl
      refine lv_iconst (v := nI 0) hx hb dM_hangs_34 (by decide) ?_
      refine lv_istore_n (lv' := [(3, .int (nI 0)), (0, .ref mo), (1, .int (nI f)), (2, .int (nI h))]) hx hb dM_hangs_35 rfl hl (by decide) rfl (fun ls hl => ?_)
      refine lp_M_hg1 hD (show f < 40 by omega) ⟨hx, hb, hml, hts, hown, hK, hk, hAA⟩ 40 0 nd w9 (by omega) hM hFr (fun j hj => absurd hj (by omega)) _ _ hW hS ls (lv_sub hl [1, 2, 3, 0] rfl) ?_
      intro nd1 w1 hM hFr hz H locs hW hS ls hl
      refine lv_iload_n hx hb dM_hangs_64 rfl (lv_at hl 1 rfl) ?_
      refine lv_istore_n (lv' := [(3, .int (nI f)), (0, .ref mo), (1, .int (nI f)), (2, .int (nI h))]) hx hb dM_hangs_65 rfl hl (by decide) rfl (fun ls hl => ?_)
      have hl : lv_has ls 4 [(0, .ref mo), (1, .int (nI f)), (2, .int (nI h)), (3, .int (nI (f + 1) - nI 1))] := by rw [nI_p1]; exact lv_sub hl [1, 2, 3, 0] rfl
      refine lp_M_hg2 hD hS9 hfc ⟨hx, hb, hml, hts, hown, hK, hk, hAA⟩ (f + 1) (f + 1) nd1 w1 rfl (Nat.le_refl _) hM hFr (⟨by rw [hz f (by omega)]; exact decide_eq_true rfl, fun j hj hd => by rw [hz j hj] at hd; rw [of_decide_eq_true hd]; exact sdep_self σ f, fun j h1 h2 => absurd h2 (by omega)⟩) _ _ hW hS ls (lv_sub hl [0, 1, 2, 3] rfl) ?_
      intro nd1 w1 hM hFr hI H locs hW hS ls hl
      have hbh := bz_le (sdep σ f h)
      have hbn : bn nd1 h = bz (sdep σ f h) := by rw [← hgI_eq hS9.2.1 hfc (show h < 40 by omega) hI]; rfl
      refine lv_aload_n hx hb dM_hangs_131 rfl (lv_at hl 0 rfl) ?_
      refine hw_get (v := .ref (ml 10)) (C := RM) (T := TM) (N := 16) hx hb hts inM hown hK hW hM.1 rfl 15 (by decide) (hts _ bw_532) (fun _ h9 => h9) rfl dM_hangs_132 ?_
      refine lv_iload_n hx hb dM_hangs_135 rfl (lv_at hl 2 rfl) ?_
      refine hw_zald hx hb hK hW 1 hM.2.2.2.2.2.2.2.2.2.2.2 rfl (vp_in_nI (show h < 40 by omega) (by omega)) dM_hangs_136 ?_
      refine tp_i (show (ni (bn nd1)) (nI h).toNatClampNeg = nI ((bn nd1) h) from by rw [nI_clamp (by omega)]; rfl) ?_
      refine tp_i (show nI ((bn nd1) h) = nI (bz (sdep σ f h)) from by rw [hbn]) ?_
      exact W.zret (ty := .boolean) (v := nI (bz (sdep σ f h))) hx hb hr (nar_bz _) (fun t ht hW9 => ⟨⟨nI (bz (sdep σ f h)), w1, rfl, ⟨hFr, Or.inr ⟨f, h, nd1, hfc, hhc, ef, eh, rfl, hM⟩⟩, by rw [ht]; exact hW, va_K.moved hW9.alike hK⟩, hS.F ht⟩) hS.2.2 dM_hangs_137
