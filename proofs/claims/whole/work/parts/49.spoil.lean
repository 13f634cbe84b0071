theorem bz_t {b : Bool} (h : bz b ≠ 0) : b = true := by 
  cases b
  · exact absurd rfl h
  · rfl
theorem bz_f {b : Bool} (h : bz b = 0) : b = false := by 
  cases b
  · rfl
  · exact absurd h (by decide)
theorem if_same {α : Type} {P Q : Prop} [Decidable P] [Decidable Q] {x y : α} (h : P ↔ Q) : (if P then x else y) = if Q then x else y := by
  by_cases hP : P
  · rw [if_pos hP, if_pos (h.mp hP)]
  · rw [if_neg hP, if_neg (fun q => hP (h.mpr q))]

set_option maxHeartbeats 1000000 in
set_option maxRecDepth 100000 in
theorem lp_X_spoil {p : Program} {l : Launch} {e : Env} {s : State} {m : MethodId} {args : Array Value} {below : List Frame} {meth : Method} {c : Code} {Q : State → Prop} {D : va_G} {g : Nat → ClassId} {ad : Nat → Nat} {tb : Nat} {sa : Nat → Nat} {A : Nat → Prop} {w : Wd} {al ro : Nat → Nat} {σ : Nat → SD} {cnt : Nat} {fh : Nat → Bool} (hc40 : cnt ≤ 40) {f : Nat} (hf : f < 64) {pt : Nat → Int64} (h0 : cl9 w al ro 0 (.inr (0, [.ref (al 1), .int (nI cnt), .ref (al 2), .ref (al 32)]))) (h1 : cl9 w al ro 1 (qa (g 3) 40 (fun i => if i < cnt then some (al (100 + i)) else none))) (C0 : cx p s m args c A cX_spoil 4 RX D g ad tb sa) : ∀ (e9 : Nat) (k : Nat) (fh1 : Nat → Bool) (w1 : Wd), (k + e9 = 40) → (obS ad w1 al ro σ cnt fh1 pt) → (frO ro w w1) → (∀ i, i < cnt → fh1 i = if i < k then (fh i && !lb (pt i) f) else fh i) → ∀ (H : Heap) (locs : List Loc), hw D vwCl A w1 H → va_S A s.heap H locs → ∀ ls : Array Slot, lv_has ls 4 [(0, .ref (al 0)), (1, .int (nI f)), (2, .int (nI k))] → (∀ (fh1 : Nat → Bool) (w1 : Wd), (obS ad w1 al ro σ cnt fh1 pt) → (frO ro w w1) → (∀ i, i < cnt → fh1 i = if i < 40 then (fh i && !lb (pt i) f) else fh i) → ∀ (H : Heap) (locs : List Loc), hw D vwCl A w1 H → va_S A s.heap H locs → ∀ ls : Array Slot, lv_has ls 4 [] → W p l e (rmL 1 21 0 0) s m args below meth c H locs 0 0 Q (F0 m 38 ls [])) → W p l e (rmL 1 21 0 0) s m args below meth c H locs 0 0 Q (F0 m 2 ls []) := by
  obtain ⟨hx, hb, hml, hts, hown, hK, hk, hAA⟩ := C0
  intro e9
  induction e9 with
  | zero =>
    intro k fh1 w1 hk9 hO hfr hfh H locs hW hS ls hl kk0
    refine lv_iload_n hx hb dX_spoil_2 rfl (lv_at hl 2 rfl) ?_
    refine lv_bipush (v := nI 40) hx hb dX_spoil_3 (by decide) ?_
    refine nw_icmp_ge (tgt := 38) hx hb (by omega) (by omega) dX_spoil_5 (by decide) (fun c1 => ?_) (fun c1 => absurd (show k < 40 from c1) (by omega))
    exact kk0 fh1 w1 hO hfr (by rw [show k = 40 by omega] at hfh; exact hfh) H locs hW hS ls (lv_sub hl [] rfl)
  | succ e9 ih =>
    intro k fh1 w1 hk9 hO hfr hfh H locs hW hS ls hl kk0
    have h0w : w1 (al 0) = some (.inr (0, [.ref (al 1), .int (nI cnt), .ref (al 2), .ref (al 32)])) := by rw [hfr _ (Or.inl (by rw [h0.2]; omega))]; exact h0.1
    have h1w : w1 (al 1) = some (qa (g 3) 40 (fun i => if i < cnt then some (al (100 + i)) else none)) := by rw [hfr _ (Or.inl (by rw [h1.2]; omega))]; exact h1.1
    refine lv_iload_n hx hb dX_spoil_2 rfl (lv_at hl 2 rfl) ?_
    refine lv_bipush (v := nI 40) hx hb dX_spoil_3 (by decide) ?_
    refine nw_icmp_ge (tgt := 38) hx hb (by omega) (by omega) dX_spoil_5 (by decide) (fun c1 => absurd (show 40 ≤ k from c1) (by omega)) (fun c1 => ?_)
    by_cases hkc : k < cnt
    · have hbf := bz_le (fh1 k)
      have hbl := bz_le (lb (pt k) f)
      by_cases htg : sTg (σ k) = 0
      · have hob := (hO k hkc).1
        rw [sOb_0 htg] at hob
        refine lv_aload_n hx hb dX_spoil_8 rfl (lv_at hl 0 rfl) ?_
        refine hw_get (v := .ref (al 1)) (C := RX) (T := TX) (N := 4) hx hb hts inX hown hK hW h0w rfl 0 (by decide) (hts _ bw_62) (fun _ h9 => h9) rfl dX_spoil_9 ?_
        refine lv_iload_n hx hb dX_spoil_12 rfl (lv_at hl 2 rfl) ?_
        refine hw_aldq hx hb hK hW 3 h1w rfl (vp_in_nI (show k < 40 by omega) (by omega)) dX_spoil_13 ?_
        refine tp_v (show (va_rf ((fun i => if i < cnt then some (al (100 + i)) else none) (nI k).toNatClampNeg) : Value) = .ref (al (100 + k)) from by rw [nI_clamp (by omega)]; exact by show va_rf (if k < cnt then some (al (100 + k)) else none) = _; rw [if_pos hkc]; rfl) ?_
        refine lv_astore_n (lv' := [(3, .ref (al (100 + k))), (0, .ref (al 0)), (1, .int (nI f)), (2, .int (nI k))]) hx hb dX_spoil_14 rfl hl (by decide) rfl (fun ls hl => ?_)
        refine lv_aload_n hx hb dX_spoil_15 rfl (lv_at hl 0 rfl) ?_
        refine lv_ifnull hx hb dX_spoil_16 ?_
        refine lv_aload_n hx hb dX_spoil_19 rfl (lv_at hl 0 rfl) ?_
        refine lv_iload_n hx hb dX_spoil_20 rfl (lv_at hl 2 rfl) ?_
        refine kc_UI (n := 1) (As := [.int (nI f)]) (rest := []) ⟨hx, hb, hml, hown, hts⟩ (c_Q_isMadeOf l D g ad tb sa w1 H.size (al (100 + k)) f 1 (al (200 + k)) (bz (fh1 k)) (pt k) _ (by omega) (by decide) hob) bw_265 bw_267 bw_269 bw_266 bw_9 bw_270 rfl (by decide +kernel) rfl rfl hob ⟨by decide, by decide⟩ hW hK hk hS hAA rfl hl.1 rfl (Nat.le_of_ble_eq_true rfl) dX_spoil_21 ⟨by decide, by decide⟩ (fun r2 w3 H locs hp hW hS => ?_)
        obtain ⟨hw9, hr9⟩ := hp
        rw [hw9] at hW
        subst hr9
        refine nw_if_eq (tgt := 32) hx hb (by omega) dX_spoil_24 (by decide) (fun cb => ?_) (fun cb => ?_)
        · refine lv_iinc (v := nI (k + 1)) (lv' := [(2, .int (nI (k + 1))), (3, .ref (al (100 + k))), (0, .ref (al 0)), (1, .int (nI f))]) hx hb dX_spoil_32 hl (k := 3) rfl (nI_1 _) (by decide) rfl (fun ls hl => ?_)
          refine lv_goto (tgt := 2) hx hb dX_spoil_35 (by decide) ?_
          exact ih (k + 1) fh1 w1 (by omega) hO hfr (fun i hi => by
            by_cases e8 : i = k
            · first
              | exact absurd (e8 ▸ hi) hkc
              | (rw [hfh i hi, e8, if_neg (by omega), if_pos (by omega), bz_f cb, Bool.not_false, Bool.and_true])
            · rw [hfh i hi]; exact if_same (by omega)) H locs hW hS ls (lv_sub hl [2, 3, 0] rfl) kk0
        · refine lv_aload_n hx hb dX_spoil_27 rfl (lv_at hl 0 rfl) ?_
          refine lv_iconst (v := nI 0) hx hb dX_spoil_28 (by decide) ?_
          refine hw_putQ (v := .int (nI 0)) hx hb hts hown hK hW hS hob (by decide) (hts _ bw_199) (fun _ h9 => h9) (by decide) (by decide) (by simp) dX_spoil_29 (fun H locs hW hS => ?_)
          have hW : hw D vwCl A (hwu w1 (al (100 + k)) (.inr (1, .ref (al (200 + k)) :: .int (nI 0) :: .long (pt k) :: [.int (nI (sP (σ k))), .ref (al (300 + k)), .ref (al (400 + k))]))) H := hW
          obtain ⟨w4, ew4⟩ : ∃ z, z = hwu w1 (al (100 + k)) (.inr (1, .ref (al (200 + k)) :: .int (nI 0) :: .long (pt k) :: [.int (nI (sP (σ k))), .ref (al (300 + k)), .ref (al (400 + k))])) := ⟨_, rfl⟩
          rw [← ew4] at hW
          have hc5 : w4 (al 0) = some (.inr (0, [.ref (al 1), .int (nI cnt), .ref (al 2), .ref (al 32)])) := by rw [ew4, hwu_ne (h0.ne (hO k hkc) (by omega))]; exact h0w
          have hc6 : w4 (al 1) = some (qa (g 3) 40 (fun i => if i < cnt then some (al (100 + i)) else none)) := by rw [ew4, hwu_ne (h1.ne (hO k hkc) (by omega))]; exact h1w
          have hc7 : w4 (al (100 + k)) = some (.inr (1, .ref (al (200 + k)) :: .int (nI 0) :: .long (pt k) :: [.int (nI (sP (σ k))), .ref (al (300 + k)), .ref (al (400 + k))])) := by rw [ew4]; exact hwu_eq
          refine lv_iinc (v := nI (k + 1)) (lv' := [(2, .int (nI (k + 1))), (3, .ref (al (100 + k))), (0, .ref (al 0)), (1, .int (nI f))]) hx hb dX_spoil_32 hl (k := 3) rfl (nI_1 _) (by decide) rfl (fun ls hl => ?_)
          refine lv_goto (tgt := 2) hx hb dX_spoil_35 (by decide) ?_
          have ew9 : w4 = hwu w1 (al (100 + k)) (sOb ad al k (σ k) false (pt k)) := by rw [ew4, sOb_0 htg]; rfl
          exact ih (k + 1) (va_up fh1 k false) w4 (by omega) (hO.set hkc false ew9) (fun y hy => (hO.fr hc40 hkc ew9 y hy).trans (hfr y hy)) (fun i hi => by
            by_cases e8 : i = k
            · rw [e8, va_up_eq, if_pos (by omega), bz_t cb, Bool.not_true, Bool.and_false]
            · rw [va_up_no e8, hfh i hi]; exact if_same (by omega)) H locs hW hS ls (lv_sub hl [2, 3, 0] rfl) kk0
      · have hob := (hO k hkc).1
        rw [sOb_1 htg] at hob
        refine lv_aload_n hx hb dX_spoil_8 rfl (lv_at hl 0 rfl) ?_
        refine hw_get (v := .ref (al 1)) (C := RX) (T := TX) (N := 4) hx hb hts inX hown hK hW h0w rfl 0 (by decide) (hts _ bw_62) (fun _ h9 => h9) rfl dX_spoil_9 ?_
        refine lv_iload_n hx hb dX_spoil_12 rfl (lv_at hl 2 rfl) ?_
        refine hw_aldq hx hb hK hW 3 h1w rfl (vp_in_nI (show k < 40 by omega) (by omega)) dX_spoil_13 ?_
        refine tp_v (show (va_rf ((fun i => if i < cnt then some (al (100 + i)) else none) (nI k).toNatClampNeg) : Value) = .ref (al (100 + k)) from by rw [nI_clamp (by omega)]; exact by show va_rf (if k < cnt then some (al (100 + k)) else none) = _; rw [if_pos hkc]; rfl) ?_
        refine lv_astore_n (lv' := [(3, .ref (al (100 + k))), (0, .ref (al 0)), (1, .int (nI f)), (2, .int (nI k))]) hx hb dX_spoil_14 rfl hl (by decide) rfl (fun ls hl => ?_)
        refine lv_aload_n hx hb dX_spoil_15 rfl (lv_at hl 0 rfl) ?_
        refine lv_ifnull hx hb dX_spoil_16 ?_
        refine lv_aload_n hx hb dX_spoil_19 rfl (lv_at hl 0 rfl) ?_
        refine lv_iload_n hx hb dX_spoil_20 rfl (lv_at hl 2 rfl) ?_
        refine kc_UI (n := 1) (As := [.int (nI f)]) (rest := []) ⟨hx, hb, hml, hown, hts⟩ (c_Q_isMadeOf l D g ad tb sa w1 H.size (al (100 + k)) f 2 (al (200 + k)) (bz (fh1 k)) (pt k) _ (by omega) (by decide) hob) bw_265 bw_267 bw_268 bw_266 bw_9 bw_270 rfl (by decide +kernel) rfl rfl hob ⟨by decide, by decide⟩ hW hK hk hS hAA rfl hl.1 rfl (Nat.le_of_ble_eq_true rfl) dX_spoil_21 ⟨by decide, by decide⟩ (fun r8 w9 H locs hp hW hS => ?_)
        obtain ⟨hw9, hr9⟩ := hp
        rw [hw9] at hW
        subst hr9
        refine nw_if_eq (tgt := 32) hx hb (by omega) dX_spoil_24 (by decide) (fun cb => ?_) (fun cb => ?_)
        · refine lv_iinc (v := nI (k + 1)) (lv' := [(2, .int (nI (k + 1))), (3, .ref (al (100 + k))), (0, .ref (al 0)), (1, .int (nI f))]) hx hb dX_spoil_32 hl (k := 3) rfl (nI_1 _) (by decide) rfl (fun ls hl => ?_)
          refine lv_goto (tgt := 2) hx hb dX_spoil_35 (by decide) ?_
          exact ih (k + 1) fh1 w1 (by omega) hO hfr (fun i hi => by
            by_cases e8 : i = k
            · first
              | exact absurd (e8 ▸ hi) hkc
              | (rw [hfh i hi, e8, if_neg (by omega), if_pos (by omega), bz_f cb, Bool.not_false, Bool.and_true])
            · rw [hfh i hi]; exact if_same (by omega)) H locs hW hS ls (lv_sub hl [2, 3, 0] rfl) kk0
        · refine lv_aload_n hx hb dX_spoil_27 rfl (lv_at hl 0 rfl) ?_
          refine lv_iconst (v := nI 0) hx hb dX_spoil_28 (by decide) ?_
          refine hw_putQ (v := .int (nI 0)) hx hb hts hown hK hW hS hob (by decide) (hts _ bw_199) (fun _ h9 => h9) (by decide) (by decide) (by simp) dX_spoil_29 (fun H locs hW hS => ?_)
          have hW : hw D vwCl A (hwu w1 (al (100 + k)) (.inr (2, .ref (al (200 + k)) :: .int (nI 0) :: .long (pt k) :: [.ref (ad (sTg (σ k) - 1)), .ref (al (200 + sP (σ k))), .ref (al (200 + sQ (σ k))), .int (nI (sDi (σ k)))]))) H := hW
          obtain ⟨w10, ew10⟩ : ∃ z, z = hwu w1 (al (100 + k)) (.inr (2, .ref (al (200 + k)) :: .int (nI 0) :: .long (pt k) :: [.ref (ad (sTg (σ k) - 1)), .ref (al (200 + sP (σ k))), .ref (al (200 + sQ (σ k))), .int (nI (sDi (σ k)))])) := ⟨_, rfl⟩
          rw [← ew10] at hW
          have hc11 : w10 (al 0) = some (.inr (0, [.ref (al 1), .int (nI cnt), .ref (al 2), .ref (al 32)])) := by rw [ew10, hwu_ne (h0.ne (hO k hkc) (by omega))]; exact h0w
          have hc12 : w10 (al 1) = some (qa (g 3) 40 (fun i => if i < cnt then some (al (100 + i)) else none)) := by rw [ew10, hwu_ne (h1.ne (hO k hkc) (by omega))]; exact h1w
          have hc13 : w10 (al (100 + k)) = some (.inr (2, .ref (al (200 + k)) :: .int (nI 0) :: .long (pt k) :: [.ref (ad (sTg (σ k) - 1)), .ref (al (200 + sP (σ k))), .ref (al (200 + sQ (σ k))), .int (nI (sDi (σ k)))])) := by rw [ew10]; exact hwu_eq
          refine lv_iinc (v := nI (k + 1)) (lv' := [(2, .int (nI (k + 1))), (3, .ref (al (100 + k))), (0, .ref (al 0)), (1, .int (nI f))]) hx hb dX_spoil_32 hl (k := 3) rfl (nI_1 _) (by decide) rfl (fun ls hl => ?_)
          refine lv_goto (tgt := 2) hx hb dX_spoil_35 (by decide) ?_
          have ew9 : w10 = hwu w1 (al (100 + k)) (sOb ad al k (σ k) false (pt k)) := by rw [ew10, sOb_1 htg]; rfl
          exact ih (k + 1) (va_up fh1 k false) w10 (by omega) (hO.set hkc false ew9) (fun y hy => (hO.fr hc40 hkc ew9 y hy).trans (hfr y hy)) (fun i hi => by
            by_cases e8 : i = k
            · rw [e8, va_up_eq, if_pos (by omega), bz_t cb, Bool.not_true, Bool.and_false]
            · rw [va_up_no e8, hfh i hi]; exact if_same (by omega)) H locs hW hS ls (lv_sub hl [2, 3, 0] rfl) kk0
    · refine lv_aload_n hx hb dX_spoil_8 rfl (lv_at hl 0 rfl) ?_
      refine hw_get (v := .ref (al 1)) (C := RX) (T := TX) (N := 4) hx hb hts inX hown hK hW h0w rfl 0 (by decide) (hts _ bw_62) (fun _ h9 => h9) rfl dX_spoil_9 ?_
      refine lv_iload_n hx hb dX_spoil_12 rfl (lv_at hl 2 rfl) ?_
      refine hw_aldq hx hb hK hW 3 h1w rfl (vp_in_nI (show k < 40 by omega) (by omega)) dX_spoil_13 ?_
      refine tp_v (show (va_rf ((fun i => if i < cnt then some (al (100 + i)) else none) (nI k).toNatClampNeg) : Value) = .null from by rw [nI_clamp (by omega)]; exact by show va_rf (if k < cnt then some (al (100 + k)) else none) = _; rw [if_neg hkc]; rfl) ?_
      refine lv_astoreN_n (lv' := [(3, .null), (0, .ref (al 0)), (1, .int (nI f)), (2, .int (nI k))]) hx hb dX_spoil_14 rfl hl (by decide) rfl (fun ls hl => ?_)
      refine lv_aloadN_n hx hb dX_spoil_15 rfl (lv_at hl 0 rfl) ?_
      refine lv_ifnullN (tgt := 32) hx hb dX_spoil_16 (by decide) ?_
      refine lv_iinc (v := nI (k + 1)) (lv' := [(2, .int (nI (k + 1))), (3, .null), (0, .ref (al 0)), (1, .int (nI f))]) hx hb dX_spoil_32 hl (k := 3) rfl (nI_1 _) (by decide) rfl (fun ls hl => ?_)
      refine lv_goto (tgt := 2) hx hb dX_spoil_35 (by decide) ?_
      exact ih (k + 1) fh1 w1 (by omega) hO hfr (fun i hi => by
        by_cases e8 : i = k
        · first
          | exact absurd (e8 ▸ hi) hkc
          | (rw [hfh i hi, e8, if_neg (by omega), if_pos (by omega), bz_f cb, Bool.not_false, Bool.and_true])
        · rw [hfh i hi]; exact if_same (by omega)) H locs hW hS ls (lv_sub hl [2, 3, 0] rfl) kk0

set_option maxHeartbeats 1000000 in
set_option maxRecDepth 100000 in
theorem c_X_spoil (l : Launch) (D : va_G) (g : Nat → ClassId) (ad : Nat → Nat) (tb : Nat) (sa : Nat → Nat) (w : Wd) (sz : Nat) (al ro : Nat → Nat) (σ : Nat → SD) (cnt : Nat) (fh : Nat → Bool) (hc40 : cnt ≤ 40) (f : Nat) (hf : f < 64) (pt : Nat → Int64) (h0 : cl9 w al ro 0 (.inr (0, [.ref (al 1), .int (nI cnt), .ref (al 2), .ref (al 32)]))) (h1 : cl9 w al ro 1 (qa (g 3) 40 (fun i => if i < cnt then some (al (100 + i)) else none))) (hO0 : obS ad w al ro σ cnt fh pt) : MV l D g ad tb sa yX_spoil cX_spoil 4 none 1 21 0 0 w sz [.ref (al 0), .int (nI f)] (fun w' => ∃ fh1, obS ad w' al ro σ cnt fh1 pt ∧ frO ro w w' ∧ ∀ i, i < cnt → fh1 i = (fh i && !lb (pt i) f)) := by
  refine hm_MV (by decide) (Nat.le_of_ble_eq_true rfl) ?_
  intro p e s m below meth c A ls hx hb hr hml hts hown hlocks hin hout hsz hW hK hk hS hAA hl
  have hl : lv_has ls 4 [(0, .ref (al 0)), (1, .int (nI f))] := hl
  refine lv_iconst (v := nI 0) hx hb dX_spoil_0 (by decide) ?_
  refine lv_istore_n (lv' := [(2, .int (nI 0)), (0, .ref (al 0)), (1, .int (nI f))]) hx hb dX_spoil_1 rfl hl (by decide) rfl (fun ls hl => ?_)
  refine lp_X_spoil hc40 hf h0 h1 ⟨hx, hb, hml, hts, hown, hK, hk, hAA⟩ 40 0 fh w (by omega) hO0 (fun _ _ => rfl) (fun i hi => (if_neg (by omega)).symm) _ _ hW hS ls (lv_sub hl [1, 2, 0] rfl) ?_
  intro fh1 w1 hO hfr hfh H locs hW hS ls hl
  exact W.vret hx hb hr (fun t ht hW9 => ⟨⟨w1, rfl, ⟨fh1, hO, hfr, fun i hi => (hfh i hi).trans (if_pos (by omega))⟩, by rw [ht]; exact hW, va_K.moved hW9.alike hK⟩, hS.F ht⟩) hS.2.2 dX_spoil_38

set_option maxHeartbeats 1000000 in
set_option maxRecDepth 100000 in
theorem c_X_replace (l : Launch) (D : va_G) (g : Nat → ClassId) (ad : Nat → Nat) (tb : Nat) (sa : Nat → Nat) (w : Wd) (sz : Nat) (al ro : Nat → Nat) (σ : Nat → SD) (cnt : Nat) (fh : Nat → Bool) (hc40 : cnt ≤ 40) (f : Nat) (hf : f < 64) (pt : Nat → Int64) (h0 : cl9 w al ro 0 (.inr (0, [.ref (al 1), .int (nI cnt), .ref (al 2), .ref (al 32)]))) (h1 : cl9 w al ro 1 (qa (g 3) 40 (fun i => if i < cnt then some (al (100 + i)) else none))) (hO0 : obS ad w al ro σ cnt fh pt) (ra nn ix v : Nat) (R : Nat → Nat) (hra : w ra = some (ia (g 0) nn R)) (hro : 300 ≤ ro ra) (hix : ix < nn) (hnn : nn ≤ 64) (hRx : R ix < 32003) (hv9 : v < 32003) : MI l D g ad tb sa yX_replace cX_replace 5 (some (.boolean)) 2 44 0 0 w sz [.ref (al 0), .int (nI f), .ref ra, .int (nI ix), .int (nI v)] (fun x9 w' => (R ix = v → x9 = nI 0 ∧ w' = w) ∧ (R ix ≠ v → x9 = nI 1 ∧ ∃ fh1, obS ad w' al ro σ cnt fh1 pt ∧ w' ra = some (ia (g 0) nn (va_up R ix v)) ∧ (∀ y, ro y < 100 ∨ 200 ≤ ro y → y ≠ ra → w' y = w y) ∧ ∀ i, i < cnt → fh1 i = (fh i && !lb (pt i) f))) := by
  refine hm_MI (by decide) (Nat.le_of_ble_eq_true rfl) ?_
  intro p e s m below meth c A ls hx hb hr hml hts hown hlocks hin hout hsz hW hK hk hS hAA hl
  have hl : lv_has ls 5 [(0, .ref (al 0)), (1, .int (nI f)), (2, .ref ra), (3, .int (nI ix)), (4, .int (nI v))] := hl
  refine lv_aload_n hx hb dX_replace_0 rfl (lv_at hl 2 rfl) ?_
  refine lv_iload_n hx hb dX_replace_1 rfl (lv_at hl 3 rfl) ?_
  refine hw_iald hx hb hK hW 0 hra rfl (vp_in_nI (show ix < nn by omega) (by omega)) dX_replace_2 ?_
  refine tp_i (show (ni R) (nI ix).toNatClampNeg = nI (R ix) from by rw [nI_clamp (by omega)]; rfl) ?_
  refine lv_iload hx hb dX_replace_3 (lv_at hl 4 rfl) ?_
  refine nw_icmp_ne (tgt := 10) hx hb (by omega) (by omega) dX_replace_5 (by decide) (fun cv => ?_) (fun cv => ?_)
  · refine lv_aload_n hx hb dX_replace_10 rfl (lv_at hl 2 rfl) ?_
    refine lv_iload_n hx hb dX_replace_11 rfl (lv_at hl 3 rfl) ?_
    refine lv_iload hx hb dX_replace_12 (lv_at hl 4 rfl) ?_
    refine hw_iast hx hb hK hW hS 0 hra rfl (vp_in_nI (show ix < nn by omega) (by omega)) dX_replace_14 (fun H locs hW hS => ?_)
    rw [nI_clamp (show ix < 2 ^ 31 by omega), ni_upd] at hW
    have hW : hw D vwCl A (hwu w ra (ia (g 0) nn (va_up R ix v))) H := hW
    obtain ⟨w1, ew1⟩ : ∃ z, z = hwu w ra (ia (g 0) nn (va_up R ix v)) := ⟨_, rfl⟩
    rw [← ew1] at hW
    have hc2 : w1 (al 0) = some (.inr (0, [.ref (al 1), .int (nI cnt), .ref (al 2), .ref (al 32)])) := by rw [ew1, hwu_ne (fun q9 => by have := h0.2; rw [q9] at this; omega)]; exact h0.1
    have hc3 : w1 ra = some (ia (g 0) nn (va_up R ix v)) := by rw [ew1]; exact hwu_eq
    refine lv_aload_n hx hb dX_replace_15 rfl (lv_at hl 0 rfl) ?_
    refine lv_iload_n hx hb dX_replace_16 rfl (lv_at hl 1 rfl) ?_
    refine kc_VV (n := 1) (As := [.int (nI f)]) (rest := []) ⟨hx, hb, hml, hown, hts⟩ (c_X_spoil l D g ad tb sa w1 H.size al ro σ cnt fh hc40 f hf pt ⟨by rw [ew1, hwu_ne (fun q9 => by have := h0.2; rw [q9] at this; omega)]; exact h0.1, h0.2⟩ ⟨by rw [ew1, hwu_ne (fun q9 => by have := h1.2; rw [q9] at this; omega)]; exact h1.1, h1.2⟩ (fun i hi => ⟨by rw [ew1, hwu_ne (fun q9 => by have := (hO0 i hi).2; rw [q9] at this; omega)]; exact (hO0 i hi).1, (hO0 i hi).2⟩)) bw_261 bw_263 bs_5 bw_1 bw_264 (by decide +kernel) rfl rfl hc2 ⟨by decide, by decide⟩ hW hK hk hS hAA rfl hl.1 rfl (Nat.le_of_ble_eq_true rfl) dX_replace_17 ⟨by decide, by decide⟩ (fun w5 H locs hp hW hS => ?_)
    obtain ⟨fh1, hO1, hfr1, hfh1⟩ := hp
    refine lv_iconst (v := nI 1) hx hb dX_replace_20 (by decide) ?_
    exact W.zret (ty := .boolean) (v := nI 1) hx hb hr (by decide) (fun t ht hW9 => ⟨⟨nI 1, w5, rfl, ⟨fun h9 => absurd h9 cv, fun _ => ⟨rfl, fh1, hO1, by rw [hfr1 _ (Or.inr (by omega)), ew1]; exact hwu_eq, fun y hy hne => by rw [hfr1 y hy, ew1, hwu_ne hne], hfh1⟩⟩, by rw [ht]; exact hW, va_K.moved hW9.alike hK⟩, hS.F ht⟩) hS.2.2 dX_replace_21
  · refine lv_iconst (v := nI 0) hx hb dX_replace_8 (by decide) ?_
    exact W.zret (ty := .boolean) (v := nI 0) hx hb hr (by decide) (fun t ht hW9 => ⟨⟨nI 0, w, rfl, ⟨fun _ => ⟨rfl, rfl⟩, fun h9 => absurd cv h9⟩, by rw [ht]; exact hW, va_K.moved hW9.alike hK⟩, hS.F ht⟩) hS.2.2 dX_replace_9
