set_option maxHeartbeats 1000000 in
set_option maxRecDepth 100000 in
theorem lp_Q_refreshR {p : Program} {l : Launch} {e : Env} {s : State} {m : MethodId} {args : Array Value} {below : List Frame} {meth : Method} {c : Code} {Q : State → Prop} {D : va_G} {g : Nat → ClassId} {ad : Nat → Nat} {tb : Nat} {sa : Nat → Nat} {A : Nat → Prop} {w : Wd} {a nu fh fa st : Nat} {pt : Int64} {d : SD} {T0 : Nat → Nat} (hd0 : sTg d = 0) (ha : w a = some (.inr (1, [.ref nu, .int (nI fh), .long pt, .int (nI (sP d)), .ref fa, .ref st]))) (hf : w fa = some (ia (g 0) ((sP d + 1) * 3) (sF d))) (hF : ∀ k, k < (sP d + 1) * 3 → sF d k < 32003) (ho : sP d ≤ 3) (hs : w st = some (ia (g 0) 64 (sS d))) (hSs : ∀ k, k < 64 → sS d k < 32003) (n1 : fa ≠ nu) (n2 : st ≠ nu) (hn9 : w nu = some (ia (g 0) 64 T0)) (C0 : cx p s m args c A cQ_refresh 2 RQ D g ad tb sa) : ∀ (e9 n : Nat) (T : Nat → Nat), n + e9 = 64 → (∀ m, m < n → T m = row d (fun _ => 0) (fun _ => 0) m) → (∀ m, m < 64 → T m < 32003) → ∀ (w1 : Wd), w1 = hwu w nu (ia (g 0) 64 T) → ∀ (H : Heap) (locs : List Loc), hw D vwCl A w1 H → va_S A s.heap H locs → ∀ ls : Array Slot, lv_has ls 2 [(0, .ref a), (1, .int (nI n))] → (∀ (T : Nat → Nat) (w1 : Wd) (H : Heap) (locs : List Loc) (ls : Array Slot), (∀ m, m < 64 → T m = row d (fun _ => 0) (fun _ => 0) m) → w1 = hwu w nu (ia (g 0) 64 T) → hw D vwCl A w1 H → va_S A s.heap H locs → lv_has ls 2 [(0, .ref a)] → W p l e (rmL 3 73 0 0) s m args below meth c H locs 0 0 Q (F0 m 25 ls [])) → W p l e (rmL 3 73 0 0) s m args below meth c H locs 0 0 Q (F0 m 2 ls []) := by
  obtain ⟨hx, hb, hml, hts, hown, hK, hk, hAA⟩ := C0
  intro e9
  induction e9 with

  | zero =>
    intro n T hn hTr hT w1 ew H locs hW hS ls hl kk
    have h1a : w1 a = some (.inr (1, [.ref nu, .int (nI fh), .long pt, .int (nI (sP d)), .ref fa, .ref st])) := by rw [ew, hwu_ne (hw_apart hn9 ha (by intro q; cases q))]; exact ha
    have h1nu : w1 nu = some (ia (g 0) 64 T) := by rw [ew]; exact hwu_eq
    have h1fa : w1 fa = some (ia (g 0) ((sP d + 1) * 3) (sF d)) := by rw [ew, hwu_ne (n1)]; exact hf
    have h1st : w1 st = some (ia (g 0) 64 (sS d)) := by rw [ew, hwu_ne (n2)]; exact hs

    refine lv_iload_n hx hb dQ_refresh_2 rfl (lv_at hl 1 rfl) ?_
    refine lv_bipush (v := nI 64) hx hb dQ_refresh_3 (by decide) ?_
    refine nw_icmp_ge (tgt := 25) hx hb (by omega) (by omega) dQ_refresh_5 (by decide) (fun c1 => ?_) (fun c1 => absurd (show n < 64 from c1) (by omega))
    exact kk T w1 H locs ls (fun m hm => hTr m (by omega)) ew hW hS (lv_sub hl [0] rfl)

  | succ e9 ih =>
    intro n T hn hTr hT w1 ew H locs hW hS ls hl kk
    have h1a : w1 a = some (.inr (1, [.ref nu, .int (nI fh), .long pt, .int (nI (sP d)), .ref fa, .ref st])) := by rw [ew, hwu_ne (hw_apart hn9 ha (by intro q; cases q))]; exact ha
    have h1nu : w1 nu = some (ia (g 0) 64 T) := by rw [ew]; exact hwu_eq
    have h1fa : w1 fa = some (ia (g 0) ((sP d + 1) * 3) (sF d)) := by rw [ew, hwu_ne (n1)]; exact hf
    have h1st : w1 st = some (ia (g 0) 64 (sS d)) := by rw [ew, hwu_ne (n2)]; exact hs
    have hans : rAt (sP d) (sF d) (sS d) T n = row d (fun _ => 0) (fun _ => 0) n := by
      rw [row_eq (by omega)]
      refine Eq.trans (b := atP d (fun _ => 0) (fun _ => 0) T n) ((by unfold atP; rw [if_pos hd0])) (atP_congr (by omega) (fun _ _ _ => rfl) (fun _ _ _ => rfl) (fun m hm => hTr m hm))
    have hlt9 : rAt (sP d) (sF d) (sS d) T n < 32003 := by
      have h9 := atP_lt (f := fun _ => 0) (g := fun _ => 0) (T := T) (show n < 64 by omega) hSs (fun h => absurd hd0 h) (fun h => absurd hd0 h)
      rwa [show atP d (fun _ => 0) (fun _ => 0) T n = rAt (sP d) (sF d) (sS d) T n from (by unfold atP; rw [if_pos hd0])] at h9

    refine lv_iload_n hx hb dQ_refresh_2 rfl (lv_at hl 1 rfl) ?_
    refine lv_bipush (v := nI 64) hx hb dQ_refresh_3 (by decide) ?_
    refine nw_icmp_ge (tgt := 25) hx hb (by omega) (by omega) dQ_refresh_5 (by decide) (fun c1 => absurd (show 64 ≤ n from c1) (by omega)) (fun c1 => ?_)
    refine lv_aload_n hx hb dQ_refresh_8 rfl (lv_at hl 0 rfl) ?_
    refine hw_getQ (v := .ref nu) hx hb hts hown hK hW h1a (by decide) 0 (by decide) (hts _ bw_191) (fun _ h9 => h9) rfl dQ_refresh_9 ?_
    refine lv_iload_n hx hb dQ_refresh_12 rfl (lv_at hl 1 rfl) ?_
    refine lv_aload_n hx hb dQ_refresh_13 rfl (lv_at hl 0 rfl) ?_
    refine lv_iload_n hx hb dQ_refresh_14 rfl (lv_at hl 1 rfl) ?_
    refine kc_AI (n := 1) (As := [.int (nI n)]) (rest := [.int (nI n), .ref nu]) ⟨hx, hb, hml, hown, hts⟩ (c_R_numberAt l D g ad tb sa w1 H.size a nu fh (sP d) fa st pt (sF d) h1a h1fa hF ho (sS d) T h1st h1nu hT n (by omega)) bw_389 bw_391 bw_411 bw_412 bw_10 bw_413 (hk.1 kw_390 (by simp [twL])) (by decide +kernel) rfl rfl h1a ⟨by decide, by decide⟩ hW hK hk hS hAA rfl hl.1 rfl (Nat.le_of_ble_eq_true rfl) dQ_refresh_15 ⟨by decide, by decide⟩ (fun r2 w3 H locs hp hW hS => ?_)
    obtain ⟨hw9, hr9⟩ := hp
    rw [hw9] at hW
    subst hr9
    refine hw_iast hx hb hK hW hS 0 h1nu rfl (vp_in_nI (show n < 64 by omega) (by omega)) dQ_refresh_18 (fun H locs hW hS => ?_)
    rw [nI_clamp (show n < 2 ^ 31 by omega), ni_upd] at hW
    have hW : hw D vwCl A (hwu w1 nu (ia (g 0) 64 (va_up T n (rAt (sP d) (sF d) (sS d) T n)))) H := hW
    obtain ⟨w4, ew4⟩ : ∃ z, z = hwu w1 nu (ia (g 0) 64 (va_up T n (rAt (sP d) (sF d) (sS d) T n))) := ⟨_, rfl⟩
    rw [← ew4] at hW
    have hc5 : w4 a = some (.inr (1, .ref nu :: .int (nI fh) :: .long pt :: [.int (nI (sP d)), .ref fa, .ref st])) := by rw [ew4, hwu_ne (hw_apart h1nu h1a (by intro q; first | cases q | exact absurd q ia_ne_qa | exact absurd q.symm ia_ne_qa))]; exact h1a
    have hc6 : w4 fa = some (ia (g 0) ((sP d + 1) * 3) (sF d)) := by rw [ew4, hwu_ne (n1)]; exact h1fa
    have hc7 : w4 st = some (ia (g 0) 64 (sS d)) := by rw [ew4, hwu_ne (n2)]; exact h1st
    have hc8 : w4 nu = some (ia (g 0) 64 (va_up T n (rAt (sP d) (sF d) (sS d) T n))) := by rw [ew4]; exact hwu_eq
    refine lv_iinc (v := nI (n + 1)) (lv' := [(1, .int (nI (n + 1))), (0, .ref a)]) hx hb dQ_refresh_19 hl (k := 1) rfl (nI_1 _) (by decide) rfl (fun ls hl => ?_)
    refine lv_goto (tgt := 2) hx hb dQ_refresh_22 (by decide) ?_
    exact ih (n + 1) (va_up T n (rAt (sP d) (sF d) (sS d) T n)) (by omega) (fun m hm => by
      by_cases e8 : m = n
      · rw [e8, va_up_eq]; exact hans
      · rw [va_up_no e8]; exact hTr m (by omega)) (fun m hm => by
      by_cases e8 : m = n
      · rw [e8, va_up_eq]; exact hlt9
      · rw [va_up_no e8]; exact hT m hm) w4 (by rw [ew4, ew, hwu_two]) H locs hW hS ls (lv_sub hl [1, 0] rfl) kk

set_option maxHeartbeats 1000000 in
set_option maxRecDepth 100000 in
theorem c_Q_refreshR (l : Launch) (D : va_G) (g : Nat → ClassId) (ad : Nat → Nat) (tb : Nat) (sa : Nat → Nat) (w : Wd) (sz : Nat) (a nu fh fa st : Nat) (pt : Int64) (d : SD) (T0 : Nat → Nat) (hd0 : sTg d = 0) (ha : w a = some (.inr (1, [.ref nu, .int (nI fh), .long pt, .int (nI (sP d)), .ref fa, .ref st]))) (hf : w fa = some (ia (g 0) ((sP d + 1) * 3) (sF d))) (hF : ∀ k, k < (sP d + 1) * 3 → sF d k < 32003) (ho : sP d ≤ 3) (hs : w st = some (ia (g 0) 64 (sS d))) (hSs : ∀ k, k < 64 → sS d k < 32003) (hn9 : w nu = some (ia (g 0) 64 T0)) (hT0 : ∀ k, k < 64 → T0 k < 32003) (n1 : fa ≠ nu) (n2 : st ≠ nu) : MV l D g ad tb sa yQ_refresh cQ_refresh 2 none 3 73 0 0 w sz [.ref a] (fun w' => ∃ T : Nat → Nat, (∀ m, m < 64 → T m = row d (fun _ => 0) (fun _ => 0) m) ∧ w' = hwu (hwu w nu (ia (g 0) 64 T)) a (.inr (1, [.ref nu, .int (nI 1), .long pt, .int (nI (sP d)), .ref fa, .ref st]))) := by

  refine hm_MV (by decide) (Nat.le_of_ble_eq_true rfl) ?_
  intro p e s m below meth c A ls hx hb hr hml hts hown hlocks hin hout hsz hW hK hk hS hAA hl
  have hl : lv_has ls 2 [(0, .ref a)] := hl
  refine lv_iconst (v := nI 0) hx hb dQ_refresh_0 (by decide) ?_
  refine lv_istore_n (lv' := [(1, .int (nI 0)), (0, .ref a)]) hx hb dQ_refresh_1 rfl hl (by decide) rfl (fun ls hl => ?_)
  refine lp_Q_refreshR (T0 := T0) hd0 ha hf hF ho hs hSs n1 n2 hn9 ⟨hx, hb, hml, hts, hown, hK, hk, hAA⟩ 64 0 T0 (by omega) (fun m hm => absurd hm (by omega)) hT0 w (hwu_self hn9).symm _ _ hW hS ls (lv_sub hl [1, 0] rfl) ?_
  intro T w1 H locs ls hTr ew hW hS hl
  have h1a : w1 a = some (.inr (1, [.ref nu, .int (nI fh), .long pt, .int (nI (sP d)), .ref fa, .ref st])) := by rw [ew, hwu_ne (hw_apart hn9 ha (by intro q; cases q))]; exact ha
  have h1nu : w1 nu = some (ia (g 0) 64 T) := by rw [ew]; exact hwu_eq
  refine lv_aload_n hx hb dQ_refresh_25 rfl (lv_at hl 0 rfl) ?_
  refine lv_iconst (v := nI 1) hx hb dQ_refresh_26 (by decide) ?_
  refine hw_putQ (v := .int (nI 1)) hx hb hts hown hK hW hS h1a (by decide) (hts _ bw_198) (fun _ h9 => h9) (by decide) (by decide) (by simp) dQ_refresh_27 (fun H locs hW hS => ?_)
  have hW : hw D vwCl A (hwu w1 a (.inr (1, .ref nu :: .int (nI 1) :: .long pt :: [.int (nI (sP d)), .ref fa, .ref st]))) H := hW
  obtain ⟨w1, ew1⟩ : ∃ z, z = hwu w1 a (.inr (1, .ref nu :: .int (nI 1) :: .long pt :: [.int (nI (sP d)), .ref fa, .ref st])) := ⟨_, rfl⟩
  rw [← ew1] at hW
  have hc2 : w1 a = some (.inr (1, .ref nu :: .int (nI 1) :: .long pt :: [.int (nI (sP d)), .ref fa, .ref st])) := by rw [ew1]; exact hwu_eq
  exact W.vret hx hb hr (fun t ht hW9 => ⟨⟨w1, rfl, ⟨T, hTr, by rw [ew1, ew]⟩, by rw [ht]; exact hW, va_K.moved hW9.alike hK⟩, hS.F ht⟩) hS.2.2 dQ_refresh_30

set_option maxHeartbeats 1000000 in
set_option maxRecDepth 100000 in
theorem lp_Q_refreshK {p : Program} {l : Launch} {e : Env} {s : State} {m : MethodId} {args : Array Value} {below : List Frame} {meth : Method} {c : Code} {Q : State → Prop} {D : va_G} {g : Nat → ClassId} {ad : Nat → Nat} {tb : Nat} {sa : Nat → Nat} {A : Nat → Prop} {w : Wd} {a nu fh k fA gA : Nat} {pt : Int64} {F G : Nat → Nat} {d : SD} {T0 : Nat → Nat} (hd0 : sTg d = k + 1) (hk7 : k < 7) (hdi : sDi d ≤ 8) (ha : w a = some (.inr (2, [.ref nu, .int (nI fh), .long pt, .ref (ad k), .ref fA, .ref gA, .int (nI (sDi d))]))) (hf : w fA = some (ia (g 0) 64 F)) (hg9 : w gA = some (ia (g 0) 64 G)) (hF : ∀ k, k < 64 → F k < 32003) (hG9 : ∀ k, k < 64 → G k < 32003) (hSs : ∀ k, k < 64 → sS d k < 32003) (n1 : fA ≠ nu) (n2 : gA ≠ nu) (hn9 : w nu = some (ia (g 0) 64 T0)) (C0 : cx p s m args c A cQ_refresh 2 RQ D g ad tb sa) : ∀ (e9 n : Nat) (T : Nat → Nat), n + e9 = 64 → (∀ m, m < n → T m = row d F G m) → (∀ m, m < 64 → T m < 32003) → ∀ (w1 : Wd), w1 = hwu w nu (ia (g 0) 64 T) → ∀ (H : Heap) (locs : List Loc), hw D vwCl A w1 H → va_S A s.heap H locs → ∀ ls : Array Slot, lv_has ls 2 [(0, .ref a), (1, .int (nI n))] → (∀ (T : Nat → Nat) (w1 : Wd) (H : Heap) (locs : List Loc) (ls : Array Slot), (∀ m, m < 64 → T m = row d F G m) → w1 = hwu w nu (ia (g 0) 64 T) → hw D vwCl A w1 H → va_S A s.heap H locs → lv_has ls 2 [(0, .ref a)] → W p l e (rmL 3 73 0 0) s m args below meth c H locs 0 0 Q (F0 m 25 ls [])) → W p l e (rmL 3 73 0 0) s m args below meth c H locs 0 0 Q (F0 m 2 ls []) := by
  obtain ⟨hx, hb, hml, hts, hown, hK, hk, hAA⟩ := C0
  intro e9
  induction e9 with

  | zero =>
    intro n T hn hTr hT w1 ew H locs hW hS ls hl kk
    have h1a : w1 a = some (.inr (2, [.ref nu, .int (nI fh), .long pt, .ref (ad k), .ref fA, .ref gA, .int (nI (sDi d))])) := by rw [ew, hwu_ne (hw_apart hn9 ha (by intro q; cases q))]; exact ha
    have h1nu : w1 nu = some (ia (g 0) 64 T) := by rw [ew]; exact hwu_eq
    have h1fA : w1 fA = some (ia (g 0) 64 F) := by rw [ew, hwu_ne (n1)]; exact hf
    have h1gA : w1 gA = some (ia (g 0) 64 G) := by rw [ew, hwu_ne (n2)]; exact hg9

    refine lv_iload_n hx hb dQ_refresh_2 rfl (lv_at hl 1 rfl) ?_
    refine lv_bipush (v := nI 64) hx hb dQ_refresh_3 (by decide) ?_
    refine nw_icmp_ge (tgt := 25) hx hb (by omega) (by omega) dQ_refresh_5 (by decide) (fun c1 => ?_) (fun c1 => absurd (show n < 64 from c1) (by omega))
    exact kk T w1 H locs ls (fun m hm => hTr m (by omega)) ew hW hS (lv_sub hl [0] rfl)

  | succ e9 ih =>
    intro n T hn hTr hT w1 ew H locs hW hS ls hl kk
    have h1a : w1 a = some (.inr (2, [.ref nu, .int (nI fh), .long pt, .ref (ad k), .ref fA, .ref gA, .int (nI (sDi d))])) := by rw [ew, hwu_ne (hw_apart hn9 ha (by intro q; cases q))]; exact ha
    have h1nu : w1 nu = some (ia (g 0) 64 T) := by rw [ew]; exact hwu_eq
    have h1fA : w1 fA = some (ia (g 0) 64 F) := by rw [ew, hwu_ne (n1)]; exact hf
    have h1gA : w1 gA = some (ia (g 0) 64 G) := by rw [ew, hwu_ne (n2)]; exact hg9
    have hans : cAt (k + 1) (sDi d) F G T n = row d F G n := by
      rw [row_eq (by omega)]
      refine Eq.trans (b := atP d F G T n) ((by unfold atP; rw [if_neg (by omega), hd0])) (atP_congr (by omega) (fun _ _ _ => rfl) (fun _ _ _ => rfl) (fun m hm => hTr m hm))
    have hlt9 : cAt (k + 1) (sDi d) F G T n < 32003 := by
      have h9 := atP_lt (f := F) (g := G) (T := T) (show n < 64 by omega) hSs (fun _ => hF) (fun _ => hG9)
      rwa [show atP d F G T n = cAt (k + 1) (sDi d) F G T n from (by unfold atP; rw [if_neg (by omega), hd0])] at h9

    refine lv_iload_n hx hb dQ_refresh_2 rfl (lv_at hl 1 rfl) ?_
    refine lv_bipush (v := nI 64) hx hb dQ_refresh_3 (by decide) ?_
    refine nw_icmp_ge (tgt := 25) hx hb (by omega) (by omega) dQ_refresh_5 (by decide) (fun c1 => absurd (show 64 ≤ n from c1) (by omega)) (fun c1 => ?_)
    refine lv_aload_n hx hb dQ_refresh_8 rfl (lv_at hl 0 rfl) ?_
    refine hw_getQ (v := .ref nu) hx hb hts hown hK hW h1a (by decide) 0 (by decide) (hts _ bw_191) (fun _ h9 => h9) rfl dQ_refresh_9 ?_
    refine lv_iload_n hx hb dQ_refresh_12 rfl (lv_at hl 1 rfl) ?_
    refine lv_aload_n hx hb dQ_refresh_13 rfl (lv_at hl 0 rfl) ?_
    refine lv_iload_n hx hb dQ_refresh_14 rfl (lv_at hl 1 rfl) ?_
    refine kc_AI (n := 1) (As := [.int (nI n)]) (rest := [.int (nI n), .ref nu]) ⟨hx, hb, hml, hown, hts⟩ (c_K_numberAt l D g ad tb sa w1 H.size a nu fh k fA gA (sDi d) pt F G h1a h1fA h1gA hF hG9 hdi hk7 T h1nu hT n (by omega)) bw_389 bw_391 bw_392 bw_393 bw_14 bw_394 (hk.1 kw_390 (by simp [twL])) (by decide +kernel) rfl rfl h1a ⟨by decide, by decide⟩ hW hK hk hS hAA rfl hl.1 rfl (Nat.le_of_ble_eq_true rfl) dQ_refresh_15 ⟨by decide, by decide⟩ (fun r2 w3 H locs hp hW hS => ?_)
    obtain ⟨hw9, hr9⟩ := hp
    rw [hw9] at hW
    subst hr9
    refine hw_iast hx hb hK hW hS 0 h1nu rfl (vp_in_nI (show n < 64 by omega) (by omega)) dQ_refresh_18 (fun H locs hW hS => ?_)
    rw [nI_clamp (show n < 2 ^ 31 by omega), ni_upd] at hW
    have hW : hw D vwCl A (hwu w1 nu (ia (g 0) 64 (va_up T n (cAt (k + 1) (sDi d) F G T n)))) H := hW
    obtain ⟨w4, ew4⟩ : ∃ z, z = hwu w1 nu (ia (g 0) 64 (va_up T n (cAt (k + 1) (sDi d) F G T n))) := ⟨_, rfl⟩
    rw [← ew4] at hW
    have hc5 : w4 a = some (.inr (2, .ref nu :: .int (nI fh) :: .long pt :: [.ref (ad k), .ref fA, .ref gA, .int (nI (sDi d))])) := by rw [ew4, hwu_ne (hw_apart h1nu h1a (by intro q; first | cases q | exact absurd q ia_ne_qa | exact absurd q.symm ia_ne_qa))]; exact h1a
    have hc6 : w4 fA = some (ia (g 0) 64 F) := by rw [ew4, hwu_ne (n1)]; exact h1fA
    have hc7 : w4 gA = some (ia (g 0) 64 G) := by rw [ew4, hwu_ne (n2)]; exact h1gA
    have hc8 : w4 nu = some (ia (g 0) 64 (va_up T n (cAt (k + 1) (sDi d) F G T n))) := by rw [ew4]; exact hwu_eq
    refine lv_iinc (v := nI (n + 1)) (lv' := [(1, .int (nI (n + 1))), (0, .ref a)]) hx hb dQ_refresh_19 hl (k := 1) rfl (nI_1 _) (by decide) rfl (fun ls hl => ?_)
    refine lv_goto (tgt := 2) hx hb dQ_refresh_22 (by decide) ?_
    exact ih (n + 1) (va_up T n (cAt (k + 1) (sDi d) F G T n)) (by omega) (fun m hm => by
      by_cases e8 : m = n
      · rw [e8, va_up_eq]; exact hans
      · rw [va_up_no e8]; exact hTr m (by omega)) (fun m hm => by
      by_cases e8 : m = n
      · rw [e8, va_up_eq]; exact hlt9
      · rw [va_up_no e8]; exact hT m hm) w4 (by rw [ew4, ew, hwu_two]) H locs hW hS ls (lv_sub hl [1, 0] rfl) kk

set_option maxHeartbeats 1000000 in
set_option maxRecDepth 100000 in
theorem c_Q_refreshK (l : Launch) (D : va_G) (g : Nat → ClassId) (ad : Nat → Nat) (tb : Nat) (sa : Nat → Nat) (w : Wd) (sz : Nat) (a nu fh k fA gA : Nat) (pt : Int64) (F G : Nat → Nat) (d : SD) (T0 : Nat → Nat) (hd0 : sTg d = k + 1) (hk7 : k < 7) (hdi : sDi d ≤ 8) (ha : w a = some (.inr (2, [.ref nu, .int (nI fh), .long pt, .ref (ad k), .ref fA, .ref gA, .int (nI (sDi d))]))) (hf : w fA = some (ia (g 0) 64 F)) (hg9 : w gA = some (ia (g 0) 64 G)) (hF : ∀ k, k < 64 → F k < 32003) (hG9 : ∀ k, k < 64 → G k < 32003) (hSs : ∀ k, k < 64 → sS d k < 32003) (hn9 : w nu = some (ia (g 0) 64 T0)) (hT0 : ∀ k, k < 64 → T0 k < 32003) (n1 : fA ≠ nu) (n2 : gA ≠ nu) : MV l D g ad tb sa yQ_refresh cQ_refresh 2 none 3 73 0 0 w sz [.ref a] (fun w' => ∃ T : Nat → Nat, (∀ m, m < 64 → T m = row d F G m) ∧ w' = hwu (hwu w nu (ia (g 0) 64 T)) a (.inr (2, [.ref nu, .int (nI 1), .long pt, .ref (ad k), .ref fA, .ref gA, .int (nI (sDi d))]))) := by

  refine hm_MV (by decide) (Nat.le_of_ble_eq_true rfl) ?_
  intro p e s m below meth c A ls hx hb hr hml hts hown hlocks hin hout hsz hW hK hk hS hAA hl
  have hl : lv_has ls 2 [(0, .ref a)] := hl
  refine lv_iconst (v := nI 0) hx hb dQ_refresh_0 (by decide) ?_
  refine lv_istore_n (lv' := [(1, .int (nI 0)), (0, .ref a)]) hx hb dQ_refresh_1 rfl hl (by decide) rfl (fun ls hl => ?_)
  refine lp_Q_refreshK (T0 := T0) hd0 hk7 hdi ha hf hg9 hF hG9 hSs n1 n2 hn9 ⟨hx, hb, hml, hts, hown, hK, hk, hAA⟩ 64 0 T0 (by omega) (fun m hm => absurd hm (by omega)) hT0 w (hwu_self hn9).symm _ _ hW hS ls (lv_sub hl [1, 0] rfl) ?_
  intro T w1 H locs ls hTr ew hW hS hl
  have h1a : w1 a = some (.inr (2, [.ref nu, .int (nI fh), .long pt, .ref (ad k), .ref fA, .ref gA, .int (nI (sDi d))])) := by rw [ew, hwu_ne (hw_apart hn9 ha (by intro q; cases q))]; exact ha
  have h1nu : w1 nu = some (ia (g 0) 64 T) := by rw [ew]; exact hwu_eq
  refine lv_aload_n hx hb dQ_refresh_25 rfl (lv_at hl 0 rfl) ?_
  refine lv_iconst (v := nI 1) hx hb dQ_refresh_26 (by decide) ?_
  refine hw_putQ (v := .int (nI 1)) hx hb hts hown hK hW hS h1a (by decide) (hts _ bw_198) (fun _ h9 => h9) (by decide) (by decide) (by simp) dQ_refresh_27 (fun H locs hW hS => ?_)
  have hW : hw D vwCl A (hwu w1 a (.inr (2, .ref nu :: .int (nI 1) :: .long pt :: [.ref (ad k), .ref fA, .ref gA, .int (nI (sDi d))]))) H := hW
  obtain ⟨w1, ew1⟩ : ∃ z, z = hwu w1 a (.inr (2, .ref nu :: .int (nI 1) :: .long pt :: [.ref (ad k), .ref fA, .ref gA, .int (nI (sDi d))])) := ⟨_, rfl⟩
  rw [← ew1] at hW
  have hc2 : w1 a = some (.inr (2, .ref nu :: .int (nI 1) :: .long pt :: [.ref (ad k), .ref fA, .ref gA, .int (nI (sDi d))])) := by rw [ew1]; exact hwu_eq
  exact W.vret hx hb hr (fun t ht hW9 => ⟨⟨w1, rfl, ⟨T, hTr, by rw [ew1, ew]⟩, by rw [ht]; exact hW, va_K.moved hW9.alike hK⟩, hS.F ht⟩) hS.2.2 dQ_refresh_30
