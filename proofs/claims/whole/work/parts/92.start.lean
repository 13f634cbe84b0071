theorem xI.old {g : Nat → ClassId} {ad : Nat → Nat} {w w' : Wd} {ro ro' : Nat → Nat} {a : Nat} {σ : Nat → SD} {cnt : Nat} {γ : GU} (h : xI g ad w ro a σ cnt γ) (hk : ∀ y e, w y = some e → w' y = some e ∧ ro' y = ro y) : xI g ad w' ro' a σ cnt γ := by
  obtain ⟨al, fh, T, pt, rfl, hX, hF, hT⟩ := h
  obtain ⟨h1, h2, h3, h4, h5⟩ := hX
  have keep : ∀ {r : Nat} {e : va_E}, cl9 w al ro r e → cl9 w' al ro' r e := fun hc => ⟨(hk _ _ hc.1).1, by rw [(hk _ _ hc.1).2]; exact hc.2⟩
  refine ⟨al, fh, T, pt, rfl, ⟨h1, h2, keep h3, keep h4, fun i hi => ?_⟩, ?_, ?_⟩
  · obtain ⟨a1, a2, a3, a4, a5, a6, a7, a8, a9⟩ := h5 i hi
    refine ⟨keep a1, keep a2, a3, a4, a5, fun e => ?_, a7, a8, a9⟩
    obtain ⟨b1, b2, b3, b4⟩ := a6 e
    exact ⟨b1, b2, keep b3, keep b4⟩
  · obtain ⟨o, dg, cn, mem, M, b, r, be, q1, q2⟩ := hF
    exact ⟨o, dg, cn, mem, M, b, r, be, q1.mv (fun _ _ _ => rfl) (fun y e hy _ _ => hk y e hy), q2⟩
  · obtain ⟨o, dg, cn, mem, M, b, r, be, q1⟩ := hT
    exact ⟨o, dg, cn, mem, M, b, r, be, q1.mv (fun _ _ _ => rfl) (fun y e hy _ _ => hk y e hy)⟩
theorem en_j {g : Nat → ClassId} {ad : Nat → Nat} {w2 w3 w5 w6 : Wd} {ro1 : Nat → Nat} {x mo ou : Nat} {ml : Nat → Nat} {e3 : va_E} (hI : xI g ad w2 ro1 x (fun _ => (0, 0, 0, 0, fun _ => 0, fun _ => 0)) 0 (0, 0, 0, fun _ _ => 0)) (n3 : w2 mo = none) (ew3 : w3 = hwu w2 mo e3) (hmD : moD ml) (hMo : moW g w5 mo ml 0 0 (fun _ => 0) (fun _ => 0) (fun _ => 0) (fun _ => 0) (fun _ => 0) (fun _ => 0) (fun _ => 0) 0 0 0 (fun _ => 0) (fun _ => 0) (fun _ => 0) (fun _ => false)) (hmn : ∀ i, i < 11 → w3 (ml i) = none) (hmF : moF mo ml w3 w5) (n6 : w5 ou = none) (ew6 : w6 = hwu w5 ou (la (g 2) 1 (fun _ => 0))) : ∃ ro9, jI g ad w6 ro9 x mo ou (fun _ => (0, 0, 0, 0, fun _ => 0, fun _ => 0)) 0 (0, 0, 0, fun _ _ => 0) := by
  have q0 := hMo.1
  have hml : ∀ i, i < 11 → ∃ e, w5 (ml i) = some e := by
    obtain ⟨a0, a1, a2, a3, a4, a5, a6, a7, a8, a9, a10, a11⟩ := hMo
    intro i hi
    rcases (show i = 0 ∨ i = 1 ∨ i = 2 ∨ i = 3 ∨ i = 4 ∨ i = 5 ∨ i = 6 ∨ i = 7 ∨ i = 8 ∨ i = 9 ∨ i = 10 by omega) with rfl | rfl | rfl | rfl | rfl | rfl | rfl | rfl | rfl | rfl | rfl
    · exact ⟨_, a1⟩
    · exact ⟨_, a2⟩
    · exact ⟨_, a3⟩
    · exact ⟨_, a4⟩
    · exact ⟨_, a5⟩
    · exact ⟨_, a6⟩
    · exact ⟨_, a7⟩
    · exact ⟨_, a8⟩
    · exact ⟨_, a9⟩
    · exact ⟨_, a10⟩
    · exact ⟨_, a11⟩
  have z1 : ∀ i, i < 11 → ml i ≠ mo ∧ w2 (ml i) = none := fun i hi => by
    have h := hmn i hi
    rw [ew3] at h
    exact hwu_none h
  have z2 : ou ≠ mo := fun h => by rw [h, q0] at n6; cases n6
  have z3 : ∀ i, i < 11 → ou ≠ ml i := fun i hi h => by
    obtain ⟨e, he⟩ := hml i hi
    rw [h, he] at n6
    cases n6
  have h0 : ∀ y : Nat, ∃ r : Nat, (y = mo → r = 10000) ∧ (y = ou → r = 20000) ∧ (∀ i, i < 11 → y = ml i → r = 10001 + i) ∧ (y ≠ mo → y ≠ ou → (∀ i, i < 11 → y ≠ ml i) → r = ro1 y) := by
    intro y
    by_cases y1 : y = mo
    · exact ⟨10000, fun _ => rfl, fun h => absurd (h.symm.trans y1) z2, fun i hi h => absurd (h.symm.trans y1) (z1 i hi).1, fun h => absurd y1 h⟩
    by_cases y2 : y = ou
    · exact ⟨20000, fun h => absurd h y1, fun _ => rfl, fun i hi h => absurd (y2.symm.trans h) (z3 i hi), fun _ h => absurd y2 h⟩
    by_cases y3 : ∃ i, i < 11 ∧ y = ml i
    · obtain ⟨i, hi, e⟩ := y3
      exact ⟨10001 + i, fun h => absurd h y1, fun h => absurd h y2, fun j hj h => by rw [hmD i j hi hj (e.symm.trans h)], fun _ _ h => absurd e (h i hi)⟩
    · exact ⟨ro1 y, fun h => absurd h y1, fun h => absurd h y2, fun i hi h => absurd ⟨i, hi, h⟩ y3, fun _ _ _ => rfl⟩
  obtain ⟨ro9, hro⟩ := Classical.axiomOfChoice h0
  have hx : xI g ad w6 ro9 x (fun _ => (0, 0, 0, 0, fun _ => 0, fun _ => 0)) 0 (0, 0, 0, fun _ _ => 0) := hI.old (fun y e hy => by
    have y1 : y ≠ mo := fun h => by rw [h, n3] at hy; cases hy
    have y3 : ∀ i, i < 11 → y ≠ ml i := fun i hi h => by rw [h, (z1 i hi).2] at hy; cases hy
    have hy5 : w5 y = some e := by rw [hmF y y1 y3, ew3, hwu_ne y1]; exact hy
    have y2 : y ≠ ou := fun h => by rw [h, n6] at hy5; cases hy5
    exact ⟨by rw [ew6, hwu_ne y2]; exact hy5, (hro y).2.2.2 y1 y2 y3⟩)
  have hm : mI g w5 ro9 mo (fun _ => (0, 0, 0, 0, fun _ => 0, fun _ => 0)) 0 (0, 0, 0, fun _ _ => 0) 0 := ⟨ml, _, _, _, _, _, _, _, 0, 0, 0, _, _, _, _, ⟨(hro mo).1 rfl, fun i hi => (hro (ml i)).2.2.1 i hi rfl⟩, hMo, ⟨by omega, fun i hi => absurd hi (by omega), fun s hs => absurd hs (by omega)⟩, fun _ _ => by omega, fun _ _ => by omega, fun _ _ => by omega, ⟨rfl, by omega, by omega, by omega, fun h => absurd h (by omega)⟩⟩
  exact ⟨ro9, hx, ⟨0, hm.mv (fun y e hy _ _ => ⟨by rw [ew6, hwu_ne (fun h => by rw [h, n6] at hy; cases hy)]; exact hy, rfl⟩)⟩, ⟨_, by rw [ew6]; exact hwu_eq⟩, (hro ou).2.1 rfl⟩

set_option maxHeartbeats 1000000 in
set_option maxRecDepth 100000 in
theorem st_law {p : Program} {l : Launch} {e : Env} {s : State} {m : MethodId} {args : Array Value} {below : List Frame} {meth : Method} {c : Code} {Q : State → Prop} {D : va_G} {g : Nat → ClassId} {ad : Nat → Nat} {tb : Nat} {sa : Nat → Nat} {A : Nat → Prop} {b L : Nat} {xs : Nat → Int32} (hSc : va_X b L xs s s.heap) (hbl : b < s.heap.size) (hbA : ¬ A b) (hL : L ≤ 3072) {H : Heap} {ls : Array Slot} (hl0 : l.stackTraces = false) (C0 : cx p s m args c A cL_law 7 RL D g ad tb sa) (kx : ∀ (ce sl : Nat) (w1 : Wd), ce ≤ 601024 → sl ≤ 7293033 → ∀ (H : Heap) (locs : List Loc), hw D vwCl A w1 H → va_S A s.heap H locs → ∀ ls : Array Slot, lv_has ls 7 [(0, .ref b)] → W p l e (rmL 12 444 601024 7293033) s m args below meth c H locs ce sl Q (F0 m 1400 ls [])) (hW : hw D vwCl A (fun _ => none) H) (hS : va_S A s.heap H []) (hl : lv_has ls 7 [(0, .ref b)]) : W p l e (rmL 12 444 601024 7293033) s m args below meth c H [] 0 0 Q (F0 m 0 ls []) := by
  obtain ⟨hx, hb, hml, hts, hown, hK, hk, hAA⟩ := id C0
  refine hw_new (C := RX) (T := TX) (N := 4) (ci := 0) (fs := [.null, .int (nI 0), .null, .null]) hx hb hts inX tyX tyX_ok hown (hts _ bw_16) (hts _ bw_17) (hts _ bw_1) hK hW hS hAA rfl (fun j hj => match j, hj with | 0, _ => rfl | 1, _ => rfl | 2, _ => rfl | 3, _ => rfl | j + 4, hj => absurd hj (by omega)) (by decide) (by decide) dL_law_0 (fun q1 H hn_q1 hW hS => ?_)
  obtain ⟨w2, ew2⟩ : ∃ z, z = hwu (fun _ => none) q1 (.inr (0, [.null, .int (nI 0), .null, .null])) := ⟨_, rfl⟩
  have hW : hw D vwCl A w2 H := by rw [ew2]; exact hW
  have hc3 : w2 q1 = some (.inr (0, [.null, .int (nI 0), .null, .null])) := by rw [ew2]; exact hwu_eq
  refine lv_dup hx hb dL_law_3 rfl ?_
  refine kc_IV (n := 0) (As := []) (rest := [.ref q1]) ⟨hx, hb, hml, hown, hts⟩ (c_X_init l D g ad tb sa w2 H.size (fun _ => 0) (fun _ => (0, 0, 0, 0, fun _ => 0, fun _ => 0)) q1 (by omega) hc3) bw_18 bw_19 bw_1 bw_20 rfl (by decide +kernel) ⟨by decide, by decide⟩ hW hK hk hS hAA rfl hl.1 rfl (Nat.le_of_ble_eq_true rfl) dL_law_4 ⟨by decide, by decide⟩ (fun w5 H locs hp hW hS => ?_)
  obtain ⟨ro1, hI, -⟩ := hp
  refine lv_astore_n (lv' := [(1, .ref q1), (0, .ref b)]) hx hb dL_law_7 rfl hl (by decide) rfl (fun ls hl => ?_)
  refine hw_new (C := RM) (T := TM) (N := 16) (ci := 4) (fs := [.int (nI 0), .int (nI 0), .null, .null, .null, .null, .null, .null, .null, .int (nI 0), .int (nI 0), .int (nI 0), .null, .null, .null, .null]) hx hb hts inM tyM tyM_ok hown (hts _ bw_511) (hts _ bw_512) (hts _ bw_3) hK hW hS hAA rfl (fun j hj => match j, hj with | 0, _ => rfl | 1, _ => rfl | 2, _ => rfl | 3, _ => rfl | 4, _ => rfl | 5, _ => rfl | 6, _ => rfl | 7, _ => rfl | 8, _ => rfl | 9, _ => rfl | 10, _ => rfl | 11, _ => rfl | 12, _ => rfl | 13, _ => rfl | 14, _ => rfl | 15, _ => rfl | j + 16, hj => absurd hj (by omega)) (by decide) (by decide) dL_law_8 (fun q6 H hn_q6 hW hS => ?_)
  obtain ⟨w7, ew7⟩ : ∃ z, z = hwu w5 q6 (.inr (4, [.int (nI 0), .int (nI 0), .null, .null, .null, .null, .null, .null, .null, .int (nI 0), .int (nI 0), .int (nI 0), .null, .null, .null, .null])) := ⟨_, rfl⟩
  have hW : hw D vwCl A w7 H := by rw [ew7]; exact hW
  have hc8 : w7 q6 = some (.inr (4, [.int (nI 0), .int (nI 0), .null, .null, .null, .null, .null, .null, .null, .int (nI 0), .int (nI 0), .int (nI 0), .null, .null, .null, .null])) := by rw [ew7]; exact hwu_eq
  refine lv_dup hx hb dL_law_11 rfl ?_
  refine kc_IV (n := 0) (As := []) (rest := [.ref q6]) ⟨hx, hb, hml, hown, hts⟩ (c_M_init l D g ad tb sa w7 H.size q6 hc8) bw_513 bw_514 bw_3 bw_515 rfl (by decide +kernel) ⟨by decide, by decide⟩ hW hK hk hS hAA rfl hl.1 rfl (Nat.le_of_ble_eq_true rfl) dL_law_12 ⟨by decide, by decide⟩ (fun w10 H locs hp hW hS => ?_)
  obtain ⟨ml, hmD, hMo, hmn, hmF⟩ := hp
  refine lv_astore_n (lv' := [(2, .ref q6), (1, .ref q1), (0, .ref b)]) hx hb dL_law_15 rfl hl (by decide) rfl (fun ls hl => ?_)
  refine lv_iconst (v := nI 1) hx hb dL_law_16 (by decide) ?_
  refine hw_newa (atype := .long) (N' := 1) (a0 := (1, .inr (.inl (fun _ => 0)))) hx hb (hts _ bw_566) rfl hK hW hS hAA 2 rfl (fun c9 => rfl) (nI_nneg (by omega)) (nI_clamp (by omega)) (by show _ * 8 ≤ _; omega) (by decide) (by decide) dL_law_17 (fun q11 H hn_q11 hW hS => ?_)
  obtain ⟨w12, ew12⟩ : ∃ z, z = hwu w10 q11 (la (g 2) 1 (fun _ => 0)) := ⟨_, rfl⟩
  have hW : hw D vwCl A w12 H := by rw [ew12]; exact hW
  have hc13 : w12 q11 = some (la (g 2) 1 (fun _ => 0)) := by rw [ew12]; exact hwu_eq
  refine lv_astore_n (lv' := [(3, .ref q11), (2, .ref q6), (1, .ref q1), (0, .ref b)]) hx hb dL_law_19 rfl hl (by decide) rfl (fun ls hl => ?_)
  refine lv_iconst (v := nI 0) hx hb dL_law_20 (by decide) ?_
  refine lv_istore (lv' := [(4, .int (nI 0)), (3, .ref q11), (2, .ref q6), (1, .ref q1), (0, .ref b)]) hx hb dL_law_21 hl (by decide) rfl (fun ls hl => ?_)
  obtain ⟨ro9, hj⟩ := en_j hI hn_q6 ew7 hmD hMo hmn hmF hn_q11 ew12
  refine W.widen (k := 200) (n := 20000) (by decide) (by decide) ?_
  exact lp_law hSc hbl hbA hL hl0 C0 kx 512 0 200 20000 ro9 _ 0 _ _ (by omega) (by omega) (by omega) (by omega) hj H _ hW hS ls (lv_sub hl [4, 3, 2, 1, 0] rfl)
