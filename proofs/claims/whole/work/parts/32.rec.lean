set_option maxHeartbeats 1000000 in
set_option maxRecDepth 100000 in
theorem c_Q_isMadeOf (l : Launch) (D : va_G) (g : Nat → ClassId) (ad : Nat → Nat) (tb : Nat) (sa : Nat → Nat) (w : Wd) (sz : Nat) (a j ci nu fh : Nat) (pt : Int64) (tl : List Value) (hj : j < 64) (hci : ci = 1 ∨ ci = 2) (ha : w a = some (.inr (ci, .ref nu :: .int (nI fh) :: .long pt :: tl))) : MI l D g ad tb sa yQ_isMadeOf cQ_isMadeOf 2 (some (.boolean)) 0 0 0 0 w sz [.ref a, .int (nI j)] (fun r w' => w' = w ∧ r = nI (bz (lb pt j))) := by

  refine hm_MI (by decide) (Nat.le_of_ble_eq_true rfl) ?_
  intro p e s m below meth c A ls hx hb hr hml hts hown hlocks hin hout hsz hW hK hk hS hAA hl
  have hl : lv_has ls 2 [(0, .ref a), (1, .int (nI j))] := hl
  refine lv_aload_n hx hb dQ_isMadeOf_0 rfl (lv_at hl 0 rfl) ?_
  refine hw_getQ (v := .long pt) hx hb hts hown hK hW ha hci 2 (by decide) (hts _ bw_201) (fun _ h9 => h9) rfl dQ_isMadeOf_1 ?_
  refine lv_iload_n hx hb dQ_isMadeOf_4 rfl (lv_at hl 1 rfl) ?_
  refine lv_lshr hx hb dQ_isMadeOf_5 rfl ?_
  refine lv_lconst (v := lN 1) hx hb dQ_isMadeOf_6 (by decide) ?_
  refine lv_land hx hb dQ_isMadeOf_7 ?_
  refine tp_l (show (pt >>> ((nI j).toInt64 &&& 63)) &&& (lN 1) = lN (bz (lb pt j)) from shr_bit pt hj) ?_
  refine lv_lconst (v := lN 1) hx hb dQ_isMadeOf_8 (by decide) ?_
  refine W.lcmp hx hb dQ_isMadeOf_9 ?_
  refine lv_if_ne (tgt := 17) hx hb dQ_isMadeOf_10 (by decide) (fun c1 => ?_) (fun c1 => ?_)
  · replace c1 : lb pt j = false := by
      cases hb9 : lb pt j with
      | false => rfl
      | true => exact absurd ((cmp_1 _).mpr hb9) c1
    refine lv_iconst (v := nI 0) hx hb dQ_isMadeOf_17 (by decide) ?_
    exact W.zret (ty := .boolean) (v := nI 0) hx hb hr (by decide) (fun t ht hW9 => ⟨⟨nI 0, w, rfl, ⟨rfl, by rw [show lb pt j = false from c1]; rfl⟩, by rw [ht]; exact hW, va_K.moved hW9.alike hK⟩, hS.F ht⟩) hS.2.2 dQ_isMadeOf_18
  · replace c1 : lb pt j = true := (cmp_1 _).mp c1
    refine lv_iconst (v := nI 1) hx hb dQ_isMadeOf_13 (by decide) ?_
    refine lv_goto (tgt := 18) hx hb dQ_isMadeOf_14 (by decide) ?_
    exact W.zret (ty := .boolean) (v := nI 1) hx hb hr (by decide) (fun t ht hW9 => ⟨⟨nI 1, w, rfl, ⟨rfl, by rw [show lb pt j = true from c1]; rfl⟩, by rw [ht]; exact hW, va_K.moved hW9.alike hK⟩, hS.F ht⟩) hS.2.2 dQ_isMadeOf_18

set_option maxHeartbeats 1000000 in
set_option maxRecDepth 100000 in
theorem c_R_factorAt (l : Launch) (D : va_G) (g : Nat → ClassId) (ad : Nat → Nat) (tb : Nat) (sa : Nat → Nat) (w : Wd) (sz : Nat) (a nu fh o fa st : Nat) (pt : Int64) (F : Nat → Nat) (ha : w a = some (.inr (1, [.ref nu, .int (nI fh), .long pt, .int (nI o), .ref fa, .ref st]))) (hf : w fa = some (ia (g 0) ((o + 1) * 3) F)) (hF : ∀ k, k < (o + 1) * 3 → F k < 32003) (ho : o ≤ 3) (i x : Nat) (hi : i ≤ o) (hx9 : x < 64) : MI l D g ad tb sa yR_factorAt cR_factorAt 6 (some (.int)) 1 22 0 0 w sz [.ref a, .int (nI i), .int (nI x)] (fun r w' => w' = w ∧ r = nI (fAt F i x)) := by

  refine hm_MI (by decide) (Nat.le_of_ble_eq_true rfl) ?_
  intro p e s m below meth c A ls hx hb hr hml hts hown hlocks hin hout hsz hW hK hk hS hAA hl
  have hl : lv_has ls 6 [(0, .ref a), (1, .int (nI i)), (2, .int (nI x))] := hl
  have hE := fAt_small (hF (i * 3 + 2) (by omega)) (hF (i * 3 + 1) (by omega)) (hF (i * 3) (by omega)) hx9
  have hF1 := hF (i * 3) (by omega)
  have hF2 := hF (i * 3 + 1) (by omega)
  have hF3 := hF (i * 3 + 2) (by omega)
  refine lv_iload_n hx hb dR_factorAt_0 rfl (lv_at hl 1 rfl) ?_
  refine lv_iconst (v := nI 3) hx hb dR_factorAt_1 (by decide) ?_
  refine lv_imul hx hb dR_factorAt_2 ?_
  refine tp_i (show (nI i) * (nI 3) = nI (i * 3) from pk_mul _ _) ?_
  refine lv_istore_n (lv' := [(3, .int (nI (i * 3))), (0, .ref a), (1, .int (nI i)), (2, .int (nI x))]) hx hb dR_factorAt_3 rfl hl (by decide) rfl (fun ls hl => ?_)
  refine lv_aload_n hx hb dR_factorAt_4 rfl (lv_at hl 1 rfl) ?_
  refine hw_get (v := .ref fa) (C := RR) (T := TR) (N := 6) hx hb hts inR hown hK hW ha rfl 4 (by decide) (hts _ bw_187) (fun _ h9 => h9) rfl dR_factorAt_5 ?_
  refine lv_iload_n hx hb dR_factorAt_8 rfl (lv_at hl 0 rfl) ?_
  refine lv_iconst (v := nI 2) hx hb dR_factorAt_9 (by decide) ?_
  refine lv_iadd hx hb dR_factorAt_10 ?_
  refine tp_i (show (nI (i * 3)) + (nI 2) = nI ((i * 3) + 2) from nI_add _ _) ?_
  refine hw_iald hx hb hK hW 0 hf rfl (vp_in_nI (show (i * 3) + 2 < ((o + 1) * 3) by omega) (by omega)) dR_factorAt_11 ?_
  refine tp_i (show (ni F) (nI ((i * 3) + 2)).toNatClampNeg = nI (F ((i * 3) + 2)) from by rw [nI_clamp (by omega)]; rfl) ?_
  refine lv_i2l (v := lN (F ((i * 3) + 2))) hx hb dR_factorAt_12 (nI_l (by omega)) ?_
  refine lv_iload_n hx hb dR_factorAt_13 rfl (lv_at hl 3 rfl) ?_
  refine lv_i2l (v := lN x) hx hb dR_factorAt_14 (nI_l (by omega)) ?_
  refine lv_lmul hx hb dR_factorAt_15 ?_
  refine tp_l (show (lN (F ((i * 3) + 2))) * (lN x) = lN ((F ((i * 3) + 2)) * x) from lN_mul _ _) ?_
  refine lv_aload_n hx hb dR_factorAt_16 rfl (lv_at hl 1 rfl) ?_
  refine hw_get (v := .ref fa) (C := RR) (T := TR) (N := 6) hx hb hts inR hown hK hW ha rfl 4 (by decide) (hts _ bw_187) (fun _ h9 => h9) rfl dR_factorAt_17 ?_
  refine lv_iload_n hx hb dR_factorAt_20 rfl (lv_at hl 0 rfl) ?_
  refine lv_iconst (v := nI 1) hx hb dR_factorAt_21 (by decide) ?_
  refine lv_iadd hx hb dR_factorAt_22 ?_
  refine tp_i (show (nI (i * 3)) + (nI 1) = nI ((i * 3) + 1) from nI_add _ _) ?_
  refine hw_iald hx hb hK hW 0 hf rfl (vp_in_nI (show (i * 3) + 1 < ((o + 1) * 3) by omega) (by omega)) dR_factorAt_23 ?_
  refine tp_i (show (ni F) (nI ((i * 3) + 1)).toNatClampNeg = nI (F ((i * 3) + 1)) from by rw [nI_clamp (by omega)]; rfl) ?_
  refine lv_i2l (v := lN (F ((i * 3) + 1))) hx hb dR_factorAt_24 (nI_l (by omega)) ?_
  refine lv_ladd hx hb dR_factorAt_25 ?_
  refine tp_l (show (lN ((F ((i * 3) + 2)) * x)) + (lN (F ((i * 3) + 1))) = lN (((F ((i * 3) + 2)) * x) + (F ((i * 3) + 1))) from lN_add _ _) ?_
  refine lv_lstore (lv' := [(4, .long (lN (((F ((i * 3) + 2)) * x) + (F ((i * 3) + 1))))), (3, .int (nI (i * 3))), (0, .ref a), (1, .int (nI i)), (2, .int (nI x))]) hx hb dR_factorAt_26 hl (by decide) rfl (fun ls hl => ?_)
  refine lv_lload hx hb dR_factorAt_28 (lv_at hl 0 rfl) ?_
  refine lv_iload_n hx hb dR_factorAt_30 rfl (lv_at hl 4 rfl) ?_
  refine lv_i2l (v := lN x) hx hb dR_factorAt_31 (nI_l (by omega)) ?_
  refine lv_lmul hx hb dR_factorAt_32 ?_
  refine tp_l (show (lN (((F ((i * 3) + 2)) * x) + (F ((i * 3) + 1)))) * (lN x) = lN ((((F ((i * 3) + 2)) * x) + (F ((i * 3) + 1))) * x) from lN_mul _ _) ?_
  refine lv_aload_n hx hb dR_factorAt_33 rfl (lv_at hl 2 rfl) ?_
  refine hw_get (v := .ref fa) (C := RR) (T := TR) (N := 6) hx hb hts inR hown hK hW ha rfl 4 (by decide) (hts _ bw_187) (fun _ h9 => h9) rfl dR_factorAt_34 ?_
  refine lv_iload_n hx hb dR_factorAt_37 rfl (lv_at hl 1 rfl) ?_
  refine hw_iald hx hb hK hW 0 hf rfl (vp_in_nI (show i * 3 < ((o + 1) * 3) by omega) (by omega)) dR_factorAt_38 ?_
  refine tp_i (show (ni F) (nI (i * 3)).toNatClampNeg = nI (F (i * 3)) from by rw [nI_clamp (by omega)]; rfl) ?_
  refine lv_i2l (v := lN (F (i * 3))) hx hb dR_factorAt_39 (nI_l (by omega)) ?_
  refine lv_ladd hx hb dR_factorAt_40 ?_
  refine tp_l (show (lN ((((F ((i * 3) + 2)) * x) + (F ((i * 3) + 1))) * x)) + (lN (F (i * 3))) = lN (((((F ((i * 3) + 2)) * x) + (F ((i * 3) + 1))) * x) + (F (i * 3))) from lN_add _ _) ?_
  refine kc_NSI (n := 1) (As := [.long (lN (((((F ((i * 3) + 2)) * x) + (F ((i * 3) + 1))) * x) + (F (i * 3))))]) (rest := []) ⟨hx, hb, hml, hown, hts⟩ (c_X_reduce l D g ad tb sa w s.heap.size (lN (((((F ((i * 3) + 2)) * x) + (F ((i * 3) + 1))) * x) + (F (i * 3))))) (hk.1 kw_418 (by simp [twL])) bw_254 bw_1 bw_255 (by decide +kernel) ⟨by decide, by decide⟩ hW hK hk hS hAA rfl hl.1 rfl (Nat.le_of_ble_eq_true rfl) dR_factorAt_41 ⟨by decide, by decide⟩ (fun r1 w2 H locs hp hW hS => ?_)
  obtain ⟨hw9, hr9⟩ := hp
  rw [hw9] at hW
  subst hr9
  refine tp_i (show nI (rd (lN (((((F ((i * 3) + 2)) * x) + (F ((i * 3) + 1))) * x) + (F (i * 3)))).toInt) = nI (fAt F i x) from by rw [rd_lN (by omega)]; rfl) ?_
  exact W.iret (v := nI (fAt F i x)) hx hb hr (fun t ht hW9 => ⟨⟨nI (fAt F i x), w, rfl, ⟨rfl, rfl⟩, by rw [ht]; exact hW, va_K.moved hW9.alike hK⟩, hS.F ht⟩) hS.2.2 dR_factorAt_44

theorem rs_small {F T : Nat → Nat} {x o : Nat} (hT : ∀ k, k < 64 → T k < 32003) (hx : x + o ≤ 64) (ho : o ≤ 3) : ∀ k, k ≤ o → ns (fun i => fAt F i x * T (x + i)) k ≤ k * 1024192009 := by
  intro k hk
  refine ns_le fun i hi => ?_
  have := mul_small (fAt_lt F i x) (hT (x + i) (by omega))
  show fAt F i x * T (x + i) ≤ 1024192009
  omega

set_option maxHeartbeats 1000000 in
set_option maxRecDepth 100000 in
theorem lp_R_numberAt {p : Program} {l : Launch} {e : Env} {s : State} {m : MethodId} {args : Array Value} {below : List Frame} {meth : Method} {c : Code} {Q : State → Prop} {D : va_G} {g : Nat → ClassId} {ad : Nat → Nat} {tb : Nat} {sa : Nat → Nat} {A : Nat → Prop} {w : Wd} {a nu fh o fa st n x dv : Nat} {pt : Int64} {F T : Nat → Nat} (ha : w a = some (.inr (1, [.ref nu, .int (nI fh), .long pt, .int (nI o), .ref fa, .ref st]))) (hf : w fa = some (ia (g 0) ((o + 1) * 3) F)) (hF : ∀ k, k < (o + 1) * 3 → F k < 32003) (ho : o ≤ 3) (hn9 : w nu = some (ia (g 0) 64 T)) (hT : ∀ k, k < 64 → T k < 32003) (hxo : x + o < 64) (C0 : cx p s m args c A cR_numberAt 7 RR D g ad tb sa) : ∀ (d k : Nat), k + d = o → ∀ (H : Heap) (locs : List Loc), hw D vwCl A w H → va_S A s.heap H locs → ∀ ls : Array Slot, lv_has ls 7 [(0, .ref a), (1, .int (nI n)), (2, .int (nI x)), (3, .int (nI dv)), (4, .long (lN (ns (fun i => fAt F i x * T (x + i)) k))), (6, .int (nI k))] → (∀ (H : Heap) (locs : List Loc) (ls : Array Slot), hw D vwCl A w H → va_S A s.heap H locs → lv_has ls 7 [(0, .ref a), (1, .int (nI n)), (2, .int (nI x)), (3, .int (nI dv)), (4, .long (lN (ns (fun i => fAt F i x * T (x + i)) o)))] → W p l e (rmL 2 47 0 0) s m args below meth c H locs 0 0 Q (F0 m 81 ls [])) → W p l e (rmL 2 47 0 0) s m args below meth c H locs 0 0 Q (F0 m 42 ls []) := by
  obtain ⟨hx, hb, hml, hts, hown, hK, hk, hAA⟩ := C0
  intro d
  induction d with
  | zero =>
    intro k hk9 H locs hW hS ls hl kk

    refine lv_iload hx hb dR_numberAt_42 (lv_at hl 5 rfl) ?_
    refine lv_aload_n hx hb dR_numberAt_44 rfl (lv_at hl 0 rfl) ?_
    refine hw_get (v := .int (nI o)) (C := RR) (T := TR) (N := 6) hx hb hts inR hown hK hW ha rfl 3 (by decide) (hts _ bw_185) (fun _ h9 => h9) rfl dR_numberAt_45 ?_
    refine nw_icmp_ge (tgt := 81) hx hb (by omega) (by omega) dR_numberAt_48 (by decide) (fun c1 => ?_) (fun c1 => absurd (show k < o from c1) (by omega))
    rw [show k = o by omega] at hl
    exact kk H locs ls hW hS (lv_sub hl [0, 1, 2, 3, 4] rfl)

  | succ d ih =>
    intro k hk9 H locs hW hS ls hl kk
    have hsm := rs_small (F := F) hT (show x + o ≤ 64 by omega) ho k (by omega)
    have hTx := hT (x + k) (by omega)
    have hml9 := mul_small (fAt_lt F k x) hTx
    have hfl := fAt_lt F k x

    refine lv_iload hx hb dR_numberAt_42 (lv_at hl 5 rfl) ?_
    refine lv_aload_n hx hb dR_numberAt_44 rfl (lv_at hl 0 rfl) ?_
    refine hw_get (v := .int (nI o)) (C := RR) (T := TR) (N := 6) hx hb hts inR hown hK hW ha rfl 3 (by decide) (hts _ bw_185) (fun _ h9 => h9) rfl dR_numberAt_45 ?_
    refine nw_icmp_ge (tgt := 81) hx hb (by omega) (by omega) dR_numberAt_48 (by decide) (fun c1 => absurd (show o ≤ k from c1) (by omega)) (fun c1 => ?_)
    refine lv_lload hx hb dR_numberAt_51 (lv_at hl 4 rfl) ?_
    refine lv_aload_n hx hb dR_numberAt_53 rfl (lv_at hl 0 rfl) ?_
    refine lv_iload hx hb dR_numberAt_54 (lv_at hl 5 rfl) ?_
    refine lv_iload_n hx hb dR_numberAt_56 rfl (lv_at hl 2 rfl) ?_
    refine kc_VI (n := 2) (As := [.int (nI k), .int (nI x)]) (rest := [.long (lN (ns (fun i => fAt F i x * T (x + i)) k))]) ⟨hx, hb, hml, hown, hts⟩ (c_R_factorAt l D g ad tb sa w H.size a nu fh o fa st pt F ha hf hF ho k x (by omega) (by omega)) bw_414 bw_416 bs_9 bw_10 bw_417 (by decide +kernel) rfl rfl ha ⟨by decide, by decide⟩ hW hK hk hS hAA rfl hl.1 rfl (Nat.le_of_ble_eq_true rfl) dR_numberAt_57 ⟨by decide, by decide⟩ (fun r2 w3 H locs hp hW hS => ?_)
    obtain ⟨hw9, hr9⟩ := hp
    rw [hw9] at hW
    subst hr9
    refine lv_i2l (v := lN (fAt F k x)) hx hb dR_numberAt_60 (nI_l (by omega)) ?_
    refine lv_aload_n hx hb dR_numberAt_61 rfl (lv_at hl 0 rfl) ?_
    refine hw_get (v := .ref nu) (C := RR) (T := TR) (N := 6) hx hb hts inR hown hK hW ha rfl 0 (by decide) (hts _ bw_193) (fun x9 h9 => u_same (hts _ bw_194) x9 h9) rfl dR_numberAt_62 ?_
    refine lv_iload_n hx hb dR_numberAt_65 rfl (lv_at hl 2 rfl) ?_
    refine lv_iload hx hb dR_numberAt_66 (lv_at hl 5 rfl) ?_
    refine lv_iadd hx hb dR_numberAt_68 ?_
    refine tp_i (show (nI x) + (nI k) = nI (x + k) from nI_add _ _) ?_
    refine hw_iald hx hb hK hW 0 hn9 rfl (vp_in_nI (show x + k < 64 by omega) (by omega)) dR_numberAt_69 ?_
    refine tp_i (show (ni T) (nI (x + k)).toNatClampNeg = nI (T (x + k)) from by rw [nI_clamp (by omega)]; rfl) ?_
    refine lv_i2l (v := lN (T (x + k))) hx hb dR_numberAt_70 (nI_l (by omega)) ?_
    refine lv_lmul hx hb dR_numberAt_71 ?_
    refine tp_l (show (lN (fAt F k x)) * (lN (T (x + k))) = lN ((fAt F k x) * (T (x + k))) from lN_mul _ _) ?_
    refine lv_ladd hx hb dR_numberAt_72 ?_
    refine tp_l (show (lN (ns (fun i => fAt F i x * T (x + i)) k)) + (lN ((fAt F k x) * (T (x + k)))) = lN ((ns (fun i => fAt F i x * T (x + i)) k) + ((fAt F k x) * (T (x + k)))) from lN_add _ _) ?_
    refine lv_lstore (lv' := [(4, .long (lN ((ns (fun i => fAt F i x * T (x + i)) k) + ((fAt F k x) * (T (x + k)))))), (0, .ref a), (1, .int (nI n)), (2, .int (nI x)), (3, .int (nI dv)), (6, .int (nI k))]) hx hb dR_numberAt_73 hl (by decide) rfl (fun ls hl => ?_)
    refine lv_iinc (v := nI (k + 1)) (lv' := [(6, .int (nI (k + 1))), (4, .long (lN ((ns (fun i => fAt F i x * T (x + i)) k) + ((fAt F k x) * (T (x + k)))))), (0, .ref a), (1, .int (nI n)), (2, .int (nI x)), (3, .int (nI dv))]) hx hb dR_numberAt_75 hl (k := 5) rfl (nI_1 _) (by decide) rfl (fun ls hl => ?_)
    refine lv_goto (tgt := 42) hx hb dR_numberAt_78 (by decide) ?_
    exact ih (k + 1) (by omega) H locs hW hS ls (lv_sub hl [2, 3, 4, 5, 1, 0] rfl) kk

set_option maxHeartbeats 1000000 in
set_option maxRecDepth 100000 in
theorem c_R_numberAt (l : Launch) (D : va_G) (g : Nat → ClassId) (ad : Nat → Nat) (tb : Nat) (sa : Nat → Nat) (w : Wd) (sz : Nat) (a nu fh o fa st : Nat) (pt : Int64) (F : Nat → Nat) (ha : w a = some (.inr (1, [.ref nu, .int (nI fh), .long pt, .int (nI o), .ref fa, .ref st]))) (hf : w fa = some (ia (g 0) ((o + 1) * 3) F)) (hF : ∀ k, k < (o + 1) * 3 → F k < 32003) (ho : o ≤ 3) (S T : Nat → Nat) (hs : w st = some (ia (g 0) 64 S)) (hn9 : w nu = some (ia (g 0) 64 T)) (hT : ∀ k, k < 64 → T k < 32003) (n : Nat) (hn : n < 64) : MI l D g ad tb sa yR_numberAt cR_numberAt 7 (some (.int)) 2 47 0 0 w sz [.ref a, .int (nI n)] (fun r w' => w' = w ∧ r = nI (rAt o F S T n)) := by

  refine hm_MI (by decide) (Nat.le_of_ble_eq_true rfl) ?_
  intro p e s m below meth c A ls hx hb hr hml hts hown hlocks hin hout hsz hW hK hk hS hAA hl
  have hl : lv_has ls 7 [(0, .ref a), (1, .int (nI n))] := hl
  rcases Nat.lt_or_ge n o with hno | hno
  · refine lv_iload_n hx hb dR_numberAt_0 rfl (lv_at hl 1 rfl) ?_
    refine lv_aload_n hx hb dR_numberAt_1 rfl (lv_at hl 0 rfl) ?_
    refine hw_get (v := .int (nI o)) (C := RR) (T := TR) (N := 6) hx hb hts inR hown hK hW ha rfl 3 (by decide) (hts _ bw_185) (fun _ h9 => h9) rfl dR_numberAt_2 ?_
    refine lv_isub hx hb dR_numberAt_5 ?_
    have hneg : nI n - nI o < 0 := pk_sneg (by omega) hno
    refine lv_istore_n (lv' := [(2, .int ((nI n) - (nI o))), (0, .ref a), (1, .int (nI n))]) hx hb dR_numberAt_6 rfl hl (by decide) rfl (fun ls hl => ?_)
    refine lv_iload_n hx hb dR_numberAt_7 rfl (lv_at hl 0 rfl) ?_
    refine lv_if_ge (tgt := 15) hx hb dR_numberAt_8 (by decide) (fun c1 => absurd c1 (fun q => absurd (Int32.lt_iff_toInt_lt.mp hneg) (by have := Int32.le_iff_toInt_le.mp q; omega))) (fun c1 => ?_)
    refine lv_iconst (v := nI 0) hx hb dR_numberAt_11 (by decide) ?_
    refine lv_goto (tgt := 24) hx hb dR_numberAt_12 (by decide) ?_
    refine lv_istore_n (lv' := [(3, .int (nI 0)), (2, .int ((nI n) - (nI o))), (0, .ref a), (1, .int (nI n))]) hx hb dR_numberAt_24 rfl hl (by decide) rfl (fun ls hl => ?_)
    refine lv_iload_n hx hb dR_numberAt_25 rfl (lv_at hl 0 rfl) ?_
    refine nw_if_ne (tgt := 36) hx hb (by omega) dR_numberAt_26 (by decide) (fun c2 => absurd c2 (by decide)) (fun c2 => ?_)
    refine lv_aload_n hx hb dR_numberAt_29 rfl (lv_at hl 2 rfl) ?_
    refine hw_get (v := .ref st) (C := RR) (T := TR) (N := 6) hx hb hts inR hown hK hW ha rfl 5 (by decide) (hts _ bw_189) (fun _ h9 => h9) rfl dR_numberAt_30 ?_
    refine lv_iload_n hx hb dR_numberAt_33 rfl (lv_at hl 3 rfl) ?_
    refine hw_iald hx hb hK hW 0 hs rfl (vp_in_nI (show n < 64 by omega) (by omega)) dR_numberAt_34 ?_
    refine tp_i (show (ni S) (nI n).toNatClampNeg = nI (S n) from by rw [nI_clamp (by omega)]; rfl) ?_
    exact W.iret (v := nI (S n)) hx hb hr (fun t ht hW9 => ⟨⟨nI (S n), w, rfl, ⟨rfl, by unfold rAt; rw [if_pos hno]⟩, by rw [ht]; exact hW, va_K.moved hW9.alike hK⟩, hS.F ht⟩) hS.2.2 dR_numberAt_35
  · obtain ⟨x, hxn⟩ : ∃ x, n = x + o := ⟨n - o, by omega⟩
    subst hxn
    have hnx : x + o - o = x := by omega
    refine lv_iload_n hx hb dR_numberAt_0 rfl (lv_at hl 1 rfl) ?_
    refine lv_aload_n hx hb dR_numberAt_1 rfl (lv_at hl 0 rfl) ?_
    refine hw_get (v := .int (nI o)) (C := RR) (T := TR) (N := 6) hx hb hts inR hown hK hW ha rfl 3 (by decide) (hts _ bw_185) (fun _ h9 => h9) rfl dR_numberAt_2 ?_
    refine lv_isub hx hb dR_numberAt_5 ?_
    refine tp_i (show (nI (x + o)) - (nI o) = nI x from by rw [pk_sub (by omega), hnx]) ?_
    refine lv_istore_n (lv' := [(2, .int (nI x)), (0, .ref a), (1, .int (nI (x + o)))]) hx hb dR_numberAt_6 rfl hl (by decide) rfl (fun ls hl => ?_)
    refine lv_iload_n hx hb dR_numberAt_7 rfl (lv_at hl 0 rfl) ?_
    refine nw_if_ge (tgt := 15) hx hb (by omega) dR_numberAt_8 (by decide) ?_
    refine lv_aload_n hx hb dR_numberAt_15 rfl (lv_at hl 1 rfl) ?_
    refine lv_aload_n hx hb dR_numberAt_16 rfl (lv_at hl 1 rfl) ?_
    refine hw_get (v := .int (nI o)) (C := RR) (T := TR) (N := 6) hx hb hts inR hown hK hW ha rfl 3 (by decide) (hts _ bw_185) (fun _ h9 => h9) rfl dR_numberAt_17 ?_
    refine lv_iload_n hx hb dR_numberAt_20 rfl (lv_at hl 0 rfl) ?_
    refine kc_VI (n := 2) (As := [.int (nI o), .int (nI x)]) (rest := []) ⟨hx, hb, hml, hown, hts⟩ (c_R_factorAt l D g ad tb sa w s.heap.size a nu fh o fa st pt F ha hf hF ho o x (by omega) (by omega)) bw_414 bw_416 bs_9 bw_10 bw_417 (by decide +kernel) rfl rfl ha ⟨by decide, by decide⟩ hW hK hk hS hAA rfl hl.1 rfl (Nat.le_of_ble_eq_true rfl) dR_numberAt_21 ⟨by decide, by decide⟩ (fun r1 w2 H locs hp hW hS => ?_)
    obtain ⟨hw9, hr9⟩ := hp
    rw [hw9] at hW
    subst hr9
    refine lv_istore_n (lv' := [(3, .int (nI (fAt F o x))), (2, .int (nI x)), (0, .ref a), (1, .int (nI (x + o)))]) hx hb dR_numberAt_24 rfl hl (by decide) rfl (fun ls hl => ?_)
    have hfo := fAt_lt F o x
    refine lv_iload_n hx hb dR_numberAt_25 rfl (lv_at hl 0 rfl) ?_
    refine nw_if_ne (tgt := 36) hx hb (by omega) dR_numberAt_26 (by decide) (fun c1 => ?_) (fun c1 => ?_)
    · have hsm := rs_small (F := F) hT (show x + o ≤ 64 by omega) ho o (by omega)
      refine lv_lconst (v := lN 0) hx hb dR_numberAt_36 (by decide) ?_
      refine lv_lstore (lv' := [(4, .long (lN 0)), (3, .int (nI (fAt F o x))), (2, .int (nI x)), (0, .ref a), (1, .int (nI (x + o)))]) hx hb dR_numberAt_37 hl (by decide) rfl (fun ls hl => ?_)
      refine lv_iconst (v := nI 0) hx hb dR_numberAt_39 (by decide) ?_
      refine lv_istore (lv' := [(6, .int (nI 0)), (4, .long (lN 0)), (3, .int (nI (fAt F o x))), (2, .int (nI x)), (0, .ref a), (1, .int (nI (x + o)))]) hx hb dR_numberAt_40 hl (by decide) rfl (fun ls hl => ?_)
      refine lp_R_numberAt ha hf hF ho hn9 hT (by omega) ⟨hx, hb, hml, hts, hown, hK, hk, hAA⟩ o 0 (by omega) _ _ hW hS ls (lv_sub hl [4, 5, 3, 2, 1, 0] rfl) ?_
      intro H locs ls hW hS hl
      refine lv_lload hx hb dR_numberAt_81 (lv_at hl 4 rfl) ?_
      refine lv_lneg hx hb dR_numberAt_83 ?_
      refine kc_NSI (n := 1) (As := [.long (-(lN (ns (fun i => fAt F i x * T (x + i)) o)))]) (rest := []) ⟨hx, hb, hml, hown, hts⟩ (c_X_reduce l D g ad tb sa w H.size (-(lN (ns (fun i => fAt F i x * T (x + i)) o)))) (hk.1 kw_418 (by simp [twL])) bw_254 bw_1 bw_255 (by decide +kernel) ⟨by decide, by decide⟩ hW hK hk hS hAA rfl hl.1 rfl (Nat.le_of_ble_eq_true rfl) dR_numberAt_84 ⟨by decide, by decide⟩ (fun r3 w4 H locs hp hW hS => ?_)
      obtain ⟨hw9, hr9⟩ := hp
      rw [hw9] at hW
      subst hr9
      refine tp_i (show nI (rd (-(lN (ns (fun i => fAt F i x * T (x + i)) o))).toInt) = nI (rd (-((ns (fun i => fAt F i x * T (x + i)) o : Nat) : Int))) from by rw [neg_lN (by omega)]) ?_
      refine lv_iload_n hx hb dR_numberAt_87 rfl (lv_at hl 3 rfl) ?_
      refine kc_NSI (n := 1) (As := [.int (nI (fAt F o x))]) (rest := [.int (nI (rd (-((ns (fun i => fAt F i x * T (x + i)) o : Nat) : Int))))]) ⟨hx, hb, hml, hown, hts⟩ (c_X_inverse l D g ad tb sa w H.size (fAt F o x) (by omega)) (hk.1 kw_419 (by simp [twL])) bw_420 bw_1 bw_421 (by decide +kernel) ⟨by decide, by decide⟩ hW hK hk hS hAA rfl hl.1 rfl (Nat.le_of_ble_eq_true rfl) dR_numberAt_88 ⟨by decide, by decide⟩ (fun r5 w6 H locs hp hW hS => ?_)
      obtain ⟨hw9, hr9⟩ := hp
      rw [hw9] at hW
      subst hr9
      refine kc_NSI (n := 2) (As := [.int (nI (rd (-((ns (fun i => fAt F i x * T (x + i)) o : Nat) : Int)))), .int (nI (iv (fAt F o x)))]) (rest := []) ⟨hx, hb, hml, hown, hts⟩ (c_X_product l D g ad tb sa w H.size (rd (-((ns (fun i => fAt F i x * T (x + i)) o : Nat) : Int))) (iv (fAt F o x)) (by have := rd_lt (-((ns (fun i => fAt F i x * T (x + i)) o : Nat) : Int)); omega) (by have := iv_lt (fAt F o x); omega)) (hk.1 kw_423 (by simp [twL])) bw_405 bw_1 bw_406 (by decide +kernel) ⟨by decide, by decide⟩ hW hK hk hS hAA rfl hl.1 rfl (Nat.le_of_ble_eq_true rfl) dR_numberAt_91 ⟨by decide, by decide⟩ (fun r7 w8 H locs hp hW hS => ?_)
      obtain ⟨hw9, hr9⟩ := hp
      rw [hw9] at hW
      subst hr9
      exact W.iret (v := nI (rd (-((ns (fun i => fAt F i x * T (x + i)) o : Nat) : Int)) * iv (fAt F o x) % 32003)) hx hb hr (fun t ht hW9 => ⟨⟨nI (rd (-((ns (fun i => fAt F i x * T (x + i)) o : Nat) : Int)) * iv (fAt F o x) % 32003), w, rfl, ⟨rfl, by unfold rAt; rw [if_neg (by omega), hnx, if_neg c1]⟩, by rw [ht]; exact hW, va_K.moved hW9.alike hK⟩, hS.F ht⟩) hS.2.2 dR_numberAt_94
    · refine lv_aload_n hx hb dR_numberAt_29 rfl (lv_at hl 2 rfl) ?_
      refine hw_get (v := .ref st) (C := RR) (T := TR) (N := 6) hx hb hts inR hown hK hW ha rfl 5 (by decide) (hts _ bw_189) (fun _ h9 => h9) rfl dR_numberAt_30 ?_
      refine lv_iload_n hx hb dR_numberAt_33 rfl (lv_at hl 3 rfl) ?_
      refine hw_iald hx hb hK hW 0 hs rfl (vp_in_nI (show x + o < 64 by omega) (by omega)) dR_numberAt_34 ?_
      refine tp_i (show (ni S) (nI (x + o)).toNatClampNeg = nI (S (x + o)) from by rw [nI_clamp (by omega)]; rfl) ?_
      exact W.iret (v := nI (S (x + o))) hx hb hr (fun t ht hW9 => ⟨⟨nI (S (x + o)), w, rfl, ⟨rfl, by unfold rAt; rw [if_neg (by omega), hnx, if_pos c1]⟩, by rw [ht]; exact hW, va_K.moved hW9.alike hK⟩, hS.F ht⟩) hS.2.2 dR_numberAt_35

def sing (o : Nat) (F : Nat → Nat) (r : Int32) : Prop := (∃ n, o ≤ n ∧ n < 64 ∧ fAt F o (n - o) = 0 ∧ (∀ k, o ≤ k → k < n → fAt F o (k - o) ≠ 0) ∧ r = nI n) ∨ ((∀ k, o ≤ k → k < 64 → fAt F o (k - o) ≠ 0) ∧ r = -1)
set_option maxHeartbeats 1000000 in
set_option maxRecDepth 100000 in
theorem lp_R_firstSingular {p : Program} {l : Launch} {e : Env} {s : State} {m : MethodId} {args : Array Value} {below : List Frame} {meth : Method} {c : Code} {D : va_G} {g : Nat → ClassId} {ad : Nat → Nat} {tb : Nat} {sa : Nat → Nat} {A : Nat → Prop} {w : Wd} {sz a nu fh o fa st : Nat} {pt : Int64} {F : Nat → Nat} (ha : w a = some (.inr (1, [.ref nu, .int (nI fh), .long pt, .int (nI o), .ref fa, .ref st]))) (hf : w fa = some (ia (g 0) ((o + 1) * 3) F)) (hF : ∀ k, k < (o + 1) * 3 → F k < 32003) (ho : o ≤ 3) (hr : meth.sig.returnType = some .int) (hlocks : meth.locks = false) (C0 : cx p s m args c A cR_firstSingular 2 RR D g ad tb sa) : ∀ (d n : Nat), n + d = 64 → o ≤ n → (∀ k, o ≤ k → k < n → fAt F o (k - o) ≠ 0) → ∀ (H : Heap) (locs : List Loc), hw D vwCl A w H → va_S A s.heap H locs → ∀ ls : Array Slot, lv_has ls 2 [(0, .ref a), (1, .int (nI n))] → W p l e (rmL 2 47 0 0) s m args below meth c H locs 0 0 (MQ below (va_Qi (fun r w' => w' = w ∧ sing o F r) (cPost D vwCl (tyL g) A) A) args s 0 0 A) (F0 m 5 ls []) := by
  obtain ⟨hx, hb, hml, hts, hown, hK, hk, hAA⟩ := C0
  intro d
  induction d with
  | zero =>
    intro n hd hon hz H locs hW hS ls hl

    refine lv_iload_n hx hb dR_firstSingular_5 rfl (lv_at hl 1 rfl) ?_
    refine lv_bipush (v := nI 64) hx hb dR_firstSingular_6 (by decide) ?_
    refine nw_icmp_ge (tgt := 36) hx hb (by omega) (by omega) dR_firstSingular_8 (by decide) (fun c1 => ?_) (fun c1 => absurd (show n < 64 from c1) (by omega))
    refine lv_iconst (v := (-1)) hx hb dR_firstSingular_36 (by decide) ?_
    exact W.iret (v := (-1)) hx hb hr (fun t ht hW9 => ⟨⟨(-1), w, rfl, ⟨rfl, Or.inr ⟨fun k h1 h2 => hz k h1 (by omega), rfl⟩⟩, by rw [ht]; exact hW, va_K.moved hW9.alike hK⟩, hS.F ht⟩) hS.2.2 dR_firstSingular_37

  | succ d ih =>
    intro n hd hon hz H locs hW hS ls hl
    have hfl := fAt_lt F o (n - o)

    refine lv_iload_n hx hb dR_firstSingular_5 rfl (lv_at hl 1 rfl) ?_
    refine lv_bipush (v := nI 64) hx hb dR_firstSingular_6 (by decide) ?_
    refine nw_icmp_ge (tgt := 36) hx hb (by omega) (by omega) dR_firstSingular_8 (by decide) (fun c1 => absurd (show 64 ≤ n from c1) (by omega)) (fun c1 => ?_)
    refine lv_aload_n hx hb dR_firstSingular_11 rfl (lv_at hl 0 rfl) ?_
    refine lv_aload_n hx hb dR_firstSingular_12 rfl (lv_at hl 0 rfl) ?_
    refine hw_get (v := .int (nI o)) (C := RR) (T := TR) (N := 6) hx hb hts inR hown hK hW ha rfl 3 (by decide) (hts _ bw_185) (fun _ h9 => h9) rfl dR_firstSingular_13 ?_
    refine lv_iload_n hx hb dR_firstSingular_16 rfl (lv_at hl 1 rfl) ?_
    refine lv_aload_n hx hb dR_firstSingular_17 rfl (lv_at hl 0 rfl) ?_
    refine hw_get (v := .int (nI o)) (C := RR) (T := TR) (N := 6) hx hb hts inR hown hK hW ha rfl 3 (by decide) (hts _ bw_185) (fun _ h9 => h9) rfl dR_firstSingular_18 ?_
    refine lv_isub hx hb dR_firstSingular_21 ?_
    refine tp_i (show (nI n) - (nI o) = nI (n - o) from pk_sub (by omega)) ?_
    refine kc_VI (n := 2) (As := [.int (nI o), .int (nI (n - o))]) (rest := []) ⟨hx, hb, hml, hown, hts⟩ (c_R_factorAt l D g ad tb sa w H.size a nu fh o fa st pt F ha hf hF ho o (n - o) (by omega) (by omega)) bw_414 bw_416 bs_9 bw_10 bw_417 (by decide +kernel) rfl rfl ha ⟨by decide, by decide⟩ hW hK hk hS hAA rfl hl.1 rfl (Nat.le_of_ble_eq_true rfl) dR_firstSingular_22 ⟨by decide, by decide⟩ (fun r2 w3 H locs hp hW hS => ?_)
    obtain ⟨hw9, hr9⟩ := hp
    rw [hw9] at hW
    subst hr9
    refine nw_if_ne (tgt := 30) hx hb (by omega) dR_firstSingular_25 (by decide) (fun c2 => ?_) (fun c2 => ?_)
    · refine lv_iinc (v := nI (n + 1)) (lv' := [(1, .int (nI (n + 1))), (0, .ref a)]) hx hb dR_firstSingular_30 hl (k := 1) rfl (nI_1 _) (by decide) rfl (fun ls hl => ?_)
      refine lv_goto (tgt := 5) hx hb dR_firstSingular_33 (by decide) ?_
      exact ih (n + 1) (by omega) (by omega) (fun k h1 h2 => by
        by_cases e9 : k = n
        · rw [e9]; exact c2
        · exact hz k h1 (by omega)) H locs hW hS ls (lv_sub hl [1, 0] rfl)
    · refine lv_iload_n hx hb dR_firstSingular_28 rfl (lv_at hl 1 rfl) ?_
      exact W.iret (v := nI n) hx hb hr (fun t ht hW9 => ⟨⟨nI n, w, rfl, ⟨rfl, Or.inl ⟨n, hon, by omega, c2, hz, rfl⟩⟩, by rw [ht]; exact hW, va_K.moved hW9.alike hK⟩, hS.F ht⟩) hS.2.2 dR_firstSingular_29

set_option maxHeartbeats 1000000 in
set_option maxRecDepth 100000 in
theorem c_R_firstSingular (l : Launch) (D : va_G) (g : Nat → ClassId) (ad : Nat → Nat) (tb : Nat) (sa : Nat → Nat) (w : Wd) (sz : Nat) (a nu fh o fa st : Nat) (pt : Int64) (F : Nat → Nat) (ha : w a = some (.inr (1, [.ref nu, .int (nI fh), .long pt, .int (nI o), .ref fa, .ref st]))) (hf : w fa = some (ia (g 0) ((o + 1) * 3) F)) (hF : ∀ k, k < (o + 1) * 3 → F k < 32003) (ho : o ≤ 3) : MI l D g ad tb sa yR_firstSingular cR_firstSingular 2 (some (.int)) 2 47 0 0 w sz [.ref a] (fun r w' => w' = w ∧ sing o F r) := by

  refine hm_MI (by decide) (Nat.le_of_ble_eq_true rfl) ?_
  intro p e s m below meth c A ls hx hb hr hml hts hown hlocks hin hout hsz hW hK hk hS hAA hl
  have hl : lv_has ls 2 [(0, .ref a)] := hl
  refine lv_aload_n hx hb dR_firstSingular_0 rfl (lv_at hl 0 rfl) ?_
  refine hw_get (v := .int (nI o)) (C := RR) (T := TR) (N := 6) hx hb hts inR hown hK hW ha rfl 3 (by decide) (hts _ bw_185) (fun _ h9 => h9) rfl dR_firstSingular_1 ?_
  refine lv_istore_n (lv' := [(1, .int (nI o)), (0, .ref a)]) hx hb dR_firstSingular_4 rfl hl (by decide) rfl (fun ls hl => ?_)
  exact lp_R_firstSingular (sz := sz) ha hf hF ho hr hlocks ⟨hx, hb, hml, hts, hown, hK, hk, hAA⟩ (64 - o) o (by omega) (Nat.le_refl o) (fun k h1 h2 => absurd h2 (by omega)) _ _ hW hS ls (lv_sub hl [1, 0] rfl)
