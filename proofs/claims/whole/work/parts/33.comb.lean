theorem dN_ordinal_0 : decode cN_ordinal 0 = .ok (.aload_n 0, 1) := by decide +kernel
theorem dN_ordinal_1 : decode cN_ordinal 1 = .ok (.getfield 7, 3) := by decide +kernel
theorem dN_ordinal_4 : decode cN_ordinal 4 = .ok (.ireturn, 1) := by decide +kernel
theorem ord_k : ∀ k, k < 7 → ([0, 1, 2, 3, 4, 5, 6] : List Int32).getD k 0 = nI k := by decide
section HXE
variable {p : Program} {l : Launch} {e : Env} {R : Room} {s : State} {m : MethodId} {args : Array Value} {below : List Frame} {meth : Method} {c : Code} {H : Heap} {locs : List Loc} {cells slots : Nat} {Q : State → Prop}
variable {D : va_G} {g : Nat → ClassId} {ad : Nat → Nat} {tb : Nat} {sa : Nat → Nat} {w : Wd} {A : Nat → Prop}
variable {y x : MethodName} {bytes cc : ByteArray} {maxL nL fr lo mc ms n index : Nat} {ret : Option FieldType} {own C owner host : String} {As rest st0 : List Value} {pc : Nat} {ls : Array Slot} {b : Nat}
/-- a call on an object that isn't in the map -/
theorem kc_UE {post : Int32 → Wd → Prop} (F : CallFix p m c cc nL s args big own) (hM : MI l D g ad tb sa y bytes maxL ret fr lo mc ms w H.size (.ref b :: As) post) (h1 : Cond.methodLink own index x ∈ big) (h6 : Cond.sameMethod x.cls owner x.name x.desc ∈ big) (h5 : Cond.selects C x y ∈ big) (h2 : Cond.instanceMethod y ∈ big) (h3 : Cond.initialized y.cls ∈ big) (h4 : Cond.code y bytes maxL ret ∈ big) (hyx : y = ⟨owner, x.name, x.desc⟩) (hd : owner ≠ "java/lang/invoke/MethodHandle" ∧ owner ≠ "java/lang/invoke/VarHandle" ∧ (parseMethodDescriptor x.desc).map (fun d => d.parameters.length) = some n) (hrc : ∃ cell : Cell, H[b]? = some cell ∧ cell.vm.isStatics = false ∧ s.vm.findClass C = some cell.cls) (hR : fr + 1 ≤ R.frames ∧ 8 + (maxL + 11) + lo ≤ R.locals) (hW : hw D vwCl A w H) (hK : va_K D vwCl (tyL g) s) (hk : kn ad tb sa A s s.heap) (hS : va_S A s.heap H locs) (hAA : ∀ q, s.heap.size ≤ q → A q) (hn : As.length = n) (hsz : ls.size = nL) (hst : st0 = As.reverse ++ .ref b :: rest) (h8 : (rest.map fun v => v.category).sum ≤ 8) (hdg : decode cc pc = .ok (.invokevirtual index, 3)) (hf : cells + mc ≤ R.cells ∧ slots + ms ≤ R.slots)
    (kk : ∀ (r : Int32) (w' : Wd) (H1 : Heap) (locs1 : List Loc), post r w' → hw D vwCl A w' H1 → va_S A s.heap H1 locs1 → W p l e R s m args below meth c H1 locs1 (cells + mc) (slots + ms) Q (F0 m (pc + 3) ls (.int r :: rest))) : W p l e R s m args below meth c H locs cells slots Q (F0 m pc ls st0) := by
  have hG : GoodIn big (va_wsU own index C owner x y (.code y bytes maxL ret :: big)) := by
    refine big_code h4 ?_
    intro w hw
    simp only [List.mem_cons, List.not_mem_nil, or_false] at hw
    rcases hw with rfl | rfl | rfl | rfl | rfl
    · exact h1
    · exact h6
    · exact h5
    · exact h2
    · exact h3
  exact hm_calli (va_runU (As := As) (rest := rest) F hM (va_cwU n F.2.2.2.2 hG rfl rfl rfl hyx hd hR) ⟨hm_blind (kn_ok ad tb sa), hrc, hm_at (kn_ok ad tb sa) hW hK hk hS hAA⟩ rfl hn hsz hst (lv_room h8) hdg hf) hW hS hAA kk
end HXE

set_option maxHeartbeats 1000000 in
set_option maxRecDepth 100000 in
theorem c_N_ordinal (l : Launch) (D : va_G) (g : Nat → ClassId) (ad : Nat → Nat) (tb : Nat) (sa : Nat → Nat) (w : Wd) (sz : Nat) (k : Nat) (hk7 : k < 7) : MI l D g ad tb sa yN_ordinal cN_ordinal 1 (some (.int)) 0 0 0 0 w sz [.ref (ad k)] (fun r w' => w' = w ∧ r = nI k) := by

  refine hm_MI (by decide) (Nat.le_of_ble_eq_true rfl) ?_
  intro p e s m below meth c A ls hx hb hr hml hts hown hlocks hin hout hsz hW hK hk hS hAA hl
  have hl : lv_has ls 1 [(0, .ref (ad k))] := hl
  refine lv_aload_n hx hb dN_ordinal_0 rfl (lv_at hl 0 rfl) ?_
  refine va_getE hx hb hk.2.1 hk7 hS hown (q := ("java/lang/Enum", "ordinal", "I", [0, 1, 2, 3, 4, 5, 6])) List.mem_cons_self (hts _ bw_703) (fun _ h9 => h9) dN_ordinal_1 ?_
  refine tp_i (ord_k k hk7) ?_
  exact W.iret (v := nI k) hx hb hr (fun t ht hW9 => ⟨⟨nI k, w, rfl, ⟨rfl, rfl⟩, by rw [ht]; exact hW, va_K.moved hW9.alike hK⟩, hS.F ht⟩) hS.2.2 dN_ordinal_4

theorem cs_small {F G : Nat → Nat} {n : Nat} (hF : ∀ k, k < 64 → F k < 32003) (hG9 : ∀ k, k < 64 → G k < 32003) (hn : n < 64) : ∀ k, k ≤ n + 1 → ns (fun i => F i * G (n - i)) k ≤ k * 1024192009 := by
  intro k hk
  refine ns_le fun i hi => ?_
  have := mul_small (hF i (by omega)) (hG9 (n - i) (by omega))
  show F i * G (n - i) ≤ 1024192009
  omega

set_option maxHeartbeats 1000000 in
set_option maxRecDepth 100000 in
theorem lp_K_convolution {p : Program} {l : Launch} {e : Env} {s : State} {m : MethodId} {args : Array Value} {below : List Frame} {meth : Method} {c : Code} {Q : State → Prop} {D : va_G} {g : Nat → ClassId} {ad : Nat → Nat} {tb : Nat} {sa : Nat → Nat} {A : Nat → Prop} {w : Wd} {a nu fh k fA gA di : Nat} {pt : Int64} {F G : Nat → Nat} (ha : w a = some (.inr (2, [.ref nu, .int (nI fh), .long pt, .ref (ad k), .ref fA, .ref gA, .int (nI di)]))) (hf : w fA = some (ia (g 0) 64 F)) (hg9 : w gA = some (ia (g 0) 64 G)) (hF : ∀ k, k < 64 → F k < 32003) (hG9 : ∀ k, k < 64 → G k < 32003) {n : Nat} (hn : n < 64) (C0 : cx p s m args c A cK_convolution 5 RK D g ad tb sa) : ∀ (d i : Nat), i + d = n + 1 → ∀ (H : Heap) (locs : List Loc), hw D vwCl A w H → va_S A s.heap H locs → ∀ ls : Array Slot, lv_has ls 5 [(0, .ref a), (1, .int (nI n)), (2, .long (lN (ns (fun i => F i * G (n - i)) i))), (4, .int (nI i))] → (∀ (H : Heap) (locs : List Loc) (ls : Array Slot), hw D vwCl A w H → va_S A s.heap H locs → lv_has ls 5 [(2, .long (lN (ns (fun i => F i * G (n - i)) (n + 1))))] → W p l e (rmL 1 22 0 0) s m args below meth c H locs 0 0 Q (F0 m 39 ls [])) → W p l e (rmL 1 22 0 0) s m args below meth c H locs 0 0 Q (F0 m 5 ls []) := by
  obtain ⟨hx, hb, hml, hts, hown, hK, hk, hAA⟩ := C0
  intro d
  induction d with
  | zero =>
    intro i hi H locs hW hS ls hl kk

    refine lv_iload hx hb dK_convolution_5 (lv_at hl 3 rfl) ?_
    refine lv_iload_n hx hb dK_convolution_7 rfl (lv_at hl 1 rfl) ?_
    refine nw_icmp_gt (tgt := 39) hx hb (by omega) (by omega) dK_convolution_8 (by decide) (fun c1 => ?_) (fun c1 => absurd (show i ≤ n from c1) (by omega))
    rw [show i = n + 1 by omega] at hl
    exact kk H locs ls hW hS (lv_sub hl [2] rfl)

  | succ d ih =>
    intro i hi H locs hW hS ls hl kk
    have hsm := cs_small hF hG9 hn i (by omega)
    have hm9 := mul_small (hF i (by omega)) (hG9 (n - i) (by omega))
    have hF1 := hF i (by omega)
    have hG1 := hG9 (n - i) (by omega)

    refine lv_iload hx hb dK_convolution_5 (lv_at hl 3 rfl) ?_
    refine lv_iload_n hx hb dK_convolution_7 rfl (lv_at hl 1 rfl) ?_
    refine nw_icmp_gt (tgt := 39) hx hb (by omega) (by omega) dK_convolution_8 (by decide) (fun c1 => absurd (show n < i from c1) (by omega)) (fun c1 => ?_)
    refine lv_lload_n hx hb dK_convolution_11 rfl (lv_at hl 2 rfl) ?_
    refine lv_aload_n hx hb dK_convolution_12 rfl (lv_at hl 0 rfl) ?_
    refine hw_get (v := .ref fA) (C := RK) (T := TK) (N := 7) hx hb hts inK hown hK hW ha rfl 4 (by decide) (hts _ bw_302) (fun _ h9 => h9) rfl dK_convolution_13 ?_
    refine lv_iload hx hb dK_convolution_16 (lv_at hl 3 rfl) ?_
    refine hw_iald hx hb hK hW 0 hf rfl (vp_in_nI (show i < 64 by omega) (by omega)) dK_convolution_18 ?_
    refine tp_i (show (ni F) (nI i).toNatClampNeg = nI (F i) from by rw [nI_clamp (by omega)]; rfl) ?_
    refine lv_i2l (v := lN (F i)) hx hb dK_convolution_19 (nI_l (by omega)) ?_
    refine lv_aload_n hx hb dK_convolution_20 rfl (lv_at hl 0 rfl) ?_
    refine hw_get (v := .ref gA) (C := RK) (T := TK) (N := 7) hx hb hts inK hown hK hW ha rfl 5 (by decide) (hts _ bw_303) (fun _ h9 => h9) rfl dK_convolution_21 ?_
    refine lv_iload_n hx hb dK_convolution_24 rfl (lv_at hl 1 rfl) ?_
    refine lv_iload hx hb dK_convolution_25 (lv_at hl 3 rfl) ?_
    refine lv_isub hx hb dK_convolution_27 ?_
    refine tp_i (show (nI n) - (nI i) = nI (n - i) from pk_sub (by omega)) ?_
    refine hw_iald hx hb hK hW 0 hg9 rfl (vp_in_nI (show n - i < 64 by omega) (by omega)) dK_convolution_28 ?_
    refine tp_i (show (ni G) (nI (n - i)).toNatClampNeg = nI (G (n - i)) from by rw [nI_clamp (by omega)]; rfl) ?_
    refine lv_i2l (v := lN (G (n - i))) hx hb dK_convolution_29 (nI_l (by omega)) ?_
    refine lv_lmul hx hb dK_convolution_30 ?_
    refine tp_l (show (lN (F i)) * (lN (G (n - i))) = lN ((F i) * (G (n - i))) from lN_mul _ _) ?_
    refine lv_ladd hx hb dK_convolution_31 ?_
    refine tp_l (show (lN (ns (fun i => F i * G (n - i)) i)) + (lN ((F i) * (G (n - i)))) = lN ((ns (fun i => F i * G (n - i)) i) + ((F i) * (G (n - i)))) from lN_add _ _) ?_
    refine lv_lstore_n (lv' := [(2, .long (lN ((ns (fun i => F i * G (n - i)) i) + ((F i) * (G (n - i)))))), (0, .ref a), (1, .int (nI n)), (4, .int (nI i))]) hx hb dK_convolution_32 rfl hl (by decide) rfl (fun ls hl => ?_)
    refine lv_iinc (v := nI (i + 1)) (lv' := [(4, .int (nI (i + 1))), (2, .long (lN ((ns (fun i => F i * G (n - i)) i) + ((F i) * (G (n - i)))))), (0, .ref a), (1, .int (nI n))]) hx hb dK_convolution_33 hl (k := 3) rfl (nI_1 _) (by decide) rfl (fun ls hl => ?_)
    refine lv_goto (tgt := 5) hx hb dK_convolution_36 (by decide) ?_
    exact ih (i + 1) (by omega) H locs hW hS ls (lv_sub hl [2, 3, 1, 0] rfl) kk

set_option maxHeartbeats 1000000 in
set_option maxRecDepth 100000 in
theorem c_K_convolution (l : Launch) (D : va_G) (g : Nat → ClassId) (ad : Nat → Nat) (tb : Nat) (sa : Nat → Nat) (w : Wd) (sz : Nat) (a nu fh k fA gA di : Nat) (pt : Int64) (F G : Nat → Nat) (ha : w a = some (.inr (2, [.ref nu, .int (nI fh), .long pt, .ref (ad k), .ref fA, .ref gA, .int (nI di)]))) (hf : w fA = some (ia (g 0) 64 F)) (hg9 : w gA = some (ia (g 0) 64 G)) (hF : ∀ k, k < 64 → F k < 32003) (hG9 : ∀ k, k < 64 → G k < 32003) (n : Nat) (hn : n < 64) : MI l D g ad tb sa yK_convolution cK_convolution 5 (some (.int)) 1 22 0 0 w sz [.ref a, .int (nI n)] (fun r w' => w' = w ∧ r = nI (ns (fun i => F i * G (n - i)) (n + 1) % 32003)) := by

  refine hm_MI (by decide) (Nat.le_of_ble_eq_true rfl) ?_
  intro p e s m below meth c A ls hx hb hr hml hts hown hlocks hin hout hsz hW hK hk hS hAA hl
  have hl : lv_has ls 5 [(0, .ref a), (1, .int (nI n))] := hl
  refine lv_lconst (v := lN 0) hx hb dK_convolution_0 (by decide) ?_
  refine lv_lstore_n (lv' := [(2, .long (lN 0)), (0, .ref a), (1, .int (nI n))]) hx hb dK_convolution_1 rfl hl (by decide) rfl (fun ls hl => ?_)
  refine lv_iconst (v := nI 0) hx hb dK_convolution_2 (by decide) ?_
  refine lv_istore (lv' := [(4, .int (nI 0)), (2, .long (lN 0)), (0, .ref a), (1, .int (nI n))]) hx hb dK_convolution_3 hl (by decide) rfl (fun ls hl => ?_)
  refine lp_K_convolution ha hf hg9 hF hG9 hn ⟨hx, hb, hml, hts, hown, hK, hk, hAA⟩ (n + 1) 0 (by omega) _ _ hW hS ls (lv_sub hl [2, 3, 1, 0] rfl) ?_
  intro H locs ls hW hS hl
  have hsm := cs_small hF hG9 hn (n + 1) (by omega)
  refine lv_lload_n hx hb dK_convolution_39 rfl (lv_at hl 0 rfl) ?_
  refine kc_NSI (n := 1) (As := [.long (lN (ns (fun i => F i * G (n - i)) (n + 1)))]) (rest := []) ⟨hx, hb, hml, hown, hts⟩ (c_X_reduce l D g ad tb sa w H.size (lN (ns (fun i => F i * G (n - i)) (n + 1)))) (hk.1 kw_403 (by simp [twL])) bw_254 bw_1 bw_255 (by decide +kernel) ⟨by decide, by decide⟩ hW hK hk hS hAA rfl hl.1 rfl (Nat.le_of_ble_eq_true rfl) dK_convolution_40 ⟨by decide, by decide⟩ (fun r1 w2 H locs hp hW hS => ?_)
  obtain ⟨hw9, hr9⟩ := hp
  rw [hw9] at hW
  subst hr9
  refine tp_i (show nI (rd (lN (ns (fun i => F i * G (n - i)) (n + 1))).toInt) = nI (ns (fun i => F i * G (n - i)) (n + 1) % 32003) from by rw [rd_lN (by omega)]) ?_
  exact W.iret (v := nI (ns (fun i => F i * G (n - i)) (n + 1) % 32003)) hx hb hr (fun t ht hW9 => ⟨⟨nI (ns (fun i => F i * G (n - i)) (n + 1) % 32003), w, rfl, ⟨rfl, rfl⟩, by rw [ht]; exact hW, va_K.moved hW9.alike hK⟩, hS.F ht⟩) hS.2.2 dK_convolution_43

set_option maxHeartbeats 1000000 in
set_option maxRecDepth 100000 in
theorem c_K_numberAt (l : Launch) (D : va_G) (g : Nat → ClassId) (ad : Nat → Nat) (tb : Nat) (sa : Nat → Nat) (w : Wd) (sz : Nat) (a nu fh k fA gA di : Nat) (pt : Int64) (F G : Nat → Nat) (ha : w a = some (.inr (2, [.ref nu, .int (nI fh), .long pt, .ref (ad k), .ref fA, .ref gA, .int (nI di)]))) (hf : w fA = some (ia (g 0) 64 F)) (hg9 : w gA = some (ia (g 0) 64 G)) (hF : ∀ k, k < 64 → F k < 32003) (hG9 : ∀ k, k < 64 → G k < 32003) (hdi : di ≤ 8) (hk7 : k < 7) (T : Nat → Nat) (hn9 : w nu = some (ia (g 0) 64 T)) (hT : ∀ k, k < 64 → T k < 32003) (n : Nat) (hn : n < 64) : MI l D g ad tb sa yK_numberAt cK_numberAt 2 (some (.int)) 2 46 0 0 w sz [.ref a, .int (nI n)] (fun r w' => w' = w ∧ r = nI (cAt (k + 1) di F G T n)) := by

  refine hm_MI (by decide) (Nat.le_of_ble_eq_true rfl) ?_
  intro p e s m below meth c A ls hx hb hr hml hts hown hlocks hin hout hsz hW hK hk hS hAA hl
  have hl : lv_has ls 2 [(0, .ref a), (1, .int (nI n))] := hl
  refine va_gets hx hb hk.2.2.1 hS hown (hts _ bw_395) (fun _ h9 => h9) dK_numberAt_0 ?_
  refine lv_aload_n hx hb dK_numberAt_3 rfl (lv_at hl 0 rfl) ?_
  refine hw_get (v := .ref (ad k)) (C := RK) (T := TK) (N := 7) hx hb hts inK hown hK hW ha rfl 3 (by decide) (hts _ bw_301) (fun _ h9 => h9) rfl dK_numberAt_4 ?_
  refine kc_UE (n := 0) (As := []) (rest := [.ref tb]) ⟨hx, hb, hml, hown, hts⟩ (c_N_ordinal l D g ad tb sa w s.heap.size k hk7) bw_397 bw_398 bw_400 bw_401 bw_12 bw_402 rfl (by decide +kernel) (va_recvE hk.2.1 hk7 hS) ⟨by decide, by decide⟩ hW hK hk hS hAA rfl hl.1 rfl (Nat.le_of_ble_eq_true rfl) dK_numberAt_7 ⟨by decide, by decide⟩ (fun r1 w1 H locs hp hW hS => ?_)
  obtain ⟨hw9, hr9⟩ := hp
  rw [hw9] at hW
  subst hr9
  refine va_ti (v := .int (nI (k + 1))) hx hb hk.2.2.2.1 hS (vp_in_nI hk7 (by decide)) (by rw [nI_clamp (by omega)]) dK_numberAt_10 ?_
  have hFn := hF n hn
  have hGn := hG9 n hn
  have hTn := hT n hn
  rcases (show k = 0 ∨ k = 1 ∨ k = 2 ∨ k = 3 ∨ k = 4 ∨ k = 5 ∨ k = 6 by omega) with rfl | rfl | rfl | rfl | rfl | rfl | rfl
  · refine lv_tableIn (off := 41) (tgt := 52) hx hb dK_numberAt_11 (by decide) (by decide) (by decide) (by decide) ?_
    refine lv_aload_n hx hb dK_numberAt_52 rfl (lv_at hl 0 rfl) ?_
    refine hw_get (v := .ref fA) (C := RK) (T := TK) (N := 7) hx hb hts inK hown hK hW ha rfl 4 (by decide) (hts _ bw_302) (fun _ h9 => h9) rfl dK_numberAt_53 ?_
    refine lv_iload_n hx hb dK_numberAt_56 rfl (lv_at hl 1 rfl) ?_
    refine hw_iald hx hb hK hW 0 hf rfl (vp_in_nI (show n < 64 by omega) (by omega)) dK_numberAt_57 ?_
    refine tp_i (show (ni F) (nI n).toNatClampNeg = nI (F n) from by rw [nI_clamp (by omega)]; rfl) ?_
    refine lv_i2l (v := lN (F n)) hx hb dK_numberAt_58 (nI_l (by omega)) ?_
    refine lv_aload_n hx hb dK_numberAt_59 rfl (lv_at hl 0 rfl) ?_
    refine hw_get (v := .ref gA) (C := RK) (T := TK) (N := 7) hx hb hts inK hown hK hW ha rfl 5 (by decide) (hts _ bw_303) (fun _ h9 => h9) rfl dK_numberAt_60 ?_
    refine lv_iload_n hx hb dK_numberAt_63 rfl (lv_at hl 1 rfl) ?_
    refine hw_iald hx hb hK hW 0 hg9 rfl (vp_in_nI (show n < 64 by omega) (by omega)) dK_numberAt_64 ?_
    refine tp_i (show (ni G) (nI n).toNatClampNeg = nI (G n) from by rw [nI_clamp (by omega)]; rfl) ?_
    refine lv_i2l (v := lN (G n)) hx hb dK_numberAt_65 (nI_l (by omega)) ?_
    refine lv_ladd hx hb dK_numberAt_66 ?_
    refine tp_l (show (lN (F n)) + (lN (G n)) = lN ((F n) + (G n)) from lN_add _ _) ?_
    refine kc_NSI (n := 1) (As := [.long (lN ((F n) + (G n)))]) (rest := []) ⟨hx, hb, hml, hown, hts⟩ (c_X_reduce l D g ad tb sa w H.size (lN ((F n) + (G n)))) (hk.1 kw_403 (by simp [twL])) bw_254 bw_1 bw_255 (by decide +kernel) ⟨by decide, by decide⟩ hW hK hk hS hAA rfl hl.1 rfl (Nat.le_of_ble_eq_true rfl) dK_numberAt_67 ⟨by decide, by decide⟩ (fun r1 w2 H locs hp hW hS => ?_)
    obtain ⟨hw9, hr9⟩ := hp
    rw [hw9] at hW
    subst hr9
    refine tp_i (show nI (rd (lN ((F n) + (G n))).toInt) = nI ((F n + G n) % 32003) from by rw [rd_lN (by omega)]) ?_
    exact W.iret (v := nI ((F n + G n) % 32003)) hx hb hr (fun t ht hW9 => ⟨⟨nI ((F n + G n) % 32003), w, rfl, ⟨rfl, rfl⟩, by rw [ht]; exact hW, va_K.moved hW9.alike hK⟩, hS.F ht⟩) hS.2.2 dK_numberAt_70
  · refine lv_tableIn (off := 60) (tgt := 71) hx hb dK_numberAt_11 (by decide) (by decide) (by decide) (by decide) ?_
    refine lv_aload_n hx hb dK_numberAt_71 rfl (lv_at hl 0 rfl) ?_
    refine hw_get (v := .ref fA) (C := RK) (T := TK) (N := 7) hx hb hts inK hown hK hW ha rfl 4 (by decide) (hts _ bw_302) (fun _ h9 => h9) rfl dK_numberAt_72 ?_
    refine lv_iload_n hx hb dK_numberAt_75 rfl (lv_at hl 1 rfl) ?_
    refine hw_iald hx hb hK hW 0 hf rfl (vp_in_nI (show n < 64 by omega) (by omega)) dK_numberAt_76 ?_
    refine tp_i (show (ni F) (nI n).toNatClampNeg = nI (F n) from by rw [nI_clamp (by omega)]; rfl) ?_
    refine lv_aload_n hx hb dK_numberAt_77 rfl (lv_at hl 0 rfl) ?_
    refine hw_get (v := .ref gA) (C := RK) (T := TK) (N := 7) hx hb hts inK hown hK hW ha rfl 5 (by decide) (hts _ bw_303) (fun _ h9 => h9) rfl dK_numberAt_78 ?_
    refine lv_iload_n hx hb dK_numberAt_81 rfl (lv_at hl 1 rfl) ?_
    refine hw_iald hx hb hK hW 0 hg9 rfl (vp_in_nI (show n < 64 by omega) (by omega)) dK_numberAt_82 ?_
    refine tp_i (show (ni G) (nI n).toNatClampNeg = nI (G n) from by rw [nI_clamp (by omega)]; rfl) ?_
    refine kc_NSI (n := 2) (As := [.int (nI (F n)), .int (nI (G n))]) (rest := []) ⟨hx, hb, hml, hown, hts⟩ (c_X_product l D g ad tb sa w H.size (F n) (G n) (by omega) (by omega)) (hk.1 kw_404 (by simp [twL])) bw_405 bw_1 bw_406 (by decide +kernel) ⟨by decide, by decide⟩ hW hK hk hS hAA rfl hl.1 rfl (Nat.le_of_ble_eq_true rfl) dK_numberAt_83 ⟨by decide, by decide⟩ (fun r3 w4 H locs hp hW hS => ?_)
    obtain ⟨hw9, hr9⟩ := hp
    rw [hw9] at hW
    subst hr9
    exact W.iret (v := nI (F n * G n % 32003)) hx hb hr (fun t ht hW9 => ⟨⟨nI (F n * G n % 32003), w, rfl, ⟨rfl, rfl⟩, by rw [ht]; exact hW, va_K.moved hW9.alike hK⟩, hS.F ht⟩) hS.2.2 dK_numberAt_86
  · refine lv_tableIn (off := 76) (tgt := 87) hx hb dK_numberAt_11 (by decide) (by decide) (by decide) (by decide) ?_
    refine lv_aload_n hx hb dK_numberAt_87 rfl (lv_at hl 0 rfl) ?_
    refine lv_iload_n hx hb dK_numberAt_88 rfl (lv_at hl 1 rfl) ?_
    refine kc_VI (n := 1) (As := [.int (nI n)]) (rest := []) ⟨hx, hb, hml, hown, hts⟩ (c_K_convolution l D g ad tb sa w H.size a nu fh 2 fA gA di pt F G ha hf hg9 hF hG9 n hn) bw_407 bw_409 bs_8 bw_14 bw_410 (by decide +kernel) rfl rfl ha ⟨by decide, by decide⟩ hW hK hk hS hAA rfl hl.1 rfl (Nat.le_of_ble_eq_true rfl) dK_numberAt_89 ⟨by decide, by decide⟩ (fun r5 w6 H locs hp hW hS => ?_)
    obtain ⟨hw9, hr9⟩ := hp
    rw [hw9] at hW
    subst hr9
    exact W.iret (v := nI (ns (fun i => F i * G (n - i)) (n + 1) % 32003)) hx hb hr (fun t ht hW9 => ⟨⟨nI (ns (fun i => F i * G (n - i)) (n + 1) % 32003), w, rfl, ⟨rfl, rfl⟩, by rw [ht]; exact hW, va_K.moved hW9.alike hK⟩, hS.F ht⟩) hS.2.2 dK_numberAt_92
  · refine lv_tableIn (off := 82) (tgt := 93) hx hb dK_numberAt_11 (by decide) (by decide) (by decide) (by decide) ?_
    refine lv_iload_n hx hb dK_numberAt_93 rfl (lv_at hl 1 rfl) ?_
    refine lv_iconst (v := nI 2) hx hb dK_numberAt_94 (by decide) ?_
    refine lv_irem hx hb dK_numberAt_95 (by decide) ?_
    refine tp_i (show (nI n) - (nI n) / (nI 2) * (nI 2) = nI (n % 2) from pk_rem (by omega) (by decide) (by decide)) ?_
    refine nw_if_ne (tgt := 110) hx hb (by omega) dK_numberAt_96 (by decide) (fun c1 => ?_) (fun c1 => ?_)
    · refine lv_aload_n hx hb dK_numberAt_110 rfl (lv_at hl 0 rfl) ?_
      refine hw_get (v := .ref gA) (C := RK) (T := TK) (N := 7) hx hb hts inK hown hK hW ha rfl 5 (by decide) (hts _ bw_303) (fun _ h9 => h9) rfl dK_numberAt_111 ?_
      refine lv_iload_n hx hb dK_numberAt_114 rfl (lv_at hl 1 rfl) ?_
      refine lv_iconst (v := nI 1) hx hb dK_numberAt_115 (by decide) ?_
      refine lv_isub hx hb dK_numberAt_116 ?_
      refine tp_i (show (nI n) - (nI 1) = nI (n - 1) from pk_sub (by omega)) ?_
      refine lv_iconst (v := nI 2) hx hb dK_numberAt_117 (by decide) ?_
      refine lv_idiv hx hb dK_numberAt_118 (by decide) ?_
      refine tp_i (show (nI (n - 1)) / (nI 2) = nI ((n - 1) / 2) from pk_div (by omega) (by decide) (by decide)) ?_
      refine hw_iald hx hb hK hW 0 hg9 rfl (vp_in_nI (show (n - 1) / 2 < 64 by omega) (by omega)) dK_numberAt_119 ?_
      refine tp_i (show (ni G) (nI ((n - 1) / 2)).toNatClampNeg = nI (G ((n - 1) / 2)) from by rw [nI_clamp (by omega)]; rfl) ?_
      exact W.iret (v := nI (G ((n - 1) / 2))) hx hb hr (fun t ht hW9 => ⟨⟨nI (G ((n - 1) / 2)), w, rfl, ⟨rfl, by show _ = nI (if n % 2 = 0 then F (n / 2) else G ((n - 1) / 2)); rw [if_neg c1]⟩, by rw [ht]; exact hW, va_K.moved hW9.alike hK⟩, hS.F ht⟩) hS.2.2 dK_numberAt_120
    · refine lv_aload_n hx hb dK_numberAt_99 rfl (lv_at hl 0 rfl) ?_
      refine hw_get (v := .ref fA) (C := RK) (T := TK) (N := 7) hx hb hts inK hown hK hW ha rfl 4 (by decide) (hts _ bw_302) (fun _ h9 => h9) rfl dK_numberAt_100 ?_
      refine lv_iload_n hx hb dK_numberAt_103 rfl (lv_at hl 1 rfl) ?_
      refine lv_iconst (v := nI 2) hx hb dK_numberAt_104 (by decide) ?_
      refine lv_idiv hx hb dK_numberAt_105 (by decide) ?_
      refine tp_i (show (nI n) / (nI 2) = nI (n / 2) from pk_div (by omega) (by decide) (by decide)) ?_
      refine hw_iald hx hb hK hW 0 hf rfl (vp_in_nI (show n / 2 < 64 by omega) (by omega)) dK_numberAt_106 ?_
      refine tp_i (show (ni F) (nI (n / 2)).toNatClampNeg = nI (F (n / 2)) from by rw [nI_clamp (by omega)]; rfl) ?_
      refine lv_goto (tgt := 120) hx hb dK_numberAt_107 (by decide) ?_
      exact W.iret (v := nI (F (n / 2))) hx hb hr (fun t ht hW9 => ⟨⟨nI (F (n / 2)), w, rfl, ⟨rfl, by show _ = nI (if n % 2 = 0 then F (n / 2) else G ((n - 1) / 2)); rw [if_pos c1]⟩, by rw [ht]; exact hW, va_K.moved hW9.alike hK⟩, hS.F ht⟩) hS.2.2 dK_numberAt_120
  · refine lv_tableIn (off := 110) (tgt := 121) hx hb dK_numberAt_11 (by decide) (by decide) (by decide) (by decide) ?_
    refine lv_iload_n hx hb dK_numberAt_121 rfl (lv_at hl 1 rfl) ?_
    refine lv_aload_n hx hb dK_numberAt_122 rfl (lv_at hl 0 rfl) ?_
    refine hw_get (v := .int (nI di)) (C := RK) (T := TK) (N := 7) hx hb hts inK hown hK hW ha rfl 6 (by decide) (hts _ bw_304) (fun _ h9 => h9) rfl dK_numberAt_123 ?_
    refine lv_iadd hx hb dK_numberAt_126 ?_
    refine tp_i (show (nI n) + (nI di) = nI (n + di) from nI_add _ _) ?_
    refine lv_bipush (v := nI 64) hx hb dK_numberAt_127 (by decide) ?_
    refine nw_icmp_ge (tgt := 146) hx hb (by omega) (by omega) dK_numberAt_129 (by decide) (fun c1 => ?_) (fun c1 => ?_)
    · refine lv_iconst (v := nI 0) hx hb dK_numberAt_146 (by decide) ?_
      exact W.iret (v := nI 0) hx hb hr (fun t ht hW9 => ⟨⟨nI 0, w, rfl, ⟨rfl, by show _ = nI (if n + di < 64 then F (n + di) else 0); rw [if_neg (by omega)]⟩, by rw [ht]; exact hW, va_K.moved hW9.alike hK⟩, hS.F ht⟩) hS.2.2 dK_numberAt_147
    · refine lv_aload_n hx hb dK_numberAt_132 rfl (lv_at hl 0 rfl) ?_
      refine hw_get (v := .ref fA) (C := RK) (T := TK) (N := 7) hx hb hts inK hown hK hW ha rfl 4 (by decide) (hts _ bw_302) (fun _ h9 => h9) rfl dK_numberAt_133 ?_
      refine lv_iload_n hx hb dK_numberAt_136 rfl (lv_at hl 1 rfl) ?_
      refine lv_aload_n hx hb dK_numberAt_137 rfl (lv_at hl 0 rfl) ?_
      refine hw_get (v := .int (nI di)) (C := RK) (T := TK) (N := 7) hx hb hts inK hown hK hW ha rfl 6 (by decide) (hts _ bw_304) (fun _ h9 => h9) rfl dK_numberAt_138 ?_
      refine lv_iadd hx hb dK_numberAt_141 ?_
      refine tp_i (show (nI n) + (nI di) = nI (n + di) from nI_add _ _) ?_
      refine hw_iald hx hb hK hW 0 hf rfl (vp_in_nI (show n + di < 64 by omega) (by omega)) dK_numberAt_142 ?_
      refine tp_i (show (ni F) (nI (n + di)).toNatClampNeg = nI (F (n + di)) from by rw [nI_clamp (by omega)]; rfl) ?_
      refine lv_goto (tgt := 147) hx hb dK_numberAt_143 (by decide) ?_
      exact W.iret (v := nI (F (n + di))) hx hb hr (fun t ht hW9 => ⟨⟨nI (F (n + di)), w, rfl, ⟨rfl, by show _ = nI (if n + di < 64 then F (n + di) else 0); rw [if_pos (by omega)]⟩, by rw [ht]; exact hW, va_K.moved hW9.alike hK⟩, hS.F ht⟩) hS.2.2 dK_numberAt_147
  · refine lv_tableIn (off := 137) (tgt := 148) hx hb dK_numberAt_11 (by decide) (by decide) (by decide) (by decide) ?_
    refine lv_iload_n hx hb dK_numberAt_148 rfl (lv_at hl 1 rfl) ?_
    refine nw_if_ne (tgt := 161) hx hb (by omega) dK_numberAt_149 (by decide) (fun c1 => ?_) (fun c1 => ?_)
    · have hT1 := hT (n - 1) (by omega)
      refine lv_aload_n hx hb dK_numberAt_161 rfl (lv_at hl 0 rfl) ?_
      refine hw_get (v := .ref nu) (C := RK) (T := TK) (N := 7) hx hb hts inK hown hK hW ha rfl 0 (by decide) (hts _ bw_195) (fun x9 h9 => u_same (hts _ bw_196) x9 h9) rfl dK_numberAt_162 ?_
      refine lv_iload_n hx hb dK_numberAt_165 rfl (lv_at hl 1 rfl) ?_
      refine lv_iconst (v := nI 1) hx hb dK_numberAt_166 (by decide) ?_
      refine lv_isub hx hb dK_numberAt_167 ?_
      refine tp_i (show (nI n) - (nI 1) = nI (n - 1) from pk_sub (by omega)) ?_
      refine hw_iald hx hb hK hW 0 hn9 rfl (vp_in_nI (show n - 1 < 64 by omega) (by omega)) dK_numberAt_168 ?_
      refine tp_i (show (ni T) (nI (n - 1)).toNatClampNeg = nI (T (n - 1)) from by rw [nI_clamp (by omega)]; rfl) ?_
      refine lv_i2l (v := lN (T (n - 1))) hx hb dK_numberAt_169 (nI_l (by omega)) ?_
      refine lv_aload_n hx hb dK_numberAt_170 rfl (lv_at hl 0 rfl) ?_
      refine hw_get (v := .ref fA) (C := RK) (T := TK) (N := 7) hx hb hts inK hown hK hW ha rfl 4 (by decide) (hts _ bw_302) (fun _ h9 => h9) rfl dK_numberAt_171 ?_
      refine lv_iload_n hx hb dK_numberAt_174 rfl (lv_at hl 1 rfl) ?_
      refine hw_iald hx hb hK hW 0 hf rfl (vp_in_nI (show n < 64 by omega) (by omega)) dK_numberAt_175 ?_
      refine tp_i (show (ni F) (nI n).toNatClampNeg = nI (F n) from by rw [nI_clamp (by omega)]; rfl) ?_
      refine lv_i2l (v := lN (F n)) hx hb dK_numberAt_176 (nI_l (by omega)) ?_
      refine lv_ladd hx hb dK_numberAt_177 ?_
      refine tp_l (show (lN (T (n - 1))) + (lN (F n)) = lN ((T (n - 1)) + (F n)) from lN_add _ _) ?_
      refine kc_NSI (n := 1) (As := [.long (lN ((T (n - 1)) + (F n)))]) (rest := []) ⟨hx, hb, hml, hown, hts⟩ (c_X_reduce l D g ad tb sa w H.size (lN ((T (n - 1)) + (F n)))) (hk.1 kw_403 (by simp [twL])) bw_254 bw_1 bw_255 (by decide +kernel) ⟨by decide, by decide⟩ hW hK hk hS hAA rfl hl.1 rfl (Nat.le_of_ble_eq_true rfl) dK_numberAt_178 ⟨by decide, by decide⟩ (fun r7 w8 H locs hp hW hS => ?_)
      obtain ⟨hw9, hr9⟩ := hp
      rw [hw9] at hW
      subst hr9
      refine tp_i (show nI (rd (lN ((T (n - 1)) + (F n))).toInt) = nI ((T (n - 1) + F n) % 32003) from by rw [rd_lN (by omega)]) ?_
      exact W.iret (v := nI ((T (n - 1) + F n) % 32003)) hx hb hr (fun t ht hW9 => ⟨⟨nI ((T (n - 1) + F n) % 32003), w, rfl, ⟨rfl, by show _ = nI (if n = 0 then F 0 else (T (n - 1) + F n) % 32003); rw [if_neg c1]⟩, by rw [ht]; exact hW, va_K.moved hW9.alike hK⟩, hS.F ht⟩) hS.2.2 dK_numberAt_181
    · refine lv_aload_n hx hb dK_numberAt_152 rfl (lv_at hl 0 rfl) ?_
      refine hw_get (v := .ref fA) (C := RK) (T := TK) (N := 7) hx hb hts inK hown hK hW ha rfl 4 (by decide) (hts _ bw_302) (fun _ h9 => h9) rfl dK_numberAt_153 ?_
      refine lv_iconst (v := nI 0) hx hb dK_numberAt_156 (by decide) ?_
      refine hw_iald hx hb hK hW 0 hf rfl (vp_in_nI (show 0 < 64 by omega) (by omega)) dK_numberAt_157 ?_
      refine tp_i (show (ni F) (nI 0).toNatClampNeg = nI (F 0) from by rw [nI_clamp (by omega)]; rfl) ?_
      refine lv_goto (tgt := 181) hx hb dK_numberAt_158 (by decide) ?_
      exact W.iret (v := nI (F 0)) hx hb hr (fun t ht hW9 => ⟨⟨nI (F 0), w, rfl, ⟨rfl, by show _ = nI (if n = 0 then F 0 else (T (n - 1) + F n) % 32003); rw [if_pos c1]⟩, by rw [ht]; exact hW, va_K.moved hW9.alike hK⟩, hS.F ht⟩) hS.2.2 dK_numberAt_181
  · refine lv_tableIn (off := 171) (tgt := 182) hx hb dK_numberAt_11 (by decide) (by decide) (by decide) (by decide) ?_
    refine lv_iload_n hx hb dK_numberAt_182 rfl (lv_at hl 1 rfl) ?_
    refine lv_iconst (v := nI 1) hx hb dK_numberAt_183 (by decide) ?_
    refine lv_iadd hx hb dK_numberAt_184 ?_
    refine tp_i (show (nI n) + (nI 1) = nI (n + 1) from nI_add _ _) ?_
    refine lv_bipush (v := nI 64) hx hb dK_numberAt_185 (by decide) ?_
    refine nw_icmp_ge (tgt := 207) hx hb (by omega) (by omega) dK_numberAt_187 (by decide) (fun c1 => ?_) (fun c1 => ?_)
    · refine lv_iconst (v := nI 0) hx hb dK_numberAt_207 (by decide) ?_
      exact W.iret (v := nI 0) hx hb hr (fun t ht hW9 => ⟨⟨nI 0, w, rfl, ⟨rfl, by show _ = nI (if n + 1 < 64 then (n + 1) * F (n + 1) % 32003 else 0); rw [if_neg (by omega)]⟩, by rw [ht]; exact hW, va_K.moved hW9.alike hK⟩, hS.F ht⟩) hS.2.2 dK_numberAt_208
    · have hF1 := hF (n + 1) (by omega)
      refine lv_iload_n hx hb dK_numberAt_190 rfl (lv_at hl 1 rfl) ?_
      refine lv_iconst (v := nI 1) hx hb dK_numberAt_191 (by decide) ?_
      refine lv_iadd hx hb dK_numberAt_192 ?_
      refine tp_i (show (nI n) + (nI 1) = nI (n + 1) from nI_add _ _) ?_
      refine lv_aload_n hx hb dK_numberAt_193 rfl (lv_at hl 0 rfl) ?_
      refine hw_get (v := .ref fA) (C := RK) (T := TK) (N := 7) hx hb hts inK hown hK hW ha rfl 4 (by decide) (hts _ bw_302) (fun _ h9 => h9) rfl dK_numberAt_194 ?_
      refine lv_iload_n hx hb dK_numberAt_197 rfl (lv_at hl 1 rfl) ?_
      refine lv_iconst (v := nI 1) hx hb dK_numberAt_198 (by decide) ?_
      refine lv_iadd hx hb dK_numberAt_199 ?_
      refine tp_i (show (nI n) + (nI 1) = nI (n + 1) from nI_add _ _) ?_
      refine hw_iald hx hb hK hW 0 hf rfl (vp_in_nI (show n + 1 < 64 by omega) (by omega)) dK_numberAt_200 ?_
      refine tp_i (show (ni F) (nI (n + 1)).toNatClampNeg = nI (F (n + 1)) from by rw [nI_clamp (by omega)]; rfl) ?_
      refine kc_NSI (n := 2) (As := [.int (nI (n + 1)), .int (nI (F (n + 1)))]) (rest := []) ⟨hx, hb, hml, hown, hts⟩ (c_X_product l D g ad tb sa w H.size (n + 1) (F (n + 1)) (by omega) (by omega)) (hk.1 kw_404 (by simp [twL])) bw_405 bw_1 bw_406 (by decide +kernel) ⟨by decide, by decide⟩ hW hK hk hS hAA rfl hl.1 rfl (Nat.le_of_ble_eq_true rfl) dK_numberAt_201 ⟨by decide, by decide⟩ (fun r9 w10 H locs hp hW hS => ?_)
      obtain ⟨hw9, hr9⟩ := hp
      rw [hw9] at hW
      subst hr9
      refine lv_goto (tgt := 208) hx hb dK_numberAt_204 (by decide) ?_
      exact W.iret (v := nI ((n + 1) * F (n + 1) % 32003)) hx hb hr (fun t ht hW9 => ⟨⟨nI ((n + 1) * F (n + 1) % 32003), w, rfl, ⟨rfl, by show _ = nI (if n + 1 < 64 then (n + 1) * F (n + 1) % 32003 else 0); rw [if_pos (by omega)]⟩, by rw [ht]; exact hW, va_K.moved hW9.alike hK⟩, hS.F ht⟩) hS.2.2 dK_numberAt_208
