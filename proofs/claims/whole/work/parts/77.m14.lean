theorem rd_small {a : Nat} (h : a < 32003) (x : Int) : rd ((a : Int) - ((0 : Nat) : Int) * x) = a := by
  rw [Int.natCast_zero, Int.zero_mul, Int.sub_zero, rd_nat, Nat.mod_eq_of_lt h]

set_option maxHeartbeats 1000000 in
set_option maxRecDepth 100000 in
theorem lp_M_cl_r {p : Program} {l : Launch} {e : Env} {s : State} {m : MethodId} {args : Array Value} {below : List Frame} {meth : Method} {c : Code} {Q : State → Prop} {D : va_G} {g : Nat → ClassId} {ad : Nat → Nat} {tb : Nat} {sa : Nat → Nat} {A : Nat → Prop} {w : Wd} {mo : Nat} {ml : Nat → Nat} {cd mn : Nat} {ki on tw od fa st rs : Nat → Nat} {me fo fd : Nat} {ba ta by9 : Nat → Nat} {nd : Nat → Bool} (hD : moD ml) {m9 fe row c0 : Nat} (hm : m9 ≤ 20) (hc0 : c0 < m9) (hrw : row < 64) (C0 : cx p s m args c A cM_clear 12 RM D g ad tb sa) : ∀ (e9 : Nat) (n : Nat) (ta1 : Nat → Nat) (w1 : Wd), (n + e9 = 64) → (moW g w1 mo ml cd mn ki on tw od fa st rs me fo fd ba ta1 by9 nd) → (moF mo ml w w1) → (∀ x, x < 1280 → ta1 x < 32003) → (∀ n9 j, n9 < n → n9 < 64 → n9 ≠ row → j < m9 → ta1 (20 * n9 + j) = rd ((ta (20 * n9 + j) : Int) - (ta (20 * n9 + c0) : Int) * (ta (20 * row + j) : Int))) → (∀ n9 j, n9 < 64 → j < 20 → n9 = row ∨ n ≤ n9 → ta1 (20 * n9 + j) = ta (20 * n9 + j)) → ∀ (H : Heap) (locs : List Loc), hw D vwCl A w1 H → va_S A s.heap H locs → ∀ ls : Array Slot, lv_has ls 12 [(0, .ref mo), (1, .int (nI m9)), (2, .int (nI fe)), (3, .int (nI row)), (4, .int (nI c0)), (8, .int (nI n))] → (∀ (ta1 : Nat → Nat) (w1 : Wd), (moW g w1 mo ml cd mn ki on tw od fa st rs me fo fd ba ta1 by9 nd) → (moF mo ml w w1) → (∀ x, x < 1280 → ta1 x < 32003) → (∀ n9 j, n9 < 64 → n9 < 64 → n9 ≠ row → j < m9 → ta1 (20 * n9 + j) = rd ((ta (20 * n9 + j) : Int) - (ta (20 * n9 + c0) : Int) * (ta (20 * row + j) : Int))) → (∀ n9 j, n9 < 64 → j < 20 → n9 = row ∨ 64 ≤ n9 → ta1 (20 * n9 + j) = ta (20 * n9 + j)) → ∀ (H : Heap) (locs : List Loc), hw D vwCl A w1 H → va_S A s.heap H locs → ∀ ls : Array Slot, lv_has ls 12 [(0, .ref mo), (1, .int (nI m9)), (2, .int (nI fe)), (3, .int (nI row)), (4, .int (nI c0))] → W p l e (rmL 1 26 0 0) s m args below meth c H locs 0 0 Q (F0 m 309 ls [])) → W p l e (rmL 1 26 0 0) s m args below meth c H locs 0 0 Q (F0 m 204 ls []) := by
  obtain ⟨hx, hb, hml, hts, hown, hK, hk, hAA⟩ := C0
  intro e9
  induction e9 with
  | zero =>
    intro n ta1 w1 hn9 hM hFr htb hs1 hs2 H locs hW hS ls hl kk0
    refine lv_iload hx hb dM_clear_204 (lv_at hl 5 rfl) ?_
    refine lv_bipush (v := nI 64) hx hb dM_clear_206 (by decide) ?_
    refine nw_icmp_ge (tgt := 309) hx hb (by omega) (by omega) dM_clear_208 (by decide) (fun c1 => ?_) (fun c1 => absurd (show n < 64 from c1) (by omega))
    rw [show n = 64 by omega] at hs1 hs2
    exact kk0 ta1 w1 hM hFr htb hs1 hs2 H locs hW hS ls (lv_sub hl [0, 1, 2, 3, 4] rfl)
  | succ e9 ih =>
    intro n ta1 w1 hn9 hM hFr htb hs1 hs2 H locs hW hS ls hl kk0
    have hb1 := htb (20 * n + c0) (by omega)
    have hvr := fun j hj => hs2 row j hrw hj (Or.inl rfl)
    have hvn := fun j hj => hs2 n j (by omega) hj (Or.inr (Nat.le_refl n))
    refine lv_iload hx hb dM_clear_204 (lv_at hl 5 rfl) ?_
    refine lv_bipush (v := nI 64) hx hb dM_clear_206 (by decide) ?_
    refine nw_icmp_ge (tgt := 309) hx hb (by omega) (by omega) dM_clear_208 (by decide) (fun c1 => absurd (show 64 ≤ n from c1) (by omega)) (fun c1 => ?_)
    refine lv_iload hx hb dM_clear_211 (lv_at hl 5 rfl) ?_
    refine lv_iload_n hx hb dM_clear_213 rfl (lv_at hl 3 rfl) ?_
    refine nw_icmp_ne (tgt := 221) hx hb (by omega) (by omega) dM_clear_214 (by decide) (fun cr => ?_) (fun cr => ?_)
    · refine lv_aload_n hx hb dM_clear_221 rfl (lv_at hl 0 rfl) ?_
      refine hw_get (v := .ref (ml 8)) (C := RM) (T := TM) (N := 16) hx hb hts inM hown hK hW hM.1 rfl 13 (by decide) (hts _ bw_530) (fun _ h9 => h9) rfl dM_clear_222 ?_
      refine lv_bipush (v := nI 20) hx hb dM_clear_225 (by decide) ?_
      refine lv_iload hx hb dM_clear_227 (lv_at hl 5 rfl) ?_
      refine lv_imul hx hb dM_clear_229 ?_
      refine tp_i (show (nI 20) * (nI n) = nI (20 * n) from pk_mul _ _) ?_
      refine lv_iload hx hb dM_clear_230 (lv_at hl 4 rfl) ?_
      refine lv_iadd hx hb dM_clear_232 ?_
      refine tp_i (show (nI (20 * n)) + (nI c0) = nI ((20 * n) + c0) from nI_add _ _) ?_
      refine hw_lald hx hb hK hW 2 hM.2.2.2.2.2.2.2.2.2.1 rfl (vp_in_nI (show (20 * n) + c0 < 1280 by omega) (by omega)) dM_clear_233 ?_
      refine tp_l (show (nl ta1) (nI ((20 * n) + c0)).toNatClampNeg = lN (ta1 ((20 * n) + c0)) from by rw [nI_clamp (by omega)]; rfl) ?_
      refine lv_lstore (lv' := [(9, .long (lN (ta1 ((20 * n) + c0)))), (0, .ref mo), (1, .int (nI m9)), (2, .int (nI fe)), (3, .int (nI row)), (4, .int (nI c0)), (8, .int (nI n))]) hx hb dM_clear_234 hl (by decide) rfl (fun ls hl => ?_)
      refine lv_iconst (v := nI 0) hx hb dM_clear_236 (by decide) ?_
      refine lv_istore (lv' := [(11, .int (nI 0)), (9, .long (lN (ta1 ((20 * n) + c0)))), (0, .ref mo), (1, .int (nI m9)), (2, .int (nI fe)), (3, .int (nI row)), (4, .int (nI c0)), (8, .int (nI n))]) hx hb dM_clear_237 hl (by decide) rfl (fun ls hl => ?_)
      by_cases hq : ta1 (20 * n + c0) = 0
      · refine lv_iload hx hb dM_clear_239 (lv_at hl 0 rfl) ?_
        refine lv_iload_n hx hb dM_clear_241 rfl (lv_at hl 3 rfl) ?_
        refine nw_icmp_ge (tgt := 303) hx hb (by omega) (by omega) dM_clear_242 (by decide) (fun c2 => absurd (show m9 ≤ 0 from c2) (by omega)) (fun c2 => ?_)
        refine lv_lload hx hb dM_clear_245 (lv_at hl 1 rfl) ?_
        refine lv_lconst (v := lN 0) hx hb dM_clear_247 (by decide) ?_
        refine W.lcmp hx hb dM_clear_248 ?_
        refine lv_if_le (tgt := 303) hx hb dM_clear_249 (by decide) (fun c3 => ?_) (fun c3 => absurd (show lg_cmp (lN (ta1 (20 * n + c0))) (lN 0) ≤ 0 by rw [hq]; decide) c3)
        refine lv_iinc (v := nI (n + 1)) (lv' := [(8, .int (nI (n + 1))), (11, .int (nI 0)), (9, .long (lN (ta1 ((20 * n) + c0)))), (0, .ref mo), (1, .int (nI m9)), (2, .int (nI fe)), (3, .int (nI row)), (4, .int (nI c0))]) hx hb dM_clear_303 hl (k := 7) rfl (nI_1 _) (by decide) rfl (fun ls hl => ?_)
        refine lv_goto (tgt := 204) hx hb dM_clear_306 (by decide) ?_
        exact ih (n + 1) ta1 w1 (by omega) hM hFr htb (fun n9 j h1 h2 h3 hj => by
          by_cases e8 : n9 = n
          · rw [e8, ← hvn c0 (by omega), hq, rd_small (by rw [← hvn j (by omega)]; exact htb _ (by omega))]; exact hvn j (by omega)
          · exact hs1 n9 j (by omega) h2 h3 hj) (fun n9 j h1 hj h2 => hs2 n9 j h1 hj (by omega)) H locs hW hS ls (lv_sub hl [3, 4, 5, 6, 7, 0] rfl) kk0
      · have hs1o := hs1
        have hs2o := hs2
        have hFro := hFr
        obtain ⟨tz, etz⟩ : ∃ z, z = ta1 := ⟨_, rfl⟩
        refine lp_M_cl_k (ta := ta1) hD hm hc0 hrw (show n < 64 by omega) (show n ≠ row from cr) (show 0 < ta1 (20 * n + c0) by omega) hb1 ⟨hx, hb, hml, hts, hown, hK, hk, hAA⟩ m9 0 ta1 w1 (by omega) hM moF.rf htb (fun j hj => absurd hj (by omega)) (fun _ _ _ _ _ => rfl) _ _ hW hS ls (lv_sub hl [2, 3, 4, 5, 6, 7, 1, 0] rfl) ?_
        intro ta1 w1 hM hFr htb hs1 hs2 H locs hW hS ls hl
        have hFr := hFro.tr hFr
        refine lv_iinc (v := nI (n + 1)) (lv' := [(8, .int (nI (n + 1))), (0, .ref mo), (1, .int (nI m9)), (2, .int (nI fe)), (3, .int (nI row)), (4, .int (nI c0))]) hx hb dM_clear_303 hl (k := 5) rfl (nI_1 _) (by decide) rfl (fun ls hl => ?_)
        refine lv_goto (tgt := 204) hx hb dM_clear_306 (by decide) ?_
        exact ih (n + 1) ta1 w1 (by omega) hM hFr htb (fun n9 j h1 h2 h3 hj => by
          by_cases e8 : n9 = n
          · rw [e8, hs1 j hj, ← etz]; rw [← etz] at hvn hvr; rw [hvn j (by omega), hvn c0 (by omega), hvr j (by omega)]
          · rw [hs2 n9 j h2 (by omega) (Or.inl e8)]; exact hs1o n9 j (by omega) h2 h3 hj) (fun n9 j h1 hj h2 => by rw [hs2 n9 j h1 hj (Or.inl (by omega))]; exact hs2o n9 j h1 hj (by omega)) H locs hW hS ls (lv_sub hl [1, 2, 3, 4, 5, 0] rfl) kk0
    · refine lv_lconst (v := lN 0) hx hb dM_clear_217 (by decide) ?_
      refine lv_goto (tgt := 234) hx hb dM_clear_218 (by decide) ?_
      refine lv_lstore (lv' := [(9, .long (lN 0)), (0, .ref mo), (1, .int (nI m9)), (2, .int (nI fe)), (3, .int (nI row)), (4, .int (nI c0)), (8, .int (nI n))]) hx hb dM_clear_234 hl (by decide) rfl (fun ls hl => ?_)
      refine lv_iconst (v := nI 0) hx hb dM_clear_236 (by decide) ?_
      refine lv_istore (lv' := [(11, .int (nI 0)), (9, .long (lN 0)), (0, .ref mo), (1, .int (nI m9)), (2, .int (nI fe)), (3, .int (nI row)), (4, .int (nI c0)), (8, .int (nI n))]) hx hb dM_clear_237 hl (by decide) rfl (fun ls hl => ?_)
      refine lv_iload hx hb dM_clear_239 (lv_at hl 0 rfl) ?_
      refine lv_iload_n hx hb dM_clear_241 rfl (lv_at hl 3 rfl) ?_
      refine nw_icmp_ge (tgt := 303) hx hb (by omega) (by omega) dM_clear_242 (by decide) (fun c4 => absurd (show m9 ≤ 0 from c4) (by omega)) (fun c4 => ?_)
      refine lv_lload hx hb dM_clear_245 (lv_at hl 1 rfl) ?_
      refine lv_lconst (v := lN 0) hx hb dM_clear_247 (by decide) ?_
      refine W.lcmp hx hb dM_clear_248 ?_
      refine lv_if_le (tgt := 303) hx hb dM_clear_249 (by decide) (fun c5 => ?_) (fun c5 => absurd (show lg_cmp (lN 0) (lN 0) ≤ 0 by decide) c5)
      refine lv_iinc (v := nI (n + 1)) (lv' := [(8, .int (nI (n + 1))), (11, .int (nI 0)), (9, .long (lN 0)), (0, .ref mo), (1, .int (nI m9)), (2, .int (nI fe)), (3, .int (nI row)), (4, .int (nI c0))]) hx hb dM_clear_303 hl (k := 7) rfl (nI_1 _) (by decide) rfl (fun ls hl => ?_)
      refine lv_goto (tgt := 204) hx hb dM_clear_306 (by decide) ?_
      exact ih (n + 1) ta1 w1 (by omega) hM hFr htb (fun n9 j h1 h2 h3 hj => hs1 n9 j (by omega) h2 h3 hj) (fun n9 j h1 hj h2 => hs2 n9 j h1 hj (by omega)) H locs hW hS ls (lv_sub hl [3, 4, 5, 6, 7, 0] rfl) kk0
