/-! The reference's arrays hold the same table of sequences. -/
def mQ (d : SD) (s : Nat) (ki on tw od fa st : Nat → Nat) : Prop :=
  ki s = sTg d ∧ sTg d ≤ 7 ∧ (sTg d = 0 → od s = sP d ∧ sP d ≤ 3 ∧ (∀ k, k < 12 → fa (12 * s + k) = sF d k) ∧ ∀ m, m < 64 → st (64 * s + m) = sS d m) ∧
  (sTg d ≠ 0 → on s = sP d ∧ (sTg d < 5 → tw s = sQ d) ∧ (sTg d = 5 → tw s = sDi d ∧ sDi d ≤ 8) ∧ (5 ≤ sTg d → sQ d = sP d)) ∧ (∀ k, k < 12 → sF d k < 32003) ∧ ∀ m, m < 64 → sS d m < 32003
def mS (σ : Nat → SD) (cnt : Nat) (ki on tw od fa st : Nat → Nat) : Prop := cnt ≤ 40 ∧ sOK σ cnt ∧ ∀ s, s < cnt → mQ (σ s) s ki on tw od fa st
section MS
variable {σ : Nat → SD} {cnt : Nat} {ki on tw od fa st : Nat → Nat}
theorem mS.add (h : mS σ cnt ki on tw od fa st) (hc : cnt < 40) {d : SD} {f h2 : Nat} {od' fa' st' : Nat → Nat} (hd : sTg d ≠ 0 → sP d < cnt ∧ sQ d < cnt) (ho : ∀ s, s < cnt → od' s = od s) (hf : ∀ x, x < 12 * cnt → fa' x = fa x) (hs : ∀ x, x < 64 * cnt → st' x = st x) (hq : mQ d cnt (va_up ki cnt (sTg d)) (va_up on cnt f) (va_up tw cnt h2) od' fa' st') : mS (va_up σ cnt d) (cnt + 1) (va_up ki cnt (sTg d)) (va_up on cnt f) (va_up tw cnt h2) od' fa' st' := by
  obtain ⟨h1, h3, h4⟩ := h
  refine ⟨by omega, fun i hi e => ?_, fun s hs9 => ?_⟩
  · by_cases ei : i = cnt
    · subst ei; rw [va_up_eq] at e ⊢; exact hd e
    · rw [va_up_no ei] at e ⊢; exact h3 i (by omega) e
  · by_cases ei : s = cnt
    · subst ei; rw [va_up_eq]; exact hq
    · rw [va_up_no ei]
      have hlt : s < cnt := by omega
      obtain ⟨a1, a2, a3, a4, a5, a6⟩ := h4 s hlt
      refine ⟨by rw [va_up_no ei]; exact a1, a2, fun e => ?_, fun e => ?_, a5, a6⟩
      · obtain ⟨b1, b2, b3, b4⟩ := a3 e
        exact ⟨by rw [ho s hlt]; exact b1, b2, fun k hk => by rw [hf _ (by omega)]; exact b3 k hk, fun m hm => by rw [hs _ (by omega)]; exact b4 m hm⟩
      · rw [va_up_no ei, va_up_no ei]; exact a4 e
theorem mS.chF (h : mS σ cnt ki on tw od fa st) {f k v : Nat} (hf : f < cnt) (ht : sTg (σ f) = 0) (hk : k < 12) (hv : v < 32003) : mS (va_up σ f (dF (σ f) k v)) cnt ki on tw od (va_up fa (12 * f + k) v) st := by
  obtain ⟨h1, h3, h4⟩ := h
  refine ⟨h1, fun i hi e => ?_, fun s hs => ?_⟩
  · by_cases ei : i = f
    · subst ei; rw [va_up_eq] at e; exact absurd ht e
    · rw [va_up_no ei] at e ⊢; exact h3 i hi e
  · obtain ⟨a1, a2, a3, a4, a5, a6⟩ := h4 s hs
    by_cases ei : s = f
    · subst ei
      rw [va_up_eq]
      obtain ⟨b1, b2, b3, b4⟩ := a3 ht
      refine ⟨a1, a2, fun e => ⟨b1, b2, fun j hj => ?_, b4⟩, fun e => absurd ht e, up_lt a5 hv, a6⟩
      show va_up fa (12 * s + k) v (12 * s + j) = va_up (sF (σ s)) k v j
      by_cases ej : j = k
      · rw [ej, va_up_eq, va_up_eq]
      · rw [va_up_no ej, va_up_no (by omega)]; exact b3 j hj
    · rw [va_up_no ei]
      refine ⟨a1, a2, fun e => ?_, a4, a5, a6⟩
      obtain ⟨b1, b2, b3, b4⟩ := a3 e
      exact ⟨b1, b2, fun j hj => by rw [va_up_no (by omega)]; exact b3 j hj, b4⟩
theorem mS.chS (h : mS σ cnt ki on tw od fa st) {f n v : Nat} (hf : f < cnt) (ht : sTg (σ f) = 0) (hn : n < 64) (hv : v < 32003) : mS (va_up σ f (dS (σ f) n v)) cnt ki on tw od fa (va_up st (64 * f + n) v) := by
  obtain ⟨h1, h3, h4⟩ := h
  refine ⟨h1, fun i hi e => ?_, fun s hs => ?_⟩
  · by_cases ei : i = f
    · subst ei; rw [va_up_eq] at e; exact absurd ht e
    · rw [va_up_no ei] at e ⊢; exact h3 i hi e
  · obtain ⟨a1, a2, a3, a4, a5, a6⟩ := h4 s hs
    by_cases ei : s = f
    · subst ei
      rw [va_up_eq]
      obtain ⟨b1, b2, b3, b4⟩ := a3 ht
      refine ⟨a1, a2, fun e => ⟨b1, b2, b3, fun j hj => ?_⟩, fun e => absurd ht e, a5, up_lt a6 hv⟩
      show va_up st (64 * s + n) v (64 * s + j) = va_up (sS (σ s)) n v j
      by_cases ej : j = n
      · rw [ej, va_up_eq, va_up_eq]
      · rw [va_up_no ej, va_up_no (by omega)]; exact b4 j hj
    · rw [va_up_no ei]
      refine ⟨a1, a2, fun e => ?_, a4, a5, a6⟩
      obtain ⟨b1, b2, b3, b4⟩ := a3 e
      exact ⟨b1, b2, b3, fun j hj => by rw [va_up_no (by omega)]; exact b4 j hj⟩
theorem fAt_m {fa F : Nat → Nat} {f i x : Nat} (h0 : fa (12 * f + 3 * i) = F (i * 3)) (h1 : fa (12 * f + 3 * i + 1) = F (i * 3 + 1)) (h2 : fa (12 * f + 3 * i + 2) = F (i * 3 + 2)) : (fa (12 * f + 3 * i) + fa (12 * f + 3 * i + 1) * x + fa (12 * f + 3 * i + 2) * (x * x)) % 32003 = fAt F i x := by
  unfold fAt
  rw [h0, h1, h2, Nat.add_mul, Nat.mul_assoc]
  congr 1
  omega
end MS
theorem lN_subN {a b : Nat} (ha : a < 2 ^ 62) (h : b ≤ a) : lN a - lN b = lN (a - b) := by
  refine l_eq ?_
  rw [sub_lN ha (by omega), pk_lT (by omega)]
  omega
theorem rd_negN (S : Nat) : (32003 - S % 32003) % 32003 = rd (-(S : Int)) := by
  have h1 := rd_int (-(S : Int))
  have h2 := rd_lt (-(S : Int))
  omega
theorem sval_at {σ : Nat → SD} {cnt i : Nat} (h : sOK σ cnt) (hi : i < cnt) {n : Nat} (hn : n < 64) : sval σ i n = atP (σ i) (sval σ (sP (σ i))) (sval σ (sQ (σ i))) (sval σ i) n := by
  rw [sval_eq h hi hn, row_eq hn]
  exact atP_congr hn (fun _ _ _ => rfl) (fun _ _ _ => rfl) (fun m hm => (sval_eq h hi (by omega)).symm)
theorem ns_mod {f : Nat → Nat} {k : Nat} : (ns f k % 32003 + f k) % 32003 = ns f (k + 1) % 32003 := by
  show _ = (ns f k + f k) % 32003
  rw [Nat.mod_add_mod]
/-- what hangs marks -/
def hgI (σ : Nat → SD) (f k : Nat) (nd : Nat → Bool) : Prop := nd f = true ∧ (∀ j, j < 40 → nd j = true → sdep σ f j = true) ∧ ∀ j, k ≤ j → j ≤ f → nd j = true → sTg (σ j) ≠ 0 → nd (sP (σ j)) = true ∧ nd (sQ (σ j)) = true
theorem hgI_end {σ : Nat → SD} {cnt f : Nat} {nd : Nat → Bool} (hs : sOK σ cnt) (hf : f < cnt) (h : hgI σ f 0 nd) : ∀ n i j, i < n → i ≤ f → nd i = true → sdep σ i j = true → nd j = true := by
  intro n
  induction n with
  | zero => exact fun i j h => absurd h (by omega)
  | succ n ih =>
    intro i j hn hi hd hj
    rw [sdep_eq hs (by omega)] at hj
    by_cases e : sTg (σ i) = 0
    · simp [e] at hj; rw [hj]; exact hd
    · obtain ⟨p1, p2⟩ := hs i (by omega) e
      obtain ⟨d1, d2⟩ := h.2.2 i (by omega) hi hd e
      simp [e] at hj
      rcases hj with hj | hj | hj
      · rw [hj]; exact hd
      · exact ih _ j (by omega) (by omega) d1 hj
      · exact ih _ j (by omega) (by omega) d2 hj
theorem hgI_eq {σ : Nat → SD} {cnt f h : Nat} {nd : Nat → Bool} (hs : sOK σ cnt) (hf : f < cnt) (hh : h < 40) (hI : hgI σ f 0 nd) : nd h = sdep σ f h := by
  cases e : sdep σ f h with
  | true => exact hgI_end hs hf hI (f + 1) f h (by omega) (Nat.le_refl f) hI.1 e
  | false =>
    cases e2 : nd h with
    | false => rfl
    | true => rw [hI.2.1 h hh e2] at e; cases e
theorem hgI_skip {σ : Nat → SD} {f k : Nat} {nd : Nat → Bool} (h : hgI σ f (k + 1) nd) (hk : nd k = false ∨ sTg (σ k) = 0) : hgI σ f k nd := by
  refine ⟨h.1, h.2.1, fun j hj hf hd e => ?_⟩
  by_cases ej : j = k
  · subst ej
    rcases hk with hk | hk
    · rw [hk] at hd; cases hd
    · exact absurd hk e
  · exact h.2.2 j (by omega) hf hd e
theorem hgI_mark {σ : Nat → SD} {cnt f k : Nat} {nd : Nat → Bool} (hc : cnt ≤ 40) (hs : sOK σ cnt) (hf : f < cnt) (h : hgI σ f (k + 1) nd) (hk : k ≤ f) (hd : nd k = true) (e : sTg (σ k) ≠ 0) {nd' : Nat → Bool} (hn : ∀ j, nd' j = (nd j || decide (j = sP (σ k)) || decide (j = sQ (σ k)))) : hgI σ f k nd' := by
  obtain ⟨h1, h2, h3⟩ := h
  obtain ⟨p1, p2⟩ := hs k (by omega) e
  refine ⟨by rw [hn, h1]; rfl, fun j hj hj2 => ?_, fun j hj hjf hj2 ej => ?_⟩
  · rw [hn] at hj2
    simp at hj2
    by_cases hkf : k < 40
    · have hdk := h2 k hkf hd
      have hp := sdep_part hs (show k < cnt by omega) e
      rcases hj2 with (hj2 | hj2) | hj2
      · exact h2 j hj hj2
      · rw [hj2]; exact sdep_tr hs (f + 1) f k _ (by omega) hf hdk hp.1
      · rw [hj2]; exact sdep_tr hs (f + 1) f k _ (by omega) hf hdk hp.2
    · omega
  · rw [hn] at hj2
    by_cases ek : j = k
    · subst ek
      rw [hn, hn]
      simp
    · have hj3 : nd j = true := by
        simp at hj2
        rcases hj2 with (hj2 | hj2) | hj2
        · exact hj2
        · omega
        · omega
      obtain ⟨c1, c2⟩ := h3 j (by omega) hjf hj3 ej
      rw [hn, hn, c1, c2]
      simp
