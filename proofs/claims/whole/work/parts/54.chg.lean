/-! A factor or a start is given. -/
def dF (d : SD) (ix v : Nat) : SD := (d.1, d.2.1, d.2.2.1, d.2.2.2.1, va_up (sF d) ix v, sS d)
def dS (d : SD) (ix v : Nat) : SD := (d.1, d.2.1, d.2.2.1, d.2.2.2.1, sF d, va_up (sS d) ix v)
theorem dF_me (d : SD) (ix : Nat) : dF d ix (sF d ix) = d := by
  unfold dF
  rw [va_up_me]
  rfl
theorem dS_me (d : SD) (ix : Nat) : dS d ix (sS d ix) = d := by
  unfold dS
  rw [va_up_me]
  rfl
theorem xS.ch {g : Nat → ClassId} {ad : Nat → Nat} {w w' : Wd} {al ro : Nat → Nat} {σ : Nat → SD} {cnt f : Nat} {fh fh1 : Nat → Bool} {T : Nat → Nat → Nat} {pt : Nat → Int64} {d' : SD} {ra : Nat} (h : xS g ad w al ro σ cnt fh T pt) (hf : f < cnt) (ht : sTg (σ f) = 0) (e1 : sTg d' = sTg (σ f)) (e2 : sP d' = sP (σ f)) (e3 : sQ d' = sQ (σ f)) (e4 : sDi d' = sDi (σ f))
    (hra : ro ra = 300 + f ∨ ro ra = 400 + f) (hO : obS ad w' al ro σ cnt fh1 pt) (h3 : cl9 w' al ro (300 + f) (ia (g 0) ((sP (σ f) + 1) * 3) (sF d'))) (h4 : cl9 w' al ro (400 + f) (ia (g 0) 64 (sS d'))) (hFb : ∀ k, k < 12 → sF d' k < 32003) (hSb : ∀ m, m < 64 → sS d' m < 32003)
    (hfr : ∀ y, ro y < 100 ∨ 200 ≤ ro y → y ≠ ra → w' y = w y) (hfh : ∀ i, i < cnt → fh1 i = (fh i && !lb (pt i) f)) : xS g ad w' al ro (va_up σ f d') cnt fh1 T pt := by
  obtain ⟨h1, h2, k0, k1, k5⟩ := h
  have same : ∀ j, sTg (va_up σ f d' j) = sTg (σ j) ∧ sP (va_up σ f d' j) = sP (σ j) ∧ sQ (va_up σ f d' j) = sQ (σ j) ∧ sDi (va_up σ f d' j) = sDi (σ j) := by
    intro j
    by_cases e : j = f
    · subst e; rw [va_up_eq]; exact ⟨e1, e2, e3, e4⟩
    · rw [va_up_no e]; exact ⟨rfl, rfl, rfl, rfl⟩
  have hs' : sOK (va_up σ f d') cnt := fun i hi e => by
    obtain ⟨s1, s2, s3, -⟩ := same i
    rw [s1] at e
    rw [s2, s3]
    exact h2 i hi e
  have keep : ∀ {r : Nat} {e : va_E}, cl9 w al ro r e → r < 100 ∨ 200 ≤ r → r ≠ 300 + f → r ≠ 400 + f → cl9 w' al ro r e := fun hc hr n1 n2 => ⟨by rw [hfr _ (by rw [hc.2]; exact hr) (fun q => by have := hc.2; rw [q] at this; omega)]; exact hc.1, hc.2⟩
  refine ⟨h1, hs', keep k0 (by omega) (by omega) (by omega), keep k1 (by omega) (by omega) (by omega), fun i hi => ?_⟩
  obtain ⟨a1, a2, a3, a4, a5, a6, a7, a8, a9⟩ := k5 i hi
  obtain ⟨s1, s2, s3, s4⟩ := same i
  have eo : sOb ad al i (va_up σ f d' i) (fh1 i) (pt i) = sOb ad al i (σ i) (fh1 i) (pt i) := by
    by_cases e : sTg (σ i) = 0
    · rw [sOb_0 e, sOb_0 (by rw [s1]; exact e), s2]
    · rw [sOb_1 e, sOb_1 (by rw [s1]; exact e), s1, s2, s3, s4]
  unfold seqI
  rw [eo, s1, s2, s4]
  have hdep : ∀ j, sdep (va_up σ f d') i j = sdep σ i j := fun j => sdep_same h2 hs' (fun j _ => ⟨(same j).1, (same j).2.1, (same j).2.2.1⟩) (i + 1) i j (by omega) hi
  refine ⟨hO i hi, keep a2 (by omega) (by omega) (by omega), a3, fun e m hm => ?_, fun j hj => by rw [hdep]; exact a5 j hj, fun e => ?_, a7, ?_, ?_⟩
  · rw [hfh i hi, Bool.and_eq_true, Bool.not_eq_true'] at e
    rw [sval_other h2 hs' (fun j hj => va_up_no hj) (i + 1) i (by omega) hi (by rw [← a5 f (by omega)]; exact e.2) m hm]
    exact a4 e.1 m hm
  · obtain ⟨b1, b2, b3, b4⟩ := a6 e
    by_cases ei : i = f
    · subst ei
      rw [va_up_eq]
      exact ⟨b1, b2, h3, h4⟩
    · rw [va_up_no ei]
      exact ⟨b1, b2, keep b3 (by omega) (by omega) (by omega), keep b4 (by omega) (by omega) (by omega)⟩
  · by_cases ei : i = f
    · subst ei; rw [va_up_eq]; exact hFb
    · rw [va_up_no ei]; exact a8
  · by_cases ei : i = f
    · subst ei; rw [va_up_eq]; exact hSb
    · rw [va_up_no ei]; exact a9
theorem up_lt {f : Nat → Nat} {N k v : Nat} (h : ∀ x, x < N → f x < 32003) (hv : v < 32003) : ∀ x, x < N → va_up f k v x < 32003 := by
  intro x hx
  by_cases e : x = k
  · rw [e, va_up_eq]; exact hv
  · rw [va_up_no e]; exact h x hx
theorem nar_bz (b : Bool) : narrow .boolean (.int (nI (bz b))) = .int (nI (bz b)) := by cases b <;> decide
