/-! Steps of the list of sequences. -/
section SQ
variable {g : Nat → ClassId} {ad : Nat → Nat} {w w1 w2 : Wd} {al ro : Nat → Nat} {σ : Nat → SD} {cnt k : Nat} {fh : Nat → Bool} {T : Nat → Nat → Nat} {pt : Nat → Int64}
def obS (ad : Nat → Nat) (w : Wd) (al ro : Nat → Nat) (σ : Nat → SD) (cnt : Nat) (fh : Nat → Bool) (pt : Nat → Int64) : Prop := ∀ i, i < cnt → cl9 w al ro (100 + i) (sOb ad al i (σ i) (fh i) (pt i))
theorem obS.set (h : obS ad w al ro σ cnt fh pt) (hk : k < cnt) (b : Bool) (ew : w1 = hwu w (al (100 + k)) (sOb ad al k (σ k) b (pt k))) : obS ad w1 al ro σ cnt (va_up fh k b) pt := by
  intro i hi
  by_cases e : i = k
  · subst e
    rw [va_up_eq]
    exact ⟨by rw [ew, hwu_eq], (h i hi).2⟩
  · rw [va_up_no e]
    exact ⟨by rw [ew, hwu_ne ((h i hi).ne (h k hk) (by omega))]; exact (h i hi).1, (h i hi).2⟩
theorem xS.ob (h : xS g ad w al ro σ cnt fh T pt) : obS ad w al ro σ cnt fh pt := fun i hi => (h.2.2.2.2 i hi).1
theorem fr_at {y r : Nat} (hr : ro (al r) = r) (hy : ro y ≠ r) : y ≠ al r := fun q => hy (by rw [q]; exact hr)
theorem xS.set (h : xS g ad w al ro σ cnt fh T pt) (hk : k < cnt) {T' : Nat → Nat} (hT : ∀ m, m < 64 → T' m = sval σ k m) (ew : w1 = hwu (hwu w (al (200 + k)) (ia (g 0) 64 T')) (al (100 + k)) (sOb ad al k (σ k) true (pt k))) : xS g ad w1 al ro σ cnt (va_up fh k true) (va_up T k T') pt := by
  obtain ⟨h1, h2, h3, h4, h5⟩ := h
  have hl := sval_lt h2 (fun i hi => (h5 i hi).2.2.2.2.2.2.2.2) (k + 1) k (by omega) hk
  have hkk := h5 k hk
  have keep : ∀ {r : Nat} {e : va_E}, cl9 w al ro r e → r ≠ 100 + k → r ≠ 200 + k → cl9 w1 al ro r e := fun hc n1 n2 => ⟨by rw [ew, hwu_ne (hc.ne hkk.1 n1), hwu_ne (hc.ne hkk.2.1 n2)]; exact hc.1, hc.2⟩
  refine ⟨h1, h2, keep h3 (by omega) (by omega), keep h4 (by omega) (by omega), fun i hi => ?_⟩
  by_cases e : i = k
  · subst e
    rw [va_up_eq, va_up_eq]
    obtain ⟨a1, a2, a3, a4, a5, a6, a7, a8, a9⟩ := hkk
    refine ⟨⟨by rw [ew, hwu_eq], a1.2⟩, ⟨by rw [ew, hwu_ne (a2.ne a1 (by omega)), hwu_eq], a2.2⟩, fun m hm => by rw [hT m hm]; exact hl m hm, fun _ => hT, a5, fun e => ?_, a7, a8, a9⟩
    obtain ⟨b1, b2, b3, b4⟩ := a6 e
    exact ⟨b1, b2, keep b3 (by omega) (by omega), keep b4 (by omega) (by omega)⟩
  · rw [va_up_no e, va_up_no e]
    obtain ⟨a1, a2, a3, a4, a5, a6, a7, a8, a9⟩ := h5 i hi
    refine ⟨keep a1 (by omega) (by omega), keep a2 (by omega) (by omega), a3, a4, a5, fun e => ?_, a7, a8, a9⟩
    obtain ⟨b1, b2, b3, b4⟩ := a6 e
    exact ⟨b1, b2, keep b3 (by omega) (by omega), keep b4 (by omega) (by omega)⟩
/-- nothing but a sequence's own cell and its numbers -/
def frN (ro : Nat → Nat) (w w' : Wd) : Prop := ∀ y, ro y < 100 ∨ 300 ≤ ro y → w' y = w y
theorem frN.rf : frN ro w w := fun _ _ => rfl
theorem frN.tr (h1 : frN ro w w1) (h2 : frN ro w1 w2) : frN ro w w2 := fun y hy => (h2 y hy).trans (h1 y hy)
theorem xS.fr (h : xS g ad w al ro σ cnt fh T pt) (hk : k < cnt) {e e' : va_E} (ew : w1 = hwu (hwu w (al (200 + k)) e) (al (100 + k)) e') : frN ro w w1 := fun y hy => by
  have h40 := h.1
  rw [ew, hwu_ne (fr_at (h.2.2.2.2 k hk).1.2 (by omega)), hwu_ne (fr_at (h.2.2.2.2 k hk).2.1.2 (by omega))]
def frO (ro : Nat → Nat) (w w' : Wd) : Prop := ∀ y, ro y < 100 ∨ 200 ≤ ro y → w' y = w y
theorem obS.fr (h : obS ad w al ro σ cnt fh pt) (hc : cnt ≤ 40) (hk : k < cnt) {e : va_E} (ew : w1 = hwu w (al (100 + k)) e) : frO ro w w1 := fun y hy => by
  rw [ew, hwu_ne (fr_at (h k hk).2 (by omega))]
end SQ
theorem sdep_part {σ : Nat → SD} {cnt i : Nat} (h : sOK σ cnt) (hi : i < cnt) (e : sTg (σ i) ≠ 0) : sdep σ i (sP (σ i)) = true ∧ sdep σ i (sQ (σ i)) = true := by
  rw [sdep_eq h hi, sdep_eq h hi, sdep_self, sdep_self]
  simp [e]
