/-! Gauss and Jordan over a table of 64 rows. -/
def kr (t : Nat → Nat → Nat) (m : Nat) (v : Nat → Int) : Prop := ∀ n, n < 64 → mz (ms_sum (fun y => (t n y : Int) * v y) m)
def gj_sw (t : Nat → Nat → Nat) (a b : Nat) : Nat → Nat → Nat := fun n => if n = a then t b else if n = b then t a else t n
def gj_sc (t : Nat → Nat → Nat) (r h : Nat) : Nat → Nat → Nat := fun n y => if n = r then t n y * h % 32003 else t n y
def gj_el (t : Nat → Nat → Nat) (r x : Nat) : Nat → Nat → Nat := fun n y => if n = r then t n y else rd ((t n y : Int) - (t n x : Int) * (t r y : Int))
theorem kr_sw {t : Nat → Nat → Nat} {a b m : Nat} (ha : a < 64) (hb : b < 64) (v : Nat → Int) : kr (gj_sw t a b) m v ↔ kr t m v := by
  constructor
  · intro h n hn
    by_cases e1 : n = a
    · have := h b hb
      unfold gj_sw at this
      by_cases e2 : b = a
      · rw [if_pos e2] at this; rw [e1, ← e2]; exact this
      · rw [if_neg e2, if_pos rfl] at this; rw [e1]; exact this
    · by_cases e2 : n = b
      · have := h a ha
        unfold gj_sw at this
        rw [if_pos rfl] at this
        rw [e2]; exact this
      · have := h n hn
        unfold gj_sw at this
        rw [if_neg e1, if_neg e2] at this
        exact this
  · intro h n hn
    unfold gj_sw
    by_cases e1 : n = a
    · rw [if_pos e1]; exact h b hb
    · rw [if_neg e1]
      by_cases e2 : n = b
      · rw [if_pos e2]; exact h a ha
      · rw [if_neg e2]; exact h n hn
theorem kr_sc {t : Nat → Nat → Nat} {r h m : Nat} {b : Int} (hb : mz (b * (h : Int) - 1)) (v : Nat → Int) : kr (gj_sc t r h) m v ↔ kr t m v := by
  have key : mz (ms_sum (fun y => ((gj_sc t r h r y : Nat) : Int) * v y) m) ↔ mz (ms_sum (fun y => (t r y : Int) * v y) m) := el_scale (a := (h : Int)) (b := b) (fun x _ => by
    unfold gj_sc
    rw [if_pos rfl]
    have := Int.natCast_mul (t r x) h
    rw [Int.mul_comm, ← this]
    omega) hb
  have oth : ∀ n, n ≠ r → gj_sc t r h n = t n := fun n hn => by funext y; unfold gj_sc; rw [if_neg hn]
  constructor
  · intro hk n hn
    by_cases e : n = r
    · rw [e]; exact key.mp (e ▸ hk n hn)
    · have := hk n hn; rw [oth n e] at this; exact this
  · intro hk n hn
    by_cases e : n = r
    · rw [e]; exact key.mpr (e ▸ hk n hn)
    · rw [oth n e]; exact hk n hn
theorem kr_el {t : Nat → Nat → Nat} {r x m : Nat} (hr : r < 64) (v : Nat → Int) : kr (gj_el t r x) m v ↔ kr t m v := by
  have same : gj_el t r x r = t r := by funext y; unfold gj_el; rw [if_pos rfl]
  have key : ∀ n, n ≠ r → mz (ms_sum (fun y => (t r y : Int) * v y) m) → (mz (ms_sum (fun y => ((gj_el t r x n y : Nat) : Int) * v y) m) ↔ mz (ms_sum (fun y => (t n y : Int) * v y) m)) := fun n hn hq => el_subz (a := (t n x : Int)) (q := fun y => (t r y : Int)) (fun y _ => by unfold gj_el; rw [if_neg hn, rd_int]) hq
  constructor
  · intro h n hn
    have hq := h r hr
    rw [same] at hq
    by_cases e : n = r
    · rw [e]; exact hq
    · exact (key n e hq).mp (h n hn)
  · intro h n hn
    by_cases e : n = r
    · rw [e, same]; exact h r hr
    · exact (key n e (h r hr)).mpr (h n hn)
def gjI (m x row : Nat) (led : Nat → Bool) (ρ : Nat → Nat) (t t0 : Nat → Nat → Nat) : Prop :=
  (∀ c, c < x → led c = true → ρ c < row ∧ t (ρ c) c = 1 ∧ ∀ n, n < 64 → n ≠ ρ c → t n c = 0) ∧ (∀ n, row ≤ n → n < 64 → ∀ c, c < x → t n c = 0) ∧ (∀ c, c < x → led c = true → ∀ y, y < c → t (ρ c) y = 0) ∧
  (∀ v, kr t m v ↔ kr t0 m v) ∧ (∀ n, n < row → ∃ c, c < x ∧ led c = true ∧ ρ c = n) ∧ (∀ n y, n < 64 → y < m → t n y < 32003) ∧ row + fr led x = x ∧ row ≤ 64
theorem gjI_0 {m : Nat} {led : Nat → Bool} {ρ : Nat → Nat} {t : Nat → Nat → Nat} (hb : ∀ n y, n < 64 → y < m → t n y < 32003) : gjI m 0 0 led ρ t t := ⟨fun c h => absurd h (by omega), fun _ _ _ c h => absurd h (by omega), fun c h => absurd h (by omega), fun _ => Iff.rfl, fun n h => absurd h (by omega), hb, rfl, by omega⟩
theorem gjI_free {m x row : Nat} {led : Nat → Bool} {ρ : Nat → Nat} {t t0 : Nat → Nat → Nat} (h : gjI m x row led ρ t t0) (hz : ∀ n, row ≤ n → n < 64 → t n x = 0) {ρ' : Nat → Nat} (hρ : ∀ c, c < x → ρ' c = ρ c) : gjI m (x + 1) row (va_up led x false) ρ' t t0 := by
  obtain ⟨h1, h2, h3, h4, h5, h6, h7, h8⟩ := h
  have hl : ∀ c, c < x + 1 → va_up led x false c = true → c < x ∧ led c = true := fun c hc hd => by
    by_cases e : c = x
    · rw [e, va_up_eq] at hd; cases hd
    · rw [va_up_no e] at hd; exact ⟨by omega, hd⟩
  refine ⟨fun c hc hd => ?_, fun n h9 hn c hc => ?_, fun c hc hd y hy => ?_, h4, fun n hn => ?_, h6, ?_, h8⟩
  · obtain ⟨a, b⟩ := hl c hc hd
    rw [hρ c a]; exact h1 c a b
  · by_cases e : c = x
    · rw [e]; exact hz n h9 hn
    · exact h2 n h9 hn c (by omega)
  · obtain ⟨a, b⟩ := hl c hc hd
    rw [hρ c a]; exact h3 c a b y hy
  · obtain ⟨c, c1, c2, c3⟩ := h5 n hn
    exact ⟨c, by omega, by rw [va_up_no (by omega)]; exact c2, by rw [hρ c c1]; exact c3⟩
  · rw [fr_s, fr_congr (g := led) (fun y hy => va_up_no (by omega)), va_up_eq]
    simp
    omega
