/-! Gauss and Jordan over a table of 64 rows. -/
def kr (t : Nat → Nat → Nat) (m : Nat) (v : Nat → Int) : Prop := ∀ n, n < 64 → mz (ms_sum (fun y => (t n y : Int) * v y) m)
def gj_sw (t : Nat → Nat → Nat) (a b : Nat) : Nat → Nat → Nat := fun n => if n = a then t b else if n = b then t a else t n
def gj_sc (t : Nat → Nat → Nat) (r h : Nat) : Nat → Nat → Nat := fun n y => if n = r then t n y * h % 32003 else t n y
def gj_el (t : Nat → Nat → Nat) (r x : Nat) : Nat → Nat → Nat := fun n y => if n = r then t n y else rd ((t n y : Int) - (t n x : Int) * (t r y : Int))
theorem kr_sw {t : Nat → Nat → Nat} {a b m : Nat} (ha : a < 64) (hb : b < 64) (v : Nat → Int) : kr (gj_sw t a b) m v ↔ kr t m v := by
  constructor
  · intro h n hn
    by_cases e1 : n = a
    · have := h b hb
      unfold gj_sw at this
      by_cases e2 : b = a
      · rw [if_pos e2] at this; rw [e1, ← e2]; exact this
      · rw [if_neg e2, if_pos rfl] at this; rw [e1]; exact this
    · by_cases e2 : n = b
      · have := h a ha
        unfold gj_sw at this
        rw [if_pos rfl] at this
        rw [e2]; exact this
      · have := h n hn
        unfold gj_sw at this
        rw [if_neg e1, if_neg e2] at this
        exact this
  · intro h n hn
    unfold gj_sw
    by_cases e1 : n = a
    · rw [if_pos e1]; exact h b hb
    · rw [if_neg e1]
      by_cases e2 : n = b
      · rw [if_pos e2]; exact h a ha
      · rw [if_neg e2]; exact h n hn
theorem kr_sc {t : Nat → Nat → Nat} {r h m : Nat} {b : Int} (hb : mz (b * (h : Int) - 1)) (v : Nat → Int) : kr (gj_sc t r h) m v ↔ kr t m v := by
  have key : mz (ms_sum (fun y => ((gj_sc t r h r y : Nat) : Int) * v y) m) ↔ mz (ms_sum (fun y => (t r y : Int) * v y) m) := el_scale (a := (h : Int)) (b := b) (fun x _ => by
    unfold gj_sc
    rw [if_pos rfl]
    have := Int.natCast_mul (t r x) h
    rw [Int.mul_comm, ← this]
    omega) hb
  have oth : ∀ n, n ≠ r → gj_sc t r h n = t n := fun n hn => by funext y; unfold gj_sc; rw [if_neg hn]
  constructor
  · intro hk n hn
    by_cases e : n = r
    · rw [e]; exact key.mp (e ▸ hk n hn)
    · have := hk n hn; rw [oth n e] at this; exact this
  · intro hk n hn
    by_cases e : n = r
    · rw [e]; exact key.mpr (e ▸ hk n hn)
    · rw [oth n e]; exact hk n hn
theorem kr_el {t : Nat → Nat → Nat} {r x m : Nat} (hr : r < 64) (v : Nat → Int) : kr (gj_el t r x) m v ↔ kr t m v := by
  have same : gj_el t r x r = t r := by funext y; unfold gj_el; rw [if_pos rfl]
  have key : ∀ n, n ≠ r → mz (ms_sum (fun y => (t r y : Int) * v y) m) → (mz (ms_sum (fun y => ((gj_el t r x n y : Nat) : Int) * v y) m) ↔ mz (ms_sum (fun y => (t n y : Int) * v y) m)) := fun n hn hq => el_subz (a := (t n x : Int)) (q := fun y => (t r y : Int)) (fun y _ => by unfold gj_el; rw [if_neg hn, rd_int]) hq
  constructor
  · intro h n hn
    have hq := h r hr
    rw [same] at hq
    by_cases e : n = r
    · rw [e]; exact hq
    · exact (key n e hq).mp (h n hn)
  · intro h n hn
    by_cases e : n = r
    · rw [e, same]; exact h r hr
    · exact (key n e (h r hr)).mpr (h n hn)
def gjI (m x row : Nat) (led : Nat → Bool) (ρ : Nat → Nat) (t t0 : Nat → Nat → Nat) : Prop :=
  (∀ c, c < x → led c = true → ρ c < row ∧ t (ρ c) c = 1 ∧ ∀ n, n < 64 → n ≠ ρ c → t n c = 0) ∧ (∀ n, row ≤ n → n < 64 → ∀ c, c < x → t n c = 0) ∧ (∀ c, c < x → led c = true → ∀ y, y < c → t (ρ c) y = 0) ∧
  (∀ v, kr t m v ↔ kr t0 m v) ∧ (∀ n, n < row → ∃ c, c < x ∧ led c = true ∧ ρ c = n) ∧ (∀ n y, n < 64 → y < m → t n y < 32003) ∧ row + fr led x = x ∧ row ≤ 64
theorem gjI_0 {m : Nat} {led : Nat → Bool} {ρ : Nat → Nat} {t : Nat → Nat → Nat} (hb : ∀ n y, n < 64 → y < m → t n y < 32003) : gjI m 0 0 led ρ t t := ⟨fun c h => absurd h (by omega), fun _ _ _ c h => absurd h (by omega), fun c h => absurd h (by omega), fun _ => Iff.rfl, fun n h => absurd h (by omega), hb, rfl, by omega⟩
theorem gjI_free {m x row : Nat} {led : Nat → Bool} {ρ : Nat → Nat} {t t0 : Nat → Nat → Nat} (h : gjI m x row led ρ t t0) (hz : ∀ n, row ≤ n → n < 64 → t n x = 0) {ρ' : Nat → Nat} (hρ : ∀ c, c < x → ρ' c = ρ c) : gjI m (x + 1) row (va_up led x false) ρ' t t0 := by
  obtain ⟨h1, h2, h3, h4, h5, h6, h7, h8⟩ := h
  have hl : ∀ c, c < x + 1 → va_up led x false c = true → c < x ∧ led c = true := fun c hc hd => by
    by_cases e : c = x
    · rw [e, va_up_eq] at hd; cases hd
    · rw [va_up_no e] at hd; exact ⟨by omega, hd⟩
  refine ⟨fun c hc hd => ?_, fun n h9 hn c hc => ?_, fun c hc hd y hy => ?_, h4, fun n hn => ?_, h6, ?_, h8⟩
  · obtain ⟨a, b⟩ := hl c hc hd
    rw [hρ c a]; exact h1 c a b
  · by_cases e : c = x
    · rw [e]; exact hz n h9 hn
    · exact h2 n h9 hn c (by omega)
  · obtain ⟨a, b⟩ := hl c hc hd
    rw [hρ c a]; exact h3 c a b y hy
  · obtain ⟨c, c1, c2, c3⟩ := h5 n hn
    exact ⟨c, by omega, by rw [va_up_no (by omega)]; exact c2, by rw [hρ c c1]; exact c3⟩
  · rw [fr_s, fr_congr (g := led) (fun y hy => va_up_no (by omega)), va_up_eq]
    simp
    omega
/-- the whole step at a pivot -/
def gjP (t : Nat → Nat → Nat) (a r x : Nat) : Nat → Nat → Nat := gj_el (gj_sc (gj_sw t a r) r (iv (gj_sw t a r r x))) r x
theorem gjI_piv {m x row a : Nat} {led : Nat → Bool} {ρ ρ' : Nat → Nat} {t t0 : Nat → Nat → Nat} (h : gjI m x row led ρ t t0) (hx : x < m) (ha : row ≤ a) (ha6 : a < 64) (h0 : t a x ≠ 0) (hρ : ∀ c, c < x → ρ' c = ρ c) (hρx : ρ' x = row) : gjI m (x + 1) (row + 1) (va_up led x true) ρ' (gjP t a row x) t0 := by
  obtain ⟨h1, h2, h3, h4, h5, h6, h7, h8⟩ := h
  have hr6 : row < 64 := by omega
  have e1 : ∀ y, gj_sw t a row row y = t a y := fun y => by
    unfold gj_sw
    by_cases e : row = a
    · rw [if_pos e, e]
    · rw [if_neg e, if_pos rfl]
  have hlt := h6 a x ha6 hx
  have hiv := iv_mul (show 0 < t a x by omega) hlt
  have ho : ∀ n, n ≠ row → ∀ y, gj_sw t a row n y = if n = a then t row y else t n y := fun n hn y => by
    unfold gj_sw
    by_cases e : n = a
    · rw [if_pos e, if_pos e]
    · rw [if_neg e, if_neg hn, if_neg e]
  have p0 : ∀ y, gjP t a row x row y = t a y * iv (t a x) % 32003 := fun y => by
    unfold gjP gj_el gj_sc
    rw [if_pos rfl, if_pos rfl, e1, e1]
  have p1 : ∀ n y, n ≠ row → gjP t a row x n y = rd (((if n = a then t row y else t n y : Nat) : Int) - ((if n = a then t row x else t n x : Nat) : Int) * ((t a y * iv (t a x) % 32003 : Nat) : Int)) := fun n y hn => by
    unfold gjP gj_el
    rw [if_neg hn]
    have q1 : gj_sc (gj_sw t a row) row (iv (gj_sw t a row row x)) n y = if n = a then t row y else t n y := by unfold gj_sc; rw [if_neg hn, ho n hn]
    have q2 : gj_sc (gj_sw t a row) row (iv (gj_sw t a row row x)) n x = if n = a then t row x else t n x := by unfold gj_sc; rw [if_neg hn, ho n hn]
    have q3 : gj_sc (gj_sw t a row) row (iv (gj_sw t a row row x)) row y = t a y * iv (t a x) % 32003 := by unfold gj_sc; rw [if_pos rfl, e1, e1]
    rw [q1, q2, q3]
  have z0 : ∀ y, y < x → gjP t a row x row y = 0 := fun y hy => by rw [p0, h2 a ha ha6 y hy, Nat.zero_mul]
  have zc : ∀ n y, n ≠ row → y < x → gjP t a row x n y = (if n = a then t row y else t n y) % 32003 := fun n y hn hy => by
    rw [p1 n y hn, h2 a ha ha6 y hy, Nat.zero_mul]
    show rd (_ - _ * ((0 : Nat) : Int)) = _
    rw [Int.natCast_zero, Int.mul_zero, Int.sub_zero, rd_nat]
  have one : gjP t a row x row x = 1 := by rw [p0]; exact hiv
  have zx : ∀ n, n ≠ row → gjP t a row x n x = 0 := fun n hn => by
    rw [p1 n x hn, hiv]
    show rd (_ - _ * ((1 : Nat) : Int)) = 0
    rw [Int.natCast_one, Int.mul_one, Int.sub_self]
    rfl
  have hl : ∀ c, c < x + 1 → va_up led x true c = true → c = x ∨ (c < x ∧ led c = true) := fun c hc hd => by
    by_cases e : c = x
    · exact Or.inl e
    · rw [va_up_no e] at hd; exact Or.inr ⟨by omega, hd⟩
  refine ⟨fun c hc hd => ?_, fun n h9 hn c hc => ?_, fun c hc hd y hy => ?_, fun v => ?_, fun n hn => ?_, fun n y hn hy => ?_, ?_, by omega⟩
  · rcases hl c hc hd with rfl | ⟨q1, q2⟩
    · rw [hρx]; exact ⟨by omega, one, fun n _ hne => zx n hne⟩
    · obtain ⟨b1, b2, b3⟩ := h1 c q1 q2
      rw [hρ c q1]
      refine ⟨by omega, ?_, fun n hn hne => ?_⟩
      · rw [zc _ c (by omega) q1, if_neg (by omega), b2]
      · by_cases e : n = row
        · rw [e]; exact z0 c q1
        · rw [zc n c e q1]
          by_cases e2 : n = a
          · rw [if_pos e2, h2 row (Nat.le_refl _) hr6 c q1]
          · rw [if_neg e2, b3 n hn hne]
  · by_cases e : c = x
    · rw [e]; exact zx n (by omega)
    · rw [zc n c (by omega) (by omega)]
      by_cases e2 : n = a
      · rw [if_pos e2, h2 row (Nat.le_refl _) hr6 c (by omega)]
      · rw [if_neg e2, h2 n (by omega) hn c (by omega)]
  · rcases hl c hc hd with rfl | ⟨q1, q2⟩
    · rw [hρx]; exact z0 y hy
    · obtain ⟨b1, b2, b3⟩ := h1 c q1 q2
      rw [hρ c q1, zc _ y (by omega) (by omega), if_neg (by omega), h3 c q1 q2 y hy]
  · have hb : mz (((t a x : Nat) : Int) * ((iv (gj_sw t a row row x) : Nat) : Int) - 1) := by
      rw [e1]
      refine mz_iff.mpr ?_
      generalize iv (t a x) = z at hiv ⊢
      rw [← Int.natCast_mul]
      omega
    rw [gjP, kr_el hr6, kr_sc hb, kr_sw ha6 hr6, h4 v]
  · by_cases e : n = row
    · exact ⟨x, by omega, va_up_eq, by rw [hρx, e]⟩
    · obtain ⟨c, c1, c2, c3⟩ := h5 n (by omega)
      exact ⟨c, by omega, by rw [va_up_no (by omega)]; exact c2, by rw [hρ c c1]; exact c3⟩
  · by_cases e : n = row
    · rw [e, p0]; exact Nat.mod_lt _ (by decide)
    · rw [p1 n y e]; exact rd_lt _
  · rw [fr_s, fr_congr (g := led) (fun y hy => va_up_no (by omega)), va_up_eq]
    simp
    omega
/-- what is left at the end -/
theorem gjI_base {m row : Nat} {led : Nat → Bool} {ρ : Nat → Nat} {t t0 : Nat → Nat → Nat} {be : Nat → Nat} (h : gjI m m row led ρ t t0) (hl : lists led m (fr led m) be) : isBase (kr t0 m) m (fr led m) be (fun k => evec led (fun c y => (t (ρ c) y : Int)) (be k)) := by
  obtain ⟨h1, h2, h3, h4, h5, h6, h7, h8⟩ := h
  refine base_cong (fun v => ?_) (el_base (eq := fun c y => (t (ρ c) y : Int)) (fun c hc hd => ?_) (fun u c huc hc hu hd => ?_) hl)
  · rw [← h4 v]
    constructor
    · intro hs n hn
      by_cases e : n < row
      · obtain ⟨c, c1, c2, c3⟩ := h5 n e
        rw [← c3]; exact hs c c1 c2
      · rw [ms_zero (fun y hy => by rw [h2 n (by omega) hn y hy]; exact Int.zero_mul _)]
        exact mz_0
    · intro hk c hc hd
      exact hk _ (by have := (h1 c hc hd).1; omega)
  · obtain ⟨b1, b2, b3⟩ := h1 c hc hd
    refine ⟨by show ((t (ρ c) c : Nat) : Int) = 1; rw [b2]; rfl, fun y hy => by show ((t (ρ c) y : Nat) : Int) = 0; rw [h3 c hc hd y hy]; rfl, fun y hy => ?_⟩
    have := h6 (ρ c) y (by omega) hy
    show 0 ≤ ((t (ρ c) y : Nat) : Int) ∧ ((t (ρ c) y : Nat) : Int) < 32003
    omega
  · obtain ⟨b1, b2, b3⟩ := h1 c hc hd
    obtain ⟨d1, d2, d3⟩ := h1 u (by omega) hu
    have hne : ρ u ≠ ρ c := fun q => by
      have := h3 c hc hd u huc
      rw [← q, d2] at this
      cases this
    show ((t (ρ u) c : Nat) : Int) = 0
    rw [b3 (ρ u) (by omega) hne]
    rfl
theorem kr_congr {t t' : Nat → Nat → Nat} {m : Nat} (h : ∀ n y, n < 64 → y < m → t' n y = t n y) (v : Nat → Int) : kr t' m v ↔ kr t m v := by
  have key : ∀ n, n < 64 → ms_sum (fun y => (t' n y : Int) * v y) m = ms_sum (fun y => (t n y : Int) * v y) m := fun n hn => ms_congr fun y hy => by rw [h n y hn hy]
  exact ⟨fun hk n hn => by rw [← key n hn]; exact hk n hn, fun hk n hn => by rw [key n hn]; exact hk n hn⟩
theorem gjI_congr {m x row : Nat} {led led' : Nat → Bool} {ρ ρ' : Nat → Nat} {t t' t0 : Nat → Nat → Nat} (h : gjI m x row led ρ t t0) (hxm : x ≤ m) (hl : ∀ c, c < x → led' c = led c) (hρ : ∀ c, c < x → led c = true → ρ' c = ρ c) (ht : ∀ n y, n < 64 → y < m → t' n y = t n y) : gjI m x row led' ρ' t' t0 := by
  obtain ⟨h1, h2, h3, h4, h5, h6, h7, h8⟩ := h
  refine ⟨fun c hc hd => ?_, fun n h9 hn c hc => ?_, fun c hc hd y hy => ?_, fun v => ?_, fun n hn => ?_, fun n y hn hy => ?_, ?_, h8⟩
  · rw [hl c hc] at hd
    obtain ⟨b1, b2, b3⟩ := h1 c hc hd
    rw [hρ c hc hd, ht _ c (by omega) (by omega)]
    exact ⟨b1, b2, fun n hn hne => by rw [ht n c hn (by omega)]; exact b3 n hn hne⟩
  · rw [ht n c hn (by omega)]; exact h2 n h9 hn c hc
  · rw [hl c hc] at hd
    have := (h1 c hc hd).1
    rw [hρ c hc hd, ht _ y (by omega) (by omega)]; exact h3 c hc hd y hy
  · rw [kr_congr ht, h4 v]
  · obtain ⟨c, c1, c2, c3⟩ := h5 n hn
    exact ⟨c, c1, by rw [hl c c1]; exact c2, by rw [hρ c c1 c2]; exact c3⟩
  · rw [ht n y hn hy]; exact h6 n y hn hy
  · rw [fr_congr (g := led) hl]; exact h7
/-- the reference's table and its by: columns turned round -/
def tbl9 (m : Nat) (ta : Nat → Nat) : Nat → Nat → Nat := fun n y => ta (20 * n + (m - 1 - y))
def ldB (m : Nat) (b : Nat → Nat) : Nat → Bool := fun y => decide (b (m - 1 - y) ≠ 4294967295)
def rhB (m : Nat) (b : Nat → Nat) : Nat → Nat := fun y => b (m - 1 - y)
theorem ldB_up {m e x : Nat} {b : Nat → Nat} {v : Nat} (hx : x + e + 1 = m) : ∀ c, c < x + 1 → ldB m (va_up b e v) c = va_up (ldB m b) x (decide (v ≠ 4294967295)) c := by
  intro c hc
  unfold ldB
  by_cases h : c = x
  · rw [h, va_up_eq, show m - 1 - x = e by omega, va_up_eq]
  · rw [va_up_no h, va_up_no (show m - 1 - c ≠ e by omega)]
theorem rhB_up {m e x : Nat} {b : Nat → Nat} {v : Nat} (hx : x + e + 1 = m) : (∀ c, c < x → rhB m (va_up b e v) c = rhB m b c) ∧ rhB m (va_up b e v) x = v := by
  unfold rhB
  refine ⟨fun c hc => ?_, ?_⟩
  · rw [va_up_no (show m - 1 - c ≠ e by omega)]
  · rw [show m - 1 - x = e by omega, va_up_eq]
/-- the reference's step is the step -/
theorem tb_piv {m e x a row hd : Nat} {ta t1 t2 t3 : Nat → Nat} (hx : x + e + 1 = m) (hm : m ≤ 20) (hrw : row < 64) (ha : a < 64) (hhd : hd = iv (t1 (20 * row + e)))
    (s1 : ∀ j, j < m → t1 (20 * a + j) = ta (20 * row + j) ∧ t1 (20 * row + j) = ta (20 * a + j)) (s2 : ∀ n j, n < 64 → j < 20 → (n ≠ a ∧ n ≠ row) ∨ m ≤ j → t1 (20 * n + j) = ta (20 * n + j))
    (c1 : ∀ j, j < m → t2 (20 * row + j) = t1 (20 * row + j) * hd % 32003) (c2 : ∀ n j, n < 64 → j < 20 → n ≠ row ∨ m ≤ j → t2 (20 * n + j) = t1 (20 * n + j))
    (r1 : ∀ n9 j, n9 < 64 → n9 < 64 → n9 ≠ row → j < m → t3 (20 * n9 + j) = rd ((t2 (20 * n9 + j) : Int) - (t2 (20 * n9 + e) : Int) * (t2 (20 * row + j) : Int))) (r2 : ∀ n9 j, n9 < 64 → j < 20 → n9 = row ∨ 64 ≤ n9 → t3 (20 * n9 + j) = t2 (20 * n9 + j)) :
    ∀ n y, n < 64 → y < m → tbl9 m t3 n y = gjP (tbl9 m ta) a row x n y := by
  have q1 : ∀ n y, n < 64 → y < m → tbl9 m t1 n y = gj_sw (tbl9 m ta) a row n y := by
    intro n y hn hy
    unfold gj_sw tbl9
    by_cases e1 : n = a
    · rw [if_pos e1, e1]; exact (s1 _ (by omega)).1
    · rw [if_neg e1]
      by_cases e2 : n = row
      · rw [if_pos e2, e2]; exact (s1 _ (by omega)).2
      · rw [if_neg e2]; exact s2 n _ hn (by omega) (Or.inl ⟨e1, e2⟩)
  have hh : hd = iv (gj_sw (tbl9 m ta) a row row x) := by
    rw [← q1 row x hrw (by omega), hhd]
    unfold tbl9
    rw [show m - 1 - x = e by omega]
  have q2 : ∀ n y, n < 64 → y < m → tbl9 m t2 n y = gj_sc (gj_sw (tbl9 m ta) a row) row (iv (gj_sw (tbl9 m ta) a row row x)) n y := by
    intro n y hn hy
    unfold gj_sc
    rw [← q1 n y hn hy, ← hh]
    unfold tbl9
    by_cases e2 : n = row
    · rw [if_pos e2, e2]; exact c1 _ (by omega)
    · rw [if_neg e2]; exact c2 n _ hn (by omega) (Or.inl e2)
  intro n y hn hy
  unfold gjP gj_el
  rw [← q2 n y hn hy, ← q2 n x hn (by omega), ← q2 row y hrw hy]
  unfold tbl9
  rw [show m - 1 - x = e by omega]
  by_cases e2 : n = row
  · rw [if_pos e2, e2]; exact r2 row _ hrw (by omega) (Or.inl rfl)
  · rw [if_neg e2]; exact r1 n _ hn hn e2 (by omega)
