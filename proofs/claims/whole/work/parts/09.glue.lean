/-! Elimination over arrays of small numbers: row c of M counts from column c on. -/
def eI (M : Nat → Nat → Nat) : Nat → Nat → Int := fun c x => if x < c then 0 else (M c x : Int)
def vI (r : Nat → Nat) : Nat → Int := fun x => (r x : Int)
/-- what subtract leaves in a row r: from column c on, a times q less -/
def subR (m c a : Nat) (r q : Nat → Nat) : Nat → Nat := fun x => if c ≤ x ∧ x < m then rd ((r x : Int) - (a : Int) * (q x : Int)) else r x
theorem subR_lt {m c a : Nat} {r q : Nat → Nat} (h : ∀ x, x < m → r x < 32003) : ∀ x, x < m → subR m c a r q x < 32003 := by
  intro x hx
  unfold subR
  split
  · exact rd_lt _
  · exact h x hx
theorem sm_mod {a : Nat} (h : a < 32003) : (a : Int) = (a : Int) % 32003 := (Int.emod_eq_of_lt (by omega) (by omega)).symm
theorem jl_sub {m c : Nat} {r : Nat → Nat} {M : Nat → Nat → Nat} (hr : ∀ x, x < m → r x < 32003) (a : Nat) : ∀ x, x < m → vI (subR m c a r (M c)) x = (vI r x - (a : Int) * eI M c x) % 32003 := by
  intro x hx
  unfold vI eI subR
  by_cases h : x < c
  · rw [if_neg (by omega), if_pos h, Int.mul_zero, Int.sub_zero]
    exact sm_mod (hr x hx)
  · rw [if_pos ⟨by omega, hx⟩, if_neg h, rd_int]
theorem jl_row {m c : Nat} {led : Nat → Bool} {M : Nat → Nat → Nat} {r : Nat → Nat} (S : es m led (eI M)) (hc : c < m) (hl : led c = true) (hr : ∀ x, x < m → r x < 32003) (hz : ∀ x, x < c → r x = 0) :
    (∀ x, x < c + 1 → subR m c (r c) r (M c) x = 0) ∧ ∀ v, sol m led (eI M) v → (mz (ms_sum (fun x => vI (subR m c (r c) r (M c)) x * v x) m) ↔ mz (ms_sum (fun x => vI r x * v x) m)) := by
  obtain ⟨h1, -, h3⟩ := el_row (r := vI r) (r' := vI (subR m c (r c) r (M c))) S hc hl (fun x hx => by unfold vI; rw [hz x hx]; rfl) (jl_sub hr (r c))
  refine ⟨fun x hx => ?_, h3⟩
  have := h1 x hx
  unfold vI at this
  omega
/-- the new row that begins at c -/
def leadR (m c a : Nat) (r q : Nat → Nat) : Nat → Nat := fun x => if c ≤ x ∧ x < m then a * r x % 32003 else q x
theorem jl_lead {m c : Nat} {led : Nat → Bool} {M : Nat → Nat → Nat} {r : Nat → Nat} (S : es m led (eI M)) (hc : c < m) (hl : led c = false) (hr : r c < 32003) (h0 : r c ≠ 0) (hz : ∀ x, x < c → r x = 0) :
    es m (va_up led c true) (eI (va_up M c (leadR m c (iv (r c)) r (M c)))) ∧ ∀ v, sol m (va_up led c true) (eI (va_up M c (leadR m c (iv (r c)) r (M c)))) v ↔ sol m led (eI M) v ∧ mz (ms_sum (fun x => vI r x * v x) m) := by
  refine el_lead (r := vI r) (a := (iv (r c) : Int)) S hc hl (fun x hx => by unfold vI; rw [hz x hx]; rfl) ?_ (fun x _ => ?_) (fun x hx => ?_) (fun y x _ _ hy => ?_)
  · have := iv_mul (show 0 < r c by omega) hr
    unfold vI
    refine mz_iff.mpr ?_
    have e : ((iv (r c) : Int) * (r c : Int)) % 32003 = 1 := by
      generalize iv (r c) = z at this ⊢
      rw [Int.mul_comm, ← Int.natCast_mul]
      omega
    generalize iv (r c) = z at e ⊢
    omega
  · simp [va_up]
  · unfold eI vI
    rw [va_up_eq]
    unfold leadR
    by_cases h : x < c
    · rw [if_pos h, hz x h]; rfl
    · rw [if_neg h, if_pos ⟨by omega, hx⟩]
      generalize iv (r c) = z
      rw [← Int.natCast_mul]
      omega
  · unfold eI
    rw [va_up_no hy]
theorem jl_clear {m c u : Nat} {led : Nat → Bool} {M : Nat → Nat → Nat} (S : es m led (eI M)) (hc : c < m) (hl : led c = true) (huc : u < c) (hlu : led u = true) (hM : ∀ x, x < m → M u x < 32003) :
    es m led (eI (va_up M u (subR m c (M u c) (M u) (M c)))) ∧ (∀ v, sol m led (eI (va_up M u (subR m c (M u c) (M u) (M c)))) v ↔ sol m led (eI M) v) ∧ subR m c (M u c) (M u) (M c) c = 0 ∧ ∀ x, x < m → c < x → M c x = 0 → subR m c (M u c) (M u) (M c) x = M u x := by
  have q1 : ∀ x, x < m → eI (va_up M u (subR m c (M u c) (M u) (M c))) u x = (eI M u x - eI M u c * eI M c x) % 32003 := by
    intro x hx
    unfold eI
    rw [va_up_eq, if_neg (show ¬ c < u by omega)]
    by_cases h : x < u
    · rw [if_pos h, if_pos h, if_pos (by omega), Int.mul_zero]; rfl
    · rw [if_neg h, if_neg h]
      unfold subR
      by_cases h2 : x < c
      · rw [if_neg (by omega), if_pos h2, Int.mul_zero, Int.sub_zero]; exact sm_mod (hM x hx)
      · rw [if_pos ⟨by omega, hx⟩, if_neg h2, rd_int]
  obtain ⟨h1, h2, h3, h4⟩ := el_clear (eq' := eI (va_up M u (subR m c (M u c) (M u) (M c)))) S hc hl huc hlu q1 (fun y x _ _ hy => by unfold eI; rw [va_up_no hy])
  refine ⟨h1, h2, ?_, fun x hx hcx h0 => ?_⟩
  · unfold eI at h3
    rw [va_up_eq, if_neg (show ¬ c < u by omega)] at h3
    omega
  · have := h4 x hx (by unfold eI; rw [if_neg (by omega), h0]; rfl)
    unfold eI at this
    rw [va_up_eq, if_neg (show ¬ x < u by omega), if_neg (show ¬ x < u by omega)] at this
    omega
/-- the equation that place n asks -/
def eqn (f : Nat → Nat) (d n c : Nat) : Nat := f (n + c / (d + 1)) * n ^ (c % (d + 1)) % 32003
def kerF (f : Nat → Nat) (r d : Nat) : (Nat → Int) → Prop := ker (fun n c => (eqn f d n c : Int)) (64 - r) ((r + 1) * (d + 1))
theorem kerF_lin (f : Nat → Nat) (r d : Nat) : isLin (kerF f r d) := ker_lin _ _ _
theorem ker_succ {E : Nat → Nat → Int} {N m : Nat} {v : Nat → Int} : ker E (N + 1) m v ↔ ker E N m v ∧ mz (ms_sum (fun x => E N x * v x) m) := by
  constructor
  · exact fun h => ⟨fun k hk => h k (by omega), h N (by omega)⟩
  · intro h k hk
    by_cases e : k = N
    · rw [e]; exact h.2
    · exact h.1 k (by omega)
/-- with every column told, nothing is left to ask -/
theorem ker_full {m : Nat} {led : Nat → Bool} {eq : Nat → Nat → Int} {E : Nat → Nat → Int} {N N' : Nat} (S : es m led eq) (hf : ∀ c, c < m → led c = true) (hs : ∀ v, sol m led eq v ↔ ker E N m v) (hN : N ≤ N') : ∀ v, sol m led eq v ↔ ker E N' m v := by
  intro v
  constructor
  · intro h
    have hz : ∀ j, j ≤ m → ∀ x, m - j ≤ x → x < m → mz (v x) := by
      intro j
      induction j with
      | zero => exact fun _ x h1 h2 => absurd h2 (by omega)
      | succ j ih =>
        intro hj x h1 h2
        by_cases e : m - j ≤ x
        · exact ih (by omega) x e h2
        · have hx := h x h2 (hf x h2)
          obtain ⟨e1, e2, -⟩ := S x h2 (hf x h2)
          have h9 : mz (ms_sum (fun y => eq x y * v y) m - ms_sum (fun y => if y = x then v x else 0) m) := by
            refine ms_mz fun y hy => ?_
            show mz (eq x y * v y - if y = x then v x else 0)
            by_cases g : y = x
            · subst g
              rw [if_pos rfl, e1, Int.one_mul, Int.sub_self]; exact mz_0
            · rw [if_neg g, Int.sub_zero]
              by_cases g2 : y < x
              · rw [e2 y g2, Int.zero_mul]; exact mz_0
              · exact mz_mul _ (ih (by omega) y (by omega) hy)
          have h2' := mz_to hx h9
          rwa [ms_single (f := fun y => if y = x then v x else 0) h2 (fun i _ hi => if_neg hi), if_pos rfl] at h2'
    intro k _
    refine ms_dvd fun x hx => mz_mul _ (hz m (Nat.le_refl m) x (by omega) hx)
  · intro h
    exact (hs v).mpr (fun k hk => h k (by omega))
