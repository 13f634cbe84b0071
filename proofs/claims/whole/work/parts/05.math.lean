/-! Sums of integers, numbers modulo 32003, and the BASE of a kernel: it is told by the kernel alone. No word of the machine here. -/
def ms_sum (f : Nat → Int) : Nat → Int
  | 0 => 0
  | n + 1 => ms_sum f n + f n
theorem ms_congr {f g : Nat → Int} : ∀ {n : Nat}, (∀ i, i < n → f i = g i) → ms_sum f n = ms_sum g n
  | 0, _ => rfl
  | n + 1, h => by
    show ms_sum f n + f n = ms_sum g n + g n
    rw [ms_congr (fun i hi => h i (by omega)), h n (by omega)]
theorem ms_add (f g : Nat → Int) : ∀ n, ms_sum (fun i => f i + g i) n = ms_sum f n + ms_sum g n
  | 0 => rfl
  | n + 1 => by
    show ms_sum (fun i => f i + g i) n + (f n + g n) = ms_sum f n + f n + (ms_sum g n + g n)
    rw [ms_add f g n]; omega
theorem ms_sub (f g : Nat → Int) : ∀ n, ms_sum (fun i => f i - g i) n = ms_sum f n - ms_sum g n
  | 0 => rfl
  | n + 1 => by
    show ms_sum (fun i => f i - g i) n + (f n - g n) = ms_sum f n + f n - (ms_sum g n + g n)
    rw [ms_sub f g n]; omega
theorem ms_mul (c : Int) (f : Nat → Int) : ∀ n, ms_sum (fun i => c * f i) n = c * ms_sum f n
  | 0 => (Int.mul_zero c).symm
  | n + 1 => by
    show ms_sum (fun i => c * f i) n + c * f n = c * (ms_sum f n + f n)
    rw [ms_mul c f n, Int.mul_add]
theorem ms_zero {f : Nat → Int} : ∀ {n : Nat}, (∀ i, i < n → f i = 0) → ms_sum f n = 0
  | 0, _ => rfl
  | n + 1, h => by
    show ms_sum f n + f n = 0
    rw [ms_zero (fun i hi => h i (by omega)), h n (by omega)]; rfl
theorem ms_single {f : Nat → Int} {k : Nat} : ∀ {n : Nat}, k < n → (∀ i, i < n → i ≠ k → f i = 0) → ms_sum f n = f k
  | 0, hk, _ => absurd hk (Nat.not_lt_zero k)
  | n + 1, hk, h => by
    show ms_sum f n + f n = f k
    by_cases e : k = n
    · subst e
      rw [ms_zero (fun i hi => h i (by omega) (by omega))]; omega
    · rw [ms_single (show k < n by omega) (fun i hi => h i (by omega)), h n (by omega) (fun z => e z.symm)]; omega
theorem ms_dvd {f : Nat → Int} {d : Int} : ∀ {n : Nat}, (∀ i, i < n → d ∣ f i) → d ∣ ms_sum f n
  | 0, _ => Int.dvd_zero d
  | n + 1, h => Int.dvd_add (ms_dvd fun i hi => h i (by omega)) (h n (by omega))
/-- v is 0 modulo the document's number -/
def mz (v : Int) : Prop := (32003 : Int) ∣ v
theorem mz_0 : mz 0 := Int.dvd_zero _
theorem mz_iff {v : Int} : mz v ↔ v % 32003 = 0 := ⟨Int.emod_eq_zero_of_dvd, Int.dvd_of_emod_eq_zero⟩
theorem mz_add {a b : Int} (h1 : mz a) (h2 : mz b) : mz (a + b) := Int.dvd_add h1 h2
theorem mz_sub {a b : Int} (h1 : mz a) (h2 : mz b) : mz (a - b) := Int.dvd_sub h1 h2
theorem mz_neg {a : Int} (h1 : mz a) : mz (-a) := Int.dvd_neg.mpr h1
theorem mz_mul {a : Int} (c : Int) (h : mz a) : mz (c * a) := Int.dvd_trans h (Int.dvd_mul_left c a)
theorem mz_mulr {a : Int} (c : Int) (h : mz a) : mz (a * c) := Int.dvd_trans h (Int.dvd_mul_right a c)
theorem mz_to {a b : Int} (h : mz a) (e : mz (a - b)) : mz b := by
  have := mz_sub h e
  rwa [show a - (a - b) = b by omega] at this
theorem mz_of {a b : Int} (h : mz b) (e : mz (a - b)) : mz a := by
  have := mz_add e h
  rwa [show a - b + b = a by omega] at this
theorem mz_mod (a : Int) : mz (a % 32003 - a) := by
  refine ⟨-(a / 32003), ?_⟩
  have := Int.mul_ediv_add_emod a 32003
  omega
theorem mz_eq {a b : Int} (ha : 0 ≤ a ∧ a < 32003) (hb : 0 ≤ b ∧ b < 32003) (h : mz (a - b)) : a = b := by
  have := mz_iff.mp h
  omega
theorem ms_mz {f g : Nat → Int} {n : Nat} (h : ∀ i, i < n → mz (f i - g i)) : mz (ms_sum f n - ms_sum g n) := by
  rw [← ms_sub]
  exact ms_dvd h
/-- the members of a BASE: where they begin, from the last column on, and their numbers -/
def isBase (K : (Nat → Int) → Prop) (m cnt : Nat) (bg : Nat → Nat) (vec : Nat → Nat → Int) : Prop :=
  (∀ k, k < cnt → bg k < m) ∧ (∀ j k, j < k → k < cnt → bg k < bg j) ∧ (∀ k, k < cnt → K (vec k)) ∧
  (∀ k x, k < cnt → x < m → 0 ≤ vec k x ∧ vec k x < 32003) ∧ (∀ k, k < cnt → vec k (bg k) = 1) ∧ (∀ k x, k < cnt → bg k < x → x < m → vec k x = 0) ∧
  (∀ j k, j < cnt → k < cnt → j ≠ k → vec j (bg k) = 0) ∧ (∀ v, K v → (∀ k, k < cnt → mz (v (bg k))) → ∀ x, x < m → mz (v x))
def isLin (K : (Nat → Int) → Prop) : Prop := ∀ (u v : Nat → Int) (a : Int), K u → K v → K (fun x => u x - a * v x)
/-- a vector of the kernel ends at some member's place -/
theorem base_at {K : (Nat → Int) → Prop} {m cnt : Nat} {bg : Nat → Nat} {vec : Nat → Nat → Int} (hK : isLin K) (B : isBase K m cnt bg vec) {v : Nat → Int} {b : Nat} (hv : K v) (hb : b < m) (hz : ∀ x, b < x → x < m → mz (v x)) (hn : ¬ mz (v b)) : ∃ k, k < cnt ∧ bg k = b := by
  obtain ⟨b1, b2, b3, b4, b5, b6, b7, b8⟩ := B
  refine Classical.byContradiction fun hno => ?_
  have hno : ∀ k, k < cnt → bg k ≠ b := fun k hk e => hno ⟨k, hk, e⟩
  have key : ∀ j, j ≤ cnt → ∃ u : Nat → Int, K u ∧ (∀ x, b < x → x < m → mz (u x)) ∧ ¬ mz (u b) ∧ ∀ k, k < j → mz (u (bg k)) := by
    intro j
    induction j with
    | zero => exact fun _ => ⟨v, hv, hz, hn, fun k hk => absurd hk (Nat.not_lt_zero k)⟩
    | succ j ih =>
      intro hj
      obtain ⟨u, u1, u2, u3, u4⟩ := ih (by omega)
      have hjc : j < cnt := by omega
      by_cases hlt : b < bg j
      · refine ⟨u, u1, u2, u3, fun k hk => ?_⟩
        by_cases e : k = j
        · rw [e]; exact u2 _ hlt (b1 j hjc)
        · exact u4 k (by omega)
      · have hlt2 : bg j < b := by
          have := hno j hjc
          omega
        refine ⟨fun x => u x - u (bg j) * vec j x, hK u (vec j) (u (bg j)) u1 (b3 j hjc), fun x h1 h2 => ?_, fun h => ?_, fun k hk => ?_⟩
        · show mz (u x - u (bg j) * vec j x)
          rw [b6 j x hjc (by omega) h2, Int.mul_zero, Int.sub_zero]
          exact u2 x h1 h2
        · apply u3
          have h9 : mz (u b - u (bg j) * vec j b) := h
          rwa [b6 j b hjc hlt2 hb, Int.mul_zero, Int.sub_zero] at h9
        · show mz (u (bg k) - u (bg j) * vec j (bg k))
          by_cases e : k = j
          · rw [e, b5 j hjc, Int.mul_one, Int.sub_self]; exact mz_0
          · rw [b7 j k hjc (by omega) (fun z => e z.symm), Int.mul_zero, Int.sub_zero]
            exact u4 k (by omega)
  obtain ⟨u, u1, -, u3, u4⟩ := key cnt (Nat.le_refl cnt)
  exact u3 (b8 u u1 u4 b hb)
theorem mz_1 : ¬ mz 1 := fun h => by
  have := mz_iff.mp h
  omega
theorem base_in {K : (Nat → Int) → Prop} {m c1 c2 : Nat} {bg1 bg2 : Nat → Nat} {v1 v2 : Nat → Nat → Int} (hK : isLin K) (A : isBase K m c1 bg1 v1) (B : isBase K m c2 bg2 v2) {k : Nat} (hk : k < c1) : ∃ j, j < c2 ∧ bg2 j = bg1 k := by
  obtain ⟨a1, a2, a3, a4, a5, a6, a7, a8⟩ := A
  refine base_at hK B (v := v1 k) (b := bg1 k) (a3 k hk) (a1 k hk) (fun x h1 h2 => by rw [a6 k x hk h1 h2]; exact mz_0) ?_
  rw [a5 k hk]
  exact mz_1
theorem base_le {c1 c2 : Nat} {b1 b2 : Nat → Nat} (h1 : ∀ j k, j < k → k < c1 → b1 k < b1 j) (h2 : ∀ j k, j < k → k < c2 → b2 k < b2 j) (i1 : ∀ k, k < c1 → ∃ j, j < c2 ∧ b2 j = b1 k) (i2 : ∀ k, k < c2 → ∃ j, j < c1 ∧ b1 j = b2 k) : ∀ n k, k < n → k < c1 → k < c2 ∧ b1 k = b2 k := by
  intro n
  induction n with
  | zero => exact fun k h => absurd h (Nat.not_lt_zero k)
  | succ n ih =>
    intro k hk hk1
    by_cases hkn : k < n
    · exact ih k hkn hk1
    · have hkn : k = n := by omega
      obtain ⟨j, hj, ej⟩ := i1 k hk1
      have hjk : k ≤ j := by
        refine Nat.not_lt.mp fun hlt => ?_
        obtain ⟨-, e⟩ := ih j (by omega) (by omega)
        have := h1 j k hlt hk1
        omega
      have hk2 : k < c2 := by omega
      obtain ⟨i, hi, ei⟩ := i2 k hk2
      have hik : k ≤ i := by
        refine Nat.not_lt.mp fun hlt => ?_
        obtain ⟨q, e⟩ := ih i (by omega) hi
        have := h2 i k hlt hk2
        omega
      refine ⟨hk2, ?_⟩
      have p1 : b2 j ≤ b2 k := by
        by_cases e : k = j
        · rw [e]; exact Nat.le_refl _
        · exact Nat.le_of_lt (h2 k j (by omega) hj)
      have p2 : b1 i ≤ b1 k := by
        by_cases e : k = i
        · rw [e]; exact Nat.le_refl _
        · exact Nat.le_of_lt (h1 k i (by omega) hi)
      omega
/-- the BASE is told by the kernel -/
theorem base_one {K : (Nat → Int) → Prop} {m c1 c2 : Nat} {bg1 bg2 : Nat → Nat} {v1 v2 : Nat → Nat → Int} (hK : isLin K) (A : isBase K m c1 bg1 v1) (B : isBase K m c2 bg2 v2) : c1 = c2 ∧ (∀ k, k < c1 → bg1 k = bg2 k) ∧ ∀ k x, k < c1 → x < m → v1 k x = v2 k x := by
  have i1 : ∀ k, k < c1 → ∃ j, j < c2 ∧ bg2 j = bg1 k := fun k hk => base_in hK A B hk
  have i2 : ∀ k, k < c2 → ∃ j, j < c1 ∧ bg1 j = bg2 k := fun k hk => base_in hK B A hk
  obtain ⟨a1, a2, a3, a4, a5, a6, a7, a8⟩ := id A
  obtain ⟨b1, b2, b3, b4, b5, b6, b7, b8⟩ := id B
  have l1 := base_le a2 b2 i1 i2
  have l2 := base_le b2 a2 i2 i1
  have hc : c1 = c2 := by
    rcases Nat.lt_trichotomy c1 c2 with h | h | h
    · have := (l2 (c1 + 1) c1 (by omega) h).1
      omega
    · exact h
    · have := (l1 (c2 + 1) c2 (by omega) h).1
      omega
  subst hc
  have hb : ∀ k, k < c1 → bg1 k = bg2 k := fun k hk => (l1 (k + 1) k (by omega) hk).2
  refine ⟨rfl, hb, fun k x hk hx => ?_⟩
  refine mz_eq (a4 k x hk hx) (b4 k x hk hx) ?_
  have hd := a8 (fun x => v1 k x - 1 * v2 k x) (hK (v1 k) (v2 k) 1 (a3 k hk) (b3 k hk)) (fun j hj => ?_) x hx
  · have h9 : mz (v1 k x - 1 * v2 k x) := hd
    rwa [Int.one_mul] at h9
  · show mz (v1 k (bg1 j) - 1 * v2 k (bg1 j))
    by_cases e : k = j
    · subst e
      rw [a5 k hk, hb k hk, b5 k hk]
      exact mz_0
    · rw [a7 k j hk hj e, hb j hj, b7 k j hk hj e]
      exact mz_0
/-- what the rows of E ask of v -/
def ker (E : Nat → Nat → Int) (N m : Nat) (v : Nat → Int) : Prop := ∀ k, k < N → mz (ms_sum (fun x => E k x * v x) m)
theorem ker_lin (E : Nat → Nat → Int) (N m : Nat) : isLin (ker E N m) := by
  intro u v a hu hv k hk
  have e : ms_sum (fun x => E k x * (u x - a * v x)) m = ms_sum (fun x => E k x * u x) m - a * ms_sum (fun x => E k x * v x) m := by
    rw [← ms_mul, ← ms_sub]
    refine ms_congr fun i _ => ?_
    show E k i * (u i - a * v i) = E k i * u i - a * (E k i * v i)
    rw [Int.mul_sub, Int.mul_left_comm]
  rw [e]
  exact mz_sub (hu k hk) (mz_mul a (hv k hk))
