/-! Elimination: rows told by the column at which they begin; what a step does to their solutions. -/
def es (m : Nat) (led : Nat → Bool) (eq : Nat → Nat → Int) : Prop := ∀ c, c < m → led c = true → eq c c = 1 ∧ (∀ x, x < c → eq c x = 0) ∧ ∀ x, x < m → 0 ≤ eq c x ∧ eq c x < 32003
def sol (m : Nat) (led : Nat → Bool) (eq : Nat → Nat → Int) (v : Nat → Int) : Prop := ∀ c, c < m → led c = true → mz (ms_sum (fun x => eq c x * v x) m)
/-- r' is r but a multiple of q, modulo the number -/
theorem el_sub {m : Nat} {r r' q v : Nat → Int} {a : Int} (h : ∀ x, x < m → r' x = (r x - a * q x) % 32003) : mz (ms_sum (fun x => r' x * v x) m - (ms_sum (fun x => r x * v x) m - a * ms_sum (fun x => q x * v x) m)) := by
  rw [← ms_mul, ← ms_sub]
  refine ms_mz fun i hi => ?_
  show mz (r' i * v i - (r i * v i - a * (q i * v i)))
  rw [h i hi, show (r i - a * q i) % 32003 * v i - (r i * v i - a * (q i * v i)) = ((r i - a * q i) % 32003 - (r i - a * q i)) * v i by rw [Int.sub_mul, Int.sub_mul (r i), Int.mul_assoc]]
  exact mz_mulr _ (mz_mod _)
theorem el_subz {m : Nat} {r r' q v : Nat → Int} {a : Int} (h : ∀ x, x < m → r' x = (r x - a * q x) % 32003) (hq : mz (ms_sum (fun x => q x * v x) m)) : mz (ms_sum (fun x => r' x * v x) m) ↔ mz (ms_sum (fun x => r x * v x) m) := by
  have e := el_sub (v := v) h
  have hq2 := mz_mul a hq
  constructor
  · intro h1
    have h2 := mz_add (mz_to h1 e) hq2
    rwa [Int.sub_add_cancel] at h2
  · intro h1
    exact mz_of (mz_sub h1 hq2) e
/-- a row's multiple by a number that can be undone -/
theorem el_scale {m : Nat} {r r' v : Nat → Int} {a b : Int} (h : ∀ x, x < m → r' x = (a * r x) % 32003) (hab : mz (b * a - 1)) : mz (ms_sum (fun x => r' x * v x) m) ↔ mz (ms_sum (fun x => r x * v x) m) := by
  have e : mz (ms_sum (fun x => r' x * v x) m - a * ms_sum (fun x => r x * v x) m) := by
    rw [← ms_mul]
    refine ms_mz fun i hi => ?_
    show mz (r' i * v i - a * (r i * v i))
    rw [h i hi, show a * r i % 32003 * v i - a * (r i * v i) = (a * r i % 32003 - a * r i) * v i by rw [Int.sub_mul, Int.mul_assoc]]
    exact mz_mulr _ (mz_mod _)
  constructor
  · intro h1
    have h2 := mz_mul b (mz_to h1 e)
    have h3 := mz_mulr (ms_sum (fun x => r x * v x) m) hab
    have h4 := mz_sub h2 h3
    rwa [Int.sub_mul, Int.one_mul, Int.mul_assoc, show b * (a * ms_sum (fun x => r x * v x) m) - (b * (a * ms_sum (fun x => r x * v x) m) - ms_sum (fun x => r x * v x) m) = ms_sum (fun x => r x * v x) m by omega] at h4
  · intro h1
    exact mz_of (mz_mul a h1) e
theorem el_rng (v : Int) : 0 ≤ v % 32003 ∧ v % 32003 < 32003 := ⟨Int.emod_nonneg _ (by decide), Int.emod_lt_of_pos _ (by decide)⟩
theorem el_small {v : Int} (h : 0 ≤ v ∧ v < 32003) : v % 32003 = v := Int.emod_eq_of_lt h.1 h.2
/-- the row under way loses column c -/
theorem el_row {m c : Nat} {led : Nat → Bool} {eq : Nat → Nat → Int} {r r' : Nat → Int} (S : es m led eq) (hc : c < m) (hl : led c = true) (hz : ∀ x, x < c → r x = 0) (h : ∀ x, x < m → r' x = (r x - r c * eq c x) % 32003) :
    (∀ x, x < c + 1 → r' x = 0) ∧ (∀ x, x < m → 0 ≤ r' x ∧ r' x < 32003) ∧ ∀ v, sol m led eq v → (mz (ms_sum (fun x => r' x * v x) m) ↔ mz (ms_sum (fun x => r x * v x) m)) := by
  obtain ⟨e1, e2, e3⟩ := S c hc hl
  refine ⟨fun x hx => ?_, fun x hx => by rw [h x hx]; exact el_rng _, fun v hv => el_subz h (hv c hc hl)⟩
  rw [h x (by omega)]
  by_cases e : x = c
  · rw [e, e1, Int.mul_one, Int.sub_self]; rfl
  · rw [hz x (by omega), e2 x (by omega), Int.mul_zero]; rfl
/-- a row that is left makes a new one -/
theorem el_lead {m c : Nat} {led led' : Nat → Bool} {eq eq' : Nat → Nat → Int} {r : Nat → Int} {a : Int} (S : es m led eq) (hc : c < m) (hl : led c = false) (hz : ∀ x, x < c → r x = 0) (hab : mz (a * r c - 1))
    (l1 : ∀ x, x < m → led' x = if x = c then true else led x) (q1 : ∀ x, x < m → eq' c x = (a * r x) % 32003) (q2 : ∀ y x, y < m → x < m → y ≠ c → eq' y x = eq y x) :
    es m led' eq' ∧ ∀ v, sol m led' eq' v ↔ sol m led eq v ∧ mz (ms_sum (fun x => r x * v x) m) := by
  have h1 : eq' c c = 1 := by
    rw [q1 c hc]
    have := mz_iff.mp hab
    omega
  refine ⟨fun y hy hly => ?_, fun v => ⟨fun hs => ⟨fun y hy hly => ?_, ?_⟩, fun hs y hy hly => ?_⟩⟩
  · by_cases e : y = c
    · subst e
      refine ⟨h1, fun x hx => ?_, fun x hx => by rw [q1 x hx]; exact el_rng _⟩
      rw [q1 x (by omega), hz x hx, Int.mul_zero]; rfl
    · rw [l1 y hy, if_neg e] at hly
      obtain ⟨e1, e2, e3⟩ := S y hy hly
      exact ⟨by rw [q2 y y hy hy e]; exact e1, fun x hx => by rw [q2 y x hy (by omega) e]; exact e2 x hx, fun x hx => by rw [q2 y x hy hx e]; exact e3 x hx⟩
  · have e : y ≠ c := fun z => by rw [z, hl] at hly; cases hly
    have := hs y hy (by rw [l1 y hy, if_neg e]; exact hly)
    rwa [ms_congr (g := fun x => eq y x * v x) (fun i hi => by show eq' y i * v i = eq y i * v i; rw [q2 y i hy hi e])] at this
  · have := hs c hc (by rw [l1 c hc, if_pos rfl])
    exact (el_scale (b := r c) q1 (by rw [Int.mul_comm]; exact hab)).mp this
  · by_cases e : y = c
    · subst e
      exact (el_scale (b := r y) q1 (by rw [Int.mul_comm]; exact hab)).mpr hs.2
    · rw [l1 y hy, if_neg e] at hly
      have := hs.1 y hy hly
      rwa [ms_congr (g := fun x => eq' y x * v x) (fun i hi => by show eq y i * v i = eq' y i * v i; rw [q2 y i hy hi e])] at this
/-- column c is cleared out of row u -/
theorem el_clear {m c u : Nat} {led : Nat → Bool} {eq eq' : Nat → Nat → Int} (S : es m led eq) (hc : c < m) (hl : led c = true) (huc : u < c) (hlu : led u = true)
    (q1 : ∀ x, x < m → eq' u x = (eq u x - eq u c * eq c x) % 32003) (q2 : ∀ y x, y < m → x < m → y ≠ u → eq' y x = eq y x) :
    es m led eq' ∧ (∀ v, sol m led eq' v ↔ sol m led eq v) ∧ eq' u c = 0 ∧ ∀ x, x < m → eq c x = 0 → eq' u x = eq u x := by
  obtain ⟨c1, c2, c3⟩ := S c hc hl
  obtain ⟨u1, u2, u3⟩ := S u (by omega) hlu
  have hrow : ∀ (v : Nat → Int) (y : Nat), y < m → y ≠ u → ms_sum (fun x => eq' y x * v x) m = ms_sum (fun x => eq y x * v x) m := fun v y hy e => ms_congr fun i hi => by show eq' y i * v i = eq y i * v i; rw [q2 y i hy hi e]
  refine ⟨fun y hy hly => ?_, fun v => ⟨fun hs y hy hly => ?_, fun hs y hy hly => ?_⟩, ?_, fun x hx h0 => ?_⟩
  · by_cases e : y = u
    · subst e
      refine ⟨?_, fun x hx => ?_, fun x hx => by rw [q1 x hx]; exact el_rng _⟩
      · rw [q1 y hy, u1, c2 y huc, Int.mul_zero]; rfl
      · rw [q1 x (by omega), u2 x hx, c2 x (by omega), Int.mul_zero]; rfl
    · obtain ⟨e1, e2, e3⟩ := S y hy hly
      exact ⟨by rw [q2 y y hy hy e]; exact e1, fun x hx => by rw [q2 y x hy (by omega) e]; exact e2 x hx, fun x hx => by rw [q2 y x hy hx e]; exact e3 x hx⟩
  · by_cases e : y = u
    · subst e
      have hcz := hs c hc hl
      rw [hrow v c hc (by omega)] at hcz
      exact (el_subz q1 hcz).mp (hs y hy hly)
    · rw [← hrow v y hy e]; exact hs y hy hly
  · by_cases e : y = u
    · subst e
      exact (el_subz q1 (hs c hc hl)).mpr (hs y hy hly)
    · rw [hrow v y hy e]; exact hs y hy hly
  · rw [q1 c hc, c1, Int.mul_one, Int.sub_self]; rfl
  · rw [q1 x hx, h0, Int.mul_zero, Int.sub_zero]; exact el_small (u3 x hx)
/-- how many of the first n columns no row begins at -/
def fr (led : Nat → Bool) : Nat → Nat
  | 0 => 0
  | n + 1 => fr led n + if led n = true then 0 else 1
theorem fr_le (led : Nat → Bool) : ∀ n, fr led n ≤ n
  | 0 => Nat.le_refl 0
  | n + 1 => by
    have := fr_le led n
    show fr led n + (if led n = true then 0 else 1) ≤ n + 1
    split <;> omega
theorem fr_mono (led : Nat → Bool) {a : Nat} : ∀ {b : Nat}, a ≤ b → fr led a ≤ fr led b
  | 0, h => by rw [Nat.le_zero.mp h]; exact Nat.le_refl _
  | b + 1, h => by
    by_cases e : a = b + 1
    · rw [e]; exact Nat.le_refl _
    · have := fr_mono led (show a ≤ b by omega)
      show fr led a ≤ fr led b + _
      omega
theorem fr_all {led : Nat → Bool} : ∀ {n : Nat}, (∀ x, x < n → led x = false) → fr led n = n
  | 0, _ => rfl
  | n + 1, h => by
    show fr led n + (if led n = true then 0 else 1) = n + 1
    rw [fr_all (fun x hx => h x (by omega)), h n (by omega)]; rfl
theorem fr_none {led : Nat → Bool} : ∀ {n : Nat}, fr led n = 0 → ∀ x, x < n → led x = true
  | 0, _, x, hx => absurd hx (Nat.not_lt_zero x)
  | n + 1, h, x, hx => by
    have h : fr led n + (if led n = true then 0 else 1) = 0 := h
    by_cases e : x = n
    · subst e
      cases hl : led x with
      | true => rfl
      | false => rw [hl] at h; simp at h
    · exact fr_none (n := n) (by omega) x (by omega)
theorem fr_congr {f g : Nat → Bool} : ∀ {n : Nat}, (∀ x, x < n → f x = g x) → fr f n = fr g n
  | 0, _ => rfl
  | n + 1, h => by
    show fr f n + (if f n = true then 0 else 1) = fr g n + (if g n = true then 0 else 1)
    rw [fr_congr (fun x hx => h x (by omega)), h n (by omega)]
theorem fr_lead {f g : Nat → Bool} {c : Nat} : ∀ {n : Nat}, c < n → f c = false → (∀ x, x < n → g x = if x = c then true else f x) → fr g n + 1 = fr f n
  | 0, hc, _, _ => absurd hc (Nat.not_lt_zero c)
  | n + 1, hc, h0, h => by
    show fr g n + (if g n = true then 0 else 1) + 1 = fr f n + (if f n = true then 0 else 1)
    by_cases e : c = n
    · subst e
      rw [fr_congr (f := g) (g := f) (fun x hx => by rw [h x (by omega), if_neg (by omega)]), h c (by omega), if_pos rfl, h0]
      simp
    · have := fr_lead (show c < n by omega) h0 (fun x hx => h x (by omega))
      rw [h n (by omega), show (if n = c then true else f n) = f n from if_neg (fun z => e z.symm)]
      omega
/-- the columns at which no row begins, the last first -/
def lists (led : Nat → Bool) (m cnt : Nat) (bg : Nat → Nat) : Prop := (∀ k, k < cnt → bg k < m ∧ led (bg k) = false) ∧ (∀ j k, j < k → k < cnt → bg k < bg j) ∧ ∀ c, c < m → led c = false → ∃ k, k < cnt ∧ bg k = c
def evec (led : Nat → Bool) (eq : Nat → Nat → Int) (b x : Nat) : Int := if x = b then 1 else if x < b ∧ led x = true then (-(eq x b)) % 32003 else 0
/-- solved rows give the BASE of their solutions -/
theorem el_base {m cnt : Nat} {led : Nat → Bool} {eq : Nat → Nat → Int} {bg : Nat → Nat} (S : es m led eq) (hr : ∀ u c, u < c → c < m → led u = true → led c = true → eq u c = 0) (hl : lists led m cnt bg) : isBase (sol m led eq) m cnt bg (fun k => evec led eq (bg k)) := by
  obtain ⟨l1, l2, l3⟩ := hl
  refine ⟨fun k hk => (l1 k hk).1, l2, fun k hk c hc hlc => ?_, fun k x hk hx => ?_, fun k hk => ?_, fun k x hk h1 h2 => ?_, fun j k hj hk hne => ?_, fun v hv h0 x hx => ?_⟩
  · obtain ⟨b1, b2⟩ := l1 k hk
    obtain ⟨c1, c2, c3⟩ := S c hc hlc
    have hne : c ≠ bg k := fun z => by rw [z, b2] at hlc; cases hlc
    by_cases hlt : c < bg k
    · have e : ms_sum (fun x => eq c x * evec led eq (bg k) x) m = eq c c * evec led eq (bg k) c + eq c (bg k) * evec led eq (bg k) (bg k) := by
        have h9 : ms_sum (fun x => eq c x * evec led eq (bg k) x) m = ms_sum (fun x => (if x = c then eq c c * evec led eq (bg k) c else 0) + (if x = bg k then eq c (bg k) * evec led eq (bg k) (bg k) else 0)) m := by
          refine ms_congr fun x hx => ?_
          show eq c x * evec led eq (bg k) x = (if x = c then eq c c * evec led eq (bg k) c else 0) + (if x = bg k then eq c (bg k) * evec led eq (bg k) (bg k) else 0)
          by_cases e1 : x = c
          · subst e1
            rw [if_pos rfl, if_neg hne, Int.add_zero]
          · by_cases e2 : x = bg k
            · subst e2
              rw [if_neg e1, if_pos rfl, Int.zero_add]
            · rw [if_neg e1, if_neg e2, Int.add_zero]
              by_cases e3 : x < c
              · rw [c2 x e3, Int.zero_mul]
              · by_cases e4 : x < bg k ∧ led x = true
                · rw [hr c x (by omega) hx hlc e4.2, Int.zero_mul]
                · unfold evec
                  rw [if_neg e2, if_neg e4, Int.mul_zero]
        rw [h9, ms_add, ms_single (f := fun x => if x = c then eq c c * evec led eq (bg k) c else 0) hc (fun i _ hi => if_neg hi), ms_single (f := fun x => if x = bg k then eq c (bg k) * evec led eq (bg k) (bg k) else 0) b1 (fun i _ hi => if_neg hi)]
        simp
      rw [e, c1]
      unfold evec
      rw [if_neg hne, if_pos ⟨hlt, hlc⟩, if_pos rfl, Int.one_mul, Int.mul_one]
      have := mz_mod (-(eq c (bg k)))
      rwa [Int.sub_neg] at this
    · rw [ms_zero (fun x hx => ?_)]
      · exact mz_0
      · show eq c x * evec led eq (bg k) x = 0
        by_cases e3 : x < c
        · rw [c2 x e3, Int.zero_mul]
        · unfold evec
          rw [if_neg (by omega), if_neg (by omega), Int.mul_zero]
  · show 0 ≤ evec led eq (bg k) x ∧ evec led eq (bg k) x < 32003
    unfold evec
    split
    · decide
    · split
      · exact el_rng _
      · decide
  · show evec led eq (bg k) (bg k) = 1
    unfold evec
    rw [if_pos rfl]
  · show evec led eq (bg k) x = 0
    unfold evec
    rw [if_neg (by omega), if_neg (by omega)]
  · show evec led eq (bg j) (bg k) = 0
    obtain ⟨b1, b2⟩ := l1 k hk
    have hb : bg k ≠ bg j := by
      rcases Nat.lt_trichotomy j k with h | h | h
      · have := l2 j k h hk; omega
      · exact absurd h hne
      · have := l2 k j h hj; omega
    unfold evec
    rw [if_neg hb, if_neg (fun z => by rw [b2] at z; cases z.2)]
  · cases hlx : led x with
    | false =>
      obtain ⟨k, hk, e⟩ := l3 x hx hlx
      rw [← e]; exact h0 k hk
    | true =>
      obtain ⟨x1, x2, x3⟩ := S x hx hlx
      have hs := hv x hx hlx
      have e : mz (ms_sum (fun y => eq x y * v y) m - ms_sum (fun y => if y = x then v x else 0) m) := by
        refine ms_mz fun y hy => ?_
        show mz (eq x y * v y - if y = x then v x else 0)
        by_cases e1 : y = x
        · subst e1
          rw [if_pos rfl, x1, Int.one_mul, Int.sub_self]; exact mz_0
        · rw [if_neg e1, Int.sub_zero]
          by_cases e2 : y < x
          · rw [x2 y e2, Int.zero_mul]; exact mz_0
          · cases hly : led y with
            | true => rw [hr x y (by omega) hy hlx hly, Int.zero_mul]; exact mz_0
            | false =>
              obtain ⟨k, hk, ek⟩ := l3 y hy hly
              rw [← ek]
              exact mz_mul _ (h0 k hk)
      have h2 := mz_to hs e
      rwa [ms_single (f := fun y => if y = x then v x else 0) hx (fun i _ hi => if_neg hi), if_pos rfl] at h2
theorem base_cong {K K' : (Nat → Int) → Prop} {m cnt : Nat} {bg : Nat → Nat} {vec : Nat → Nat → Int} (h : ∀ v, K v ↔ K' v) (B : isBase K m cnt bg vec) : isBase K' m cnt bg vec := by
  obtain ⟨b1, b2, b3, b4, b5, b6, b7, b8⟩ := B
  exact ⟨b1, b2, fun k hk => (h _).mp (b3 k hk), b4, b5, b6, b7, fun v hv => b8 v ((h v).mpr hv)⟩
theorem base_vec {K : (Nat → Int) → Prop} {m cnt : Nat} {bg bg' : Nat → Nat} {vec vec' : Nat → Nat → Int} (h1 : ∀ k, k < cnt → bg' k = bg k) (h2 : ∀ k, k < cnt → vec' k = vec k) (B : isBase K m cnt bg vec) : isBase K m cnt bg' vec' := by
  obtain ⟨b1, b2, b3, b4, b5, b6, b7, b8⟩ := B
  exact ⟨fun k hk => by rw [h1 k hk]; exact b1 k hk, fun j k hj hk => by rw [h1 k hk, h1 j (by omega)]; exact b2 j k hj hk, fun k hk => by rw [h2 k hk]; exact b3 k hk, fun k x hk hx => by rw [h2 k hk]; exact b4 k x hk hx, fun k hk => by rw [h2 k hk, h1 k hk]; exact b5 k hk,
    fun k x hk hx => by rw [h2 k hk]; rw [h1 k hk] at hx; exact b6 k x hk hx, fun j k hj hk hne => by rw [h2 j hj, h1 k hk]; exact b7 j k hj hk hne, fun v hv h0 => b8 v hv (fun k hk => by rw [← h1 k hk]; exact h0 k hk)⟩
