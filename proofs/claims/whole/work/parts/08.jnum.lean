/-! Java's numbers: a long's rest by 32003, arrays of small numbers, truth values. -/
def rd (a : Int) : Nat := (a % 32003).toNat
theorem rd_int (a : Int) : ((rd a : Nat) : Int) = a % 32003 := Int.toNat_of_nonneg (Int.emod_nonneg _ (by decide))
theorem rd_lt (a : Int) : rd a < 32003 := by
  have := rd_int a
  have := Int.emod_lt_of_pos a (show (0 : Int) < 32003 by decide)
  omega
theorem rd_nat (n : Nat) : rd (n : Int) = n % 32003 := by
  have := rd_int (n : Int)
  omega
theorem bm64 {x : Int} (h1 : -9223372036854775808 ≤ x) (h2 : x < 9223372036854775808) : x.bmod 18446744073709551616 = x := by
  rw [Int.bmod_def]
  split <;> omega
theorem td_pos {a : Int} (h : 0 ≤ a) : a.tdiv 32003 = a / 32003 := Int.tdiv_eq_ediv_of_nonneg h
theorem td_neg {a : Int} (h : a ≤ 0) : a.tdiv 32003 = -((-a) / 32003) := by
  have e : a.tdiv 32003 = -((-a).tdiv 32003) := by rw [Int.neg_tdiv, Int.neg_neg]
  rw [e, td_pos (by omega)]
theorem l_rng (v : Int64) : -9223372036854775808 ≤ v.toInt ∧ v.toInt < 9223372036854775808 := ⟨Int64.le_toInt v, Int64.toInt_lt v⟩
/-- the rest of a long -/
theorem lrem_int (v : Int64) : (v - v / 32003 * 32003).toInt = v.toInt - v.toInt.tdiv 32003 * 32003 := by
  obtain ⟨h1, h2⟩ := l_rng v
  have hc : (32003 : Int64).toInt = 32003 := by decide
  have hq : (v / 32003).toInt = v.toInt.tdiv 32003 := by
    rw [Int64.toInt_div, hc]
    refine bm64 ?_ ?_
    · rcases Int.le_total 0 v.toInt with h | h
      · rw [td_pos h]; omega
      · rw [td_neg h]; omega
    · rcases Int.le_total 0 v.toInt with h | h
      · rw [td_pos h]; omega
      · rw [td_neg h]; omega
  have hm : (v / 32003 * 32003).toInt = v.toInt.tdiv 32003 * 32003 := by
    rw [Int64.toInt_mul, hc, hq]
    refine bm64 ?_ ?_
    · rcases Int.le_total 0 v.toInt with h | h
      · rw [td_pos h]; omega
      · rw [td_neg h]; omega
    · rcases Int.le_total 0 v.toInt with h | h
      · rw [td_pos h]; omega
      · rw [td_neg h]; omega
  rw [Int64.toInt_sub, hm]
  refine bm64 ?_ ?_
  · rcases Int.le_total 0 v.toInt with h | h
    · rw [td_pos h]; omega
    · rw [td_neg h]; omega
  · rcases Int.le_total 0 v.toInt with h | h
    · rw [td_pos h]; omega
    · rw [td_neg h]; omega
theorem bm32 {x : Int} (h1 : -2147483648 ≤ x) (h2 : x < 2147483648) : x.bmod 4294967296 = x := by
  rw [Int.bmod_def]
  split <;> omega
theorem lrem_i (v : Int64) : (v - v / 32003 * 32003).toInt32.toInt = v.toInt - v.toInt.tdiv 32003 * 32003 := by
  rw [Int64.toInt_toInt32, lrem_int]
  refine bm32 ?_ ?_
  · rcases Int.le_total 0 v.toInt with h | h
    · rw [td_pos h]; omega
    · rw [td_neg h]; omega
  · rcases Int.le_total 0 v.toInt with h | h
    · rw [td_pos h]; omega
    · rw [td_neg h]; omega
theorem i_eq {x y : Int32} (h : x.toInt = y.toInt) : x = y := Int32.toInt_inj.mp h
theorem l_eq {x y : Int64} (h : x.toInt = y.toInt) : x = y := Int64.toInt_inj.mp h
/-- the rest isn't below 0 -/
theorem red_pos {v : Int64} (h : ¬ (v - v / 32003 * 32003).toInt32 < 0) : (v - v / 32003 * 32003).toInt32 = nI (rd v.toInt) := by
  have e := lrem_i v
  have h0 : 0 ≤ (v - v / 32003 * 32003).toInt32.toInt := by
    have := Int32.not_lt.mp h
    simpa using Int32.le_iff_toInt_le.mp this
  refine i_eq ?_
  rw [nI_toInt (show rd v.toInt < 2 ^ 31 by have := rd_lt v.toInt; omega), rd_int, e]
  rw [e] at h0
  rcases Int.le_total 0 v.toInt with h | h
  · rw [td_pos h]; omega
  · rw [td_neg h] at h0 ⊢; omega
theorem red_neg {v : Int64} (h : (v - v / 32003 * 32003).toInt32 < 0) : (v - v / 32003 * 32003).toInt32 + 32003 = nI (rd v.toInt) := by
  have e := lrem_i v
  have h0 : (v - v / 32003 * 32003).toInt32.toInt < 0 := by
    simpa using Int32.lt_iff_toInt_lt.mp h
  have hc : (32003 : Int32).toInt = 32003 := by decide
  refine i_eq ?_
  rw [nI_toInt (show rd v.toInt < 2 ^ 31 by have := rd_lt v.toInt; omega), rd_int, Int32.toInt_add, e, hc]
  rw [e] at h0
  rcases Int.le_total 0 v.toInt with h | h
  · rw [td_pos h] at h0; omega
  · rw [td_neg h] at h0 ⊢
    rw [bm32 (by omega) (by omega)]
    omega
theorem l32003 : (32003 : Int64) = lN 32003 := by decide
/-- the rest of a product that isn't below 0 -/
theorem prod_i {a b : Nat} (ha : a < 2 ^ 31) (hb : b < 2 ^ 31) : ((nI a).toInt64 * (nI b).toInt64 - (nI a).toInt64 * (nI b).toInt64 / 32003 * 32003).toInt32 = nI (a * b % 32003) := by
  have hab : a * b < 2 ^ 63 := by
    have : a * b ≤ 2147483647 * 2147483647 := Nat.mul_le_mul (by omega) (by omega)
    omega
  rw [nI_l ha, nI_l hb, lN_mul, l32003, pk_lRem hab (by decide) (by decide), lN_i]
/-- arrays of small numbers -/
def ni (g : Nat → Nat) : Nat → Int32 := fun i => nI (g i)
theorem ni_at (g : Nat → Nat) (i : Nat) : ni g i = nI (g i) := rfl
theorem ni_upd (g : Nat → Nat) (k x : Nat) : upd (ni g) k (nI x) = ni (va_up g k x) := by
  funext i
  simp only [upd, ni, va_up]
  split <;> rfl
theorem ni_0 : (fun _ => 0 : Nat → Int32) = ni (fun _ => 0) := rfl
def bn (b : Nat → Bool) : Nat → Nat := fun i => if b i = true then 1 else 0
theorem bn_up (b : Nat → Bool) (k : Nat) (x : Bool) : va_up (bn b) k (if x = true then 1 else 0) = bn (va_up b k x) := by
  funext i
  simp only [bn, va_up]
  split <;> rfl
theorem nar_1 : vp_nar .boolean 1 = nI 1 := by decide
theorem nar_0 : vp_nar .boolean 0 = nI 0 := by decide
theorem bn_1 {b : Nat → Bool} {i : Nat} : nI (bn b i) = 0 ↔ b i = false := by
  unfold bn
  cases b i with
  | true => simp; decide
  | false => simp; decide
def ia (cI : ClassId) (n : Nat) (g : Nat → Nat) : va_E := .inl (cI, n, .inl (ni g))
def qa (cQ : ClassId) (n : Nat) (f : Nat → Option Nat) : va_E := .inl (cQ, n, .inr (.inr (.inr (.inr f))))
theorem va_up_eq {α : Type} {f : Nat → α} {k : Nat} {v : α} : va_up f k v k = v := by simp [va_up]
theorem va_up_no {α : Type} {f : Nat → α} {k j : Nat} {v : α} (h : j ≠ k) : va_up f k v j = f j := by simp [va_up, h]
