/-! Inverses modulo 32003 by a power; every number is tried. -/
def iv (a : Nat) : Nat := a ^ 32001 % 32003
def ivq (a : Nat) : Nat := (((a ^ 31 % 32003) ^ 32 * a ^ 8 % 32003) ^ 32 * a) % 32003
theorem pw_mod (x y k : Nat) : ((x % 32003) ^ k * y) % 32003 = (x ^ k * y) % 32003 := by
  rw [Nat.mul_mod, ← Nat.pow_mod, ← Nat.mul_mod]
theorem ivq_eq (a : Nat) : ivq a = iv a := by
  unfold ivq iv
  rw [pw_mod (a ^ 31) (a ^ 8) 32, pw_mod ((a ^ 31) ^ 32 * a ^ 8) a 32, ← Nat.pow_mul, ← Nat.pow_add, ← Nat.pow_mul, ← Nat.pow_succ]
def ivC (a : Nat) : Bool := or (Nat.beq a 0) (or (Nat.ble 32003 a) (Nat.beq (a * ivq a % 32003) 1))
noncomputable def ivT (d : Nat) : Nat → Bool := Nat.rec (motive := fun _ => Nat → Bool) (fun s => ivC s) (fun d ih s => and (ih s) (ih (s + 2 ^ d))) d
theorem ivT_spec : ∀ (d s : Nat), ivT d s = true → ∀ a, s ≤ a → a < s + 2 ^ d → ivC a = true := by
  intro d
  induction d with
  | zero =>
    intro s h a h1 h2
    have e : a = s := by
      rw [Nat.pow_zero] at h2
      omega
    rw [e]; exact h
  | succ d ih =>
    intro s h a h1 h2
    have h : and (ivT d s) (ivT d (s + 2 ^ d)) = true := h
    rw [Bool.and_eq_true] at h
    rw [Nat.pow_succ] at h2
    by_cases hlt : a < s + 2 ^ d
    · exact ih s h.1 a h1 hlt
    · exact ih (s + 2 ^ d) h.2 a (by omega) (by omega)
set_option maxRecDepth 100000 in
theorem ivT_ok : ivT 15 0 = true := by decide +kernel
theorem iv_mul {a : Nat} (h0 : 0 < a) (h : a < 32003) : a * iv a % 32003 = 1 := by
  have h1 := ivT_spec 15 0 ivT_ok a (Nat.zero_le a) (by omega)
  unfold ivC at h1
  rw [Bool.or_eq_true, Bool.or_eq_true, ivq_eq] at h1
  rcases h1 with h1 | h1 | h1
  · exact absurd (Nat.eq_of_beq_eq_true h1) (by omega)
  · exact absurd (Nat.le_of_ble_eq_true h1) (by omega)
  · exact Nat.eq_of_beq_eq_true h1
theorem iv_lt (a : Nat) : iv a < 32003 := Nat.mod_lt _ (by decide)
/-- a step of the power by squares -/
theorem pw_odd {r s e : Nat} (h : e % 2 = 1) : ((r * s % 32003) * (s * s % 32003) ^ (e / 2)) % 32003 = (r * s ^ e) % 32003 := by
  have he : e = 2 * (e / 2) + 1 := by omega
  rw [Nat.mul_comm (r * s % 32003), pw_mod, Nat.mul_mod, Nat.mod_mod, ← Nat.mul_mod]
  have e2 : (s * s) ^ (e / 2) * (r * s) = r * s ^ e := by
    have h3 : s ^ e = s ^ (2 * (e / 2) + 1) := by rw [← he]
    rw [h3, Nat.pow_succ, Nat.pow_mul, Nat.pow_two, Nat.mul_left_comm]
  rw [e2]
theorem pw_even {r s e : Nat} (h : e % 2 = 0) : (r * (s * s % 32003) ^ (e / 2)) % 32003 = (r * s ^ e) % 32003 := by
  have he : e = 2 * (e / 2) := by omega
  rw [Nat.mul_comm r, pw_mod]
  have e2 : (s * s) ^ (e / 2) * r = r * s ^ e := by
    have h3 : s ^ e = s ^ (2 * (e / 2)) := by rw [← he]
    rw [h3, Nat.pow_mul, Nat.pow_two, Nat.mul_comm]
  rw [e2]
/-- what undoes a number is one -/
theorem iv_one {a x y : Nat} (hx : x < 32003) (hy : y < 32003) (h1 : a * x % 32003 = 1) (h2 : a * y % 32003 = 1) : x = y := by
  have e1 : (a * x) * y % 32003 = y := by
    rw [Nat.mul_mod, h1, Nat.one_mul, Nat.mod_mod, Nat.mod_eq_of_lt hy]
  have e2 : (a * y) * x % 32003 = x := by
    rw [Nat.mul_mod, h2, Nat.one_mul, Nat.mod_mod, Nat.mod_eq_of_lt hx]
  have e3 : a * x * y = a * y * x := by rw [Nat.mul_assoc, Nat.mul_comm x y, ← Nat.mul_assoc]
  rw [e3] at e1
  exact e2.symm.trans e1
