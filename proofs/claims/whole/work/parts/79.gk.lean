/-! What fill and clear find. -/
theorem lists_ex (led : Nat → Bool) (m : Nat) : ∃ be, lists led m (fr led m) be := by
  have key : ∀ j, j ≤ m → ∃ k be, lsI led m (m - j) k be := by
    intro j
    induction j with
    | zero => exact fun _ => ⟨0, fun _ => 0, lsI_0⟩
    | succ j ih =>
      intro hj
      obtain ⟨k, be, h⟩ := ih (by omega)
      rw [show m - j = m - (j + 1) + 1 by omega] at h
      cases e : led (m - (j + 1)) with
      | true => exact ⟨k, be, lsI_led h e⟩
      | false => exact ⟨k + 1, _, lsI_add h (by omega) e⟩
  obtain ⟨k, be, h⟩ := key m (Nat.le_refl m)
  rw [Nat.sub_self] at h
  exact ⟨be, lsI_end h⟩
theorem kr_ker {F ta : Nat → Nat} {r d : Nat} (h : ∀ n, n < 64 → ∀ c, c < 20 → ta (20 * n + c) = if n + r < 64 ∧ c < (r + 1) * (d + 1) then eqn F d n ((r + 1) * (d + 1) - 1 - c) else 0) (hm : (r + 1) * (d + 1) ≤ 20) (v : Nat → Int) : kr (tbl9 ((r + 1) * (d + 1)) ta) ((r + 1) * (d + 1)) v ↔ kerF F r d v := by
  have hv : ∀ n, n < 64 → ∀ y, y < (r + 1) * (d + 1) → tbl9 ((r + 1) * (d + 1)) ta n y = if n + r < 64 then eqn F d n y else 0 := by
    intro n hn y hy
    unfold tbl9
    rw [h n hn _ (by omega)]
    by_cases e : n + r < 64
    · rw [if_pos ⟨e, by omega⟩, if_pos e, show (r + 1) * (d + 1) - 1 - ((r + 1) * (d + 1) - 1 - y) = y by omega]
    · rw [if_neg (fun q => e q.1), if_neg e]
  have hs : ∀ n, n + r < 64 → ms_sum (fun y => ((tbl9 ((r + 1) * (d + 1)) ta n y : Nat) : Int) * v y) ((r + 1) * (d + 1)) = ms_sum (fun y => (eqn F d n y : Int) * v y) ((r + 1) * (d + 1)) := fun n hn => ms_congr fun y hy => by rw [hv n (by omega) y hy, if_pos hn]
  constructor
  · intro hk n hn
    show mz (ms_sum (fun y => (eqn F d n y : Int) * v y) ((r + 1) * (d + 1)))
    rw [← hs n (by omega)]
    exact hk n (by omega)
  · intro hk n hn
    by_cases e : n + r < 64
    · rw [hs n e]; exact hk n (by omega)
    · rw [ms_zero (fun y hy => by rw [hv n hn y hy, if_neg e]; exact Int.zero_mul _)]
      exact mz_0
theorem gj_hasB {F ta ta1 by1 : Nat → Nat} {r d row : Nat} (h : ∀ n, n < 64 → ∀ c, c < 20 → ta (20 * n + c) = if n + r < 64 ∧ c < (r + 1) * (d + 1) then eqn F d n ((r + 1) * (d + 1) - 1 - c) else 0) (hm : (r + 1) * (d + 1) ≤ 20) (hG : gjI ((r + 1) * (d + 1)) ((r + 1) * (d + 1)) row (ldB ((r + 1) * (d + 1)) by1) (rhB ((r + 1) * (d + 1)) by1) (tbl9 ((r + 1) * (d + 1)) ta1) (tbl9 ((r + 1) * (d + 1)) ta)) : hasB F r d (fr (ldB ((r + 1) * (d + 1)) by1) ((r + 1) * (d + 1))) := by
  obtain ⟨be, hb⟩ := lists_ex (ldB ((r + 1) * (d + 1)) by1) ((r + 1) * (d + 1))
  exact ⟨be, _, base_cong (kr_ker h hm) (gjI_base hG hb)⟩
/-- a member's numbers, in the reference's columns -/
def gvec (m : Nat) (ta by1 : Nat → Nat) (c0 i : Nat) : Nat := if m ≤ i then 0 else (evec (ldB m by1) (fun c y => (tbl9 m ta (rhB m by1 c) y : Int)) (m - 1 - c0) (m - 1 - i)).toNat
theorem nI_m1N {v : Nat} (h : v < 64 ∨ v = 4294967295) : nI v = -1 ↔ v = 4294967295 := by
  constructor
  · intro e
    rcases h with h | h
    · have := congrArg Int32.toInt e
      rw [nI_toInt (by omega)] at this
      have h1 : (-1 : Int32).toInt = -1 := rfl
      omega
    · exact h
  · intro e; rw [e]; decide
section GV
variable {m row : Nat} {ta by1 : Nat → Nat} {t0 : Nat → Nat → Nat}
theorem by_in (hG : gjI m m row (ldB m by1) (rhB m by1) (tbl9 m ta) t0) {i : Nat} (hi : i < m) : by1 i < 64 ∨ by1 i = 4294967295 := by
  by_cases e : by1 i = 4294967295
  · exact Or.inr e
  · have h1 := (hG.1 (m - 1 - i) (by omega) (by unfold ldB; rw [show m - 1 - (m - 1 - i) = i by omega]; exact decide_eq_true e)).1
    have h8 := hG.2.2.2.2.2.2.2
    unfold rhB at h1
    rw [show m - 1 - (m - 1 - i) = i by omega] at h1
    exact Or.inl (by omega)
theorem gv_big {c0 i : Nat} (h : m ≤ i) : gvec m ta by1 c0 i = 0 := if_pos h
theorem gv_one {c0 i : Nat} (h : i < m) (e : i = c0) : gvec m ta by1 c0 i = 1 := by
  unfold gvec
  rw [if_neg (by omega), e]
  unfold evec
  rw [if_pos rfl]
  rfl
theorem gv_none {c0 i : Nat} (h : i < m) (hc : c0 < m) (e : i ≠ c0) (hb : by1 i = 4294967295) : gvec m ta by1 c0 i = 0 := by
  unfold gvec
  rw [if_neg (by omega)]
  unfold evec
  rw [if_neg (by omega), if_neg]
  · rfl
  · rintro ⟨-, h2⟩
    unfold ldB at h2
    rw [show m - 1 - (m - 1 - i) = i by omega, hb] at h2
    exact absurd (of_decide_eq_true h2) (by simp)
theorem gv_led (hG : gjI m m row (ldB m by1) (rhB m by1) (tbl9 m ta) t0) {c0 i : Nat} (h : i < m) (hc : c0 < m) (e : i ≠ c0) (hb : by1 i ≠ 4294967295) : gvec m ta by1 c0 i = rd (-((ta (20 * by1 i + c0) : Nat) : Int)) := by
  have hl : ldB m by1 (m - 1 - i) = true := by unfold ldB; rw [show m - 1 - (m - 1 - i) = i by omega]; exact decide_eq_true hb
  have hv : tbl9 m ta (rhB m by1 (m - 1 - i)) (m - 1 - c0) = ta (20 * by1 i + c0) := by
    unfold tbl9 rhB
    rw [show m - 1 - (m - 1 - c0) = c0 by omega, show m - 1 - (m - 1 - i) = i by omega]
  unfold gvec
  rw [if_neg (by omega)]
  unfold evec
  rw [if_neg (by omega)]
  by_cases hlt : m - 1 - i < m - 1 - c0
  · rw [if_pos ⟨hlt, hl⟩]
    show ((-((tbl9 m ta (rhB m by1 (m - 1 - i)) (m - 1 - c0) : Nat) : Int)) % 32003).toNat = _
    rw [hv]
    rfl
  · rw [if_neg (fun q => hlt q.1)]
    have := hG.2.2.1 (m - 1 - i) (by omega) hl (m - 1 - c0) (by omega)
    rw [hv] at this
    rw [this]
    rfl
theorem gv_lt {c0 i : Nat} (hG : gjI m m row (ldB m by1) (rhB m by1) (tbl9 m ta) t0) (hc : c0 < m) : gvec m ta by1 c0 i < 32003 := by
  by_cases h : m ≤ i
  · rw [gv_big h]; decide
  · by_cases e : i = c0
    · rw [gv_one (by omega) e]; decide
    · by_cases hb : by1 i = 4294967295
      · rw [gv_none (by omega) hc e hb]; decide
      · rw [gv_led hG (by omega) hc e hb]; exact rd_lt _
end GV
theorem gj_gsd {F ta0 ta by1 ba be : Nat → Nat} {r d row k : Nat} (h : ∀ n, n < 64 → ∀ c, c < 20 → ta0 (20 * n + c) = if n + r < 64 ∧ c < (r + 1) * (d + 1) then eqn F d n ((r + 1) * (d + 1) - 1 - c) else 0) (hm : (r + 1) * (d + 1) ≤ 20) (hG : gjI ((r + 1) * (d + 1)) ((r + 1) * (d + 1)) row (ldB ((r + 1) * (d + 1)) by1) (rhB ((r + 1) * (d + 1)) by1) (tbl9 ((r + 1) * (d + 1)) ta) (tbl9 ((r + 1) * (d + 1)) ta0)) (hl : lsI (ldB ((r + 1) * (d + 1)) by1) ((r + 1) * (d + 1)) 0 k be)
    (hb : ∀ k', k' < k → ∀ i, i < 20 → ba (20 * k' + i) = gvec ((r + 1) * (d + 1)) ta by1 ((r + 1) * (d + 1) - 1 - be k') i) : gsd F r d (fr (ldB ((r + 1) * (d + 1)) by1) ((r + 1) * (d + 1)), r, d, fun k y => ba (20 * k + ((r + 1) * (d + 1) - 1 - y))) := by
  have hk : k = fr (ldB ((r + 1) * (d + 1)) by1) ((r + 1) * (d + 1)) := by
    have := hl.2.2.2
    have h0 : fr (ldB ((r + 1) * (d + 1)) by1) 0 = 0 := rfl
    omega
  refine ⟨rfl, rfl, be, _, base_cong (kr_ker h hm) (gjI_base hG (lsI_end hl)), fun k' hk' y hy => ?_⟩
  have hk' : k' < fr (ldB ((r + 1) * (d + 1)) by1) ((r + 1) * (d + 1)) := hk'
  have hbe := (hl.1 k' (by omega)).2.1
  show ba (20 * k' + ((r + 1) * (d + 1) - 1 - y)) = _
  rw [hb k' (by omega) _ (by omega)]
  unfold gvec
  rw [if_neg (by omega), show (r + 1) * (d + 1) - 1 - ((r + 1) * (d + 1) - 1 - be k') = be k' by omega, show (r + 1) * (d + 1) - 1 - ((r + 1) * (d + 1) - 1 - y) = y by omega]
