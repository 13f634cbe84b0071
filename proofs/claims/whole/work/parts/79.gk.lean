/-! What fill and clear find. -/
theorem lists_ex (led : Nat → Bool) (m : Nat) : ∃ be, lists led m (fr led m) be := by
  have key : ∀ j, j ≤ m → ∃ k be, lsI led m (m - j) k be := by
    intro j
    induction j with
    | zero => exact fun _ => ⟨0, fun _ => 0, lsI_0⟩
    | succ j ih =>
      intro hj
      obtain ⟨k, be, h⟩ := ih (by omega)
      rw [show m - j = m - (j + 1) + 1 by omega] at h
      cases e : led (m - (j + 1)) with
      | true => exact ⟨k, be, lsI_led h e⟩
      | false => exact ⟨k + 1, _, lsI_add h (by omega) e⟩
  obtain ⟨k, be, h⟩ := key m (Nat.le_refl m)
  rw [Nat.sub_self] at h
  exact ⟨be, lsI_end h⟩
theorem kr_ker {F ta : Nat → Nat} {r d : Nat} (h : ∀ n, n < 64 → ∀ c, c < 20 → ta (20 * n + c) = if n + r < 64 ∧ c < (r + 1) * (d + 1) then eqn F d n ((r + 1) * (d + 1) - 1 - c) else 0) (hm : (r + 1) * (d + 1) ≤ 20) (v : Nat → Int) : kr (tbl9 ((r + 1) * (d + 1)) ta) ((r + 1) * (d + 1)) v ↔ kerF F r d v := by
  have hv : ∀ n, n < 64 → ∀ y, y < (r + 1) * (d + 1) → tbl9 ((r + 1) * (d + 1)) ta n y = if n + r < 64 then eqn F d n y else 0 := by
    intro n hn y hy
    unfold tbl9
    rw [h n hn _ (by omega)]
    by_cases e : n + r < 64
    · rw [if_pos ⟨e, by omega⟩, if_pos e, show (r + 1) * (d + 1) - 1 - ((r + 1) * (d + 1) - 1 - y) = y by omega]
    · rw [if_neg (fun q => e q.1), if_neg e]
  have hs : ∀ n, n + r < 64 → ms_sum (fun y => ((tbl9 ((r + 1) * (d + 1)) ta n y : Nat) : Int) * v y) ((r + 1) * (d + 1)) = ms_sum (fun y => (eqn F d n y : Int) * v y) ((r + 1) * (d + 1)) := fun n hn => ms_congr fun y hy => by rw [hv n (by omega) y hy, if_pos hn]
  constructor
  · intro hk n hn
    show mz (ms_sum (fun y => (eqn F d n y : Int) * v y) ((r + 1) * (d + 1)))
    rw [← hs n (by omega)]
    exact hk n (by omega)
  · intro hk n hn
    by_cases e : n + r < 64
    · rw [hs n e]; exact hk n (by omega)
    · rw [ms_zero (fun y hy => by rw [hv n hn y hy, if_neg e]; exact Int.zero_mul _)]
      exact mz_0
theorem gj_hasB {F ta ta1 by1 : Nat → Nat} {r d row : Nat} (h : ∀ n, n < 64 → ∀ c, c < 20 → ta (20 * n + c) = if n + r < 64 ∧ c < (r + 1) * (d + 1) then eqn F d n ((r + 1) * (d + 1) - 1 - c) else 0) (hm : (r + 1) * (d + 1) ≤ 20) (hG : gjI ((r + 1) * (d + 1)) ((r + 1) * (d + 1)) row (ldB ((r + 1) * (d + 1)) by1) (rhB ((r + 1) * (d + 1)) by1) (tbl9 ((r + 1) * (d + 1)) ta1) (tbl9 ((r + 1) * (d + 1)) ta)) : hasB F r d (fr (ldB ((r + 1) * (d + 1)) by1) ((r + 1) * (d + 1))) := by
  obtain ⟨be, hb⟩ := lists_ex (ldB ((r + 1) * (d + 1)) by1) ((r + 1) * (d + 1))
  exact ⟨be, _, base_cong (kr_ker h hm) (gjI_base hG hb)⟩
