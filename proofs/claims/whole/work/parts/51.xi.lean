/-! The whole object. γ: what guess found last (how many, order, degree, numbers). -/
abbrev GU : Type := Nat × Nat × Nat × (Nat → Nat → Nat)
def xF (g : Nat → ClassId) (w : Wd) (al ro : Nat → Nat) (γ : GU) : Prop := ∃ o dg cn mem M b r be, ruX g w al ro 2 o dg cn mem M b r be ∧ γ.1 = mem ∧ mem ≤ 20 ∧ (0 < mem → o ≤ 4 ∧ dg ≤ 3 ∧ cn = (o + 1) * (dg + 1) ∧ γ.2.1 = o ∧ γ.2.2.1 = dg ∧ ∀ k, k < mem → be k < cn ∧ ∀ x, x < cn → γ.2.2.2 k x = (evec b (eI M) (be k) x).toNat)
def xT (g : Nat → ClassId) (w : Wd) (al ro : Nat → Nat) : Prop := ∃ o dg cn mem M b r be, ruX g w al ro 32 o dg cn mem M b r be
def xI (g : Nat → ClassId) (ad : Nat → Nat) (w : Wd) (ro : Nat → Nat) (a : Nat) (σ : Nat → SD) (cnt : Nat) (γ : GU) : Prop := ∃ al fh T pt, al 0 = a ∧ xS g ad w al ro σ cnt fh T pt ∧ xF g w al ro γ ∧ xT g w al ro
/-- the other one's cells stay -/
def kpM (w : Wd) (ro : Nat → Nat) (w' : Wd) (ro' : Nat → Nat) : Prop := ∀ y e, w y = some e → 10000 ≤ ro y → w' y = some e ∧ ro' y = ro y
theorem kpM.rf {w : Wd} {ro : Nat → Nat} : kpM w ro w ro := fun _ _ h _ => ⟨h, rfl⟩
theorem kpM.of {w w' : Wd} {ro : Nat → Nat} (h : ∀ y, 10000 ≤ ro y → w' y = w y) : kpM w ro w' ro := fun y e h1 h2 => ⟨by rw [h y h2]; exact h1, rfl⟩
theorem frN.M {w w' : Wd} {ro : Nat → Nat} (h : frN ro w w') : kpM w ro w' ro := kpM.of fun y hy => h y (Or.inr (by omega))
theorem xF.kp {g : Nat → ClassId} {w w' : Wd} {al ro : Nat → Nat} {γ : GU} (h : xF g w al ro γ) (hk : ∀ y, 2 ≤ ro y → ro y < 30 → w' y = w y) : xF g w' al ro γ := by
  obtain ⟨o, dg, cn, mem, M, b, r, be, h1, h2⟩ := h
  exact ⟨o, dg, cn, mem, M, b, r, be, h1.mv (fun _ _ _ => rfl) (fun y e hy h3 h4 => ⟨by rw [hk y h3 (by omega)]; exact hy, rfl⟩), h2⟩
theorem xT.kp {g : Nat → ClassId} {w w' : Wd} {al ro : Nat → Nat} (h : xT g w al ro) (hk : ∀ y, 32 ≤ ro y → ro y < 60 → w' y = w y) : xT g w' al ro := by
  obtain ⟨o, dg, cn, mem, M, b, r, be, h1⟩ := h
  exact ⟨o, dg, cn, mem, M, b, r, be, h1.mv (fun _ _ _ => rfl) (fun y e hy h3 h4 => ⟨by rw [hk y h3 (by omega)]; exact hy, rfl⟩)⟩
/-- a call on a Rules object leaves the sequences -/
theorem xS.kp {g : Nat → ClassId} {ad : Nat → Nat} {w w' : Wd} {al ro : Nat → Nat} {σ : Nat → SD} {cnt : Nat} {fh : Nat → Bool} {T : Nat → Nat → Nat} {pt : Nat → Int64} (h : xS g ad w al ro σ cnt fh T pt) (hk : ∀ y, ro y < 2 ∨ 100 ≤ ro y → w' y = w y) : xS g ad w' al ro σ cnt fh T pt := by
  obtain ⟨h1, h2, h3, h4, h5⟩ := h
  have keep : ∀ {r : Nat} {e : va_E}, cl9 w al ro r e → r < 2 ∨ 100 ≤ r → cl9 w' al ro r e := fun hc hr => ⟨by rw [hk _ (by rw [hc.2]; exact hr)]; exact hc.1, hc.2⟩
  refine ⟨h1, h2, keep h3 (by omega), keep h4 (by omega), fun i hi => ?_⟩
  obtain ⟨a1, a2, a3, a4, a5, a6, a7, a8, a9⟩ := h5 i hi
  refine ⟨keep a1 (by omega), keep a2 (by omega), a3, a4, a5, fun e => ?_, a7, a8, a9⟩
  obtain ⟨b1, b2, b3, b4⟩ := a6 e
  exact ⟨b1, b2, keep b3 (by omega), keep b4 (by omega)⟩
theorem xI.mk {g : Nat → ClassId} {ad : Nat → Nat} {w w' : Wd} {al ro : Nat → Nat} {σ : Nat → SD} {cnt : Nat} {γ : GU} {fh : Nat → Bool} {T : Nat → Nat → Nat} {pt : Nat → Int64} (hX : xS g ad w' al ro σ cnt fh T pt) (hF : xF g w al ro γ) (hT : xT g w al ro) (hfr : frN ro w w') : xI g ad w' ro (al 0) σ cnt γ := ⟨al, fh, T, pt, rfl, hX, hF.kp (fun y _ h => hfr y (Or.inl (by omega))), hT.kp (fun y _ h => hfr y (Or.inl (by omega)))⟩
/-- the first place at which two rows differ, or -1 -/
def dif (f h : Nat → Nat) (x : Int32) : Prop := (∃ n, n < 64 ∧ f n ≠ h n ∧ (∀ m, m < n → f m = h m) ∧ x = nI n) ∨ ((∀ m, m < 64 → f m = h m) ∧ x = -1)
theorem ms_term {f h : Nat → Int} {n : Nat} (e : ∀ i, i < n → f i = h i) : ms_sum f n = ms_sum h n := ms_congr e
theorem kerF_congr {f f' : Nat → Nat} {o d : Nat} (h : ∀ m, m < 64 → f m = f' m) (v : Nat → Int) : kerF f o d v ↔ kerF f' o d v := by
  have key : ∀ n, n < 64 - o → ms_sum (fun x => (eqn f d n x : Int) * v x) ((o + 1) * (d + 1)) = ms_sum (fun x => (eqn f' d n x : Int) * v x) ((o + 1) * (d + 1)) := by
    intro n hn
    refine ms_congr fun x hx => ?_
    have : x / (d + 1) < o + 1 := Nat.div_lt_of_lt_mul (by rw [Nat.mul_comm]; exact hx)
    unfold eqn
    rw [h (n + x / (d + 1)) (by omega)]
  constructor
  · intro hk n hn
    show mz (ms_sum (fun x => (eqn f' d n x : Int) * v x) ((o + 1) * (d + 1)))
    rw [← key n hn]
    exact hk n hn
  · intro hk n hn
    show mz (ms_sum (fun x => (eqn f d n x : Int) * v x) ((o + 1) * (d + 1)))
    rw [key n hn]
    exact hk n hn
theorem base_cnt {K : (Nat → Int) → Prop} {m cnt : Nat} {bg : Nat → Nat} {vec : Nat → Nat → Int} (B : isBase K m cnt bg vec) : cnt ≤ m := by
  have key : ∀ k, k < cnt → bg k + k < m := by
    intro k
    induction k with
    | zero => exact fun h => B.1 0 h
    | succ k ih =>
      intro h
      have h1 := ih (by omega)
      have h2 := B.2.1 k (k + 1) (by omega) h
      omega
  cases cnt with
  | zero => exact Nat.zero_le _
  | succ c =>
    have := key c (by omega)
    omega
/-- f has just n members of one order and degree -/
def hasB (f : Nat → Nat) (o d n : Nat) : Prop := ∃ be vec, isBase (kerF f o d) ((o + 1) * (d + 1)) n be vec
/-- the least order with a member, or -1 -/
def lst (f : Nat → Nat) (d : Nat) (x : Int32) : Prop := (∃ o, o < 5 ∧ (∃ n, 0 < n ∧ hasB f o d n) ∧ (∀ o', o' < o → hasB f o' d 0) ∧ x = nI o) ∨ ((∀ o', o' < 5 → hasB f o' d 0) ∧ x = -1)
/-- what guess leaves: members, order, degree, numbers -/
def gsd (f : Nat → Nat) (o d : Nat) (γ : GU) : Prop := γ.2.1 = o ∧ γ.2.2.1 = d ∧ ∃ be vec, isBase (kerF f o d) ((o + 1) * (d + 1)) γ.1 be vec ∧ ∀ k, k < γ.1 → ∀ x, x < (o + 1) * (d + 1) → γ.2.2.2 k x = (vec k x).toNat
theorem gsd_one {f : Nat → Nat} {o d : Nat} {γ γ' : GU} (h : gsd f o d γ) (h' : gsd f o d γ') : γ.1 = γ'.1 ∧ ∀ k, k < γ.1 → ∀ x, x < (o + 1) * (d + 1) → γ.2.2.2 k x = γ'.2.2.2 k x := by
  obtain ⟨-, -, be, vec, hb, hv⟩ := h
  obtain ⟨-, -, be', vec', hb', hv'⟩ := h'
  obtain ⟨e1, -, e3⟩ := base_one (kerF_lin f o d) hb hb'
  refine ⟨e1, fun k hk x hx => ?_⟩
  rw [hv k hk x hx, hv' k (by omega) x hx, e3 k x hk hx]
theorem hasB_one {f : Nat → Nat} {o d n n' : Nat} (h : hasB f o d n) (h' : hasB f o d n') : n = n' := by
  obtain ⟨be, vec, hb⟩ := h
  obtain ⟨be', vec', hb'⟩ := h'
  exact (base_one (kerF_lin f o d) hb hb').1
theorem inC_le {i : Int32} {n : Nat} (hn : n < 2 ^ 30) (h1 : ¬ i < 0) (h2 : i ≤ nI n) : inC (n + 1) i := by
  obtain ⟨k, e, hk⟩ := i_in (n := n) (by omega) h1 (Int32.not_lt.mpr h2)
  exact ⟨k, by omega, e⟩
theorem inC_nle {i : Int32} {n : Nat} (hn : n < 2 ^ 30) (h : ¬ i ≤ nI n) : ¬ inC (n + 1) i := fun ⟨k, hk, e⟩ => h (by rw [e]; exact (nI_leI (by omega) (by omega)).mpr (by omega))
