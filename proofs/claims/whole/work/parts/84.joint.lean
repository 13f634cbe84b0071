/-! Both objects on one map. -/
theorem xI.fr {g : Nat → ClassId} {ad : Nat → Nat} {w w' : Wd} {ro : Nat → Nat} {a : Nat} {σ : Nat → SD} {cnt : Nat} {γ : GU} (h : xI g ad w ro a σ cnt γ) (hk : ∀ y, ro y < 10000 → w' y = w y) : xI g ad w' ro a σ cnt γ := by
  obtain ⟨al, fh, T, pt, rfl, hX, hF, hT⟩ := h
  obtain ⟨h1, h2, h3, h4, h5⟩ := hX
  have keep : ∀ {r : Nat} {e : va_E}, cl9 w al ro r e → r < 10000 → cl9 w' al ro r e := fun hc hr => ⟨by rw [hk _ (by rw [hc.2]; exact hr)]; exact hc.1, hc.2⟩
  refine ⟨al, fh, T, pt, rfl, ⟨h1, h2, keep h3 (by omega), keep h4 (by omega), fun i hi => ?_⟩, hF.kp (fun y _ h => hk y (by omega)), hT.kp (fun y _ h => hk y (by omega))⟩
  obtain ⟨a1, a2, a3, a4, a5, a6, a7, a8, a9⟩ := h5 i hi
  refine ⟨keep a1 (by omega), keep a2 (by omega), a3, a4, a5, fun e => ?_, a7, a8, a9⟩
  obtain ⟨b1, b2, b3, b4⟩ := a6 e
  exact ⟨b1, b2, keep b3 (by omega), keep b4 (by omega)⟩
/-- the reference's cells have roles from 10000 -/
def moR (ro : Nat → Nat) (mo : Nat) (ml : Nat → Nat) : Prop := ro mo = 10000 ∧ ∀ i, i < 11 → ro (ml i) = 10001 + i
theorem moR.F {ro : Nat → Nat} {mo : Nat} {ml : Nat → Nat} {w w' : Wd} (h : moR ro mo ml) (hF : moF mo ml w w') {y : Nat} (hy : ro y < 10000 ∨ 20000 ≤ ro y) : w' y = w y := hF y (fun q => by rw [q, h.1] at hy; omega) (fun i hi q => by rw [q, h.2 i hi] at hy; omega)
theorem moR.D {ro : Nat → Nat} {mo : Nat} {ml : Nat → Nat} (h : moR ro mo ml) : moD ml := fun i j hi hj q => by
  have := congrArg ro q
  rw [h.2 i hi, h.2 j hj] at this
  omega
/-- the reference's numbers of the last guess -/
def gaR (γ : GU) (me fo fd : Nat) (ba : Nat → Nat) : Prop := γ.1 = me ∧ me ≤ 20 ∧ fo ≤ 4 ∧ fd ≤ 3 ∧ (0 < me → γ.2.1 = fo ∧ γ.2.2.1 = fd ∧ ∀ k, k < me → ∀ y, y < (fo + 1) * (fd + 1) → γ.2.2.2 k y = ba (20 * k + ((fo + 1) * (fd + 1) - 1 - y)))
/-- the reference holds σ and γ -/
def mI (g : Nat → ClassId) (w : Wd) (ro : Nat → Nat) (mo : Nat) (σ : Nat → SD) (cnt : Nat) (γ : GU) (cd : Nat) : Prop := ∃ ml ki on tw od fa st rs me fo fd ba ta by9 nd, moR ro mo ml ∧ moW g w mo ml cd cnt ki on tw od fa st rs me fo fd ba ta by9 nd ∧ mS σ cnt ki on tw od fa st ∧ (∀ x, x < 2560 → rs x < 32003) ∧ (∀ x, x < 1280 → ta x < 32003) ∧ (∀ x, x < 400 → ba x < 32003) ∧ gaR γ me fo fd ba
theorem mI.mv {g : Nat → ClassId} {w w' : Wd} {ro ro' : Nat → Nat} {mo : Nat} {σ : Nat → SD} {cnt cd : Nat} {γ : GU} (h : mI g w ro mo σ cnt γ cd) (hk : ∀ y e, w y = some e → 10000 ≤ ro y → ro y < 20000 → w' y = some e ∧ ro' y = ro y) : mI g w' ro' mo σ cnt γ cd := by
  obtain ⟨ml, ki, on, tw, od, fa, st, rs, me, fo, fd, ba, ta, by9, nd, hR, hM, h3, h4, h5, h6, h7⟩ := h
  obtain ⟨a0, a1, a2, a3, a4, a5, a6, a7, a8, a9, a10, a11⟩ := hM
  have k0 := hk _ _ a0 (by rw [hR.1]; omega) (by rw [hR.1]; omega)
  have ka : ∀ i e, i < 11 → w (ml i) = some e → w' (ml i) = some e ∧ ro' (ml i) = ro (ml i) := fun i e hi he => hk _ _ he (by rw [hR.2 i hi]; omega) (by rw [hR.2 i hi]; omega)
  refine ⟨ml, ki, on, tw, od, fa, st, rs, me, fo, fd, ba, ta, by9, nd, ⟨by rw [k0.2]; exact hR.1, fun i hi => ?_⟩, ⟨k0.1, (ka 0 _ (by omega) a1).1, (ka 1 _ (by omega) a2).1, (ka 2 _ (by omega) a3).1, (ka 3 _ (by omega) a4).1, (ka 4 _ (by omega) a5).1, (ka 5 _ (by omega) a6).1, (ka 6 _ (by omega) a7).1, (ka 7 _ (by omega) a8).1, (ka 8 _ (by omega) a9).1, (ka 9 _ (by omega) a10).1, (ka 10 _ (by omega) a11).1⟩, h3, h4, h5, h6, h7⟩
  rcases (show i = 0 ∨ i = 1 ∨ i = 2 ∨ i = 3 ∨ i = 4 ∨ i = 5 ∨ i = 6 ∨ i = 7 ∨ i = 8 ∨ i = 9 ∨ i = 10 by omega) with rfl | rfl | rfl | rfl | rfl | rfl | rfl | rfl | rfl | rfl | rfl
  · rw [(ka 0 _ hi a1).2]; exact hR.2 0 hi
  · rw [(ka 1 _ hi a2).2]; exact hR.2 1 hi
  · rw [(ka 2 _ hi a3).2]; exact hR.2 2 hi
  · rw [(ka 3 _ hi a4).2]; exact hR.2 3 hi
  · rw [(ka 4 _ hi a5).2]; exact hR.2 4 hi
  · rw [(ka 5 _ hi a6).2]; exact hR.2 5 hi
  · rw [(ka 6 _ hi a7).2]; exact hR.2 6 hi
  · rw [(ka 7 _ hi a8).2]; exact hR.2 7 hi
  · rw [(ka 8 _ hi a9).2]; exact hR.2 8 hi
  · rw [(ka 9 _ hi a10).2]; exact hR.2 9 hi
  · rw [(ka 10 _ hi a11).2]; exact hR.2 10 hi
/-- what stands through the law's loop -/
def jI (g : Nat → ClassId) (ad : Nat → Nat) (w : Wd) (ro : Nat → Nat) (x mo ou : Nat) (σ : Nat → SD) (cnt : Nat) (γ : GU) : Prop :=
  xI g ad w ro x σ cnt γ ∧ (∃ cd, mI g w ro mo σ cnt γ cd) ∧ (∃ fo, w ou = some (.inl (g 2, 1, .inr (.inl fo)))) ∧ ro ou = 20000
