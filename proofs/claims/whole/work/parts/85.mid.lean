/-! A call of the law: first the object's, then the reference's. -/
section MID
variable {g : Nat → ClassId} {ad : Nat → Nat} {w w1 w2 : Wd} {ro ro' : Nat → Nat} {x mo ou : Nat} {σ σ' : Nat → SD} {cnt cnt' : Nat} {γ γ' : GU}
/-- the object has gone ahead to σ', the reference stands at σ -/
def jM (g : Nat → ClassId) (ad : Nat → Nat) (w : Wd) (ro : Nat → Nat) (x mo ou : Nat) (σ : Nat → SD) (cnt : Nat) (γ : GU) (σ' : Nat → SD) (cnt' : Nat) (γ' : GU) : Prop :=
  xI g ad w ro x σ' cnt' γ' ∧ (∃ cd, mI g w ro mo σ cnt γ cd) ∧ (∃ fo, w ou = some (.inl (g 2, 1, .inr (.inl fo)))) ∧ ro ou = 20000
theorem jI.mid (h : jI g ad w ro x mo ou σ cnt γ) : jM g ad w ro x mo ou σ cnt γ σ cnt γ := h
theorem jI.go (h : jI g ad w ro x mo ou σ cnt γ) (hx : xI g ad w1 ro' x σ' cnt' γ') (hk : kpM w ro w1 ro') : jM g ad w1 ro' x mo ou σ cnt γ σ' cnt' γ' := by
  obtain ⟨-, ⟨cd, h2⟩, ⟨fo, h3⟩, h4⟩ := h
  have k3 := hk _ _ h3 (by omega)
  exact ⟨hx, ⟨cd, h2.mv (fun y e hy h8 _ => hk y e hy h8)⟩, ⟨fo, k3.1⟩, by rw [k3.2]; exact h4⟩
theorem jM.out (h : jM g ad w ro x mo ou σ cnt γ σ' cnt' γ') (fo : Nat → Int64) : jM g ad (hwu w ou (.inl (g 2, 1, .inr (.inl fo)))) ro x mo ou σ cnt γ σ' cnt' γ' := by
  obtain ⟨h1, ⟨cd, h2⟩, -, h4⟩ := h
  exact ⟨h1.fr (fun y hy => hwu_ne (fun q => by rw [q, h4] at hy; omega)), ⟨cd, h2.mv (fun y e hy _ h9 => ⟨by rw [hwu_ne (fun q => by rw [q, h4] at h9; omega)]; exact hy, rfl⟩)⟩, ⟨fo, hwu_eq⟩, h4⟩
theorem jM.fin (h : jM g ad w ro x mo ou σ cnt γ σ' cnt' γ') {ml : Nat → Nat} {cd : Nat} {ki on tw od fa st rs : Nat → Nat} {me fo fd : Nat} {ba ta by9 : Nat → Nat} {nd : Nat → Bool} (hR : moR ro mo ml) (hF : moF mo ml w w1) (hM : moW g w1 mo ml cd cnt' ki on tw od fa st rs me fo fd ba ta by9 nd) (hS : mS σ' cnt' ki on tw od fa st) (b1 : ∀ x, x < 2560 → rs x < 32003) (b2 : ∀ x, x < 1280 → ta x < 32003) (b3 : ∀ x, x < 400 → ba x < 32003) (hg : gaR γ' me fo fd ba) : jI g ad w1 ro x mo ou σ' cnt' γ' ∧ mI g w1 ro mo σ' cnt' γ' cd ∧ w1 ou = w ou := by
  obtain ⟨h1, -, ⟨fo9, h3⟩, h4⟩ := h
  have e3 := hR.F hF (y := ou) (by omega)
  have hm : mI g w1 ro mo σ' cnt' γ' cd := ⟨ml, ki, on, tw, od, fa, st, rs, me, fo, fd, ba, ta, by9, nd, hR, hM, hS, b1, b2, b3, hg⟩
  exact ⟨⟨h1.fr (fun y hy => hR.F hF (Or.inl hy)), ⟨cd, hm⟩, ⟨fo9, by rw [e3]; exact h3⟩, h4⟩, hm, e3⟩
end MID
/-- the answers of both are one -/
theorem dif_one {f h : Nat → Nat} {a b : Int32} (h1 : dif f h a) (h2 : dif f h b) : a = b := by
  rcases h1 with ⟨n, n1, n2, n3, n4⟩ | ⟨n1, n2⟩ <;> rcases h2 with ⟨k, k1, k2, k3, k4⟩ | ⟨k1, k2⟩
  · have : n = k := by
      rcases Nat.lt_trichotomy n k with q | q | q
      · exact absurd (k3 n q) n2
      · exact q
      · exact absurd (n3 k q) k2
    rw [n4, k4, this]
  · exact absurd (k1 n n1) n2
  · exact absurd (n1 k k1) k2
  · rw [n2, k2]
theorem sing_one {o : Nat} {F : Nat → Nat} {a b : Int32} (h1 : sing o F a) (h2 : sing o F b) : a = b := by
  rcases h1 with ⟨n, n0, n1, n2, n3, n4⟩ | ⟨n1, n2⟩ <;> rcases h2 with ⟨k, k0, k1, k2, k3, k4⟩ | ⟨k1, k2⟩
  · have : n = k := by
      rcases Nat.lt_trichotomy n k with q | q | q
      · exact absurd n2 (k3 n n0 q)
      · exact q
      · exact absurd k2 (n3 k k0 q)
    rw [n4, k4, this]
  · exact absurd n2 (k1 n n0 n1)
  · exact absurd k2 (n1 k k0 k1)
  · rw [n2, k2]
theorem lst_one {f : Nat → Nat} {d : Nat} {a b : Int32} (h1 : lst f d a) (h2 : lst f d b) : a = b := by
  rcases h1 with ⟨n, n0, ⟨u, u0, u1⟩, n2, n3⟩ | ⟨n1, n2⟩ <;> rcases h2 with ⟨k, k0, ⟨v, v0, v1⟩, k2, k3⟩ | ⟨k1, k2⟩
  · have : n = k := by
      rcases Nat.lt_trichotomy n k with q | q | q
      · have := hasB_one u1 (k2 n q); omega
      · exact q
      · have := hasB_one v1 (n2 k q); omega
    rw [n3, k3, this]
  · have := hasB_one u1 (k1 n n0); omega
  · have := hasB_one v1 (n1 k k0); omega
  · rw [n2, k2]
