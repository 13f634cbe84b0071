/-- numbers of small naturals are theirs alone -/
theorem nI_one {a b : Nat} (ha : a < 2 ^ 31) (hb : b < 2 ^ 31) (h : nI a = nI b) : a = b := by
  have := congrArg Int32.toInt h
  rw [nI_toInt ha, nI_toInt hb] at this
  omega
theorem j_add {g : Nat → ClassId} {ad : Nat → Nat} {w w1 : Wd} {ro : Nat → Nat} {x mo ou : Nat} {σ : Nat → SD} {cnt : Nat} {γ : GU} {r : Int32} {f9 : Int32} {g9 : Int32} (hj : jI g ad w ro x mo ou σ cnt γ) (h : (∃ x9 w3 fo1, (∃ f h ro', f < cnt ∧ h < cnt ∧ f9 = nI f ∧ g9 = nI h ∧ cnt < 40 ∧ x9 = nI cnt ∧ xI g ad w3 ro' x (va_up σ cnt (0 + 1, f, h, 0, fun _ => 0, fun _ => 0)) (cnt + 1) γ ∧ kpM w ro w3 ro') ∧ r = nI 0 ∧ fo1 0 = x9.toInt64 ∧ w1 = hwu w3 ou (.inl (g 2, 1, .inr (.inl fo1)))) ∨ ∃ E, (w1 = w ∧ ((E = xNI ∧ ¬ (inC cnt f9 ∧ inC cnt g9)) ∨ (E = xNS ∧ (inC cnt f9 ∧ inC cnt g9) ∧ ¬ cnt < 40))) ∧ ((E = xNI ∧ r = nI 1) ∨ (E = xNS ∧ r = nI 2))) : ∃ (k : Nat) (σ' : Nat → SD) (cnt' : Nat) (γ' : GU) (ro' : Nat → Nat) (fo1 : Nat → Int64), r = nI k ∧ k < 4 ∧ jM g ad w1 ro' x mo ou σ cnt γ σ' cnt' γ' ∧ w1 ou = some (.inl (g 2, 1, .inr (.inl fo1))) ∧ ∀ (ml : Nat → Nat) (cd : Nat) (ki on tw od fa st rs : Nat → Nat) (me fo fd : Nat) (ba ta by9 : Nat → Nat) (nd : Nat → Bool), moR ro' mo ml → moW g w1 mo ml cd cnt ki on tw od fa st rs me fo fd ba ta by9 nd → mS σ cnt ki on tw od fa st → (∀ x, x < 2560 → rs x < 32003) → (∀ x, x < 1280 → ta x < 32003) → (∀ x, x < 400 → ba x < 32003) → gaR γ me fo fd ba → ∀ (r2 : Int32) (w2 : Wd), (moF mo ml w1 w2 ∧ ((mayC cnt f9 g9 ≠ 0 ∧ moW g w2 mo ml (mayC cnt f9 g9) cnt ki on tw od fa st rs me fo fd ba ta by9 nd) ∨ (mayC cnt f9 g9 = 0 ∧ ∃ f h, f < cnt ∧ f9 = nI f ∧ (h < cnt ∧ g9 = nI h) ∧ cnt < 40 ∧ r2 = nI cnt ∧ moW g w2 mo ml (mayC cnt f9 g9) (cnt + 1) (va_up ki cnt 1) (va_up on cnt f) (va_up tw cnt h) od fa st rs me fo fd ba ta by9 nd))) → jI g ad w2 ro' x mo ou σ' cnt' γ' ∧ mI g w2 ro' mo σ' cnt' γ' k ∧ w2 ou = w1 ou ∧ (k = 0 → fo1 0 = r2.toInt64) := by
  obtain ⟨-, -, ⟨foO, hOu⟩, hRo⟩ := id hj
  have h40 : cnt ≤ 40 := by obtain ⟨cd, ml, ki, on, tw, od, fa, st, rs, me, fo, fd, ba, ta, by9, nd, -, -, hS, -⟩ := hj.2.1; exact hS.1
  rcases h with ⟨x9, w3, fo1, ⟨f, h, ro', hf, hh, ef, eh, h4, ex, hI, hkp⟩, er, efo, ew⟩ | ⟨E, ⟨ew, hx⟩, hc⟩
  · have hJ := (hj.go hI hkp).out fo1
    rw [← ew] at hJ
    refine ⟨0, _, _, γ, ro', fo1, er, by omega, hJ, by rw [ew]; exact hwu_eq, ?_⟩
    intro ml cd ki on tw od fa st rs me fo fd ba ta by9 nd hR hMo hS b1 b2 b3 hg r2 w2 hp
    obtain ⟨hF, hp⟩ := hp
    have hc0 : mayC cnt f9 g9 = 0 := mayC_0 ((inB_iff (by omega)).mpr ⟨f, hf, ef⟩) ((inB_iff (by omega)).mpr ⟨h, hh, eh⟩) (by omega)
    rw [hc0] at hp
    rcases hp with ⟨q, -⟩ | ⟨-, f2, h2, hf2, ef2, hh2, h42, er2, hMo2⟩
    · exact absurd rfl q
    · have e1 : f2 = f := nI_one (by omega) (by omega) (ef2.symm.trans ef)
      have e2 : h2 = h := nI_one (by omega) (by omega) (hh2.2.symm.trans eh)
      subst e1 e2
      have hS2 := hS.add h4 (d := (1, f2, h2, 0, fun _ => 0, fun _ => 0)) (f := f2) (h2 := h2) (fun _ => ⟨hf, hh⟩) (fun _ _ => rfl) (fun _ _ => rfl) (fun _ _ => rfl) ⟨va_up_eq, by show 1 ≤ 7; omega, fun q => absurd (show 1 = 0 from q) (by omega), fun _ => ⟨va_up_eq, fun _ => va_up_eq, fun q => absurd (show 1 = 5 from q) (by omega), fun q => absurd (show 5 ≤ 1 from q) (by omega)⟩, fun _ _ => by show 0 < 32003; omega, fun _ _ => by show 0 < 32003; omega⟩
      obtain ⟨q1, q2, q3⟩ := hJ.fin hR hF hMo2 hS2 b1 b2 b3 hg
      exact ⟨q1, q2, q3, fun _ => by rw [efo, ex, er2]⟩
  · rcases hx with ⟨rfl, hn⟩ | ⟨rfl, hn, h4⟩
    · have er : r = nI 1 := hc.elim (fun q => q.2) (fun q => absurd q.1 (by decide))
      have hJ := hj.mid
      rw [← ew] at hJ
      refine ⟨1, σ, cnt, γ, ro, foO, er, by omega, hJ, by rw [ew]; exact hOu, ?_⟩
      intro ml cd ki on tw od fa st rs me fo fd ba ta by9 nd hR hMo hS b1 b2 b3 hg r2 w2 hp
      obtain ⟨hF, hp⟩ := hp
      have hc0 : mayC cnt f9 g9 = 1 := mayC_1 (by
        rcases (Classical.not_and_iff_not_or_not.mp hn) with q | q
        · exact Or.inl ((inB_f (by omega)).mpr q)
        · exact Or.inr ((inB_f (by omega)).mpr q))
      rw [hc0] at hp
      rcases hp with ⟨-, hMo2⟩ | ⟨q, -⟩
      · obtain ⟨q1, q2, q3⟩ := hJ.fin hR hF hMo2 hS b1 b2 b3 hg
        exact ⟨q1, q2, q3, fun h9 => absurd h9 (by omega)⟩
      · exact absurd q (by omega)
    · have er : r = nI 2 := hc.elim (fun q => absurd q.1 (by decide)) (fun q => q.2)
      have hJ := hj.mid
      rw [← ew] at hJ
      refine ⟨2, σ, cnt, γ, ro, foO, er, by omega, hJ, by rw [ew]; exact hOu, ?_⟩
      intro ml cd ki on tw od fa st rs me fo fd ba ta by9 nd hR hMo hS b1 b2 b3 hg r2 w2 hp
      obtain ⟨hF, hp⟩ := hp
      have hc0 : mayC cnt f9 g9 = 2 := mayC_2 ((inB_iff (by omega)).mpr hn.1) ((inB_iff (by omega)).mpr hn.2) (by omega)
      rw [hc0] at hp
      rcases hp with ⟨-, hMo2⟩ | ⟨q, -⟩
      · obtain ⟨q1, q2, q3⟩ := hJ.fin hR hF hMo2 hS b1 b2 b3 hg
        exact ⟨q1, q2, q3, fun h9 => absurd h9 (by omega)⟩
      · exact absurd q (by omega)

theorem j_times {g : Nat → ClassId} {ad : Nat → Nat} {w w1 : Wd} {ro : Nat → Nat} {x mo ou : Nat} {σ : Nat → SD} {cnt : Nat} {γ : GU} {r : Int32} {f9 : Int32} {g9 : Int32} (hj : jI g ad w ro x mo ou σ cnt γ) (h : (∃ x9 w3 fo1, (∃ f h ro', f < cnt ∧ h < cnt ∧ f9 = nI f ∧ g9 = nI h ∧ cnt < 40 ∧ x9 = nI cnt ∧ xI g ad w3 ro' x (va_up σ cnt (1 + 1, f, h, 0, fun _ => 0, fun _ => 0)) (cnt + 1) γ ∧ kpM w ro w3 ro') ∧ r = nI 0 ∧ fo1 0 = x9.toInt64 ∧ w1 = hwu w3 ou (.inl (g 2, 1, .inr (.inl fo1)))) ∨ ∃ E, (w1 = w ∧ ((E = xNI ∧ ¬ (inC cnt f9 ∧ inC cnt g9)) ∨ (E = xNS ∧ (inC cnt f9 ∧ inC cnt g9) ∧ ¬ cnt < 40))) ∧ ((E = xNI ∧ r = nI 1) ∨ (E = xNS ∧ r = nI 2))) : ∃ (k : Nat) (σ' : Nat → SD) (cnt' : Nat) (γ' : GU) (ro' : Nat → Nat) (fo1 : Nat → Int64), r = nI k ∧ k < 4 ∧ jM g ad w1 ro' x mo ou σ cnt γ σ' cnt' γ' ∧ w1 ou = some (.inl (g 2, 1, .inr (.inl fo1))) ∧ ∀ (ml : Nat → Nat) (cd : Nat) (ki on tw od fa st rs : Nat → Nat) (me fo fd : Nat) (ba ta by9 : Nat → Nat) (nd : Nat → Bool), moR ro' mo ml → moW g w1 mo ml cd cnt ki on tw od fa st rs me fo fd ba ta by9 nd → mS σ cnt ki on tw od fa st → (∀ x, x < 2560 → rs x < 32003) → (∀ x, x < 1280 → ta x < 32003) → (∀ x, x < 400 → ba x < 32003) → gaR γ me fo fd ba → ∀ (r2 : Int32) (w2 : Wd), (moF mo ml w1 w2 ∧ ((mayC cnt f9 g9 ≠ 0 ∧ moW g w2 mo ml (mayC cnt f9 g9) cnt ki on tw od fa st rs me fo fd ba ta by9 nd) ∨ (mayC cnt f9 g9 = 0 ∧ ∃ f h, f < cnt ∧ f9 = nI f ∧ (h < cnt ∧ g9 = nI h) ∧ cnt < 40 ∧ r2 = nI cnt ∧ moW g w2 mo ml (mayC cnt f9 g9) (cnt + 1) (va_up ki cnt 2) (va_up on cnt f) (va_up tw cnt h) od fa st rs me fo fd ba ta by9 nd))) → jI g ad w2 ro' x mo ou σ' cnt' γ' ∧ mI g w2 ro' mo σ' cnt' γ' k ∧ w2 ou = w1 ou ∧ (k = 0 → fo1 0 = r2.toInt64) := by
  obtain ⟨-, -, ⟨foO, hOu⟩, hRo⟩ := id hj
  have h40 : cnt ≤ 40 := by obtain ⟨cd, ml, ki, on, tw, od, fa, st, rs, me, fo, fd, ba, ta, by9, nd, -, -, hS, -⟩ := hj.2.1; exact hS.1
  rcases h with ⟨x9, w3, fo1, ⟨f, h, ro', hf, hh, ef, eh, h4, ex, hI, hkp⟩, er, efo, ew⟩ | ⟨E, ⟨ew, hx⟩, hc⟩
  · have hJ := (hj.go hI hkp).out fo1
    rw [← ew] at hJ
    refine ⟨0, _, _, γ, ro', fo1, er, by omega, hJ, by rw [ew]; exact hwu_eq, ?_⟩
    intro ml cd ki on tw od fa st rs me fo fd ba ta by9 nd hR hMo hS b1 b2 b3 hg r2 w2 hp
    obtain ⟨hF, hp⟩ := hp
    have hc0 : mayC cnt f9 g9 = 0 := mayC_0 ((inB_iff (by omega)).mpr ⟨f, hf, ef⟩) ((inB_iff (by omega)).mpr ⟨h, hh, eh⟩) (by omega)
    rw [hc0] at hp
    rcases hp with ⟨q, -⟩ | ⟨-, f2, h2, hf2, ef2, hh2, h42, er2, hMo2⟩
    · exact absurd rfl q
    · have e1 : f2 = f := nI_one (by omega) (by omega) (ef2.symm.trans ef)
      have e2 : h2 = h := nI_one (by omega) (by omega) (hh2.2.symm.trans eh)
      subst e1 e2
      have hS2 := hS.add h4 (d := (2, f2, h2, 0, fun _ => 0, fun _ => 0)) (f := f2) (h2 := h2) (fun _ => ⟨hf, hh⟩) (fun _ _ => rfl) (fun _ _ => rfl) (fun _ _ => rfl) ⟨va_up_eq, by show 2 ≤ 7; omega, fun q => absurd (show 2 = 0 from q) (by omega), fun _ => ⟨va_up_eq, fun _ => va_up_eq, fun q => absurd (show 2 = 5 from q) (by omega), fun q => absurd (show 5 ≤ 2 from q) (by omega)⟩, fun _ _ => by show 0 < 32003; omega, fun _ _ => by show 0 < 32003; omega⟩
      obtain ⟨q1, q2, q3⟩ := hJ.fin hR hF hMo2 hS2 b1 b2 b3 hg
      exact ⟨q1, q2, q3, fun _ => by rw [efo, ex, er2]⟩
  · rcases hx with ⟨rfl, hn⟩ | ⟨rfl, hn, h4⟩
    · have er : r = nI 1 := hc.elim (fun q => q.2) (fun q => absurd q.1 (by decide))
      have hJ := hj.mid
      rw [← ew] at hJ
      refine ⟨1, σ, cnt, γ, ro, foO, er, by omega, hJ, by rw [ew]; exact hOu, ?_⟩
      intro ml cd ki on tw od fa st rs me fo fd ba ta by9 nd hR hMo hS b1 b2 b3 hg r2 w2 hp
      obtain ⟨hF, hp⟩ := hp
      have hc0 : mayC cnt f9 g9 = 1 := mayC_1 (by
        rcases (Classical.not_and_iff_not_or_not.mp hn) with q | q
        · exact Or.inl ((inB_f (by omega)).mpr q)
        · exact Or.inr ((inB_f (by omega)).mpr q))
      rw [hc0] at hp
      rcases hp with ⟨-, hMo2⟩ | ⟨q, -⟩
      · obtain ⟨q1, q2, q3⟩ := hJ.fin hR hF hMo2 hS b1 b2 b3 hg
        exact ⟨q1, q2, q3, fun h9 => absurd h9 (by omega)⟩
      · exact absurd q (by omega)
    · have er : r = nI 2 := hc.elim (fun q => absurd q.1 (by decide)) (fun q => q.2)
      have hJ := hj.mid
      rw [← ew] at hJ
      refine ⟨2, σ, cnt, γ, ro, foO, er, by omega, hJ, by rw [ew]; exact hOu, ?_⟩
      intro ml cd ki on tw od fa st rs me fo fd ba ta by9 nd hR hMo hS b1 b2 b3 hg r2 w2 hp
      obtain ⟨hF, hp⟩ := hp
      have hc0 : mayC cnt f9 g9 = 2 := mayC_2 ((inB_iff (by omega)).mpr hn.1) ((inB_iff (by omega)).mpr hn.2) (by omega)
      rw [hc0] at hp
      rcases hp with ⟨-, hMo2⟩ | ⟨q, -⟩
      · obtain ⟨q1, q2, q3⟩ := hJ.fin hR hF hMo2 hS b1 b2 b3 hg
        exact ⟨q1, q2, q3, fun h9 => absurd h9 (by omega)⟩
      · exact absurd q (by omega)

theorem j_convolve {g : Nat → ClassId} {ad : Nat → Nat} {w w1 : Wd} {ro : Nat → Nat} {x mo ou : Nat} {σ : Nat → SD} {cnt : Nat} {γ : GU} {r : Int32} {f9 : Int32} {g9 : Int32} (hj : jI g ad w ro x mo ou σ cnt γ) (h : (∃ x9 w3 fo1, (∃ f h ro', f < cnt ∧ h < cnt ∧ f9 = nI f ∧ g9 = nI h ∧ cnt < 40 ∧ x9 = nI cnt ∧ xI g ad w3 ro' x (va_up σ cnt (2 + 1, f, h, 0, fun _ => 0, fun _ => 0)) (cnt + 1) γ ∧ kpM w ro w3 ro') ∧ r = nI 0 ∧ fo1 0 = x9.toInt64 ∧ w1 = hwu w3 ou (.inl (g 2, 1, .inr (.inl fo1)))) ∨ ∃ E, (w1 = w ∧ ((E = xNI ∧ ¬ (inC cnt f9 ∧ inC cnt g9)) ∨ (E = xNS ∧ (inC cnt f9 ∧ inC cnt g9) ∧ ¬ cnt < 40))) ∧ ((E = xNI ∧ r = nI 1) ∨ (E = xNS ∧ r = nI 2))) : ∃ (k : Nat) (σ' : Nat → SD) (cnt' : Nat) (γ' : GU) (ro' : Nat → Nat) (fo1 : Nat → Int64), r = nI k ∧ k < 4 ∧ jM g ad w1 ro' x mo ou σ cnt γ σ' cnt' γ' ∧ w1 ou = some (.inl (g 2, 1, .inr (.inl fo1))) ∧ ∀ (ml : Nat → Nat) (cd : Nat) (ki on tw od fa st rs : Nat → Nat) (me fo fd : Nat) (ba ta by9 : Nat → Nat) (nd : Nat → Bool), moR ro' mo ml → moW g w1 mo ml cd cnt ki on tw od fa st rs me fo fd ba ta by9 nd → mS σ cnt ki on tw od fa st → (∀ x, x < 2560 → rs x < 32003) → (∀ x, x < 1280 → ta x < 32003) → (∀ x, x < 400 → ba x < 32003) → gaR γ me fo fd ba → ∀ (r2 : Int32) (w2 : Wd), (moF mo ml w1 w2 ∧ ((mayC cnt f9 g9 ≠ 0 ∧ moW g w2 mo ml (mayC cnt f9 g9) cnt ki on tw od fa st rs me fo fd ba ta by9 nd) ∨ (mayC cnt f9 g9 = 0 ∧ ∃ f h, f < cnt ∧ f9 = nI f ∧ (h < cnt ∧ g9 = nI h) ∧ cnt < 40 ∧ r2 = nI cnt ∧ moW g w2 mo ml (mayC cnt f9 g9) (cnt + 1) (va_up ki cnt 3) (va_up on cnt f) (va_up tw cnt h) od fa st rs me fo fd ba ta by9 nd))) → jI g ad w2 ro' x mo ou σ' cnt' γ' ∧ mI g w2 ro' mo σ' cnt' γ' k ∧ w2 ou = w1 ou ∧ (k = 0 → fo1 0 = r2.toInt64) := by
  obtain ⟨-, -, ⟨foO, hOu⟩, hRo⟩ := id hj
  have h40 : cnt ≤ 40 := by obtain ⟨cd, ml, ki, on, tw, od, fa, st, rs, me, fo, fd, ba, ta, by9, nd, -, -, hS, -⟩ := hj.2.1; exact hS.1
  rcases h with ⟨x9, w3, fo1, ⟨f, h, ro', hf, hh, ef, eh, h4, ex, hI, hkp⟩, er, efo, ew⟩ | ⟨E, ⟨ew, hx⟩, hc⟩
  · have hJ := (hj.go hI hkp).out fo1
    rw [← ew] at hJ
    refine ⟨0, _, _, γ, ro', fo1, er, by omega, hJ, by rw [ew]; exact hwu_eq, ?_⟩
    intro ml cd ki on tw od fa st rs me fo fd ba ta by9 nd hR hMo hS b1 b2 b3 hg r2 w2 hp
    obtain ⟨hF, hp⟩ := hp
    have hc0 : mayC cnt f9 g9 = 0 := mayC_0 ((inB_iff (by omega)).mpr ⟨f, hf, ef⟩) ((inB_iff (by omega)).mpr ⟨h, hh, eh⟩) (by omega)
    rw [hc0] at hp
    rcases hp with ⟨q, -⟩ | ⟨-, f2, h2, hf2, ef2, hh2, h42, er2, hMo2⟩
    · exact absurd rfl q
    · have e1 : f2 = f := nI_one (by omega) (by omega) (ef2.symm.trans ef)
      have e2 : h2 = h := nI_one (by omega) (by omega) (hh2.2.symm.trans eh)
      subst e1 e2
      have hS2 := hS.add h4 (d := (3, f2, h2, 0, fun _ => 0, fun _ => 0)) (f := f2) (h2 := h2) (fun _ => ⟨hf, hh⟩) (fun _ _ => rfl) (fun _ _ => rfl) (fun _ _ => rfl) ⟨va_up_eq, by show 3 ≤ 7; omega, fun q => absurd (show 3 = 0 from q) (by omega), fun _ => ⟨va_up_eq, fun _ => va_up_eq, fun q => absurd (show 3 = 5 from q) (by omega), fun q => absurd (show 5 ≤ 3 from q) (by omega)⟩, fun _ _ => by show 0 < 32003; omega, fun _ _ => by show 0 < 32003; omega⟩
      obtain ⟨q1, q2, q3⟩ := hJ.fin hR hF hMo2 hS2 b1 b2 b3 hg
      exact ⟨q1, q2, q3, fun _ => by rw [efo, ex, er2]⟩
  · rcases hx with ⟨rfl, hn⟩ | ⟨rfl, hn, h4⟩
    · have er : r = nI 1 := hc.elim (fun q => q.2) (fun q => absurd q.1 (by decide))
      have hJ := hj.mid
      rw [← ew] at hJ
      refine ⟨1, σ, cnt, γ, ro, foO, er, by omega, hJ, by rw [ew]; exact hOu, ?_⟩
      intro ml cd ki on tw od fa st rs me fo fd ba ta by9 nd hR hMo hS b1 b2 b3 hg r2 w2 hp
      obtain ⟨hF, hp⟩ := hp
      have hc0 : mayC cnt f9 g9 = 1 := mayC_1 (by
        rcases (Classical.not_and_iff_not_or_not.mp hn) with q | q
        · exact Or.inl ((inB_f (by omega)).mpr q)
        · exact Or.inr ((inB_f (by omega)).mpr q))
      rw [hc0] at hp
      rcases hp with ⟨-, hMo2⟩ | ⟨q, -⟩
      · obtain ⟨q1, q2, q3⟩ := hJ.fin hR hF hMo2 hS b1 b2 b3 hg
        exact ⟨q1, q2, q3, fun h9 => absurd h9 (by omega)⟩
      · exact absurd q (by omega)
    · have er : r = nI 2 := hc.elim (fun q => absurd q.1 (by decide)) (fun q => q.2)
      have hJ := hj.mid
      rw [← ew] at hJ
      refine ⟨2, σ, cnt, γ, ro, foO, er, by omega, hJ, by rw [ew]; exact hOu, ?_⟩
      intro ml cd ki on tw od fa st rs me fo fd ba ta by9 nd hR hMo hS b1 b2 b3 hg r2 w2 hp
      obtain ⟨hF, hp⟩ := hp
      have hc0 : mayC cnt f9 g9 = 2 := mayC_2 ((inB_iff (by omega)).mpr hn.1) ((inB_iff (by omega)).mpr hn.2) (by omega)
      rw [hc0] at hp
      rcases hp with ⟨-, hMo2⟩ | ⟨q, -⟩
      · obtain ⟨q1, q2, q3⟩ := hJ.fin hR hF hMo2 hS b1 b2 b3 hg
        exact ⟨q1, q2, q3, fun h9 => absurd h9 (by omega)⟩
      · exact absurd q (by omega)

theorem j_weave {g : Nat → ClassId} {ad : Nat → Nat} {w w1 : Wd} {ro : Nat → Nat} {x mo ou : Nat} {σ : Nat → SD} {cnt : Nat} {γ : GU} {r : Int32} {f9 : Int32} {g9 : Int32} (hj : jI g ad w ro x mo ou σ cnt γ) (h : (∃ x9 w3 fo1, (∃ f h ro', f < cnt ∧ h < cnt ∧ f9 = nI f ∧ g9 = nI h ∧ cnt < 40 ∧ x9 = nI cnt ∧ xI g ad w3 ro' x (va_up σ cnt (3 + 1, f, h, 0, fun _ => 0, fun _ => 0)) (cnt + 1) γ ∧ kpM w ro w3 ro') ∧ r = nI 0 ∧ fo1 0 = x9.toInt64 ∧ w1 = hwu w3 ou (.inl (g 2, 1, .inr (.inl fo1)))) ∨ ∃ E, (w1 = w ∧ ((E = xNI ∧ ¬ (inC cnt f9 ∧ inC cnt g9)) ∨ (E = xNS ∧ (inC cnt f9 ∧ inC cnt g9) ∧ ¬ cnt < 40))) ∧ ((E = xNI ∧ r = nI 1) ∨ (E = xNS ∧ r = nI 2))) : ∃ (k : Nat) (σ' : Nat → SD) (cnt' : Nat) (γ' : GU) (ro' : Nat → Nat) (fo1 : Nat → Int64), r = nI k ∧ k < 4 ∧ jM g ad w1 ro' x mo ou σ cnt γ σ' cnt' γ' ∧ w1 ou = some (.inl (g 2, 1, .inr (.inl fo1))) ∧ ∀ (ml : Nat → Nat) (cd : Nat) (ki on tw od fa st rs : Nat → Nat) (me fo fd : Nat) (ba ta by9 : Nat → Nat) (nd : Nat → Bool), moR ro' mo ml → moW g w1 mo ml cd cnt ki on tw od fa st rs me fo fd ba ta by9 nd → mS σ cnt ki on tw od fa st → (∀ x, x < 2560 → rs x < 32003) → (∀ x, x < 1280 → ta x < 32003) → (∀ x, x < 400 → ba x < 32003) → gaR γ me fo fd ba → ∀ (r2 : Int32) (w2 : Wd), (moF mo ml w1 w2 ∧ ((mayC cnt f9 g9 ≠ 0 ∧ moW g w2 mo ml (mayC cnt f9 g9) cnt ki on tw od fa st rs me fo fd ba ta by9 nd) ∨ (mayC cnt f9 g9 = 0 ∧ ∃ f h, f < cnt ∧ f9 = nI f ∧ (h < cnt ∧ g9 = nI h) ∧ cnt < 40 ∧ r2 = nI cnt ∧ moW g w2 mo ml (mayC cnt f9 g9) (cnt + 1) (va_up ki cnt 4) (va_up on cnt f) (va_up tw cnt h) od fa st rs me fo fd ba ta by9 nd))) → jI g ad w2 ro' x mo ou σ' cnt' γ' ∧ mI g w2 ro' mo σ' cnt' γ' k ∧ w2 ou = w1 ou ∧ (k = 0 → fo1 0 = r2.toInt64) := by
  obtain ⟨-, -, ⟨foO, hOu⟩, hRo⟩ := id hj
  have h40 : cnt ≤ 40 := by obtain ⟨cd, ml, ki, on, tw, od, fa, st, rs, me, fo, fd, ba, ta, by9, nd, -, -, hS, -⟩ := hj.2.1; exact hS.1
  rcases h with ⟨x9, w3, fo1, ⟨f, h, ro', hf, hh, ef, eh, h4, ex, hI, hkp⟩, er, efo, ew⟩ | ⟨E, ⟨ew, hx⟩, hc⟩
  · have hJ := (hj.go hI hkp).out fo1
    rw [← ew] at hJ
    refine ⟨0, _, _, γ, ro', fo1, er, by omega, hJ, by rw [ew]; exact hwu_eq, ?_⟩
    intro ml cd ki on tw od fa st rs me fo fd ba ta by9 nd hR hMo hS b1 b2 b3 hg r2 w2 hp
    obtain ⟨hF, hp⟩ := hp
    have hc0 : mayC cnt f9 g9 = 0 := mayC_0 ((inB_iff (by omega)).mpr ⟨f, hf, ef⟩) ((inB_iff (by omega)).mpr ⟨h, hh, eh⟩) (by omega)
    rw [hc0] at hp
    rcases hp with ⟨q, -⟩ | ⟨-, f2, h2, hf2, ef2, hh2, h42, er2, hMo2⟩
    · exact absurd rfl q
    · have e1 : f2 = f := nI_one (by omega) (by omega) (ef2.symm.trans ef)
      have e2 : h2 = h := nI_one (by omega) (by omega) (hh2.2.symm.trans eh)
      subst e1 e2
      have hS2 := hS.add h4 (d := (4, f2, h2, 0, fun _ => 0, fun _ => 0)) (f := f2) (h2 := h2) (fun _ => ⟨hf, hh⟩) (fun _ _ => rfl) (fun _ _ => rfl) (fun _ _ => rfl) ⟨va_up_eq, by show 4 ≤ 7; omega, fun q => absurd (show 4 = 0 from q) (by omega), fun _ => ⟨va_up_eq, fun _ => va_up_eq, fun q => absurd (show 4 = 5 from q) (by omega), fun q => absurd (show 5 ≤ 4 from q) (by omega)⟩, fun _ _ => by show 0 < 32003; omega, fun _ _ => by show 0 < 32003; omega⟩
      obtain ⟨q1, q2, q3⟩ := hJ.fin hR hF hMo2 hS2 b1 b2 b3 hg
      exact ⟨q1, q2, q3, fun _ => by rw [efo, ex, er2]⟩
  · rcases hx with ⟨rfl, hn⟩ | ⟨rfl, hn, h4⟩
    · have er : r = nI 1 := hc.elim (fun q => q.2) (fun q => absurd q.1 (by decide))
      have hJ := hj.mid
      rw [← ew] at hJ
      refine ⟨1, σ, cnt, γ, ro, foO, er, by omega, hJ, by rw [ew]; exact hOu, ?_⟩
      intro ml cd ki on tw od fa st rs me fo fd ba ta by9 nd hR hMo hS b1 b2 b3 hg r2 w2 hp
      obtain ⟨hF, hp⟩ := hp
      have hc0 : mayC cnt f9 g9 = 1 := mayC_1 (by
        rcases (Classical.not_and_iff_not_or_not.mp hn) with q | q
        · exact Or.inl ((inB_f (by omega)).mpr q)
        · exact Or.inr ((inB_f (by omega)).mpr q))
      rw [hc0] at hp
      rcases hp with ⟨-, hMo2⟩ | ⟨q, -⟩
      · obtain ⟨q1, q2, q3⟩ := hJ.fin hR hF hMo2 hS b1 b2 b3 hg
        exact ⟨q1, q2, q3, fun h9 => absurd h9 (by omega)⟩
      · exact absurd q (by omega)
    · have er : r = nI 2 := hc.elim (fun q => absurd q.1 (by decide)) (fun q => q.2)
      have hJ := hj.mid
      rw [← ew] at hJ
      refine ⟨2, σ, cnt, γ, ro, foO, er, by omega, hJ, by rw [ew]; exact hOu, ?_⟩
      intro ml cd ki on tw od fa st rs me fo fd ba ta by9 nd hR hMo hS b1 b2 b3 hg r2 w2 hp
      obtain ⟨hF, hp⟩ := hp
      have hc0 : mayC cnt f9 g9 = 2 := mayC_2 ((inB_iff (by omega)).mpr hn.1) ((inB_iff (by omega)).mpr hn.2) (by omega)
      rw [hc0] at hp
      rcases hp with ⟨-, hMo2⟩ | ⟨q, -⟩
      · obtain ⟨q1, q2, q3⟩ := hJ.fin hR hF hMo2 hS b1 b2 b3 hg
        exact ⟨q1, q2, q3, fun h9 => absurd h9 (by omega)⟩
      · exact absurd q (by omega)

theorem j_sums {g : Nat → ClassId} {ad : Nat → Nat} {w w1 : Wd} {ro : Nat → Nat} {x mo ou : Nat} {σ : Nat → SD} {cnt : Nat} {γ : GU} {r : Int32} {f9 : Int32} (hj : jI g ad w ro x mo ou σ cnt γ) (h : (∃ x9 w3 fo1, (∃ f h ro', f < cnt ∧ h < cnt ∧ f9 = nI f ∧ f9 = nI h ∧ cnt < 40 ∧ x9 = nI cnt ∧ xI g ad w3 ro' x (va_up σ cnt (5 + 1, f, h, 0, fun _ => 0, fun _ => 0)) (cnt + 1) γ ∧ kpM w ro w3 ro') ∧ r = nI 0 ∧ fo1 0 = x9.toInt64 ∧ w1 = hwu w3 ou (.inl (g 2, 1, .inr (.inl fo1)))) ∨ ∃ E, (w1 = w ∧ ((E = xNI ∧ ¬ (inC cnt f9 ∧ inC cnt f9)) ∨ (E = xNS ∧ (inC cnt f9 ∧ inC cnt f9) ∧ ¬ cnt < 40))) ∧ ((E = xNI ∧ r = nI 1) ∨ (E = xNS ∧ r = nI 2))) : ∃ (k : Nat) (σ' : Nat → SD) (cnt' : Nat) (γ' : GU) (ro' : Nat → Nat) (fo1 : Nat → Int64), r = nI k ∧ k < 4 ∧ jM g ad w1 ro' x mo ou σ cnt γ σ' cnt' γ' ∧ w1 ou = some (.inl (g 2, 1, .inr (.inl fo1))) ∧ ∀ (ml : Nat → Nat) (cd : Nat) (ki on tw od fa st rs : Nat → Nat) (me fo fd : Nat) (ba ta by9 : Nat → Nat) (nd : Nat → Bool), moR ro' mo ml → moW g w1 mo ml cd cnt ki on tw od fa st rs me fo fd ba ta by9 nd → mS σ cnt ki on tw od fa st → (∀ x, x < 2560 → rs x < 32003) → (∀ x, x < 1280 → ta x < 32003) → (∀ x, x < 400 → ba x < 32003) → gaR γ me fo fd ba → ∀ (r2 : Int32) (w2 : Wd), (moF mo ml w1 w2 ∧ ((mayC cnt f9 f9 ≠ 0 ∧ moW g w2 mo ml (mayC cnt f9 f9) cnt ki on tw od fa st rs me fo fd ba ta by9 nd) ∨ (mayC cnt f9 f9 = 0 ∧ ∃ f h, f < cnt ∧ f9 = nI f ∧ h = 4294967295 ∧ cnt < 40 ∧ r2 = nI cnt ∧ moW g w2 mo ml (mayC cnt f9 f9) (cnt + 1) (va_up ki cnt 6) (va_up on cnt f) (va_up tw cnt h) od fa st rs me fo fd ba ta by9 nd))) → jI g ad w2 ro' x mo ou σ' cnt' γ' ∧ mI g w2 ro' mo σ' cnt' γ' k ∧ w2 ou = w1 ou ∧ (k = 0 → fo1 0 = r2.toInt64) := by
  obtain ⟨-, -, ⟨foO, hOu⟩, hRo⟩ := id hj
  have h40 : cnt ≤ 40 := by obtain ⟨cd, ml, ki, on, tw, od, fa, st, rs, me, fo, fd, ba, ta, by9, nd, -, -, hS, -⟩ := hj.2.1; exact hS.1
  rcases h with ⟨x9, w3, fo1, ⟨f, h, ro', hf, hh, ef, eh, h4, ex, hI, hkp⟩, er, efo, ew⟩ | ⟨E, ⟨ew, hx⟩, hc⟩
  · have hJ := (hj.go hI hkp).out fo1
    rw [← ew] at hJ
    refine ⟨0, _, _, γ, ro', fo1, er, by omega, hJ, by rw [ew]; exact hwu_eq, ?_⟩
    intro ml cd ki on tw od fa st rs me fo fd ba ta by9 nd hR hMo hS b1 b2 b3 hg r2 w2 hp
    obtain ⟨hF, hp⟩ := hp
    have hc0 : mayC cnt f9 f9 = 0 := mayC_0 ((inB_iff (by omega)).mpr ⟨f, hf, ef⟩) ((inB_iff (by omega)).mpr ⟨h, hh, eh⟩) (by omega)
    rw [hc0] at hp
    rcases hp with ⟨q, -⟩ | ⟨-, f2, h2, hf2, ef2, hh2, h42, er2, hMo2⟩
    · exact absurd rfl q
    · have e1 : f2 = f := nI_one (by omega) (by omega) (ef2.symm.trans ef)
      have e3 : h = f := nI_one (by omega) (by omega) (eh.symm.trans ef)
      subst e1 e3
      have hS2 := hS.add h4 (d := (6, h, h, 0, fun _ => 0, fun _ => 0)) (f := h) (h2 := h2) (fun _ => ⟨hf, hh⟩) (fun _ _ => rfl) (fun _ _ => rfl) (fun _ _ => rfl) ⟨va_up_eq, by show 6 ≤ 7; omega, fun q => absurd (show 6 = 0 from q) (by omega), fun _ => ⟨va_up_eq, fun q => absurd (show 6 < 5 from q) (by omega), fun q => absurd (show 6 = 5 from q) (by omega), fun _ => rfl⟩, fun _ _ => by show 0 < 32003; omega, fun _ _ => by show 0 < 32003; omega⟩
      obtain ⟨q1, q2, q3⟩ := hJ.fin hR hF hMo2 hS2 b1 b2 b3 hg
      exact ⟨q1, q2, q3, fun _ => by rw [efo, ex, er2]⟩
  · rcases hx with ⟨rfl, hn⟩ | ⟨rfl, hn, h4⟩
    · have er : r = nI 1 := hc.elim (fun q => q.2) (fun q => absurd q.1 (by decide))
      have hJ := hj.mid
      rw [← ew] at hJ
      refine ⟨1, σ, cnt, γ, ro, foO, er, by omega, hJ, by rw [ew]; exact hOu, ?_⟩
      intro ml cd ki on tw od fa st rs me fo fd ba ta by9 nd hR hMo hS b1 b2 b3 hg r2 w2 hp
      obtain ⟨hF, hp⟩ := hp
      have hc0 : mayC cnt f9 f9 = 1 := mayC_1 (by
        rcases (Classical.not_and_iff_not_or_not.mp hn) with q | q
        · exact Or.inl ((inB_f (by omega)).mpr q)
        · exact Or.inr ((inB_f (by omega)).mpr q))
      rw [hc0] at hp
      rcases hp with ⟨-, hMo2⟩ | ⟨q, -⟩
      · obtain ⟨q1, q2, q3⟩ := hJ.fin hR hF hMo2 hS b1 b2 b3 hg
        exact ⟨q1, q2, q3, fun h9 => absurd h9 (by omega)⟩
      · exact absurd q (by omega)
    · have er : r = nI 2 := hc.elim (fun q => absurd q.1 (by decide)) (fun q => q.2)
      have hJ := hj.mid
      rw [← ew] at hJ
      refine ⟨2, σ, cnt, γ, ro, foO, er, by omega, hJ, by rw [ew]; exact hOu, ?_⟩
      intro ml cd ki on tw od fa st rs me fo fd ba ta by9 nd hR hMo hS b1 b2 b3 hg r2 w2 hp
      obtain ⟨hF, hp⟩ := hp
      have hc0 : mayC cnt f9 f9 = 2 := mayC_2 ((inB_iff (by omega)).mpr hn.1) ((inB_iff (by omega)).mpr hn.2) (by omega)
      rw [hc0] at hp
      rcases hp with ⟨-, hMo2⟩ | ⟨q, -⟩
      · obtain ⟨q1, q2, q3⟩ := hJ.fin hR hF hMo2 hS b1 b2 b3 hg
        exact ⟨q1, q2, q3, fun h9 => absurd h9 (by omega)⟩
      · exact absurd q (by omega)

theorem j_derive {g : Nat → ClassId} {ad : Nat → Nat} {w w1 : Wd} {ro : Nat → Nat} {x mo ou : Nat} {σ : Nat → SD} {cnt : Nat} {γ : GU} {r : Int32} {f9 : Int32} (hj : jI g ad w ro x mo ou σ cnt γ) (h : (∃ x9 w3 fo1, (∃ f h ro', f < cnt ∧ h < cnt ∧ f9 = nI f ∧ f9 = nI h ∧ cnt < 40 ∧ x9 = nI cnt ∧ xI g ad w3 ro' x (va_up σ cnt (6 + 1, f, h, 0, fun _ => 0, fun _ => 0)) (cnt + 1) γ ∧ kpM w ro w3 ro') ∧ r = nI 0 ∧ fo1 0 = x9.toInt64 ∧ w1 = hwu w3 ou (.inl (g 2, 1, .inr (.inl fo1)))) ∨ ∃ E, (w1 = w ∧ ((E = xNI ∧ ¬ (inC cnt f9 ∧ inC cnt f9)) ∨ (E = xNS ∧ (inC cnt f9 ∧ inC cnt f9) ∧ ¬ cnt < 40))) ∧ ((E = xNI ∧ r = nI 1) ∨ (E = xNS ∧ r = nI 2))) : ∃ (k : Nat) (σ' : Nat → SD) (cnt' : Nat) (γ' : GU) (ro' : Nat → Nat) (fo1 : Nat → Int64), r = nI k ∧ k < 4 ∧ jM g ad w1 ro' x mo ou σ cnt γ σ' cnt' γ' ∧ w1 ou = some (.inl (g 2, 1, .inr (.inl fo1))) ∧ ∀ (ml : Nat → Nat) (cd : Nat) (ki on tw od fa st rs : Nat → Nat) (me fo fd : Nat) (ba ta by9 : Nat → Nat) (nd : Nat → Bool), moR ro' mo ml → moW g w1 mo ml cd cnt ki on tw od fa st rs me fo fd ba ta by9 nd → mS σ cnt ki on tw od fa st → (∀ x, x < 2560 → rs x < 32003) → (∀ x, x < 1280 → ta x < 32003) → (∀ x, x < 400 → ba x < 32003) → gaR γ me fo fd ba → ∀ (r2 : Int32) (w2 : Wd), (moF mo ml w1 w2 ∧ ((mayC cnt f9 f9 ≠ 0 ∧ moW g w2 mo ml (mayC cnt f9 f9) cnt ki on tw od fa st rs me fo fd ba ta by9 nd) ∨ (mayC cnt f9 f9 = 0 ∧ ∃ f h, f < cnt ∧ f9 = nI f ∧ h = 4294967295 ∧ cnt < 40 ∧ r2 = nI cnt ∧ moW g w2 mo ml (mayC cnt f9 f9) (cnt + 1) (va_up ki cnt 7) (va_up on cnt f) (va_up tw cnt h) od fa st rs me fo fd ba ta by9 nd))) → jI g ad w2 ro' x mo ou σ' cnt' γ' ∧ mI g w2 ro' mo σ' cnt' γ' k ∧ w2 ou = w1 ou ∧ (k = 0 → fo1 0 = r2.toInt64) := by
  obtain ⟨-, -, ⟨foO, hOu⟩, hRo⟩ := id hj
  have h40 : cnt ≤ 40 := by obtain ⟨cd, ml, ki, on, tw, od, fa, st, rs, me, fo, fd, ba, ta, by9, nd, -, -, hS, -⟩ := hj.2.1; exact hS.1
  rcases h with ⟨x9, w3, fo1, ⟨f, h, ro', hf, hh, ef, eh, h4, ex, hI, hkp⟩, er, efo, ew⟩ | ⟨E, ⟨ew, hx⟩, hc⟩
  · have hJ := (hj.go hI hkp).out fo1
    rw [← ew] at hJ
    refine ⟨0, _, _, γ, ro', fo1, er, by omega, hJ, by rw [ew]; exact hwu_eq, ?_⟩
    intro ml cd ki on tw od fa st rs me fo fd ba ta by9 nd hR hMo hS b1 b2 b3 hg r2 w2 hp
    obtain ⟨hF, hp⟩ := hp
    have hc0 : mayC cnt f9 f9 = 0 := mayC_0 ((inB_iff (by omega)).mpr ⟨f, hf, ef⟩) ((inB_iff (by omega)).mpr ⟨h, hh, eh⟩) (by omega)
    rw [hc0] at hp
    rcases hp with ⟨q, -⟩ | ⟨-, f2, h2, hf2, ef2, hh2, h42, er2, hMo2⟩
    · exact absurd rfl q
    · have e1 : f2 = f := nI_one (by omega) (by omega) (ef2.symm.trans ef)
      have e3 : h = f := nI_one (by omega) (by omega) (eh.symm.trans ef)
      subst e1 e3
      have hS2 := hS.add h4 (d := (7, h, h, 0, fun _ => 0, fun _ => 0)) (f := h) (h2 := h2) (fun _ => ⟨hf, hh⟩) (fun _ _ => rfl) (fun _ _ => rfl) (fun _ _ => rfl) ⟨va_up_eq, by show 7 ≤ 7; omega, fun q => absurd (show 7 = 0 from q) (by omega), fun _ => ⟨va_up_eq, fun q => absurd (show 7 < 5 from q) (by omega), fun q => absurd (show 7 = 5 from q) (by omega), fun _ => rfl⟩, fun _ _ => by show 0 < 32003; omega, fun _ _ => by show 0 < 32003; omega⟩
      obtain ⟨q1, q2, q3⟩ := hJ.fin hR hF hMo2 hS2 b1 b2 b3 hg
      exact ⟨q1, q2, q3, fun _ => by rw [efo, ex, er2]⟩
  · rcases hx with ⟨rfl, hn⟩ | ⟨rfl, hn, h4⟩
    · have er : r = nI 1 := hc.elim (fun q => q.2) (fun q => absurd q.1 (by decide))
      have hJ := hj.mid
      rw [← ew] at hJ
      refine ⟨1, σ, cnt, γ, ro, foO, er, by omega, hJ, by rw [ew]; exact hOu, ?_⟩
      intro ml cd ki on tw od fa st rs me fo fd ba ta by9 nd hR hMo hS b1 b2 b3 hg r2 w2 hp
      obtain ⟨hF, hp⟩ := hp
      have hc0 : mayC cnt f9 f9 = 1 := mayC_1 (by
        rcases (Classical.not_and_iff_not_or_not.mp hn) with q | q
        · exact Or.inl ((inB_f (by omega)).mpr q)
        · exact Or.inr ((inB_f (by omega)).mpr q))
      rw [hc0] at hp
      rcases hp with ⟨-, hMo2⟩ | ⟨q, -⟩
      · obtain ⟨q1, q2, q3⟩ := hJ.fin hR hF hMo2 hS b1 b2 b3 hg
        exact ⟨q1, q2, q3, fun h9 => absurd h9 (by omega)⟩
      · exact absurd q (by omega)
    · have er : r = nI 2 := hc.elim (fun q => absurd q.1 (by decide)) (fun q => q.2)
      have hJ := hj.mid
      rw [← ew] at hJ
      refine ⟨2, σ, cnt, γ, ro, foO, er, by omega, hJ, by rw [ew]; exact hOu, ?_⟩
      intro ml cd ki on tw od fa st rs me fo fd ba ta by9 nd hR hMo hS b1 b2 b3 hg r2 w2 hp
      obtain ⟨hF, hp⟩ := hp
      have hc0 : mayC cnt f9 f9 = 2 := mayC_2 ((inB_iff (by omega)).mpr hn.1) ((inB_iff (by omega)).mpr hn.2) (by omega)
      rw [hc0] at hp
      rcases hp with ⟨-, hMo2⟩ | ⟨q, -⟩
      · obtain ⟨q1, q2, q3⟩ := hJ.fin hR hF hMo2 hS b1 b2 b3 hg
        exact ⟨q1, q2, q3, fun h9 => absurd h9 (by omega)⟩
      · exact absurd q (by omega)
