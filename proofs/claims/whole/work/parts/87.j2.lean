theorem j_shift {g : Nat → ClassId} {ad : Nat → Nat} {w w1 : Wd} {ro : Nat → Nat} {x mo ou : Nat} {σ : Nat → SD} {cnt : Nat} {γ : GU} {r : Int32} {f9 : Int32} {k9 : Int32} (hj : jI g ad w ro x mo ou σ cnt γ) (h : (∃ x9 w3 fo1, (∃ f di ro', f < cnt ∧ f9 = nI f ∧ di < 9 ∧ k9 = nI di ∧ cnt < 40 ∧ x9 = nI cnt ∧ xI g ad w3 ro' x (va_up σ cnt (4 + 1, f, f, di, fun _ => 0, fun _ => 0)) (cnt + 1) γ ∧ kpM w ro w3 ro') ∧ r = nI 0 ∧ fo1 0 = x9.toInt64 ∧ w1 = hwu w3 ou (.inl (g 2, 1, .inr (.inl fo1)))) ∨ ∃ E, (w1 = w ∧ ((E = xNI ∧ ¬ inC cnt f9) ∨ (E = xNS ∧ inC cnt f9 ∧ ¬ cnt < 40) ∨ (E = xNA ∧ inC cnt f9 ∧ cnt < 40 ∧ ¬ inC 9 k9))) ∧ ((E = xNI ∧ r = nI 1) ∨ (E = xNS ∧ r = nI 2) ∨ (E = xNA ∧ r = nI 3))) : ∃ (k : Nat) (σ' : Nat → SD) (cnt' : Nat) (γ' : GU) (ro' : Nat → Nat) (fo1 : Nat → Int64), r = nI k ∧ k < 4 ∧ jM g ad w1 ro' x mo ou σ cnt γ σ' cnt' γ' ∧ w1 ou = some (.inl (g 2, 1, .inr (.inl fo1))) ∧ ∀ (ml : Nat → Nat) (cd : Nat) (ki on tw od fa st rs : Nat → Nat) (me fo fd : Nat) (ba ta by9 : Nat → Nat) (nd : Nat → Bool), moR ro' mo ml → moW g w1 mo ml cd cnt ki on tw od fa st rs me fo fd ba ta by9 nd → mS σ cnt ki on tw od fa st → (∀ x, x < 2560 → rs x < 32003) → (∀ x, x < 1280 → ta x < 32003) → (∀ x, x < 400 → ba x < 32003) → gaR γ me fo fd ba → ∀ (r2 : Int32) (w2 : Wd), (moF mo ml w1 w2 ∧ ((mayC cnt f9 f9 ≠ 0 ∧ moW g w2 mo ml (mayC cnt f9 f9) cnt ki on tw od fa st rs me fo fd ba ta by9 nd) ∨ (mayC cnt f9 f9 = 0 ∧ ¬ inC 9 k9 ∧ moW g w2 mo ml 3 cnt ki on tw od fa st rs me fo fd ba ta by9 nd) ∨ (mayC cnt f9 f9 = 0 ∧ ∃ f k, f < cnt ∧ f9 = nI f ∧ k < 9 ∧ k9 = nI k ∧ cnt < 40 ∧ r2 = nI cnt ∧ moW g w2 mo ml (mayC cnt f9 f9) (cnt + 1) (va_up ki cnt 5) (va_up on cnt f) (va_up tw cnt k) od fa st rs me fo fd ba ta by9 nd))) → jI g ad w2 ro' x mo ou σ' cnt' γ' ∧ mI g w2 ro' mo σ' cnt' γ' k ∧ w2 ou = w1 ou ∧ (k = 0 → fo1 0 = r2.toInt64) := by
  obtain ⟨-, -, ⟨foO, hOu⟩, hRo⟩ := id hj
  have h40 : cnt ≤ 40 := by obtain ⟨cd, ml, ki, on, tw, od, fa, st, rs, me, fo, fd, ba, ta, by9, nd, -, -, hS, -⟩ := hj.2.1; exact hS.1
  rcases h with ⟨x9, w3, fo1, ⟨f, di, ro', hf, ef, hdi, edi, h4, ex, hI, hkp⟩, er, efo, ew⟩ | ⟨E, ⟨ew, hx⟩, hc⟩
  · have hJ := (hj.go hI hkp).out fo1
    rw [← ew] at hJ
    refine ⟨0, _, _, γ, ro', fo1, er, by omega, hJ, by rw [ew]; exact hwu_eq, ?_⟩
    intro ml cd ki on tw od fa st rs me fo fd ba ta by9 nd hR hMo hS b1 b2 b3 hg r2 w2 hp
    obtain ⟨hF, hp⟩ := hp
    have hc0 : mayC cnt f9 f9 = 0 := mayC_0 ((inB_iff (by omega)).mpr ⟨f, hf, ef⟩) ((inB_iff (by omega)).mpr ⟨f, hf, ef⟩) (by omega)
    rw [hc0] at hp
    rcases hp with ⟨q, -⟩ | ⟨-, q, -⟩ | ⟨-, f2, k2, hf2, ef2, hk2, ek2, h42, er2, hMo2⟩
    · exact absurd rfl q
    · exact absurd ⟨di, hdi, edi⟩ q
    · have e_f2 : f2 = f := nI_one (by omega) (by omega) (ef2.symm.trans ef)
      subst e_f2
      have e_k2 : k2 = di := nI_one (by omega) (by omega) (ek2.symm.trans edi)
      subst e_k2
      have hS2 := hS.add h4 (d := (5, f2, f2, k2, fun _ => 0, fun _ => 0)) (f := f2) (h2 := k2) (fun _ => ⟨hf, hf⟩) (fun _ _ => rfl) (fun _ _ => rfl) (fun _ _ => rfl) ⟨va_up_eq, by show 5 ≤ 7; omega, fun q => absurd (show 5 = 0 from q) (by omega), fun _ => ⟨va_up_eq, fun q => absurd (show 5 < 5 from q) (by omega), fun _ => ⟨va_up_eq, show k2 ≤ 8 by omega⟩, fun _ => rfl⟩, fun _ _ => by show 0 < 32003; omega, fun _ _ => by show 0 < 32003; omega⟩
      obtain ⟨q1, q2, q3⟩ := hJ.fin hR hF hMo2 hS2 b1 b2 b3 hg
      exact ⟨q1, q2, q3, fun _ => by rw [efo, ex, er2]⟩
  · rcases hx with ⟨rfl, hn⟩ | ⟨rfl, hn, h4⟩ | ⟨rfl, hn, h4, hk⟩
    · have er : r = nI 1 := hc.elim (fun q => q.2) (fun hc => hc.elim (fun q => absurd q.1 (by decide)) (fun q => absurd q.1 (by decide)))
      have hJ := hj.mid
      rw [← ew] at hJ
      refine ⟨1, σ, cnt, γ, ro, foO, er, by omega, hJ, by rw [ew]; exact hOu, ?_⟩
      intro ml cd ki on tw od fa st rs me fo fd ba ta by9 nd hR hMo hS b1 b2 b3 hg r2 w2 hp
      obtain ⟨hF, hp⟩ := hp
      have hc0 : mayC cnt f9 f9 = 1 := mayC_1 (Or.inl ((inB_f (by omega)).mpr hn))
      rw [hc0] at hp
      rcases hp with ⟨-, hMo2⟩ | ⟨q, -⟩ | ⟨q, -⟩
      · obtain ⟨q1, q2, q3⟩ := hJ.fin hR hF hMo2 hS b1 b2 b3 hg
        exact ⟨q1, q2, q3, fun h9 => absurd h9 (by omega)⟩
      · exact absurd q (by omega)
      · exact absurd q (by omega)
    · have er : r = nI 2 := hc.elim (fun q => absurd q.1 (by decide)) (fun hc => hc.elim (fun q => q.2) (fun q => absurd q.1 (by decide)))
      have hJ := hj.mid
      rw [← ew] at hJ
      refine ⟨2, σ, cnt, γ, ro, foO, er, by omega, hJ, by rw [ew]; exact hOu, ?_⟩
      intro ml cd ki on tw od fa st rs me fo fd ba ta by9 nd hR hMo hS b1 b2 b3 hg r2 w2 hp
      obtain ⟨hF, hp⟩ := hp
      have hc0 : mayC cnt f9 f9 = 2 := mayC_2 ((inB_iff (by omega)).mpr hn) ((inB_iff (by omega)).mpr hn) (by omega)
      rw [hc0] at hp
      rcases hp with ⟨-, hMo2⟩ | ⟨q, -⟩ | ⟨q, -⟩
      · obtain ⟨q1, q2, q3⟩ := hJ.fin hR hF hMo2 hS b1 b2 b3 hg
        exact ⟨q1, q2, q3, fun h9 => absurd h9 (by omega)⟩
      · exact absurd q (by omega)
      · exact absurd q (by omega)
    · have er : r = nI 3 := hc.elim (fun q => absurd q.1 (by decide)) (fun hc => hc.elim (fun q => absurd q.1 (by decide)) (fun q => q.2))
      have hJ := hj.mid
      rw [← ew] at hJ
      refine ⟨3, σ, cnt, γ, ro, foO, er, by omega, hJ, by rw [ew]; exact hOu, ?_⟩
      intro ml cd ki on tw od fa st rs me fo fd ba ta by9 nd hR hMo hS b1 b2 b3 hg r2 w2 hp
      obtain ⟨hF, hp⟩ := hp
      have hc0 : mayC cnt f9 f9 = 0 := mayC_0 ((inB_iff (by omega)).mpr hn) ((inB_iff (by omega)).mpr hn) (by omega)
      rw [hc0] at hp
      rcases hp with ⟨q, -⟩ | ⟨-, -, hMo2⟩ | ⟨-, f2, k2, hf2, ef2, hk2, ek2, -⟩
      · exact absurd rfl q
      · obtain ⟨q1, q2, q3⟩ := hJ.fin hR hF hMo2 hS b1 b2 b3 hg
        exact ⟨q1, q2, q3, fun h9 => absurd h9 (by omega)⟩
      · exact absurd ⟨k2, hk2, ek2⟩ hk

theorem j_function {g : Nat → ClassId} {ad : Nat → Nat} {w w1 : Wd} {ro : Nat → Nat} {x mo ou : Nat} {σ : Nat → SD} {cnt : Nat} {γ : GU} {r : Int32} {o9 : Int32} (hj : jI g ad w ro x mo ou σ cnt γ) (h : (∃ x9 w3 fo1, (∃ o ro', o9 = nI o ∧ 1 ≤ o ∧ o ≤ 3 ∧ cnt < 40 ∧ x9 = nI cnt ∧ xI g ad w3 ro' x (va_up σ cnt (0, o, 0, 0, fun _ => 0, fun _ => 0)) (cnt + 1) γ ∧ kpM w ro w3 ro') ∧ r = nI 0 ∧ fo1 0 = x9.toInt64 ∧ w1 = hwu w3 ou (.inl (g 2, 1, .inr (.inl fo1)))) ∨ ∃ E, (w1 = w ∧ ((E = xNS ∧ ¬ cnt < 40) ∨ (E = xNA ∧ cnt < 40 ∧ ¬ inO o9))) ∧ ((E = xNS ∧ r = nI 1) ∨ (E = xNA ∧ r = nI 2))) : ∃ (k : Nat) (σ' : Nat → SD) (cnt' : Nat) (γ' : GU) (ro' : Nat → Nat) (fo1 : Nat → Int64), r = nI k ∧ k < 4 ∧ jM g ad w1 ro' x mo ou σ cnt γ σ' cnt' γ' ∧ w1 ou = some (.inl (g 2, 1, .inr (.inl fo1))) ∧ ∀ (ml : Nat → Nat) (cd : Nat) (ki on tw od fa st rs : Nat → Nat) (me fo fd : Nat) (ba ta by9 : Nat → Nat) (nd : Nat → Bool), moR ro' mo ml → moW g w1 mo ml cd cnt ki on tw od fa st rs me fo fd ba ta by9 nd → mS σ cnt ki on tw od fa st → (∀ x, x < 2560 → rs x < 32003) → (∀ x, x < 1280 → ta x < 32003) → (∀ x, x < 400 → ba x < 32003) → gaR γ me fo fd ba → ∀ (r2 : Int32) (w2 : Wd), (moF mo ml w1 w2 ∧ ((fnC cnt o9 ≠ 0 ∧ moW g w2 mo ml (fnC cnt o9) cnt ki on tw od fa st rs me fo fd ba ta by9 nd) ∨ (fnC cnt o9 = 0 ∧ ∃ o, 1 ≤ o ∧ o ≤ 3 ∧ o9 = nI o ∧ cnt < 40 ∧ r2 = nI cnt ∧ moW g w2 mo ml 0 (cnt + 1) (va_up ki cnt 0) (va_up on cnt 4294967295) (va_up tw cnt 4294967295) (va_up od cnt o) (zR (12 * cnt) 12 fa) (zR (64 * cnt) 64 st) rs me fo fd ba ta by9 nd))) → jI g ad w2 ro' x mo ou σ' cnt' γ' ∧ mI g w2 ro' mo σ' cnt' γ' k ∧ w2 ou = w1 ou ∧ (k = 0 → fo1 0 = r2.toInt64) := by
  obtain ⟨-, -, ⟨foO, hOu⟩, hRo⟩ := id hj
  have h40 : cnt ≤ 40 := by obtain ⟨cd, ml, ki, on, tw, od, fa, st, rs, me, fo, fd, ba, ta, by9, nd, -, -, hS, -⟩ := hj.2.1; exact hS.1
  rcases h with ⟨x9, w3, fo1, ⟨o, ro', eo, ho1, ho3, h4, ex, hI, hkp⟩, er, efo, ew⟩ | ⟨E, ⟨ew, hx⟩, hc⟩
  · have hJ := (hj.go hI hkp).out fo1
    rw [← ew] at hJ
    refine ⟨0, _, _, γ, ro', fo1, er, by omega, hJ, by rw [ew]; exact hwu_eq, ?_⟩
    intro ml cd ki on tw od fa st rs me fo fd ba ta by9 nd hR hMo hS b1 b2 b3 hg r2 w2 hp
    obtain ⟨hF, hp⟩ := hp
    have hc0 : fnC cnt o9 = 0 := by unfold fnC; rw [if_neg (by omega), if_pos (decide_eq_true (inO_iff.mpr ⟨o, ho1, ho3, eo⟩))]
    rw [hc0] at hp
    rcases hp with ⟨q, -⟩ | ⟨-, o2, ho12, ho32, eo2, h42, er2, hMo2⟩
    · exact absurd rfl q
    · have e_o2 : o2 = o := nI_one (by omega) (by omega) (eo2.symm.trans eo)
      subst e_o2
      have hS2 := hS.add h4 (d := (0, o2, 0, 0, fun _ => 0, fun _ => 0)) (f := 4294967295) (h2 := 4294967295) (od' := va_up od cnt o2) (fa' := zR (12 * cnt) 12 fa) (st' := zR (64 * cnt) 64 st) (fun q => absurd (show 0 = 0 from rfl) q) (fun s hs => va_up_no (by omega)) (fun x hx => by unfold zR; rw [if_neg (by omega)]) (fun x hx => by unfold zR; rw [if_neg (by omega)]) ⟨va_up_eq, by show 0 ≤ 7; omega, fun _ => ⟨va_up_eq, show o2 ≤ 3 by omega, fun k hk => by unfold zR; rw [if_pos (by omega)]; rfl, fun m hm => by unfold zR; rw [if_pos (by omega)]; rfl⟩, fun q => absurd (show 0 = 0 from rfl) q, fun _ _ => by show 0 < 32003; omega, fun _ _ => by show 0 < 32003; omega⟩
      obtain ⟨q1, q2, q3⟩ := hJ.fin hR hF hMo2 hS2 b1 b2 b3 hg
      exact ⟨q1, q2, q3, fun _ => by rw [efo, ex, er2]⟩
  · rcases hx with ⟨rfl, h4⟩ | ⟨rfl, h4, hn⟩
    · have er : r = nI 1 := hc.elim (fun q => q.2) (fun q => absurd q.1 (by decide))
      have hJ := hj.mid
      rw [← ew] at hJ
      refine ⟨1, σ, cnt, γ, ro, foO, er, by omega, hJ, by rw [ew]; exact hOu, ?_⟩
      intro ml cd ki on tw od fa st rs me fo fd ba ta by9 nd hR hMo hS b1 b2 b3 hg r2 w2 hp
      obtain ⟨hF, hp⟩ := hp
      have hc0 : fnC cnt o9 = 1 := by unfold fnC; rw [if_pos (by omega)]
      rw [hc0] at hp
      rcases hp with ⟨-, hMo2⟩ | ⟨q, -⟩
      · obtain ⟨q1, q2, q3⟩ := hJ.fin hR hF hMo2 hS b1 b2 b3 hg
        exact ⟨q1, q2, q3, fun h9 => absurd h9 (by omega)⟩
      · exact absurd q (by omega)
    · have er : r = nI 2 := hc.elim (fun q => absurd q.1 (by decide)) (fun q => q.2)
      have hJ := hj.mid
      rw [← ew] at hJ
      refine ⟨2, σ, cnt, γ, ro, foO, er, by omega, hJ, by rw [ew]; exact hOu, ?_⟩
      intro ml cd ki on tw od fa st rs me fo fd ba ta by9 nd hR hMo hS b1 b2 b3 hg r2 w2 hp
      obtain ⟨hF, hp⟩ := hp
      have hc0 : fnC cnt o9 = 2 := by unfold fnC; rw [if_neg (by omega), if_neg (fun q => hn (inO_iff.mp (of_decide_eq_true q)))]
      rw [hc0] at hp
      rcases hp with ⟨-, hMo2⟩ | ⟨q, -⟩
      · obtain ⟨q1, q2, q3⟩ := hJ.fin hR hF hMo2 hS b1 b2 b3 hg
        exact ⟨q1, q2, q3, fun h9 => absurd h9 (by omega)⟩
      · exact absurd q (by omega)

theorem j_factor {g : Nat → ClassId} {ad : Nat → Nat} {w w1 : Wd} {ro : Nat → Nat} {x mo ou : Nat} {σ : Nat → SD} {cnt : Nat} {γ : GU} {r : Int32} {f9 : Int32} {i9 : Int32} {p9 : Int32} {v9 : Int64} (hj : jI g ad w ro x mo ou σ cnt γ) (h : (∃ x9 w3 fo1, (∃ f i p, f < cnt ∧ f9 = nI f ∧ sTg (σ f) = 0 ∧ i < sP (σ f) + 1 ∧ p < 3 ∧ i9 = nI i ∧ p9 = nI p ∧ x9 = nI (bz (decide (sF (σ f) (i * 3 + p) ≠ rd v9.toInt))) ∧ xI g ad w3 ro x (va_up σ f (dF (σ f) (i * 3 + p) (rd v9.toInt))) cnt γ ∧ kpM w ro w3 ro) ∧ r = nI 0 ∧ fo1 0 = (if x9 = 0 then lN 0 else lN 1) ∧ w1 = hwu w3 ou (.inl (g 2, 1, .inr (.inl fo1)))) ∨ ∃ E, (w1 = w ∧ ((E = xNI ∧ ¬ inC cnt f9) ∨ (E = xNA ∧ ∃ f, f < cnt ∧ f9 = nI f ∧ ¬ (sTg (σ f) = 0 ∧ inC (sP (σ f) + 1) i9 ∧ inC 3 p9)))) ∧ ((E = xNI ∧ r = nI 1) ∨ (E = xNA ∧ r = nI 2))) : ∃ (k : Nat) (σ' : Nat → SD) (cnt' : Nat) (γ' : GU) (ro' : Nat → Nat) (fo1 : Nat → Int64), r = nI k ∧ k < 4 ∧ jM g ad w1 ro' x mo ou σ cnt γ σ' cnt' γ' ∧ w1 ou = some (.inl (g 2, 1, .inr (.inl fo1))) ∧ ∀ (ml : Nat → Nat) (cd : Nat) (ki on tw od fa st rs : Nat → Nat) (me fo fd : Nat) (ba ta by9 : Nat → Nat) (nd : Nat → Bool), moR ro' mo ml → moW g w1 mo ml cd cnt ki on tw od fa st rs me fo fd ba ta by9 nd → mS σ cnt ki on tw od fa st → (∀ x, x < 2560 → rs x < 32003) → (∀ x, x < 1280 → ta x < 32003) → (∀ x, x < 400 → ba x < 32003) → gaR γ me fo fd ba → ∀ (r2 : Int32) (w2 : Wd), (moF mo ml w1 w2 ∧ ((¬ inC cnt f9 ∧ moW g w2 mo ml 1 cnt ki on tw od fa st rs me fo fd ba ta by9 nd) ∨ ∃ f, f < cnt ∧ f9 = nI f ∧ ((¬ (sTg (σ f) = 0 ∧ inC (sP (σ f) + 1) i9 ∧ inC 3 p9) ∧ moW g w2 mo ml 2 cnt ki on tw od fa st rs me fo fd ba ta by9 nd) ∨ ∃ i p, sTg (σ f) = 0 ∧ i < sP (σ f) + 1 ∧ p < 3 ∧ i9 = nI i ∧ p9 = nI p ∧ r2 = nI (bz (decide (sF (σ f) (i * 3 + p) ≠ rd v9.toInt))) ∧ moW g w2 mo ml 0 cnt ki on tw od (va_up fa (12 * f + (i * 3 + p)) (rd v9.toInt)) st rs me fo fd ba ta by9 nd))) → jI g ad w2 ro' x mo ou σ' cnt' γ' ∧ mI g w2 ro' mo σ' cnt' γ' k ∧ w2 ou = w1 ou ∧ (k = 0 → fo1 0 = (if r2 = 0 then lN 0 else lN 1)) := by
  obtain ⟨-, -, ⟨foO, hOu⟩, hRo⟩ := id hj
  have h40 : cnt ≤ 40 := by obtain ⟨cd, ml, ki, on, tw, od, fa, st, rs, me, fo, fd, ba, ta, by9, nd, -, -, hS, -⟩ := hj.2.1; exact hS.1
  rcases h with ⟨x9, w3, fo1, ⟨f, i, p, hf, ef, ht, hi, hp0, ei, ep, ex, hI, hkp⟩, er, efo, ew⟩ | ⟨E, ⟨ew, hx⟩, hc⟩
  · have hJ := (hj.go hI hkp).out fo1
    rw [← ew] at hJ
    refine ⟨0, _, _, γ, ro, fo1, er, by omega, hJ, by rw [ew]; exact hwu_eq, ?_⟩
    intro ml cd ki on tw od fa st rs me fo fd ba ta by9 nd hR hMo hS b1 b2 b3 hg r2 w2 hp
    obtain ⟨hF, hp⟩ := hp
    rcases hp with ⟨q, -⟩ | ⟨f2, hf2, ef2, hp⟩
    · exact absurd ⟨f, hf, ef⟩ q
    · have e_f2 : f2 = f := nI_one (by omega) (by omega) (ef2.symm.trans ef)
      subst e_f2
      rcases hp with ⟨q, -⟩ | ⟨i2, p2, -, hi2, hp2, ei2, ep2, er2, hMo2⟩
      · exact absurd ⟨ht, ⟨i, hi, ei⟩, ⟨p, hp0, ep⟩⟩ q
      · have hq3 := (hS.2.2 f2 hf).2.2.1 ht
        have hq4 := hq3.2.1
        have e_i2 : i2 = i := nI_one (by omega) (by omega) (ei2.symm.trans ei)
        subst e_i2
        have e_p2 : p2 = p := nI_one (by omega) (by omega) (ep2.symm.trans ep)
        subst e_p2
        obtain ⟨q1, q2, q3⟩ := hJ.fin hR hF hMo2 (hS.chF hf ht (show i2 * 3 + p2 < 12 by omega) (rd_lt _)) b1 b2 b3 hg
        exact ⟨q1, q2, q3, fun _ => by rw [efo, ex, er2]⟩
  · rcases hx with ⟨rfl, hn⟩ | ⟨rfl, f, hf, ef, hn⟩
    · have er : r = nI 1 := hc.elim (fun q => q.2) (fun q => absurd q.1 (by decide))
      have hJ := hj.mid
      rw [← ew] at hJ
      refine ⟨1, σ, cnt, γ, ro, foO, er, by omega, hJ, by rw [ew]; exact hOu, ?_⟩
      intro ml cd ki on tw od fa st rs me fo fd ba ta by9 nd hR hMo hS b1 b2 b3 hg r2 w2 hp
      obtain ⟨hF, hp⟩ := hp
      rcases hp with ⟨-, hMo2⟩ | ⟨f2, hf2, ef2, -⟩
      · obtain ⟨q1, q2, q3⟩ := hJ.fin hR hF hMo2 hS b1 b2 b3 hg
        exact ⟨q1, q2, q3, fun h9 => absurd h9 (by omega)⟩
      · exact absurd ⟨f2, hf2, ef2⟩ hn
    · have er : r = nI 2 := hc.elim (fun q => absurd q.1 (by decide)) (fun q => q.2)
      have hJ := hj.mid
      rw [← ew] at hJ
      refine ⟨2, σ, cnt, γ, ro, foO, er, by omega, hJ, by rw [ew]; exact hOu, ?_⟩
      intro ml cd ki on tw od fa st rs me fo fd ba ta by9 nd hR hMo hS b1 b2 b3 hg r2 w2 hp
      obtain ⟨hF, hp⟩ := hp
      rcases hp with ⟨q, -⟩ | ⟨f2, hf2, ef2, hp⟩
      · exact absurd ⟨f, hf, ef⟩ q
      · have e_f2 : f2 = f := nI_one (by omega) (by omega) (ef2.symm.trans ef)
        subst e_f2
        rcases hp with ⟨-, hMo2⟩ | ⟨i2, p2, ht2, hi2, hp2, ei2, ep2, -⟩
        · obtain ⟨q1, q2, q3⟩ := hJ.fin hR hF hMo2 hS b1 b2 b3 hg
          exact ⟨q1, q2, q3, fun h9 => absurd h9 (by omega)⟩
        · exact absurd ⟨ht2, ⟨i2, hi2, ei2⟩, ⟨p2, hp2, ep2⟩⟩ hn

theorem j_start {g : Nat → ClassId} {ad : Nat → Nat} {w w1 : Wd} {ro : Nat → Nat} {x mo ou : Nat} {σ : Nat → SD} {cnt : Nat} {γ : GU} {r : Int32} {f9 : Int32} {n9 : Int32} {v9 : Int64} (hj : jI g ad w ro x mo ou σ cnt γ) (h : (∃ x9 w3 fo1, (∃ f n, f < cnt ∧ n < 64 ∧ f9 = nI f ∧ n9 = nI n ∧ sTg (σ f) = 0 ∧ x9 = nI (bz (decide (sS (σ f) n ≠ rd v9.toInt))) ∧ xI g ad w3 ro x (va_up σ f (dS (σ f) n (rd v9.toInt))) cnt γ ∧ kpM w ro w3 ro) ∧ r = nI 0 ∧ fo1 0 = (if x9 = 0 then lN 0 else lN 1) ∧ w1 = hwu w3 ou (.inl (g 2, 1, .inr (.inl fo1)))) ∨ ∃ E, (w1 = w ∧ ((E = xNI ∧ ¬ (inC cnt f9 ∧ inC 64 n9)) ∨ (E = xNA ∧ inC 64 n9 ∧ ∃ f, f < cnt ∧ f9 = nI f ∧ sTg (σ f) ≠ 0))) ∧ ((E = xNI ∧ r = nI 1) ∨ (E = xNA ∧ r = nI 2))) : ∃ (k : Nat) (σ' : Nat → SD) (cnt' : Nat) (γ' : GU) (ro' : Nat → Nat) (fo1 : Nat → Int64), r = nI k ∧ k < 4 ∧ jM g ad w1 ro' x mo ou σ cnt γ σ' cnt' γ' ∧ w1 ou = some (.inl (g 2, 1, .inr (.inl fo1))) ∧ ∀ (ml : Nat → Nat) (cd : Nat) (ki on tw od fa st rs : Nat → Nat) (me fo fd : Nat) (ba ta by9 : Nat → Nat) (nd : Nat → Bool), moR ro' mo ml → moW g w1 mo ml cd cnt ki on tw od fa st rs me fo fd ba ta by9 nd → mS σ cnt ki on tw od fa st → (∀ x, x < 2560 → rs x < 32003) → (∀ x, x < 1280 → ta x < 32003) → (∀ x, x < 400 → ba x < 32003) → gaR γ me fo fd ba → ∀ (r2 : Int32) (w2 : Wd), (moF mo ml w1 w2 ∧ ((¬ (inC cnt f9 ∧ inC 64 n9) ∧ moW g w2 mo ml 1 cnt ki on tw od fa st rs me fo fd ba ta by9 nd) ∨ ∃ f n, f < cnt ∧ n < 64 ∧ f9 = nI f ∧ n9 = nI n ∧ ((sTg (σ f) ≠ 0 ∧ moW g w2 mo ml 2 cnt ki on tw od fa st rs me fo fd ba ta by9 nd) ∨ (sTg (σ f) = 0 ∧ r2 = nI (bz (decide (sS (σ f) n ≠ rd v9.toInt))) ∧ moW g w2 mo ml 0 cnt ki on tw od fa (va_up st (64 * f + n) (rd v9.toInt)) rs me fo fd ba ta by9 nd)))) → jI g ad w2 ro' x mo ou σ' cnt' γ' ∧ mI g w2 ro' mo σ' cnt' γ' k ∧ w2 ou = w1 ou ∧ (k = 0 → fo1 0 = (if r2 = 0 then lN 0 else lN 1)) := by
  obtain ⟨-, -, ⟨foO, hOu⟩, hRo⟩ := id hj
  have h40 : cnt ≤ 40 := by obtain ⟨cd, ml, ki, on, tw, od, fa, st, rs, me, fo, fd, ba, ta, by9, nd, -, -, hS, -⟩ := hj.2.1; exact hS.1
  rcases h with ⟨x9, w3, fo1, ⟨f, n, hf, hn, ef, en, ht, ex, hI, hkp⟩, er, efo, ew⟩ | ⟨E, ⟨ew, hx⟩, hc⟩
  · have hJ := (hj.go hI hkp).out fo1
    rw [← ew] at hJ
    refine ⟨0, _, _, γ, ro, fo1, er, by omega, hJ, by rw [ew]; exact hwu_eq, ?_⟩
    intro ml cd ki on tw od fa st rs me fo fd ba ta by9 nd hR hMo hS b1 b2 b3 hg r2 w2 hp
    obtain ⟨hF, hp⟩ := hp
    rcases hp with ⟨q, -⟩ | ⟨f2, n2, hf2, hn2, ef2, en2, hp⟩
    · exact absurd ⟨⟨f, hf, ef⟩, ⟨n, hn, en⟩⟩ q
    · have e_f2 : f2 = f := nI_one (by omega) (by omega) (ef2.symm.trans ef)
      subst e_f2
      have e_n2 : n2 = n := nI_one (by omega) (by omega) (en2.symm.trans en)
      subst e_n2
      rcases hp with ⟨q, -⟩ | ⟨-, er2, hMo2⟩
      · exact absurd ht q
      · obtain ⟨q1, q2, q3⟩ := hJ.fin hR hF hMo2 (hS.chS hf ht hn (rd_lt _)) b1 b2 b3 hg
        exact ⟨q1, q2, q3, fun _ => by rw [efo, ex, er2]⟩
  · rcases hx with ⟨rfl, hn⟩ | ⟨rfl, hn, f, hf, ef, ht⟩
    · have er : r = nI 1 := hc.elim (fun q => q.2) (fun q => absurd q.1 (by decide))
      have hJ := hj.mid
      rw [← ew] at hJ
      refine ⟨1, σ, cnt, γ, ro, foO, er, by omega, hJ, by rw [ew]; exact hOu, ?_⟩
      intro ml cd ki on tw od fa st rs me fo fd ba ta by9 nd hR hMo hS b1 b2 b3 hg r2 w2 hp
      obtain ⟨hF, hp⟩ := hp
      rcases hp with ⟨-, hMo2⟩ | ⟨f2, n2, hf2, hn2, ef2, en2, -⟩
      · obtain ⟨q1, q2, q3⟩ := hJ.fin hR hF hMo2 hS b1 b2 b3 hg
        exact ⟨q1, q2, q3, fun h9 => absurd h9 (by omega)⟩
      · exact absurd ⟨⟨f2, hf2, ef2⟩, ⟨n2, hn2, en2⟩⟩ hn
    · have er : r = nI 2 := hc.elim (fun q => absurd q.1 (by decide)) (fun q => q.2)
      have hJ := hj.mid
      rw [← ew] at hJ
      refine ⟨2, σ, cnt, γ, ro, foO, er, by omega, hJ, by rw [ew]; exact hOu, ?_⟩
      intro ml cd ki on tw od fa st rs me fo fd ba ta by9 nd hR hMo hS b1 b2 b3 hg r2 w2 hp
      obtain ⟨hF, hp⟩ := hp
      rcases hp with ⟨q, -⟩ | ⟨f2, n2, hf2, hn2, ef2, en2, hp⟩
      · exact absurd ⟨⟨f, hf, ef⟩, hn⟩ q
      · have e_f2 : f2 = f := nI_one (by omega) (by omega) (ef2.symm.trans ef)
        subst e_f2
        rcases hp with ⟨-, hMo2⟩ | ⟨q, -⟩
        · obtain ⟨q1, q2, q3⟩ := hJ.fin hR hF hMo2 hS b1 b2 b3 hg
          exact ⟨q1, q2, q3, fun h9 => absurd h9 (by omega)⟩
        · exact absurd q ht

theorem j_value {g : Nat → ClassId} {ad : Nat → Nat} {w w1 : Wd} {ro : Nat → Nat} {x mo ou : Nat} {σ : Nat → SD} {cnt : Nat} {γ : GU} {r : Int32} {f9 : Int32} {n9 : Int32} (hj : jI g ad w ro x mo ou σ cnt γ) (h : (∃ x9 w3 fo1, (∃ f n, f < cnt ∧ n < 64 ∧ f9 = nI f ∧ n9 = nI n ∧ x9 = nI (sval σ f n) ∧ xI g ad w3 ro x σ cnt γ ∧ kpM w ro w3 ro) ∧ r = nI 0 ∧ fo1 0 = x9.toInt64 ∧ w1 = hwu w3 ou (.inl (g 2, 1, .inr (.inl fo1)))) ∨ ∃ E, (E = xNI ∧ w1 = w ∧ ¬ (inC cnt f9 ∧ inC 64 n9)) ∧ ((E = xNI ∧ r = nI 1))) : ∃ (k : Nat) (σ' : Nat → SD) (cnt' : Nat) (γ' : GU) (ro' : Nat → Nat) (fo1 : Nat → Int64), r = nI k ∧ k < 4 ∧ jM g ad w1 ro' x mo ou σ cnt γ σ' cnt' γ' ∧ w1 ou = some (.inl (g 2, 1, .inr (.inl fo1))) ∧ ∀ (ml : Nat → Nat) (cd : Nat) (ki on tw od fa st rs : Nat → Nat) (me fo fd : Nat) (ba ta by9 : Nat → Nat) (nd : Nat → Bool), moR ro' mo ml → moW g w1 mo ml cd cnt ki on tw od fa st rs me fo fd ba ta by9 nd → mS σ cnt ki on tw od fa st → (∀ x, x < 2560 → rs x < 32003) → (∀ x, x < 1280 → ta x < 32003) → (∀ x, x < 400 → ba x < 32003) → gaR γ me fo fd ba → ∀ (r2 : Int32) (w2 : Wd), (moF mo ml w1 w2 ∧ ((¬ (inC cnt f9 ∧ inC 64 n9) ∧ moW g w2 mo ml 1 cnt ki on tw od fa st rs me fo fd ba ta by9 nd) ∨ ∃ f n rs1, f < cnt ∧ n < 64 ∧ f9 = nI f ∧ n9 = nI n ∧ r2 = nI (sval σ f n) ∧ moW g w2 mo ml 0 cnt ki on tw od fa st rs1 me fo fd ba ta by9 nd ∧ ∀ x, x < 2560 → rs1 x < 32003)) → jI g ad w2 ro' x mo ou σ' cnt' γ' ∧ mI g w2 ro' mo σ' cnt' γ' k ∧ w2 ou = w1 ou ∧ (k = 0 → fo1 0 = r2.toInt64) := by
  obtain ⟨-, -, ⟨foO, hOu⟩, hRo⟩ := id hj
  have h40 : cnt ≤ 40 := by obtain ⟨cd, ml, ki, on, tw, od, fa, st, rs, me, fo, fd, ba, ta, by9, nd, -, -, hS, -⟩ := hj.2.1; exact hS.1
  rcases h with ⟨x9, w3, fo1, ⟨f, h, hf, hh, ef, eh, ex, hI, hkp⟩, er, efo, ew⟩ | ⟨E, ⟨rfl, ew, hn⟩, hc⟩
  · have hJ := (hj.go hI hkp).out fo1
    rw [← ew] at hJ
    refine ⟨0, _, _, γ, ro, fo1, er, by omega, hJ, by rw [ew]; exact hwu_eq, ?_⟩
    intro ml cd ki on tw od fa st rs me fo fd ba ta by9 nd hR hMo hS b1 b2 b3 hg r2 w2 hp
    obtain ⟨hF, hp⟩ := hp
    rcases hp with ⟨q, -⟩ | ⟨f2, h2, rs1, hf2, hh2, ef2, eh2, er2, hMo2, b12⟩
    · exact absurd ⟨⟨f, hf, ef⟩, ⟨h, hh, eh⟩⟩ q
    · have e_f2 : f2 = f := nI_one (by omega) (by omega) (ef2.symm.trans ef)
      subst e_f2
      have e_h2 : h2 = h := nI_one (by omega) (by omega) (eh2.symm.trans eh)
      subst e_h2
      obtain ⟨q1, q2, q3⟩ := hJ.fin hR hF hMo2 hS b12 b2 b3 hg
      exact ⟨q1, q2, q3, fun _ => by rw [efo, ex, er2]⟩
  · have er : r = nI 1 := hc.2
    have hJ := hj.mid
    rw [← ew] at hJ
    refine ⟨1, σ, cnt, γ, ro, foO, er, by omega, hJ, by rw [ew]; exact hOu, ?_⟩
    intro ml cd ki on tw od fa st rs me fo fd ba ta by9 nd hR hMo hS b1 b2 b3 hg r2 w2 hp
    obtain ⟨hF, hp⟩ := hp
    rcases hp with ⟨-, hMo2⟩ | ⟨f2, h2, _, hf2, hh2, ef2, eh2, -⟩
    · obtain ⟨q1, q2, q3⟩ := hJ.fin hR hF hMo2 hS b1 b2 b3 hg
      exact ⟨q1, q2, q3, fun h9 => absurd h9 (by omega)⟩
    · exact absurd ⟨⟨f2, hf2, ef2⟩, ⟨h2, hh2, eh2⟩⟩ hn

theorem j_differ {g : Nat → ClassId} {ad : Nat → Nat} {w w1 : Wd} {ro : Nat → Nat} {x mo ou : Nat} {σ : Nat → SD} {cnt : Nat} {γ : GU} {r : Int32} {f9 : Int32} {g9 : Int32} (hj : jI g ad w ro x mo ou σ cnt γ) (h : (∃ x9 w3 fo1, (∃ f h, f < cnt ∧ h < cnt ∧ f9 = nI f ∧ g9 = nI h ∧ dif (sval σ f) (sval σ h) x9 ∧ xI g ad w3 ro x σ cnt γ ∧ kpM w ro w3 ro) ∧ r = nI 0 ∧ fo1 0 = x9.toInt64 ∧ w1 = hwu w3 ou (.inl (g 2, 1, .inr (.inl fo1)))) ∨ ∃ E, (E = xNI ∧ w1 = w ∧ ¬ (inC cnt f9 ∧ inC cnt g9)) ∧ ((E = xNI ∧ r = nI 1))) : ∃ (k : Nat) (σ' : Nat → SD) (cnt' : Nat) (γ' : GU) (ro' : Nat → Nat) (fo1 : Nat → Int64), r = nI k ∧ k < 4 ∧ jM g ad w1 ro' x mo ou σ cnt γ σ' cnt' γ' ∧ w1 ou = some (.inl (g 2, 1, .inr (.inl fo1))) ∧ ∀ (ml : Nat → Nat) (cd : Nat) (ki on tw od fa st rs : Nat → Nat) (me fo fd : Nat) (ba ta by9 : Nat → Nat) (nd : Nat → Bool), moR ro' mo ml → moW g w1 mo ml cd cnt ki on tw od fa st rs me fo fd ba ta by9 nd → mS σ cnt ki on tw od fa st → (∀ x, x < 2560 → rs x < 32003) → (∀ x, x < 1280 → ta x < 32003) → (∀ x, x < 400 → ba x < 32003) → gaR γ me fo fd ba → ∀ (r2 : Int32) (w2 : Wd), (moF mo ml w1 w2 ∧ ((¬ (inC cnt f9 ∧ inC cnt g9) ∧ moW g w2 mo ml 1 cnt ki on tw od fa st rs me fo fd ba ta by9 nd) ∨ ∃ f h rs1, f < cnt ∧ h < cnt ∧ f9 = nI f ∧ g9 = nI h ∧ dif (sval σ f) (sval σ h) r2 ∧ moW g w2 mo ml 0 cnt ki on tw od fa st rs1 me fo fd ba ta by9 nd ∧ ∀ x, x < 2560 → rs1 x < 32003)) → jI g ad w2 ro' x mo ou σ' cnt' γ' ∧ mI g w2 ro' mo σ' cnt' γ' k ∧ w2 ou = w1 ou ∧ (k = 0 → fo1 0 = r2.toInt64) := by
  obtain ⟨-, -, ⟨foO, hOu⟩, hRo⟩ := id hj
  have h40 : cnt ≤ 40 := by obtain ⟨cd, ml, ki, on, tw, od, fa, st, rs, me, fo, fd, ba, ta, by9, nd, -, -, hS, -⟩ := hj.2.1; exact hS.1
  rcases h with ⟨x9, w3, fo1, ⟨f, h, hf, hh, ef, eh, ex, hI, hkp⟩, er, efo, ew⟩ | ⟨E, ⟨rfl, ew, hn⟩, hc⟩
  · have hJ := (hj.go hI hkp).out fo1
    rw [← ew] at hJ
    refine ⟨0, _, _, γ, ro, fo1, er, by omega, hJ, by rw [ew]; exact hwu_eq, ?_⟩
    intro ml cd ki on tw od fa st rs me fo fd ba ta by9 nd hR hMo hS b1 b2 b3 hg r2 w2 hp
    obtain ⟨hF, hp⟩ := hp
    rcases hp with ⟨q, -⟩ | ⟨f2, h2, rs1, hf2, hh2, ef2, eh2, er2, hMo2, b12⟩
    · exact absurd ⟨⟨f, hf, ef⟩, ⟨h, hh, eh⟩⟩ q
    · have e_f2 : f2 = f := nI_one (by omega) (by omega) (ef2.symm.trans ef)
      subst e_f2
      have e_h2 : h2 = h := nI_one (by omega) (by omega) (eh2.symm.trans eh)
      subst e_h2
      obtain ⟨q1, q2, q3⟩ := hJ.fin hR hF hMo2 hS b12 b2 b3 hg
      exact ⟨q1, q2, q3, fun _ => by rw [efo, dif_one ex er2]⟩
  · have er : r = nI 1 := hc.2
    have hJ := hj.mid
    rw [← ew] at hJ
    refine ⟨1, σ, cnt, γ, ro, foO, er, by omega, hJ, by rw [ew]; exact hOu, ?_⟩
    intro ml cd ki on tw od fa st rs me fo fd ba ta by9 nd hR hMo hS b1 b2 b3 hg r2 w2 hp
    obtain ⟨hF, hp⟩ := hp
    rcases hp with ⟨-, hMo2⟩ | ⟨f2, h2, _, hf2, hh2, ef2, eh2, -⟩
    · obtain ⟨q1, q2, q3⟩ := hJ.fin hR hF hMo2 hS b1 b2 b3 hg
      exact ⟨q1, q2, q3, fun h9 => absurd h9 (by omega)⟩
    · exact absurd ⟨⟨f2, hf2, ef2⟩, ⟨h2, hh2, eh2⟩⟩ hn

theorem j_hangs {g : Nat → ClassId} {ad : Nat → Nat} {w w1 : Wd} {ro : Nat → Nat} {x mo ou : Nat} {σ : Nat → SD} {cnt : Nat} {γ : GU} {r : Int32} {f9 : Int32} {g9 : Int32} (hj : jI g ad w ro x mo ou σ cnt γ) (h : (∃ x9 w3 fo1, (∃ f h, f < cnt ∧ h < cnt ∧ f9 = nI f ∧ g9 = nI h ∧ x9 = nI (bz (sdep σ f h)) ∧ w3 = w) ∧ r = nI 0 ∧ fo1 0 = (if x9 = 0 then lN 0 else lN 1) ∧ w1 = hwu w3 ou (.inl (g 2, 1, .inr (.inl fo1)))) ∨ ∃ E, (E = xNI ∧ w1 = w ∧ ¬ (inC cnt f9 ∧ inC cnt g9)) ∧ ((E = xNI ∧ r = nI 1))) : ∃ (k : Nat) (σ' : Nat → SD) (cnt' : Nat) (γ' : GU) (ro' : Nat → Nat) (fo1 : Nat → Int64), r = nI k ∧ k < 4 ∧ jM g ad w1 ro' x mo ou σ cnt γ σ' cnt' γ' ∧ w1 ou = some (.inl (g 2, 1, .inr (.inl fo1))) ∧ ∀ (ml : Nat → Nat) (cd : Nat) (ki on tw od fa st rs : Nat → Nat) (me fo fd : Nat) (ba ta by9 : Nat → Nat) (nd : Nat → Bool), moR ro' mo ml → moW g w1 mo ml cd cnt ki on tw od fa st rs me fo fd ba ta by9 nd → mS σ cnt ki on tw od fa st → (∀ x, x < 2560 → rs x < 32003) → (∀ x, x < 1280 → ta x < 32003) → (∀ x, x < 400 → ba x < 32003) → gaR γ me fo fd ba → ∀ (r2 : Int32) (w2 : Wd), (moF mo ml w1 w2 ∧ ((¬ (inC cnt f9 ∧ inC cnt g9) ∧ moW g w2 mo ml 1 cnt ki on tw od fa st rs me fo fd ba ta by9 nd) ∨ ∃ f h nd1, f < cnt ∧ h < cnt ∧ f9 = nI f ∧ g9 = nI h ∧ r2 = nI (bz (sdep σ f h)) ∧ moW g w2 mo ml 0 cnt ki on tw od fa st rs me fo fd ba ta by9 nd1)) → jI g ad w2 ro' x mo ou σ' cnt' γ' ∧ mI g w2 ro' mo σ' cnt' γ' k ∧ w2 ou = w1 ou ∧ (k = 0 → fo1 0 = (if r2 = 0 then lN 0 else lN 1)) := by
  obtain ⟨-, -, ⟨foO, hOu⟩, hRo⟩ := id hj
  have h40 : cnt ≤ 40 := by obtain ⟨cd, ml, ki, on, tw, od, fa, st, rs, me, fo, fd, ba, ta, by9, nd, -, -, hS, -⟩ := hj.2.1; exact hS.1
  rcases h with ⟨x9, w3, fo1, ⟨f, h, hf, hh, ef, eh, ex, ew3⟩, er, efo, ew⟩ | ⟨E, ⟨rfl, ew, hn⟩, hc⟩
  · subst ew3
    have hJ := hj.mid.out fo1
    rw [← ew] at hJ
    refine ⟨0, _, _, γ, ro, fo1, er, by omega, hJ, by rw [ew]; exact hwu_eq, ?_⟩
    intro ml cd ki on tw od fa st rs me fo fd ba ta by9 nd hR hMo hS b1 b2 b3 hg r2 w2 hp
    obtain ⟨hF, hp⟩ := hp
    rcases hp with ⟨q, -⟩ | ⟨f2, h2, nd1, hf2, hh2, ef2, eh2, er2, hMo2⟩
    · exact absurd ⟨⟨f, hf, ef⟩, ⟨h, hh, eh⟩⟩ q
    · have e_f2 : f2 = f := nI_one (by omega) (by omega) (ef2.symm.trans ef)
      subst e_f2
      have e_h2 : h2 = h := nI_one (by omega) (by omega) (eh2.symm.trans eh)
      subst e_h2
      obtain ⟨q1, q2, q3⟩ := hJ.fin hR hF hMo2 hS b1 b2 b3 hg
      exact ⟨q1, q2, q3, fun _ => by rw [efo, ex, er2]⟩
  · have er : r = nI 1 := hc.2
    have hJ := hj.mid
    rw [← ew] at hJ
    refine ⟨1, σ, cnt, γ, ro, foO, er, by omega, hJ, by rw [ew]; exact hOu, ?_⟩
    intro ml cd ki on tw od fa st rs me fo fd ba ta by9 nd hR hMo hS b1 b2 b3 hg r2 w2 hp
    obtain ⟨hF, hp⟩ := hp
    rcases hp with ⟨-, hMo2⟩ | ⟨f2, h2, _, hf2, hh2, ef2, eh2, -⟩
    · obtain ⟨q1, q2, q3⟩ := hJ.fin hR hF hMo2 hS b1 b2 b3 hg
      exact ⟨q1, q2, q3, fun h9 => absurd h9 (by omega)⟩
    · exact absurd ⟨⟨f2, hf2, ef2⟩, ⟨h2, hh2, eh2⟩⟩ hn

theorem j_singular {g : Nat → ClassId} {ad : Nat → Nat} {w w1 : Wd} {ro : Nat → Nat} {x mo ou : Nat} {σ : Nat → SD} {cnt : Nat} {γ : GU} {r : Int32} {f9 : Int32} (hj : jI g ad w ro x mo ou σ cnt γ) (h : (∃ x9 w3 fo1, (∃ f, f < cnt ∧ f9 = nI f ∧ sTg (σ f) = 0 ∧ sing (sP (σ f)) (sF (σ f)) x9 ∧ w3 = w) ∧ r = nI 0 ∧ fo1 0 = x9.toInt64 ∧ w1 = hwu w3 ou (.inl (g 2, 1, .inr (.inl fo1)))) ∨ ∃ E, (w1 = w ∧ ((E = xNI ∧ ¬ inC cnt f9) ∨ (E = xNA ∧ ∃ f, f < cnt ∧ f9 = nI f ∧ sTg (σ f) ≠ 0))) ∧ ((E = xNI ∧ r = nI 1) ∨ (E = xNA ∧ r = nI 2))) : ∃ (k : Nat) (σ' : Nat → SD) (cnt' : Nat) (γ' : GU) (ro' : Nat → Nat) (fo1 : Nat → Int64), r = nI k ∧ k < 4 ∧ jM g ad w1 ro' x mo ou σ cnt γ σ' cnt' γ' ∧ w1 ou = some (.inl (g 2, 1, .inr (.inl fo1))) ∧ ∀ (ml : Nat → Nat) (cd : Nat) (ki on tw od fa st rs : Nat → Nat) (me fo fd : Nat) (ba ta by9 : Nat → Nat) (nd : Nat → Bool), moR ro' mo ml → moW g w1 mo ml cd cnt ki on tw od fa st rs me fo fd ba ta by9 nd → mS σ cnt ki on tw od fa st → (∀ x, x < 2560 → rs x < 32003) → (∀ x, x < 1280 → ta x < 32003) → (∀ x, x < 400 → ba x < 32003) → gaR γ me fo fd ba → ∀ (r2 : Int32) (w2 : Wd), (moF mo ml w1 w2 ∧ ((¬ inC cnt f9 ∧ moW g w2 mo ml 1 cnt ki on tw od fa st rs me fo fd ba ta by9 nd) ∨ ∃ f, f < cnt ∧ f9 = nI f ∧ ((sTg (σ f) ≠ 0 ∧ moW g w2 mo ml 2 cnt ki on tw od fa st rs me fo fd ba ta by9 nd) ∨ (sTg (σ f) = 0 ∧ sing (sP (σ f)) (sF (σ f)) r2 ∧ moW g w2 mo ml 0 cnt ki on tw od fa st rs me fo fd ba ta by9 nd)))) → jI g ad w2 ro' x mo ou σ' cnt' γ' ∧ mI g w2 ro' mo σ' cnt' γ' k ∧ w2 ou = w1 ou ∧ (k = 0 → fo1 0 = r2.toInt64) := by
  obtain ⟨-, -, ⟨foO, hOu⟩, hRo⟩ := id hj
  have h40 : cnt ≤ 40 := by obtain ⟨cd, ml, ki, on, tw, od, fa, st, rs, me, fo, fd, ba, ta, by9, nd, -, -, hS, -⟩ := hj.2.1; exact hS.1
  rcases h with ⟨x9, w3, fo1, ⟨f, hf, ef, ht, ex, ew3⟩, er, efo, ew⟩ | ⟨E, ⟨ew, hx⟩, hc⟩
  · subst ew3
    have hJ := hj.mid.out fo1
    rw [← ew] at hJ
    refine ⟨0, _, _, γ, ro, fo1, er, by omega, hJ, by rw [ew]; exact hwu_eq, ?_⟩
    intro ml cd ki on tw od fa st rs me fo fd ba ta by9 nd hR hMo hS b1 b2 b3 hg r2 w2 hp
    obtain ⟨hF, hp⟩ := hp
    rcases hp with ⟨q, -⟩ | ⟨f2, hf2, ef2, hp⟩
    · exact absurd ⟨f, hf, ef⟩ q
    · have e_f2 : f2 = f := nI_one (by omega) (by omega) (ef2.symm.trans ef)
      subst e_f2
      rcases hp with ⟨q, -⟩ | ⟨-, er2, hMo2⟩
      · exact absurd ht q
      · obtain ⟨q1, q2, q3⟩ := hJ.fin hR hF hMo2 hS b1 b2 b3 hg
        exact ⟨q1, q2, q3, fun _ => by rw [efo, sing_one ex er2]⟩
  · rcases hx with ⟨rfl, hn⟩ | ⟨rfl, f, hf, ef, ht⟩
    · have er : r = nI 1 := hc.elim (fun q => q.2) (fun q => absurd q.1 (by decide))
      have hJ := hj.mid
      rw [← ew] at hJ
      refine ⟨1, σ, cnt, γ, ro, foO, er, by omega, hJ, by rw [ew]; exact hOu, ?_⟩
      intro ml cd ki on tw od fa st rs me fo fd ba ta by9 nd hR hMo hS b1 b2 b3 hg r2 w2 hp
      obtain ⟨hF, hp⟩ := hp
      rcases hp with ⟨-, hMo2⟩ | ⟨f2, hf2, ef2, -⟩
      · obtain ⟨q1, q2, q3⟩ := hJ.fin hR hF hMo2 hS b1 b2 b3 hg
        exact ⟨q1, q2, q3, fun h9 => absurd h9 (by omega)⟩
      · exact absurd ⟨f2, hf2, ef2⟩ hn
    · have er : r = nI 2 := hc.elim (fun q => absurd q.1 (by decide)) (fun q => q.2)
      have hJ := hj.mid
      rw [← ew] at hJ
      refine ⟨2, σ, cnt, γ, ro, foO, er, by omega, hJ, by rw [ew]; exact hOu, ?_⟩
      intro ml cd ki on tw od fa st rs me fo fd ba ta by9 nd hR hMo hS b1 b2 b3 hg r2 w2 hp
      obtain ⟨hF, hp⟩ := hp
      rcases hp with ⟨q, -⟩ | ⟨f2, hf2, ef2, hp⟩
      · exact absurd ⟨f, hf, ef⟩ q
      · have e_f2 : f2 = f := nI_one (by omega) (by omega) (ef2.symm.trans ef)
        subst e_f2
        rcases hp with ⟨-, hMo2⟩ | ⟨q, -⟩
        · obtain ⟨q1, q2, q3⟩ := hJ.fin hR hF hMo2 hS b1 b2 b3 hg
          exact ⟨q1, q2, q3, fun h9 => absurd h9 (by omega)⟩
        · exact absurd q ht

theorem j_least {g : Nat → ClassId} {ad : Nat → Nat} {w w1 : Wd} {ro : Nat → Nat} {x mo ou : Nat} {σ : Nat → SD} {cnt : Nat} {γ : GU} {r : Int32} {f9 : Int32} {d9 : Int32} (hj : jI g ad w ro x mo ou σ cnt γ) (h : (∃ x9 w3 fo1, (∃ f d, f < cnt ∧ d < 4 ∧ f9 = nI f ∧ d9 = nI d ∧ lst (sval σ f) d x9 ∧ xI g ad w3 ro x σ cnt γ ∧ kpM w ro w3 ro) ∧ r = nI 0 ∧ fo1 0 = x9.toInt64 ∧ w1 = hwu w3 ou (.inl (g 2, 1, .inr (.inl fo1)))) ∨ ∃ E, (w1 = w ∧ ((E = xNI ∧ ¬ inC cnt f9) ∨ (E = xNA ∧ inC cnt f9 ∧ ¬ inC 4 d9))) ∧ ((E = xNI ∧ r = nI 1) ∨ (E = xNA ∧ r = nI 2))) : ∃ (k : Nat) (σ' : Nat → SD) (cnt' : Nat) (γ' : GU) (ro' : Nat → Nat) (fo1 : Nat → Int64), r = nI k ∧ k < 4 ∧ jM g ad w1 ro' x mo ou σ cnt γ σ' cnt' γ' ∧ w1 ou = some (.inl (g 2, 1, .inr (.inl fo1))) ∧ ∀ (ml : Nat → Nat) (cd : Nat) (ki on tw od fa st rs : Nat → Nat) (me fo fd : Nat) (ba ta by9 : Nat → Nat) (nd : Nat → Bool), moR ro' mo ml → moW g w1 mo ml cd cnt ki on tw od fa st rs me fo fd ba ta by9 nd → mS σ cnt ki on tw od fa st → (∀ x, x < 2560 → rs x < 32003) → (∀ x, x < 1280 → ta x < 32003) → (∀ x, x < 400 → ba x < 32003) → gaR γ me fo fd ba → ∀ (r2 : Int32) (w2 : Wd), (moF mo ml w1 w2 ∧ ((¬ inC cnt f9 ∧ moW g w2 mo ml 1 cnt ki on tw od fa st rs me fo fd ba ta by9 nd) ∨ (inC cnt f9 ∧ ¬ inC 4 d9 ∧ moW g w2 mo ml 2 cnt ki on tw od fa st rs me fo fd ba ta by9 nd) ∨ ∃ f d rs1 ta1 by1, f < cnt ∧ d < 4 ∧ f9 = nI f ∧ d9 = nI d ∧ lst (sval σ f) d r2 ∧ moW g w2 mo ml 0 cnt ki on tw od fa st rs1 me fo fd ba ta1 by1 nd ∧ (∀ x, x < 2560 → rs1 x < 32003) ∧ ∀ x, x < 1280 → ta1 x < 32003)) → jI g ad w2 ro' x mo ou σ' cnt' γ' ∧ mI g w2 ro' mo σ' cnt' γ' k ∧ w2 ou = w1 ou ∧ (k = 0 → fo1 0 = r2.toInt64) := by
  obtain ⟨-, -, ⟨foO, hOu⟩, hRo⟩ := id hj
  have h40 : cnt ≤ 40 := by obtain ⟨cd, ml, ki, on, tw, od, fa, st, rs, me, fo, fd, ba, ta, by9, nd, -, -, hS, -⟩ := hj.2.1; exact hS.1
  rcases h with ⟨x9, w3, fo1, ⟨f, d, hf, hd, ef, ed, ex, hI, hkp⟩, er, efo, ew⟩ | ⟨E, ⟨ew, hx⟩, hc⟩
  · have hJ := (hj.go hI hkp).out fo1
    rw [← ew] at hJ
    refine ⟨0, _, _, γ, ro, fo1, er, by omega, hJ, by rw [ew]; exact hwu_eq, ?_⟩
    intro ml cd ki on tw od fa st rs me fo fd ba ta by9 nd hR hMo hS b1 b2 b3 hg r2 w2 hp
    obtain ⟨hF, hp⟩ := hp
    rcases hp with ⟨q, -⟩ | ⟨-, q, -⟩ | ⟨f2, d2, rs1, ta1, by1, hf2, hd2, ef2, ed2, er2, hMo2, b12, b22⟩
    · exact absurd ⟨f, hf, ef⟩ q
    · exact absurd ⟨d, hd, ed⟩ q
    · have e_f2 : f2 = f := nI_one (by omega) (by omega) (ef2.symm.trans ef)
      subst e_f2
      have e_d2 : d2 = d := nI_one (by omega) (by omega) (ed2.symm.trans ed)
      subst e_d2
      obtain ⟨q1, q2, q3⟩ := hJ.fin hR hF hMo2 hS b12 b22 b3 hg
      exact ⟨q1, q2, q3, fun _ => by rw [efo, lst_one ex er2]⟩
  · rcases hx with ⟨rfl, hn⟩ | ⟨rfl, hi, hn⟩
    · have er : r = nI 1 := hc.elim (fun q => q.2) (fun q => absurd q.1 (by decide))
      have hJ := hj.mid
      rw [← ew] at hJ
      refine ⟨1, σ, cnt, γ, ro, foO, er, by omega, hJ, by rw [ew]; exact hOu, ?_⟩
      intro ml cd ki on tw od fa st rs me fo fd ba ta by9 nd hR hMo hS b1 b2 b3 hg r2 w2 hp
      obtain ⟨hF, hp⟩ := hp
      rcases hp with ⟨-, hMo2⟩ | ⟨q, -⟩ | ⟨f2, d2, rs1, ta1, by1, hf2, hd2, ef2, -⟩
      · obtain ⟨q1, q2, q3⟩ := hJ.fin hR hF hMo2 hS b1 b2 b3 hg
        exact ⟨q1, q2, q3, fun h9 => absurd h9 (by omega)⟩
      · exact absurd q hn
      · exact absurd ⟨f2, hf2, ef2⟩ hn
    · have er : r = nI 2 := hc.elim (fun q => absurd q.1 (by decide)) (fun q => q.2)
      have hJ := hj.mid
      rw [← ew] at hJ
      refine ⟨2, σ, cnt, γ, ro, foO, er, by omega, hJ, by rw [ew]; exact hOu, ?_⟩
      intro ml cd ki on tw od fa st rs me fo fd ba ta by9 nd hR hMo hS b1 b2 b3 hg r2 w2 hp
      obtain ⟨hF, hp⟩ := hp
      rcases hp with ⟨q, -⟩ | ⟨-, -, hMo2⟩ | ⟨f2, d2, rs1, ta1, by1, hf2, hd2, ef2, ed2, -⟩
      · exact absurd hi q
      · obtain ⟨q1, q2, q3⟩ := hJ.fin hR hF hMo2 hS b1 b2 b3 hg
        exact ⟨q1, q2, q3, fun h9 => absurd h9 (by omega)⟩
      · exact absurd ⟨d2, hd2, ed2⟩ hn

theorem j_guess {g : Nat → ClassId} {ad : Nat → Nat} {w w1 : Wd} {ro : Nat → Nat} {x mo ou : Nat} {σ : Nat → SD} {cnt : Nat} {γ : GU} {r : Int32} {f9 : Int32} {o9 : Int32} {d9 : Int32} (hj : jI g ad w ro x mo ou σ cnt γ) (h : (∃ x9 w3 fo1, (∃ f o d, f < cnt ∧ o < 5 ∧ d < 4 ∧ f9 = nI f ∧ o9 = nI o ∧ d9 = nI d ∧ ∃ γ1 : GU, x9 = nI γ1.1 ∧ gsd (sval σ f) o d γ1 ∧ xI g ad w3 ro x σ cnt γ1 ∧ kpM w ro w3 ro) ∧ r = nI 0 ∧ fo1 0 = x9.toInt64 ∧ w1 = hwu w3 ou (.inl (g 2, 1, .inr (.inl fo1)))) ∨ ∃ E, (w1 = w ∧ ((E = xNI ∧ ¬ inC cnt f9) ∨ (E = xNA ∧ inC cnt f9 ∧ ¬ (inC 5 o9 ∧ inC 4 d9)))) ∧ ((E = xNI ∧ r = nI 1) ∨ (E = xNA ∧ r = nI 2))) : ∃ (k : Nat) (σ' : Nat → SD) (cnt' : Nat) (γ' : GU) (ro' : Nat → Nat) (fo1 : Nat → Int64), r = nI k ∧ k < 4 ∧ jM g ad w1 ro' x mo ou σ cnt γ σ' cnt' γ' ∧ w1 ou = some (.inl (g 2, 1, .inr (.inl fo1))) ∧ ∀ (ml : Nat → Nat) (cd : Nat) (ki on tw od fa st rs : Nat → Nat) (me fo fd : Nat) (ba ta by9 : Nat → Nat) (nd : Nat → Bool), moR ro' mo ml → moW g w1 mo ml cd cnt ki on tw od fa st rs me fo fd ba ta by9 nd → mS σ cnt ki on tw od fa st → (∀ x, x < 2560 → rs x < 32003) → (∀ x, x < 1280 → ta x < 32003) → (∀ x, x < 400 → ba x < 32003) → gaR γ me fo fd ba → ∀ (r2 : Int32) (w2 : Wd), (moF mo ml w1 w2 ∧ ((¬ inC cnt f9 ∧ moW g w2 mo ml 1 cnt ki on tw od fa st rs me fo fd ba ta by9 nd) ∨ (inC cnt f9 ∧ ¬ (inC 5 o9 ∧ inC 4 d9) ∧ moW g w2 mo ml 2 cnt ki on tw od fa st rs me fo fd ba ta by9 nd) ∨ ∃ f o d fe rs1 ta1 by1 ba1, f < cnt ∧ o < 5 ∧ d < 4 ∧ f9 = nI f ∧ o9 = nI o ∧ d9 = nI d ∧ r2 = nI fe ∧ fe ≤ 20 ∧ gsd (sval σ f) o d (fe, o, d, fun k y => ba1 (20 * k + ((o + 1) * (d + 1) - 1 - y))) ∧ moW g w2 mo ml 0 cnt ki on tw od fa st rs1 fe o d ba1 ta1 by1 nd ∧ (∀ x, x < 2560 → rs1 x < 32003) ∧ (∀ x, x < 1280 → ta1 x < 32003) ∧ ∀ x, x < 400 → ba1 x < 32003)) → jI g ad w2 ro' x mo ou σ' cnt' γ' ∧ mI g w2 ro' mo σ' cnt' γ' k ∧ w2 ou = w1 ou ∧ (k = 0 → fo1 0 = r2.toInt64) := by
  obtain ⟨-, -, ⟨foO, hOu⟩, hRo⟩ := id hj
  have h40 : cnt ≤ 40 := by obtain ⟨cd, ml, ki, on, tw, od, fa, st, rs, me, fo, fd, ba, ta, by9, nd, -, -, hS, -⟩ := hj.2.1; exact hS.1
  rcases h with ⟨x9, w3, fo1, ⟨f, o, d, hf, ho, hd, ef, eo, ed, γ1, ex, hgs, hI, hkp⟩, er, efo, ew⟩ | ⟨E, ⟨ew, hx⟩, hc⟩
  · have hJ := (hj.go hI hkp).out fo1
    rw [← ew] at hJ
    refine ⟨0, _, _, γ1, ro, fo1, er, by omega, hJ, by rw [ew]; exact hwu_eq, ?_⟩
    intro ml cd ki on tw od fa st rs me fo fd ba ta by9 nd hR hMo hS b1 b2 b3 hg r2 w2 hp
    obtain ⟨hF, hp⟩ := hp
    rcases hp with ⟨q, -⟩ | ⟨-, q, -⟩ | ⟨f2, o2, d2, fe, rs1, ta1, by1, ba1, hf2, ho2, hd2, ef2, eo2, ed2, er2, h20, hgs2, hMo2, b12, b22, b32⟩
    · exact absurd ⟨f, hf, ef⟩ q
    · exact absurd ⟨⟨o, ho, eo⟩, ⟨d, hd, ed⟩⟩ q
    · have e_f2 : f2 = f := nI_one (by omega) (by omega) (ef2.symm.trans ef)
      subst e_f2
      have e_o2 : o2 = o := nI_one (by omega) (by omega) (eo2.symm.trans eo)
      subst e_o2
      have e_d2 : d2 = d := nI_one (by omega) (by omega) (ed2.symm.trans ed)
      subst e_d2
      obtain ⟨u1, u2⟩ := gsd_one hgs hgs2
      have u1 : γ1.1 = fe := u1
      have hg2 : gaR γ1 fe o2 d2 ba1 := ⟨u1, h20, by omega, by omega, fun _ => ⟨hgs.1, hgs.2.1, fun k hk y hy => u2 k (by rw [u1]; exact hk) y hy⟩⟩
      obtain ⟨q1, q2, q3⟩ := hJ.fin hR hF hMo2 hS b12 b22 b32 hg2
      exact ⟨q1, q2, q3, fun _ => by rw [efo, ex, er2, u1]⟩
  · rcases hx with ⟨rfl, hn⟩ | ⟨rfl, hi, hn⟩
    · have er : r = nI 1 := hc.elim (fun q => q.2) (fun q => absurd q.1 (by decide))
      have hJ := hj.mid
      rw [← ew] at hJ
      refine ⟨1, σ, cnt, γ, ro, foO, er, by omega, hJ, by rw [ew]; exact hOu, ?_⟩
      intro ml cd ki on tw od fa st rs me fo fd ba ta by9 nd hR hMo hS b1 b2 b3 hg r2 w2 hp
      obtain ⟨hF, hp⟩ := hp
      rcases hp with ⟨-, hMo2⟩ | ⟨q, -⟩ | ⟨f2, o2, d2, fe, rs1, ta1, by1, ba1, hf2, ho2, hd2, ef2, -⟩
      · obtain ⟨q1, q2, q3⟩ := hJ.fin hR hF hMo2 hS b1 b2 b3 hg
        exact ⟨q1, q2, q3, fun h9 => absurd h9 (by omega)⟩
      · exact absurd q hn
      · exact absurd ⟨f2, hf2, ef2⟩ hn
    · have er : r = nI 2 := hc.elim (fun q => absurd q.1 (by decide)) (fun q => q.2)
      have hJ := hj.mid
      rw [← ew] at hJ
      refine ⟨2, σ, cnt, γ, ro, foO, er, by omega, hJ, by rw [ew]; exact hOu, ?_⟩
      intro ml cd ki on tw od fa st rs me fo fd ba ta by9 nd hR hMo hS b1 b2 b3 hg r2 w2 hp
      obtain ⟨hF, hp⟩ := hp
      rcases hp with ⟨q, -⟩ | ⟨-, -, hMo2⟩ | ⟨f2, o2, d2, fe, rs1, ta1, by1, ba1, hf2, ho2, hd2, ef2, eo2, ed2, -⟩
      · exact absurd hi q
      · obtain ⟨q1, q2, q3⟩ := hJ.fin hR hF hMo2 hS b1 b2 b3 hg
        exact ⟨q1, q2, q3, fun h9 => absurd h9 (by omega)⟩
      · exact absurd ⟨⟨o2, ho2, eo2⟩, ⟨d2, hd2, ed2⟩⟩ hn

theorem j_rule {g : Nat → ClassId} {ad : Nat → Nat} {w w1 : Wd} {ro : Nat → Nat} {x mo ou : Nat} {σ : Nat → SD} {cnt : Nat} {γ : GU} {r : Int32} {k9 : Int32} {i9 : Int32} {j9 : Int32} (hj : jI g ad w ro x mo ou σ cnt γ) (h : (∃ x9 w3 fo1, (∃ k, k < γ.1 ∧ k9 = nI k ∧ (∀ i j : Nat, i ≤ γ.2.1 → j ≤ γ.2.2.1 → i9 = nI i → j9 = nI j → x9 = nI (γ.2.2.2 k (i * (γ.2.2.1 + 1) + j))) ∧ (i9 < 0 ∨ nI γ.2.1 < i9 ∨ j9 < 0 ∨ nI γ.2.2.1 < j9 → x9 = nI 0) ∧ w3 = w) ∧ r = nI 0 ∧ fo1 0 = x9.toInt64 ∧ w1 = hwu w3 ou (.inl (g 2, 1, .inr (.inl fo1)))) ∨ ∃ E, (E = xNI ∧ w1 = w ∧ ¬ inC γ.1 k9) ∧ ((E = xNI ∧ r = nI 1))) : ∃ (k : Nat) (σ' : Nat → SD) (cnt' : Nat) (γ' : GU) (ro' : Nat → Nat) (fo1 : Nat → Int64), r = nI k ∧ k < 4 ∧ jM g ad w1 ro' x mo ou σ cnt γ σ' cnt' γ' ∧ w1 ou = some (.inl (g 2, 1, .inr (.inl fo1))) ∧ ∀ (ml : Nat → Nat) (cd : Nat) (ki on tw od fa st rs : Nat → Nat) (me fo fd : Nat) (ba ta by9 : Nat → Nat) (nd : Nat → Bool), moR ro' mo ml → moW g w1 mo ml cd cnt ki on tw od fa st rs me fo fd ba ta by9 nd → mS σ cnt ki on tw od fa st → (∀ x, x < 2560 → rs x < 32003) → (∀ x, x < 1280 → ta x < 32003) → (∀ x, x < 400 → ba x < 32003) → gaR γ me fo fd ba → ∀ (r2 : Int32) (w2 : Wd), (moF mo ml w1 w2 ∧ ((¬ inC me k9 ∧ moW g w2 mo ml 1 cnt ki on tw od fa st rs me fo fd ba ta by9 nd) ∨ ∃ k, k < me ∧ k9 = nI k ∧ moW g w2 mo ml 0 cnt ki on tw od fa st rs me fo fd ba ta by9 nd ∧ ((¬ (inC (fo + 1) i9 ∧ inC (fd + 1) j9) ∧ r2 = nI 0) ∨ ∃ i j, i ≤ fo ∧ j ≤ fd ∧ i9 = nI i ∧ j9 = nI j ∧ r2 = nI (ba (20 * k + (fo - i) * (fd + 1) + fd - j))))) → jI g ad w2 ro' x mo ou σ' cnt' γ' ∧ mI g w2 ro' mo σ' cnt' γ' k ∧ w2 ou = w1 ou ∧ (k = 0 → fo1 0 = r2.toInt64) := by
  obtain ⟨-, -, ⟨foO, hOu⟩, hRo⟩ := id hj
  have h40 : cnt ≤ 40 := by obtain ⟨cd, ml, ki, on, tw, od, fa, st, rs, me, fo, fd, ba, ta, by9, nd, -, -, hS, -⟩ := hj.2.1; exact hS.1
  rcases h with ⟨x9, w3, fo1, ⟨k, hk, ek, ex, ez, ew3⟩, er, efo, ew⟩ | ⟨E, ⟨rfl, ew, hn⟩, hc⟩
  · have hk20 : k < 20 := by obtain ⟨cd, ml, ki, on, tw, od, fa, st, rs, me, fo, fd, ba, ta, by9, nd, -, -, -, -, -, -, hg⟩ := hj.2.1; have := hg.1; have := hg.2.1; omega
    subst ew3
    have hJ := hj.mid.out fo1
    rw [← ew] at hJ
    refine ⟨0, _, _, γ, ro, fo1, er, by omega, hJ, by rw [ew]; exact hwu_eq, ?_⟩
    intro ml cd ki on tw od fa st rs me fo fd ba ta by9 nd hR hMo hS b1 b2 b3 hg r2 w2 hp
    obtain ⟨hF, hp⟩ := hp
    obtain ⟨g1, g2, g3, g4, g5⟩ := id hg
    rcases hp with ⟨q, -⟩ | ⟨k2, hk2, ek2, hMo2, hp⟩
    · exact absurd ⟨k, by omega, ek⟩ q
    · have e_k2 : k2 = k := nI_one (by omega) (by omega) (ek2.symm.trans ek)
      subst e_k2
      obtain ⟨g6, g7, g8⟩ := g5 (by omega)
      have hans : x9 = r2 := by
        rcases hp with ⟨hn, er2⟩ | ⟨i, j, hi, hj9, ei, ej, er2⟩
        · rw [er2]
          refine ez ?_
          rw [g6, g7]
          by_cases a1 : i9 < 0
          · exact Or.inl a1
          by_cases a2 : nI fo < i9
          · exact Or.inr (Or.inl a2)
          by_cases a3 : j9 < 0
          · exact Or.inr (Or.inr (Or.inl a3))
          by_cases a4 : nI fd < j9
          · exact Or.inr (Or.inr (Or.inr a4))
          exact absurd ⟨inC_le (by omega) a1 (Int32.not_lt.mp a2), inC_le (by omega) a3 (Int32.not_lt.mp a4)⟩ hn
        · have hb := fi_bl (d := fd) hi
          have hy : i * (fd + 1) + j < (fo + 1) * (fd + 1) := by omega
          rw [er2, ex i j (by omega) (by omega) ei ej, g7, g8 k2 hk2 _ hy, show (fo + 1) * (fd + 1) - 1 - (i * (fd + 1) + j) = (fo - i) * (fd + 1) + fd - j by omega, show 20 * k2 + ((fo - i) * (fd + 1) + fd - j) = 20 * k2 + (fo - i) * (fd + 1) + fd - j by omega]
      obtain ⟨q1, q2, q3⟩ := hJ.fin hR hF hMo2 hS b1 b2 b3 hg
      exact ⟨q1, q2, q3, fun _ => by rw [efo, hans]⟩
  · have er : r = nI 1 := hc.2
    have hJ := hj.mid
    rw [← ew] at hJ
    refine ⟨1, σ, cnt, γ, ro, foO, er, by omega, hJ, by rw [ew]; exact hOu, ?_⟩
    intro ml cd ki on tw od fa st rs me fo fd ba ta by9 nd hR hMo hS b1 b2 b3 hg r2 w2 hp
    obtain ⟨hF, hp⟩ := hp
    obtain ⟨g1, g2, g3, g4, g5⟩ := id hg
    rcases hp with ⟨-, hMo2⟩ | ⟨k2, hk2, ek2, -⟩
    · obtain ⟨q1, q2, q3⟩ := hJ.fin hR hF hMo2 hS b1 b2 b3 hg
      exact ⟨q1, q2, q3, fun h9 => absurd h9 (by omega)⟩
    · exact absurd ⟨k2, by omega, ek2⟩ hn
