/-! One more sequence. -/
theorem ne_none {w : Wd} {q x : Nat} {e : va_E} (h : w q = none) (hx : w x = some e) : x ≠ q := fun k => by rw [k, h] at hx; cases hx
def alN (al : Nat → Nat) (cnt b q f t : Nat) : Nat → Nat := fun r => if r = 100 + cnt then b else if r = 200 + cnt then q else if r = 300 + cnt then f else if r = 400 + cnt then t else al r
def roN (ro : Nat → Nat) (cnt b q f t : Nat) : Nat → Nat := fun y => if y = b then 100 + cnt else if y = q then 200 + cnt else if y = f then 300 + cnt else if y = t then 400 + cnt else ro y
section ADD
variable {al ro : Nat → Nat} {cnt b q f t : Nat}
theorem alN_b : alN al cnt b q f t (100 + cnt) = b := if_pos rfl
theorem alN_q : alN al cnt b q f t (200 + cnt) = q := by unfold alN; rw [if_neg (by omega), if_pos rfl]
theorem alN_f : alN al cnt b q f t (300 + cnt) = f := by unfold alN; rw [if_neg (by omega), if_neg (by omega), if_pos rfl]
theorem alN_t : alN al cnt b q f t (400 + cnt) = t := by unfold alN; rw [if_neg (by omega), if_neg (by omega), if_neg (by omega), if_pos rfl]
theorem alN_o {r : Nat} (hc : cnt < 40) (h : r < 100 ∨ r % 100 < cnt) : alN al cnt b q f t r = al r := by unfold alN; rw [if_neg (by omega), if_neg (by omega), if_neg (by omega), if_neg (by omega)]
theorem roN_b : roN ro cnt b q f t b = 100 + cnt := if_pos rfl
theorem roN_q (h : q ≠ b) : roN ro cnt b q f t q = 200 + cnt := by unfold roN; rw [if_neg h, if_pos rfl]
theorem roN_f (h : f ≠ b) (h2 : f ≠ q) : roN ro cnt b q f t f = 300 + cnt := by unfold roN; rw [if_neg h, if_neg h2, if_pos rfl]
theorem roN_t (h : t ≠ b) (h2 : t ≠ q) (h3 : t ≠ f) : roN ro cnt b q f t t = 400 + cnt := by unfold roN; rw [if_neg h, if_neg h2, if_neg h3, if_pos rfl]
theorem roN_o {y : Nat} (h1 : y ≠ b) (h2 : y ≠ q) (h3 : y ≠ f) (h4 : y ≠ t) : roN ro cnt b q f t y = ro y := by unfold roN; rw [if_neg h1, if_neg h2, if_neg h3, if_neg h4]
end ADD
theorem xI.add {g : Nat → ClassId} {ad : Nat → Nat} {w w' : Wd} {al al' ro ro' : Nat → Nat} {σ : Nat → SD} {cnt : Nat} {γ : GU} {fh : Nat → Bool} {T : Nat → Nat → Nat} {pt : Nat → Int64} {d : SD} {p : Int64} (hX : xS g ad w al ro σ cnt fh T pt) (hF : xF g w al ro γ) (hT : xT g w al ro) (hc : cnt < 40) (hal : ∀ r, (r < 100 ∨ r % 100 < cnt) → al' r = al r) (hkp : ∀ y e, w y = some e → ro y ≠ 0 → ro y ≠ 1 → w' y = some e ∧ ro' y = ro y)
    (h0 : w' (al 0) = some (.inr (0, [.ref (al 1), .int (nI (cnt + 1)), .ref (al 2), .ref (al 32)]))) (r0 : ro' (al 0) = 0) (h1 : w' (al 1) = some (qa (g 3) 40 (va_up (fun i => if i < cnt then some (al (100 + i)) else none) cnt (some (al' (100 + cnt)))))) (r1 : ro' (al 1) = 1)
    (hd : sTg d ≠ 0 → sP d < cnt ∧ sQ d < cnt) (hnew : seqI g ad w' al' ro' (va_up σ cnt d) cnt false (fun _ => 0) p) : xI g ad w' ro' (al 0) (va_up σ cnt d) (cnt + 1) γ ∧ kpM w ro w' ro' := by
  obtain ⟨k1, k2, k3, k4, k5⟩ := hX
  have hs : sOK (va_up σ cnt d) (cnt + 1) := fun i hi e => by
    by_cases ei : i = cnt
    · subst ei; rw [va_up_eq] at e ⊢; exact hd e
    · rw [va_up_no ei] at e ⊢; exact k2 i (by omega) e
  refine ⟨⟨al', va_up fh cnt false, va_up T cnt (fun _ => 0), va_up pt cnt p, hal 0 (by omega), ⟨by omega, hs, ⟨?_, ?_⟩, ⟨?_, ?_⟩, fun i hi => ?_⟩, ?_, ?_⟩, fun y e hy h9 => hkp y e hy (by omega) (by omega)⟩
  · rw [hal 0 (by omega), hal 1 (by omega), hal 2 (by omega), hal 32 (by omega)]; exact h0
  · rw [hal 0 (by omega)]; exact r0
  · rw [hal 1 (by omega), h1]
    congr 2
    funext i
    by_cases ei : i = cnt
    · rw [ei, va_up_eq, if_pos (by omega)]
    · rw [va_up_no ei]
      by_cases hi : i < cnt
      · rw [if_pos hi, if_pos (by omega), hal (100 + i) (Or.inr (by omega))]
      · rw [if_neg hi, if_neg (by omega)]
  · rw [hal 1 (by omega)]; exact r1
  · by_cases ei : i = cnt
    · subst ei
      rw [va_up_eq, va_up_eq, va_up_eq]
      exact hnew
    · rw [va_up_no ei, va_up_no ei, va_up_no ei]
      refine (k5 i (by omega)).mv (show i < cnt by omega) k1 k2 hal (fun y e hy hr => hkp y e hy (by omega) (by omega)) (va_up_no ei) (fun _ m _ => ?_) (fun j _ => ?_)
      · rw [sval_pre (fun j hj => va_up_no (show j ≠ cnt by omega))]
      · rw [sdep_pre (fun j hj => va_up_no (show j ≠ cnt by omega))]
  · obtain ⟨o, dg, cn, mem, M, b, r, be, q1, q2⟩ := hF
    exact ⟨o, dg, cn, mem, M, b, r, be, q1.mv (fun r h8 h9 => hal r (by omega)) (fun y e hy h8 h9 => hkp y e hy (by omega) (by omega)), q2⟩
  · obtain ⟨o, dg, cn, mem, M, b, r, be, q1⟩ := hT
    exact ⟨o, dg, cn, mem, M, b, r, be, q1.mv (fun r h8 h9 => hal r (by omega)) (fun y e hy h8 h9 => hkp y e hy (by omega) (by omega))⟩
theorem bitR {σ : Nat → SD} {cnt : Nat} {d : SD} (hc : cnt < 40) (h : sTg d = 0) : ∀ j, j < 64 → lb (lN 0 ||| (lN 1 <<< ((nI cnt).toInt64 &&& 63))) j = sdep (va_up σ cnt d) cnt j := by
  intro j hj
  rw [or_bit _ (by omega) hj, l0_bit]
  show _ = va_up (dT (va_up σ cnt d) cnt) cnt _ cnt j
  rw [va_up_eq]
  simp [h, va_up_eq]
theorem bitK {σ : Nat → SD} {cnt f h : Nat} {d : SD} {p1 p2 : Int64} (hc : cnt < 40) (hf : f < cnt) (hh : h < cnt) (ht : sTg d ≠ 0) (e1 : sP d = f) (e2 : sQ d = h) (b1 : ∀ j, j < 64 → lb p1 j = sdep σ f j) (b2 : ∀ j, j < 64 → lb p2 j = sdep σ h j) : ∀ j, j < 64 → lb ((p1 ||| p2) ||| (lN 1 <<< ((nI cnt).toInt64 &&& 63))) j = sdep (va_up σ cnt d) cnt j := by
  intro j hj
  rw [or_bit _ (by omega) hj, lor_bit, b1 j hj, b2 j hj]
  show _ = va_up (dT (va_up σ cnt d) cnt) cnt _ cnt j
  rw [va_up_eq, va_up_eq, e1, e2, dT_lt hf, dT_lt hh, sdep_pre (fun j hj => va_up_no (show j ≠ cnt by omega)), sdep_pre (fun j hj => va_up_no (show j ≠ cnt by omega))]
  simp [ht]
  exact Bool.or_comm _ _
