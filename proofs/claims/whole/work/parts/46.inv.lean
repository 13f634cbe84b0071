/-! The object: its cells have roles (0 itself, 1 the list, 2 .. and 32 .. the two Rules, 100 + i a sequence, 200 + i its numbers, 300 + i its factors, 400 + i its starts). al: a role's address; ro: an address's role. -/
def cl9 (w : Wd) (al ro : Nat → Nat) (r : Nat) (e : va_E) : Prop := w (al r) = some e ∧ ro (al r) = r
theorem cl9.ne {w w' : Wd} {al ro : Nat → Nat} {r r' : Nat} {e e' : va_E} (h : cl9 w al ro r e) (h' : cl9 w' al ro r' e') (k : r ≠ r') : al r ≠ al r' := fun q => k (by rw [← h.2, ← h'.2, q])
theorem cl9.mv {w w' : Wd} {al al' ro ro' : Nat → Nat} {r : Nat} {e : va_E} (h : cl9 w al ro r e) (hal : al' r = al r) (hk : w' (al r) = some e ∧ ro' (al r) = ro (al r)) : cl9 w' al' ro' r e := ⟨by rw [hal]; exact hk.1, by rw [hal, hk.2]; exact h.2⟩
/-- a sequence's own cell -/
def sOb (ad al : Nat → Nat) (i : Nat) (d : SD) (fh : Bool) (pt : Int64) : va_E := if sTg d = 0 then .inr (1, [.ref (al (200 + i)), .int (nI (bz fh)), .long pt, .int (nI (sP d)), .ref (al (300 + i)), .ref (al (400 + i))]) else .inr (2, [.ref (al (200 + i)), .int (nI (bz fh)), .long pt, .ref (ad (sTg d - 1)), .ref (al (200 + sP d)), .ref (al (200 + sQ d)), .int (nI (sDi d))])
theorem sOb_0 {ad al : Nat → Nat} {i : Nat} {d : SD} {fh : Bool} {pt : Int64} (h : sTg d = 0) : sOb ad al i d fh pt = .inr (1, [.ref (al (200 + i)), .int (nI (bz fh)), .long pt, .int (nI (sP d)), .ref (al (300 + i)), .ref (al (400 + i))]) := if_pos h
theorem sOb_1 {ad al : Nat → Nat} {i : Nat} {d : SD} {fh : Bool} {pt : Int64} (h : sTg d ≠ 0) : sOb ad al i d fh pt = .inr (2, [.ref (al (200 + i)), .int (nI (bz fh)), .long pt, .ref (ad (sTg d - 1)), .ref (al (200 + sP d)), .ref (al (200 + sQ d)), .int (nI (sDi d))]) := if_neg h
theorem sOb_any (ad al : Nat → Nat) (i : Nat) (d : SD) (fh : Bool) (pt : Int64) : ∃ ci tl, (ci = 1 ∨ ci = 2) ∧ (∀ b : Bool, sOb ad al i d b pt = .inr (ci, .ref (al (200 + i)) :: .int (nI (bz b)) :: .long pt :: tl)) := by
  by_cases h : sTg d = 0
  · exact ⟨1, _, Or.inl rfl, fun b => sOb_0 h⟩
  · exact ⟨2, _, Or.inr rfl, fun b => sOb_1 h⟩
/-- what the i-th sequence's cells hold -/
def seqI (g : Nat → ClassId) (ad : Nat → Nat) (w : Wd) (al ro : Nat → Nat) (σ : Nat → SD) (i : Nat) (fh : Bool) (T : Nat → Nat) (pt : Int64) : Prop :=
  cl9 w al ro (100 + i) (sOb ad al i (σ i) fh pt) ∧ cl9 w al ro (200 + i) (ia (g 0) 64 T) ∧ (∀ m, m < 64 → T m < 32003) ∧ (fh = true → ∀ m, m < 64 → T m = sval σ i m) ∧ (∀ j, j < 64 → lb pt j = sdep σ i j) ∧
  (sTg (σ i) = 0 → 1 ≤ sP (σ i) ∧ sP (σ i) ≤ 3 ∧ cl9 w al ro (300 + i) (ia (g 0) ((sP (σ i) + 1) * 3) (sF (σ i))) ∧ cl9 w al ro (400 + i) (ia (g 0) 64 (sS (σ i)))) ∧
  (sTg (σ i) ≠ 0 → sTg (σ i) ≤ 7 ∧ sDi (σ i) ≤ 8) ∧ (∀ k, k < 12 → sF (σ i) k < 32003) ∧ ∀ m, m < 64 → sS (σ i) m < 32003
def xS (g : Nat → ClassId) (ad : Nat → Nat) (w : Wd) (al ro : Nat → Nat) (σ : Nat → SD) (cnt : Nat) (fh : Nat → Bool) (T : Nat → Nat → Nat) (pt : Nat → Int64) : Prop :=
  cnt ≤ 40 ∧ sOK σ cnt ∧ cl9 w al ro 0 (.inr (0, [.ref (al 1), .int (nI cnt), .ref (al 2), .ref (al 32)])) ∧ cl9 w al ro 1 (qa (g 3) 40 (fun i => if i < cnt then some (al (100 + i)) else none)) ∧ ∀ i, i < cnt → seqI g ad w al ro σ i (fh i) (T i) (pt i)
/-- a Rules object with its roles -/
def ruX (g : Nat → ClassId) (w : Wd) (al ro : Nat → Nat) (B o dg cn mem : Nat) (M : Nat → Nat → Nat) (b : Nat → Bool) (r be : Nat → Nat) : Prop :=
  ruW g w (al B) (al (B + 1)) (al (B + 2)) (al (B + 3)) (al (B + 4)) (fun i => al (B + 8 + i)) o dg cn mem M b r be ∧ (∀ k, k ≤ 4 → ro (al (B + k)) = B + k) ∧ (∀ i, i < 20 → ro (al (B + 8 + i)) = B + 8 + i) ∧ mB M ∧ rB r
theorem ruX.D {g : Nat → ClassId} {w : Wd} {al ro : Nat → Nat} {B o dg cn mem : Nat} {M : Nat → Nat → Nat} {b : Nat → Bool} {r be : Nat → Nat} (h : ruX g w al ro B o dg cn mem M b r be) : ruD (al (B + 2)) (al (B + 3)) (al (B + 4)) (fun i => al (B + 8 + i)) := by
  obtain ⟨-, h1, h2, -, -⟩ := h
  have f : ∀ x y, ro (al x) = x → ro (al y) = y → x ≠ y → al x ≠ al y := fun x y hx hy k q => k (by rw [← hx, ← hy, q])
  refine ⟨f _ _ (h1 2 (by omega)) (h1 3 (by omega)) (by omega), f _ _ (h1 2 (by omega)) (h1 4 (by omega)) (by omega), f _ _ (h1 3 (by omega)) (h1 4 (by omega)) (by omega), fun i hi => ⟨f _ _ (h2 i hi) (h1 2 (by omega)) (by omega), f _ _ (h2 i hi) (h1 3 (by omega)) (by omega), f _ _ (h2 i hi) (h1 4 (by omega)) (by omega)⟩, fun i j hi hj q => ?_⟩
  have := congrArg ro q
  dsimp only at this
  rw [h2 i hi, h2 j hj] at this
  omega
/-- its cells are the only ones that a call on it changes -/
theorem ruX.F {g : Nat → ClassId} {w w' : Wd} {al ro : Nat → Nat} {B o dg cn mem : Nat} {M : Nat → Nat → Nat} {b : Nat → Bool} {r be : Nat → Nat} (h : ruX g w al ro B o dg cn mem M b r be) (hF : ruF (al B) (al (B + 2)) (al (B + 3)) (al (B + 4)) (fun i => al (B + 8 + i)) w w') {y : Nat} (hy : ro y < B ∨ B + 28 ≤ ro y) : w' y = w y := by
  obtain ⟨-, h1, h2, -, -⟩ := h
  refine hF y (fun q => ?_) (fun q => ?_) (fun q => ?_) (fun q => ?_) (fun i hi q => ?_)
  · have := h1 0 (by omega); rw [Nat.add_zero, ← q] at this; omega
  · have := h1 2 (by omega); rw [← q] at this; omega
  · have := h1 3 (by omega); rw [← q] at this; omega
  · have := h1 4 (by omega); rw [← q] at this; omega
  · have := h2 i hi; rw [← show y = al (B + 8 + i) from q] at this; omega
theorem ruX.mv {g : Nat → ClassId} {w w' : Wd} {al al' ro ro' : Nat → Nat} {B o dg cn mem : Nat} {M : Nat → Nat → Nat} {b : Nat → Bool} {r be : Nat → Nat} (h : ruX g w al ro B o dg cn mem M b r be) (hal : ∀ r, B ≤ r → r < B + 28 → al' r = al r) (hk : ∀ y e, w y = some e → B ≤ ro y → ro y < B + 28 → w' y = some e ∧ ro' y = ro y) : ruX g w' al' ro' B o dg cn mem M b r be := by
  obtain ⟨⟨a1, a2, a3, a4, a5, a6⟩, h1, h2, h3, h4⟩ := h
  have e0 := hal B (by omega) (by omega)
  have e1 := hal (B + 1) (by omega) (by omega)
  have e2 := hal (B + 2) (by omega) (by omega)
  have e3 := hal (B + 3) (by omega) (by omega)
  have e4 := hal (B + 4) (by omega) (by omega)
  have er : ∀ i, i < 20 → al' (B + 8 + i) = al (B + 8 + i) := fun i hi => hal _ (by omega) (by omega)
  have r0 := h1 0 (by omega)
  rw [Nat.add_zero] at r0
  have k0 := hk _ _ a1 (by omega) (by omega)
  have k1 := hk _ _ a2 (by rw [h1 1 (by omega)]; omega) (by rw [h1 1 (by omega)]; omega)
  have k2 := hk _ _ a3 (by rw [h1 2 (by omega)]; omega) (by rw [h1 2 (by omega)]; omega)
  have k3 := hk _ _ a4 (by rw [h1 3 (by omega)]; omega) (by rw [h1 3 (by omega)]; omega)
  have k4 := hk _ _ a5 (by rw [h1 4 (by omega)]; omega) (by rw [h1 4 (by omega)]; omega)
  have kr : ∀ i, i < 20 → w' (al (B + 8 + i)) = some (ia (g 0) 20 (M i)) ∧ ro' (al (B + 8 + i)) = ro (al (B + 8 + i)) := fun i hi => hk _ _ (a6 i hi) (by rw [h2 i hi]; omega) (by rw [h2 i hi]; omega)
  refine ⟨⟨by rw [e0, e1, e2, e3, e4]; exact k0.1, ?_, by rw [e2]; exact k2.1, by rw [e3]; exact k3.1, by rw [e4]; exact k4.1, fun i hi => by show w' (al' (B + 8 + i)) = _; rw [er i hi]; exact (kr i hi).1⟩, fun k hk9 => ?_, fun i hi => by rw [er i hi, (kr i hi).2]; exact h2 i hi, h3, h4⟩
  · rw [e1, k1.1]
    congr 2
    funext i
    by_cases hi : i < 20
    · rw [if_pos hi, if_pos hi]; exact congrArg some (er i hi).symm
    · rw [if_neg hi, if_neg hi]
  · rw [hal (B + k) (by omega) (by omega)]
    rcases (show k = 0 ∨ k = 1 ∨ k = 2 ∨ k = 3 ∨ k = 4 by omega) with rfl | rfl | rfl | rfl | rfl
    · rw [Nat.add_zero, k0.2]; exact r0
    · rw [k1.2]; exact h1 1 (by omega)
    · rw [k2.2]; exact h1 2 (by omega)
    · rw [k3.2]; exact h1 3 (by omega)
    · rw [k4.2]; exact h1 4 (by omega)
theorem vT_pre {σ σ' : Nat → SD} : ∀ n, (∀ j, j < n → σ' j = σ j) → vT σ' n = vT σ n
  | 0, _ => rfl
  | n + 1, h => by
    show va_up (vT σ' n) n _ = va_up (vT σ n) n _
    rw [vT_pre n (fun j hj => h j (by omega)), h n (by omega)]
theorem sval_pre {σ σ' : Nat → SD} {i : Nat} (h : ∀ j, j ≤ i → σ' j = σ j) : sval σ' i = sval σ i := by
  unfold sval
  rw [vT_pre (i + 1) (fun j hj => h j (by omega))]
theorem dT_pre {σ σ' : Nat → SD} : ∀ n, (∀ j, j < n → σ' j = σ j) → dT σ' n = dT σ n
  | 0, _ => rfl
  | n + 1, h => by
    show va_up (dT σ' n) n _ = va_up (dT σ n) n _
    rw [dT_pre n (fun j hj => h j (by omega)), h n (by omega)]
theorem sdep_pre {σ σ' : Nat → SD} {i : Nat} (h : ∀ j, j ≤ i → σ' j = σ j) : sdep σ' i = sdep σ i := by
  unfold sdep
  rw [dT_pre (i + 1) (fun j hj => h j (by omega))]
theorem seqI.mv {g : Nat → ClassId} {ad : Nat → Nat} {w w' : Wd} {al al' ro ro' : Nat → Nat} {σ σ' : Nat → SD} {i cnt : Nat} {fh : Bool} {T : Nat → Nat} {pt : Int64} (h : seqI g ad w al ro σ i fh T pt) (hi : i < cnt) (hc : cnt ≤ 40) (hs : sOK σ cnt) (hal : ∀ r, (r < 100 ∨ r % 100 < cnt) → al' r = al r) (hk : ∀ y e, w y = some e → ro y = 100 + i ∨ ro y = 200 + i ∨ ro y = 300 + i ∨ ro y = 400 + i → w' y = some e ∧ ro' y = ro y) (hσ : σ' i = σ i) (hv : fh = true → ∀ m, m < 64 → sval σ' i m = sval σ i m) (hd : ∀ j, j < 64 → sdep σ' i j = sdep σ i j) : seqI g ad w' al' ro' σ' i fh T pt := by
  obtain ⟨h1, h2, h3, h4, h5, h6, h7, h8, h9⟩ := h
  have f1 : ∀ k, 1 ≤ k → k ≤ 4 → ∀ j, j < cnt → al' (100 * k + j) = al (100 * k + j) := fun k h1 h2 j hj => hal _ (Or.inr (by omega))
  have g1 := f1 1 (by omega) (by omega) i hi
  have g2 := f1 2 (by omega) (by omega) i hi
  have g3 := f1 3 (by omega) (by omega) i hi
  have g4 := f1 4 (by omega) (by omega) i hi
  have eo : sOb ad al' i (σ i) fh pt = sOb ad al i (σ i) fh pt := by
    by_cases e : sTg (σ i) = 0
    · rw [sOb_0 e, sOb_0 e, g2, g3, g4]
    · obtain ⟨p1, p2⟩ := hs i hi e
      rw [sOb_1 e, sOb_1 e, g2, f1 2 (by omega) (by omega) _ (show sP (σ i) < cnt by omega), f1 2 (by omega) (by omega) _ (show sQ (σ i) < cnt by omega)]
  unfold seqI
  rw [hσ, eo]
  refine ⟨h1.mv g1 (hk _ _ h1.1 (Or.inl h1.2)), h2.mv g2 (hk _ _ h2.1 (Or.inr (Or.inl h2.2))), h3, fun e m hm => ?_, fun j hj => ?_, fun e => ?_, h7, h8, h9⟩
  · rw [hv e m hm]; exact h4 e m hm
  · rw [hd j hj]; exact h5 j hj
  · obtain ⟨a1, a2, a3, a4⟩ := h6 e
    exact ⟨a1, a2, a3.mv g3 (hk _ _ a3.1 (Or.inr (Or.inr (Or.inl a3.2)))), a4.mv g4 (hk _ _ a4.1 (Or.inr (Or.inr (Or.inr a4.2))))⟩
/-- the numbers of one, worked out -/
theorem seqI.row {g : Nat → ClassId} {ad : Nat → Nat} {w : Wd} {al ro : Nat → Nat} {σ : Nat → SD} {i cnt : Nat} {fh : Nat → Bool} {T : Nat → Nat → Nat} {pt : Nat → Int64} (hs : sOK σ cnt) (hi : i < cnt) (hall : ∀ j, j < cnt → seqI g ad w al ro σ j (fh j) (T j) (pt j)) (hp : sTg (σ i) ≠ 0 → fh (sP (σ i)) = true ∧ fh (sQ (σ i)) = true) {m : Nat} (hm : m < 64) : sval σ i m = row (σ i) (if sTg (σ i) = 0 then fun _ => 0 else T (sP (σ i))) (if sTg (σ i) = 0 then fun _ => 0 else T (sQ (σ i))) m := by
  rw [sval_eq hs hi hm]
  refine row_congr (fun e k hk => ?_) (fun e k hk => ?_) (m + 1) m (by omega) hm
  · obtain ⟨p1, p2⟩ := hs i hi e
    rw [if_neg e]
    exact ((hall _ (show sP (σ i) < cnt by omega)).2.2.2.1 (hp e).1 k hk).symm
  · obtain ⟨p1, p2⟩ := hs i hi e
    rw [if_neg e]
    exact ((hall _ (show sQ (σ i) < cnt by omega)).2.2.2.1 (hp e).2 k hk).symm
/-- a number that the call gives, among the first n -/
def inC (n : Nat) (i : Int32) : Prop := ∃ k, k < n ∧ i = nI k
theorem inC_of {i : Int32} {n : Nat} (hn : n < 2 ^ 30) (h1 : ¬ i < 0) (h2 : ¬ nI n ≤ i) : inC n i := by
  have h0 : (0 : Int32).toInt = 0 := rfl
  rw [Int32.lt_iff_toInt_lt] at h1
  rw [Int32.le_iff_toInt_le, nI_toInt (by omega)] at h2
  refine ⟨i.toInt.toNat, by omega, i_eq ?_⟩
  rw [nI_toInt (by omega)]
  omega
theorem inC_neg {i : Int32} {n : Nat} (hn : n < 2 ^ 30) (h : i < 0) : ¬ inC n i := by
  rintro ⟨k, hk, rfl⟩
  exact nI_nneg (by omega) h
theorem inC_big {i : Int32} {n m : Nat} (hn : m < 2 ^ 30) (hnm : n ≤ m) (h : nI m ≤ i) : ¬ inC n i := by
  rintro ⟨k, hk, rfl⟩
  rw [Int32.le_iff_toInt_le, nI_toInt (by omega), nI_toInt (by omega)] at h
  omega
theorem inC_no {k n : Nat} (hk : k < 2 ^ 30) (h : ¬ k < n) (hn : n < 2 ^ 30) : ¬ inC n (nI k) := by
  rintro ⟨j, hj, e⟩
  have := (nI_eq (by omega) (by omega)).mp e
  omega
theorem i_rng (i : Int32) : -2147483648 ≤ i.toInt ∧ i.toInt < 2147483648 := ⟨Int32.le_toInt i, Int32.toInt_lt i⟩
