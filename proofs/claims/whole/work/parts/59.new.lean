/-! A new object: its roles. -/
theorem ro_ex {al ro : Nat → Nat} {L : Nat → Prop} (hinj : ∀ r r', L r → L r' → al r = al r' → r = r') : ∃ ro' : Nat → Nat, (∀ r, L r → ro' (al r) = r) ∧ ∀ y, (∀ r, L r → al r ≠ y) → ro' y = ro y := by
  haveI : ∀ P : Prop, Decidable P := Classical.propDecidable
  refine ⟨fun y => if h : ∃ r, L r ∧ al r = y then Classical.choose h else ro y, fun r hr => ?_, fun y hy => ?_⟩
  · have h : ∃ r', L r' ∧ al r' = al r := ⟨r, hr, rfl⟩
    show (if h : ∃ r', L r' ∧ al r' = al r then Classical.choose h else ro (al r)) = r
    rw [dif_pos h]
    exact hinj _ _ (Classical.choose_spec h).1 hr (Classical.choose_spec h).2
  · show (if h : ∃ r, L r ∧ al r = y then Classical.choose h else ro y) = ro y
    rw [dif_neg (fun ⟨r, h1, h2⟩ => hy r h1 h2)]
def bkN (al : Nat → Nat) (B u eq la rw bg : Nat) (er : Nat → Nat) : Nat → Nat := fun r => if r = B then u else if r = B + 1 then eq else if r = B + 2 then la else if r = B + 3 then rw else if r = B + 4 then bg else if B + 8 ≤ r ∧ r < B + 28 then er (r - (B + 8)) else al r
def bkL (B r : Nat) : Prop := r = B ∨ r = B + 1 ∨ r = B + 2 ∨ r = B + 3 ∨ r = B + 4 ∨ (B + 8 ≤ r ∧ r < B + 28)
section BK
variable {al : Nat → Nat} {B u eq la rw bg : Nat} {er : Nat → Nat}
theorem bkN_0 : bkN al B u eq la rw bg er B = u := if_pos rfl
theorem bkN_1 : bkN al B u eq la rw bg er (B + 1) = eq := by unfold bkN; rw [if_neg (by omega), if_pos rfl]
theorem bkN_2 : bkN al B u eq la rw bg er (B + 2) = la := by unfold bkN; rw [if_neg (by omega), if_neg (by omega), if_pos rfl]
theorem bkN_3 : bkN al B u eq la rw bg er (B + 3) = rw := by unfold bkN; rw [if_neg (by omega), if_neg (by omega), if_neg (by omega), if_pos rfl]
theorem bkN_4 : bkN al B u eq la rw bg er (B + 4) = bg := by unfold bkN; rw [if_neg (by omega), if_neg (by omega), if_neg (by omega), if_neg (by omega), if_pos rfl]
theorem bkN_r {i : Nat} (hi : i < 20) : bkN al B u eq la rw bg er (B + 8 + i) = er i := by
  unfold bkN
  rw [if_neg (by omega), if_neg (by omega), if_neg (by omega), if_neg (by omega), if_neg (by omega), if_pos (by omega)]
  congr 1
  omega
theorem bkN_o {r : Nat} (h : r < B ∨ B + 28 ≤ r) : bkN al B u eq la rw bg er r = al r := by unfold bkN; rw [if_neg (by omega), if_neg (by omega), if_neg (by omega), if_neg (by omega), if_neg (by omega), if_neg (by omega)]
end BK
theorem ruN {g : Nat → ClassId} {w w' : Wd} {al ro : Nat → Nat} {B u eq la rw bg : Nat} {er : Nat → Nat} {M : Nat → Nat → Nat} {b : Nat → Bool} {r be : Nat → Nat} {o dg cn mem : Nat} (hR : ruW g w' u eq la rw bg er o dg cn mem M b r be) (hD : ruD la rw bg er) (hE : eq ≠ la ∧ eq ≠ rw ∧ eq ≠ bg ∧ ∀ i, i < 20 → er i ≠ eq) (n1 : w eq = none) (n2 : w la = none) (n3 : w rw = none) (n4 : w bg = none) (n5 : ∀ i, i < 20 → w (er i) = none) (hM : mB M) (hr : rB r) :
    ∃ ro' : Nat → Nat, ruX g w' (bkN al B u eq la rw bg er) ro' B o dg cn mem M b r be ∧ ∀ y e, w y = some e → y ≠ u → ro' y = ro y := by
  obtain ⟨a1, a2, a3, a4, a5⟩ := hR.ne_u
  obtain ⟨d1, d2, d3, d4, d5⟩ := hD
  obtain ⟨e1, e2, e3, e4⟩ := hE
  have hcase : ∀ x, bkL B x → (x = B ∧ bkN al B u eq la rw bg er x = u) ∨ (x = B + 1 ∧ bkN al B u eq la rw bg er x = eq) ∨ (x = B + 2 ∧ bkN al B u eq la rw bg er x = la) ∨ (x = B + 3 ∧ bkN al B u eq la rw bg er x = rw) ∨ (x = B + 4 ∧ bkN al B u eq la rw bg er x = bg) ∨ ∃ i, i < 20 ∧ x = B + 8 + i ∧ bkN al B u eq la rw bg er x = er i := by
    intro x hx
    rcases hx with rfl | rfl | rfl | rfl | rfl | ⟨h1, h2⟩
    · exact Or.inl ⟨rfl, bkN_0⟩
    · exact Or.inr (Or.inl ⟨rfl, bkN_1⟩)
    · exact Or.inr (Or.inr (Or.inl ⟨rfl, bkN_2⟩))
    · exact Or.inr (Or.inr (Or.inr (Or.inl ⟨rfl, bkN_3⟩)))
    · exact Or.inr (Or.inr (Or.inr (Or.inr (Or.inl ⟨rfl, bkN_4⟩))))
    · obtain ⟨i, rfl⟩ : ∃ i, x = B + 8 + i := ⟨x - (B + 8), by omega⟩
      exact Or.inr (Or.inr (Or.inr (Or.inr (Or.inr ⟨i, by omega, rfl, bkN_r (by omega)⟩))))
  have hinj : ∀ x y, bkL B x → bkL B y → bkN al B u eq la rw bg er x = bkN al B u eq la rw bg er y → x = y := by
    intro x y hx hy h
    rcases hcase x hx with ⟨x1, x2⟩ | ⟨x1, x2⟩ | ⟨x1, x2⟩ | ⟨x1, x2⟩ | ⟨x1, x2⟩ | ⟨i, hi, x1, x2⟩ <;> rcases hcase y hy with ⟨y1, y2⟩ | ⟨y1, y2⟩ | ⟨y1, y2⟩ | ⟨y1, y2⟩ | ⟨y1, y2⟩ | ⟨j, hj, y1, y2⟩ <;> rw [x2, y2] at h <;> first
      | (rw [x1, y1]; done)
      | exact absurd h a1 | exact absurd h.symm a1 | exact absurd h a2 | exact absurd h.symm a2 | exact absurd h a3 | exact absurd h.symm a3 | exact absurd h a4 | exact absurd h.symm a4
      | exact absurd h (a5 _ (by assumption)) | exact absurd h.symm (a5 _ (by assumption)) | exact absurd h e1 | exact absurd h.symm e1 | exact absurd h e2 | exact absurd h.symm e2 | exact absurd h e3 | exact absurd h.symm e3
      | exact absurd h (e4 _ (by assumption)) | exact absurd h.symm (e4 _ (by assumption)) | exact absurd h d1 | exact absurd h.symm d1 | exact absurd h d2 | exact absurd h.symm d2 | exact absurd h d3 | exact absurd h.symm d3
      | exact absurd h (d4 _ (by assumption)).1 | exact absurd h.symm (d4 _ (by assumption)).1 | exact absurd h (d4 _ (by assumption)).2.1 | exact absurd h.symm (d4 _ (by assumption)).2.1 | exact absurd h (d4 _ (by assumption)).2.2 | exact absurd h.symm (d4 _ (by assumption)).2.2
      | (rw [x1, y1, d5 _ _ hi hj h])
  obtain ⟨ro', h1, h2⟩ := ro_ex (ro := ro) hinj
  refine ⟨ro', ⟨?_, fun k hk => h1 _ ?_, fun i hi => h1 _ ?_, hM, hr⟩, fun y e hy hyu => h2 y (fun x hx => ?_)⟩
  · obtain ⟨b1, b2, b3, b4, b5, b6⟩ := hR
    refine ⟨by rw [bkN_0, bkN_1, bkN_2, bkN_3, bkN_4]; exact b1, ?_, by rw [bkN_2]; exact b3, by rw [bkN_3]; exact b4, by rw [bkN_4]; exact b5, fun i hi => by show w' (bkN al B u eq la rw bg er (B + 8 + i)) = _; rw [bkN_r hi]; exact b6 i hi⟩
    rw [bkN_1, b2]
    congr 2
    funext i
    by_cases hi : i < 20
    · rw [if_pos hi, if_pos hi]; exact congrArg some (bkN_r hi).symm
    · rw [if_neg hi, if_neg hi]
  · unfold bkL; omega
  · unfold bkL; omega
  · rcases hcase x hx with ⟨-, x2⟩ | ⟨-, x2⟩ | ⟨-, x2⟩ | ⟨-, x2⟩ | ⟨-, x2⟩ | ⟨i, hi, -, x2⟩ <;> rw [x2]
    · exact hyu.symm
    · exact (ne_none n1 hy).symm
    · exact (ne_none n2 hy).symm
    · exact (ne_none n3 hy).symm
    · exact (ne_none n4 hy).symm
    · exact (ne_none (n5 i hi) hy).symm
