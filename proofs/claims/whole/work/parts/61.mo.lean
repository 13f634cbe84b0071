/-! The cells of the reference, and what a store does to them. -/
def nl (f : Nat → Nat) : Nat → Int64 := fun i => lN (f i)
def la (cL : ClassId) (n : Nat) (f : Nat → Nat) : va_E := .inl (cL, n, .inr (.inl (nl f)))
theorem nl_upd (f : Nat → Nat) (k x : Nat) : vp_updL (nl f) k (lN x) = nl (va_up f k x) := by
  funext j
  unfold nl va_up vp_updL
  split <;> rfl
def moW (g : Nat → ClassId) (w : Wd) (m : Nat) (ml : Nat → Nat) (cd mn : Nat) (ki on tw od fa st rs : Nat → Nat) (me fo fd : Nat) (ba ta by9 : Nat → Nat) (nd : Nat → Bool) : Prop :=
  w m = some (.inr (4, [.int (nI cd), .int (nI mn), .ref (ml 0), .ref (ml 1), .ref (ml 2), .ref (ml 3), .ref (ml 4), .ref (ml 5), .ref (ml 6), .int (nI me), .int (nI fo), .int (nI fd), .ref (ml 7), .ref (ml 8), .ref (ml 9), .ref (ml 10)])) ∧
  w (ml 0) = some (ia (g 0) 40 ki) ∧ w (ml 1) = some (ia (g 0) 40 on) ∧ w (ml 2) = some (ia (g 0) 40 tw) ∧ w (ml 3) = some (ia (g 0) 40 od) ∧ w (ml 4) = some (ia (g 0) 480 fa) ∧ w (ml 5) = some (ia (g 0) 2560 st) ∧ w (ml 6) = some (la (g 2) 2560 rs) ∧ w (ml 7) = some (la (g 2) 400 ba) ∧ w (ml 8) = some (la (g 2) 1280 ta) ∧ w (ml 9) = some (ia (g 0) 20 by9) ∧ w (ml 10) = some (ia (g 1) 40 (bn nd))
def moD (ml : Nat → Nat) : Prop := ∀ i j, i < 11 → j < 11 → ml i = ml j → i = j
def moF (m : Nat) (ml : Nat → Nat) (w w' : Wd) : Prop := ∀ x, x ≠ m → (∀ i, i < 11 → x ≠ ml i) → w' x = w x
section MO
variable {g : Nat → ClassId} {w w1 w2 : Wd} {m : Nat} {ml : Nat → Nat} {cd mn : Nat} {ki on tw od fa st rs : Nat → Nat} {me fo fd : Nat} {ba ta by9 : Nat → Nat} {nd : Nat → Bool}
theorem moF.rf : moF m ml w w := fun _ _ _ => rfl
theorem moF.tr (h1 : moF m ml w w1) (h2 : moF m ml w1 w2) : moF m ml w w2 := fun x a1 a2 => (h2 x a1 a2).trans (h1 x a1 a2)
theorem moF_m {e : va_E} : moF m ml w (hwu w m e) := fun _ a1 _ => hwu_ne a1
theorem moF_a {e : va_E} {i : Nat} (hi : i < 11) : moF m ml w (hwu w (ml i) e) := fun _ _ a2 => hwu_ne (a2 i hi)
theorem moD.ne (h : moD ml) {i j : Nat} (hi : i < 11) (hj : j < 11) (k : i ≠ j) : ml i ≠ ml j := fun q => k (h i j hi hj q)
theorem la_ne_ob {e : Nat × List Value} {c : ClassId} {n : Nat} {f : Nat → Nat} : la c n f ≠ .inr e := by
  intro q
  cases q
theorem ia_ne_ob {e : Nat × List Value} {c : ClassId} {n : Nat} {f : Nat → Nat} : ia c n f ≠ .inr e := by
  intro q
  cases q
theorem moW.ne (h : moW g w m ml cd mn ki on tw od fa st rs me fo fd ba ta by9 nd) : ml 0 ≠ m ∧ ml 1 ≠ m ∧ ml 2 ≠ m ∧ ml 3 ≠ m ∧ ml 4 ≠ m ∧ ml 5 ≠ m ∧ ml 6 ≠ m ∧ ml 7 ≠ m ∧ ml 8 ≠ m ∧ ml 9 ≠ m ∧ ml 10 ≠ m := by
  obtain ⟨h0, h1, h2, h3, h4, h5, h6, h7, h8, h9, h10, h11⟩ := h
  exact ⟨hw_apart h0 h1 (Ne.symm ia_ne_ob), hw_apart h0 h2 (Ne.symm ia_ne_ob), hw_apart h0 h3 (Ne.symm ia_ne_ob), hw_apart h0 h4 (Ne.symm ia_ne_ob), hw_apart h0 h5 (Ne.symm ia_ne_ob), hw_apart h0 h6 (Ne.symm ia_ne_ob), hw_apart h0 h7 (Ne.symm la_ne_ob), hw_apart h0 h8 (Ne.symm la_ne_ob), hw_apart h0 h9 (Ne.symm la_ne_ob), hw_apart h0 h10 (Ne.symm ia_ne_ob), hw_apart h0 h11 (Ne.symm ia_ne_ob)⟩
theorem moW.set_m (h : moW g w m ml cd mn ki on tw od fa st rs me fo fd ba ta by9 nd) (cd' mn' me' fo' fd' : Nat) : moW g (hwu w m (.inr (4, [.int (nI cd'), .int (nI mn'), .ref (ml 0), .ref (ml 1), .ref (ml 2), .ref (ml 3), .ref (ml 4), .ref (ml 5), .ref (ml 6), .int (nI me'), .int (nI fo'), .int (nI fd'), .ref (ml 7), .ref (ml 8), .ref (ml 9), .ref (ml 10)]))) m ml cd' mn' ki on tw od fa st rs me' fo' fd' ba ta by9 nd := by
  obtain ⟨n0, n1, n2, n3, n4, n5, n6, n7, n8, n9, n10⟩ := h.ne
  obtain ⟨h0, h1, h2, h3, h4, h5, h6, h7, h8, h9, h10, h11⟩ := h
  exact ⟨hwu_eq, by rw [hwu_ne n0]; exact h1, by rw [hwu_ne n1]; exact h2, by rw [hwu_ne n2]; exact h3, by rw [hwu_ne n3]; exact h4, by rw [hwu_ne n4]; exact h5, by rw [hwu_ne n5]; exact h6, by rw [hwu_ne n6]; exact h7, by rw [hwu_ne n7]; exact h8, by rw [hwu_ne n8]; exact h9, by rw [hwu_ne n9]; exact h10, by rw [hwu_ne n10]; exact h11⟩
theorem moW.set_ki (h : moW g w m ml cd mn ki on tw od fa st rs me fo fd ba ta by9 nd) (hD : moD ml) (x' : Nat → Nat) : moW g (hwu w (ml 0) (ia (g 0) 40 x')) m ml cd mn x' on tw od fa st rs me fo fd ba ta by9 nd := by
  obtain ⟨n0, n1, n2, n3, n4, n5, n6, n7, n8, n9, n10⟩ := h.ne
  obtain ⟨h0, h1, h2, h3, h4, h5, h6, h7, h8, h9, h10, h11⟩ := h
  exact ⟨by rw [hwu_ne (Ne.symm n0)]; exact h0, hwu_eq, by rw [hwu_ne (hD.ne (by decide) (by decide) (by decide))]; exact h2, by rw [hwu_ne (hD.ne (by decide) (by decide) (by decide))]; exact h3, by rw [hwu_ne (hD.ne (by decide) (by decide) (by decide))]; exact h4, by rw [hwu_ne (hD.ne (by decide) (by decide) (by decide))]; exact h5, by rw [hwu_ne (hD.ne (by decide) (by decide) (by decide))]; exact h6, by rw [hwu_ne (hD.ne (by decide) (by decide) (by decide))]; exact h7, by rw [hwu_ne (hD.ne (by decide) (by decide) (by decide))]; exact h8, by rw [hwu_ne (hD.ne (by decide) (by decide) (by decide))]; exact h9, by rw [hwu_ne (hD.ne (by decide) (by decide) (by decide))]; exact h10, by rw [hwu_ne (hD.ne (by decide) (by decide) (by decide))]; exact h11⟩
theorem moW.set_on (h : moW g w m ml cd mn ki on tw od fa st rs me fo fd ba ta by9 nd) (hD : moD ml) (x' : Nat → Nat) : moW g (hwu w (ml 1) (ia (g 0) 40 x')) m ml cd mn ki x' tw od fa st rs me fo fd ba ta by9 nd := by
  obtain ⟨n0, n1, n2, n3, n4, n5, n6, n7, n8, n9, n10⟩ := h.ne
  obtain ⟨h0, h1, h2, h3, h4, h5, h6, h7, h8, h9, h10, h11⟩ := h
  exact ⟨by rw [hwu_ne (Ne.symm n1)]; exact h0, by rw [hwu_ne (hD.ne (by decide) (by decide) (by decide))]; exact h1, hwu_eq, by rw [hwu_ne (hD.ne (by decide) (by decide) (by decide))]; exact h3, by rw [hwu_ne (hD.ne (by decide) (by decide) (by decide))]; exact h4, by rw [hwu_ne (hD.ne (by decide) (by decide) (by decide))]; exact h5, by rw [hwu_ne (hD.ne (by decide) (by decide) (by decide))]; exact h6, by rw [hwu_ne (hD.ne (by decide) (by decide) (by decide))]; exact h7, by rw [hwu_ne (hD.ne (by decide) (by decide) (by decide))]; exact h8, by rw [hwu_ne (hD.ne (by decide) (by decide) (by decide))]; exact h9, by rw [hwu_ne (hD.ne (by decide) (by decide) (by decide))]; exact h10, by rw [hwu_ne (hD.ne (by decide) (by decide) (by decide))]; exact h11⟩
theorem moW.set_tw (h : moW g w m ml cd mn ki on tw od fa st rs me fo fd ba ta by9 nd) (hD : moD ml) (x' : Nat → Nat) : moW g (hwu w (ml 2) (ia (g 0) 40 x')) m ml cd mn ki on x' od fa st rs me fo fd ba ta by9 nd := by
  obtain ⟨n0, n1, n2, n3, n4, n5, n6, n7, n8, n9, n10⟩ := h.ne
  obtain ⟨h0, h1, h2, h3, h4, h5, h6, h7, h8, h9, h10, h11⟩ := h
  exact ⟨by rw [hwu_ne (Ne.symm n2)]; exact h0, by rw [hwu_ne (hD.ne (by decide) (by decide) (by decide))]; exact h1, by rw [hwu_ne (hD.ne (by decide) (by decide) (by decide))]; exact h2, hwu_eq, by rw [hwu_ne (hD.ne (by decide) (by decide) (by decide))]; exact h4, by rw [hwu_ne (hD.ne (by decide) (by decide) (by decide))]; exact h5, by rw [hwu_ne (hD.ne (by decide) (by decide) (by decide))]; exact h6, by rw [hwu_ne (hD.ne (by decide) (by decide) (by decide))]; exact h7, by rw [hwu_ne (hD.ne (by decide) (by decide) (by decide))]; exact h8, by rw [hwu_ne (hD.ne (by decide) (by decide) (by decide))]; exact h9, by rw [hwu_ne (hD.ne (by decide) (by decide) (by decide))]; exact h10, by rw [hwu_ne (hD.ne (by decide) (by decide) (by decide))]; exact h11⟩
theorem moW.set_od (h : moW g w m ml cd mn ki on tw od fa st rs me fo fd ba ta by9 nd) (hD : moD ml) (x' : Nat → Nat) : moW g (hwu w (ml 3) (ia (g 0) 40 x')) m ml cd mn ki on tw x' fa st rs me fo fd ba ta by9 nd := by
  obtain ⟨n0, n1, n2, n3, n4, n5, n6, n7, n8, n9, n10⟩ := h.ne
  obtain ⟨h0, h1, h2, h3, h4, h5, h6, h7, h8, h9, h10, h11⟩ := h
  exact ⟨by rw [hwu_ne (Ne.symm n3)]; exact h0, by rw [hwu_ne (hD.ne (by decide) (by decide) (by decide))]; exact h1, by rw [hwu_ne (hD.ne (by decide) (by decide) (by decide))]; exact h2, by rw [hwu_ne (hD.ne (by decide) (by decide) (by decide))]; exact h3, hwu_eq, by rw [hwu_ne (hD.ne (by decide) (by decide) (by decide))]; exact h5, by rw [hwu_ne (hD.ne (by decide) (by decide) (by decide))]; exact h6, by rw [hwu_ne (hD.ne (by decide) (by decide) (by decide))]; exact h7, by rw [hwu_ne (hD.ne (by decide) (by decide) (by decide))]; exact h8, by rw [hwu_ne (hD.ne (by decide) (by decide) (by decide))]; exact h9, by rw [hwu_ne (hD.ne (by decide) (by decide) (by decide))]; exact h10, by rw [hwu_ne (hD.ne (by decide) (by decide) (by decide))]; exact h11⟩
theorem moW.set_fa (h : moW g w m ml cd mn ki on tw od fa st rs me fo fd ba ta by9 nd) (hD : moD ml) (x' : Nat → Nat) : moW g (hwu w (ml 4) (ia (g 0) 480 x')) m ml cd mn ki on tw od x' st rs me fo fd ba ta by9 nd := by
  obtain ⟨n0, n1, n2, n3, n4, n5, n6, n7, n8, n9, n10⟩ := h.ne
  obtain ⟨h0, h1, h2, h3, h4, h5, h6, h7, h8, h9, h10, h11⟩ := h
  exact ⟨by rw [hwu_ne (Ne.symm n4)]; exact h0, by rw [hwu_ne (hD.ne (by decide) (by decide) (by decide))]; exact h1, by rw [hwu_ne (hD.ne (by decide) (by decide) (by decide))]; exact h2, by rw [hwu_ne (hD.ne (by decide) (by decide) (by decide))]; exact h3, by rw [hwu_ne (hD.ne (by decide) (by decide) (by decide))]; exact h4, hwu_eq, by rw [hwu_ne (hD.ne (by decide) (by decide) (by decide))]; exact h6, by rw [hwu_ne (hD.ne (by decide) (by decide) (by decide))]; exact h7, by rw [hwu_ne (hD.ne (by decide) (by decide) (by decide))]; exact h8, by rw [hwu_ne (hD.ne (by decide) (by decide) (by decide))]; exact h9, by rw [hwu_ne (hD.ne (by decide) (by decide) (by decide))]; exact h10, by rw [hwu_ne (hD.ne (by decide) (by decide) (by decide))]; exact h11⟩
theorem moW.set_st (h : moW g w m ml cd mn ki on tw od fa st rs me fo fd ba ta by9 nd) (hD : moD ml) (x' : Nat → Nat) : moW g (hwu w (ml 5) (ia (g 0) 2560 x')) m ml cd mn ki on tw od fa x' rs me fo fd ba ta by9 nd := by
  obtain ⟨n0, n1, n2, n3, n4, n5, n6, n7, n8, n9, n10⟩ := h.ne
  obtain ⟨h0, h1, h2, h3, h4, h5, h6, h7, h8, h9, h10, h11⟩ := h
  exact ⟨by rw [hwu_ne (Ne.symm n5)]; exact h0, by rw [hwu_ne (hD.ne (by decide) (by decide) (by decide))]; exact h1, by rw [hwu_ne (hD.ne (by decide) (by decide) (by decide))]; exact h2, by rw [hwu_ne (hD.ne (by decide) (by decide) (by decide))]; exact h3, by rw [hwu_ne (hD.ne (by decide) (by decide) (by decide))]; exact h4, by rw [hwu_ne (hD.ne (by decide) (by decide) (by decide))]; exact h5, hwu_eq, by rw [hwu_ne (hD.ne (by decide) (by decide) (by decide))]; exact h7, by rw [hwu_ne (hD.ne (by decide) (by decide) (by decide))]; exact h8, by rw [hwu_ne (hD.ne (by decide) (by decide) (by decide))]; exact h9, by rw [hwu_ne (hD.ne (by decide) (by decide) (by decide))]; exact h10, by rw [hwu_ne (hD.ne (by decide) (by decide) (by decide))]; exact h11⟩
theorem moW.set_rs (h : moW g w m ml cd mn ki on tw od fa st rs me fo fd ba ta by9 nd) (hD : moD ml) (x' : Nat → Nat) : moW g (hwu w (ml 6) (la (g 2) 2560 x')) m ml cd mn ki on tw od fa st x' me fo fd ba ta by9 nd := by
  obtain ⟨n0, n1, n2, n3, n4, n5, n6, n7, n8, n9, n10⟩ := h.ne
  obtain ⟨h0, h1, h2, h3, h4, h5, h6, h7, h8, h9, h10, h11⟩ := h
  exact ⟨by rw [hwu_ne (Ne.symm n6)]; exact h0, by rw [hwu_ne (hD.ne (by decide) (by decide) (by decide))]; exact h1, by rw [hwu_ne (hD.ne (by decide) (by decide) (by decide))]; exact h2, by rw [hwu_ne (hD.ne (by decide) (by decide) (by decide))]; exact h3, by rw [hwu_ne (hD.ne (by decide) (by decide) (by decide))]; exact h4, by rw [hwu_ne (hD.ne (by decide) (by decide) (by decide))]; exact h5, by rw [hwu_ne (hD.ne (by decide) (by decide) (by decide))]; exact h6, hwu_eq, by rw [hwu_ne (hD.ne (by decide) (by decide) (by decide))]; exact h8, by rw [hwu_ne (hD.ne (by decide) (by decide) (by decide))]; exact h9, by rw [hwu_ne (hD.ne (by decide) (by decide) (by decide))]; exact h10, by rw [hwu_ne (hD.ne (by decide) (by decide) (by decide))]; exact h11⟩
theorem moW.set_ba (h : moW g w m ml cd mn ki on tw od fa st rs me fo fd ba ta by9 nd) (hD : moD ml) (x' : Nat → Nat) : moW g (hwu w (ml 7) (la (g 2) 400 x')) m ml cd mn ki on tw od fa st rs me fo fd x' ta by9 nd := by
  obtain ⟨n0, n1, n2, n3, n4, n5, n6, n7, n8, n9, n10⟩ := h.ne
  obtain ⟨h0, h1, h2, h3, h4, h5, h6, h7, h8, h9, h10, h11⟩ := h
  exact ⟨by rw [hwu_ne (Ne.symm n7)]; exact h0, by rw [hwu_ne (hD.ne (by decide) (by decide) (by decide))]; exact h1, by rw [hwu_ne (hD.ne (by decide) (by decide) (by decide))]; exact h2, by rw [hwu_ne (hD.ne (by decide) (by decide) (by decide))]; exact h3, by rw [hwu_ne (hD.ne (by decide) (by decide) (by decide))]; exact h4, by rw [hwu_ne (hD.ne (by decide) (by decide) (by decide))]; exact h5, by rw [hwu_ne (hD.ne (by decide) (by decide) (by decide))]; exact h6, by rw [hwu_ne (hD.ne (by decide) (by decide) (by decide))]; exact h7, hwu_eq, by rw [hwu_ne (hD.ne (by decide) (by decide) (by decide))]; exact h9, by rw [hwu_ne (hD.ne (by decide) (by decide) (by decide))]; exact h10, by rw [hwu_ne (hD.ne (by decide) (by decide) (by decide))]; exact h11⟩
theorem moW.set_ta (h : moW g w m ml cd mn ki on tw od fa st rs me fo fd ba ta by9 nd) (hD : moD ml) (x' : Nat → Nat) : moW g (hwu w (ml 8) (la (g 2) 1280 x')) m ml cd mn ki on tw od fa st rs me fo fd ba x' by9 nd := by
  obtain ⟨n0, n1, n2, n3, n4, n5, n6, n7, n8, n9, n10⟩ := h.ne
  obtain ⟨h0, h1, h2, h3, h4, h5, h6, h7, h8, h9, h10, h11⟩ := h
  exact ⟨by rw [hwu_ne (Ne.symm n8)]; exact h0, by rw [hwu_ne (hD.ne (by decide) (by decide) (by decide))]; exact h1, by rw [hwu_ne (hD.ne (by decide) (by decide) (by decide))]; exact h2, by rw [hwu_ne (hD.ne (by decide) (by decide) (by decide))]; exact h3, by rw [hwu_ne (hD.ne (by decide) (by decide) (by decide))]; exact h4, by rw [hwu_ne (hD.ne (by decide) (by decide) (by decide))]; exact h5, by rw [hwu_ne (hD.ne (by decide) (by decide) (by decide))]; exact h6, by rw [hwu_ne (hD.ne (by decide) (by decide) (by decide))]; exact h7, by rw [hwu_ne (hD.ne (by decide) (by decide) (by decide))]; exact h8, hwu_eq, by rw [hwu_ne (hD.ne (by decide) (by decide) (by decide))]; exact h10, by rw [hwu_ne (hD.ne (by decide) (by decide) (by decide))]; exact h11⟩
theorem moW.set_by9 (h : moW g w m ml cd mn ki on tw od fa st rs me fo fd ba ta by9 nd) (hD : moD ml) (x' : Nat → Nat) : moW g (hwu w (ml 9) (ia (g 0) 20 x')) m ml cd mn ki on tw od fa st rs me fo fd ba ta x' nd := by
  obtain ⟨n0, n1, n2, n3, n4, n5, n6, n7, n8, n9, n10⟩ := h.ne
  obtain ⟨h0, h1, h2, h3, h4, h5, h6, h7, h8, h9, h10, h11⟩ := h
  exact ⟨by rw [hwu_ne (Ne.symm n9)]; exact h0, by rw [hwu_ne (hD.ne (by decide) (by decide) (by decide))]; exact h1, by rw [hwu_ne (hD.ne (by decide) (by decide) (by decide))]; exact h2, by rw [hwu_ne (hD.ne (by decide) (by decide) (by decide))]; exact h3, by rw [hwu_ne (hD.ne (by decide) (by decide) (by decide))]; exact h4, by rw [hwu_ne (hD.ne (by decide) (by decide) (by decide))]; exact h5, by rw [hwu_ne (hD.ne (by decide) (by decide) (by decide))]; exact h6, by rw [hwu_ne (hD.ne (by decide) (by decide) (by decide))]; exact h7, by rw [hwu_ne (hD.ne (by decide) (by decide) (by decide))]; exact h8, by rw [hwu_ne (hD.ne (by decide) (by decide) (by decide))]; exact h9, hwu_eq, by rw [hwu_ne (hD.ne (by decide) (by decide) (by decide))]; exact h11⟩
theorem moW.set_nd (h : moW g w m ml cd mn ki on tw od fa st rs me fo fd ba ta by9 nd) (hD : moD ml) (x' : Nat → Bool) : moW g (hwu w (ml 10) (ia (g 1) 40 (bn x'))) m ml cd mn ki on tw od fa st rs me fo fd ba ta by9 x' := by
  obtain ⟨n0, n1, n2, n3, n4, n5, n6, n7, n8, n9, n10⟩ := h.ne
  obtain ⟨h0, h1, h2, h3, h4, h5, h6, h7, h8, h9, h10, h11⟩ := h
  exact ⟨by rw [hwu_ne (Ne.symm n10)]; exact h0, by rw [hwu_ne (hD.ne (by decide) (by decide) (by decide))]; exact h1, by rw [hwu_ne (hD.ne (by decide) (by decide) (by decide))]; exact h2, by rw [hwu_ne (hD.ne (by decide) (by decide) (by decide))]; exact h3, by rw [hwu_ne (hD.ne (by decide) (by decide) (by decide))]; exact h4, by rw [hwu_ne (hD.ne (by decide) (by decide) (by decide))]; exact h5, by rw [hwu_ne (hD.ne (by decide) (by decide) (by decide))]; exact h6, by rw [hwu_ne (hD.ne (by decide) (by decide) (by decide))]; exact h7, by rw [hwu_ne (hD.ne (by decide) (by decide) (by decide))]; exact h8, by rw [hwu_ne (hD.ne (by decide) (by decide) (by decide))]; exact h9, by rw [hwu_ne (hD.ne (by decide) (by decide) (by decide))]; exact h10, hwu_eq⟩
end MO
theorem lrem_lN {a : Nat} (h : a < 2 ^ 62) : lN a - lN a / lN 32003 * lN 32003 = lN (a % 32003) := by
  have e : lN 32003 = 32003 := by decide
  refine l_eq ?_
  rw [e, lrem_int, pk_lT (by omega), pk_lT (by omega), td_pos (by omega)]
  omega
