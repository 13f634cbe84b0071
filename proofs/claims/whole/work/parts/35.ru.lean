/-! The cells of a Rules object, and what a store does to them. -/
def ruW (g : Nat → ClassId) (w : Wd) (u eq la rw bg : Nat) (er : Nat → Nat) (o dg m mem : Nat) (M : Nat → Nat → Nat) (b : Nat → Bool) (r be : Nat → Nat) : Prop :=
  w u = some (.inr (3, [.ref eq, .ref la, .ref rw, .ref bg, .int (nI o), .int (nI dg), .int (nI m), .int (nI mem)])) ∧
  w eq = some (qa (g 4) 20 (fun i => if i < 20 then some (er i) else none)) ∧ w la = some (ia (g 1) 20 (bn b)) ∧ w rw = some (ia (g 0) 20 r) ∧ w bg = some (ia (g 0) 20 be) ∧ ∀ i, i < 20 → w (er i) = some (ia (g 0) 20 (M i))
def ruD (la rw bg : Nat) (er : Nat → Nat) : Prop := la ≠ rw ∧ la ≠ bg ∧ rw ≠ bg ∧ (∀ i, i < 20 → er i ≠ la ∧ er i ≠ rw ∧ er i ≠ bg) ∧ ∀ i j, i < 20 → j < 20 → er i = er j → i = j
/-- nothing but the object's own cells has changed -/
def ruF (u la rw bg : Nat) (er : Nat → Nat) (w w' : Wd) : Prop := ∀ x, x ≠ u → x ≠ la → x ≠ rw → x ≠ bg → (∀ i, i < 20 → x ≠ er i) → w' x = w x
theorem ia_ne_qa {c1 c2 : ClassId} {n1 n2 : Nat} {f : Nat → Nat} {h : Nat → Option Nat} : ia c1 n1 f ≠ qa c2 n2 h := by
  intro q
  unfold ia qa at q
  simp at q
section RU
variable {g : Nat → ClassId} {w w1 w2 : Wd} {u eq la rw bg o dg m mem : Nat} {er : Nat → Nat} {M : Nat → Nat → Nat} {b : Nat → Bool} {r be : Nat → Nat}
theorem ruF.rf : ruF u la rw bg er w w := fun _ _ _ _ _ _ => rfl
theorem ruF.tr (h1 : ruF u la rw bg er w w1) (h2 : ruF u la rw bg er w1 w2) : ruF u la rw bg er w w2 := fun x a1 a2 a3 a4 a5 => (h2 x a1 a2 a3 a4 a5).trans (h1 x a1 a2 a3 a4 a5)
theorem ruF_u {e : va_E} : ruF u la rw bg er w (hwu w u e) := fun _ a1 _ _ _ _ => hwu_ne a1
theorem ruF_la {e : va_E} : ruF u la rw bg er w (hwu w la e) := fun _ _ a2 _ _ _ => hwu_ne a2
theorem ruF_rw {e : va_E} : ruF u la rw bg er w (hwu w rw e) := fun _ _ _ a3 _ _ => hwu_ne a3
theorem ruF_bg {e : va_E} : ruF u la rw bg er w (hwu w bg e) := fun _ _ _ _ a4 _ => hwu_ne a4
theorem ruF_er {e : va_E} {i : Nat} (hi : i < 20) : ruF u la rw bg er w (hwu w (er i) e) := fun _ _ _ _ _ a5 => hwu_ne (a5 i hi)
theorem ruW.ne_u (h : ruW g w u eq la rw bg er o dg m mem M b r be) : eq ≠ u ∧ la ≠ u ∧ rw ≠ u ∧ bg ≠ u ∧ ∀ i, i < 20 → er i ≠ u := by
  obtain ⟨h1, h2, h3, h4, h5, h6⟩ := h
  exact ⟨hw_apart h1 h2 (by intro q; cases q), hw_apart h1 h3 (by intro q; cases q), hw_apart h1 h4 (by intro q; cases q), hw_apart h1 h5 (by intro q; cases q), fun i hi => hw_apart h1 (h6 i hi) (by intro q; cases q)⟩
theorem ruW.ne_eq (h : ruW g w u eq la rw bg er o dg m mem M b r be) : u ≠ eq ∧ la ≠ eq ∧ rw ≠ eq ∧ bg ≠ eq ∧ ∀ i, i < 20 → er i ≠ eq := by
  obtain ⟨h1, h2, h3, h4, h5, h6⟩ := h
  exact ⟨hw_apart h2 h1 (by intro q; cases q), hw_apart h2 h3 ia_ne_qa.symm, hw_apart h2 h4 ia_ne_qa.symm, hw_apart h2 h5 ia_ne_qa.symm, fun i hi => hw_apart h2 (h6 i hi) ia_ne_qa.symm⟩
theorem ruW.set_u (h : ruW g w u eq la rw bg er o dg m mem M b r be) (o' dg' m' mem' : Nat) : ruW g (hwu w u (.inr (3, [.ref eq, .ref la, .ref rw, .ref bg, .int (nI o'), .int (nI dg'), .int (nI m'), .int (nI mem')]))) u eq la rw bg er o' dg' m' mem' M b r be := by
  obtain ⟨n1, n2, n3, n4, n5⟩ := h.ne_u
  obtain ⟨h1, h2, h3, h4, h5, h6⟩ := h
  exact ⟨hwu_eq, by rw [hwu_ne n1]; exact h2, by rw [hwu_ne n2]; exact h3, by rw [hwu_ne n3]; exact h4, by rw [hwu_ne n4]; exact h5, fun i hi => by rw [hwu_ne (n5 i hi)]; exact h6 i hi⟩
theorem ruW.set_la (h : ruW g w u eq la rw bg er o dg m mem M b r be) (hD : ruD la rw bg er) (b' : Nat → Bool) : ruW g (hwu w la (ia (g 1) 20 (bn b'))) u eq la rw bg er o dg m mem M b' r be := by
  obtain ⟨n1, n2, n3, n4, n5⟩ := h.ne_u
  obtain ⟨p1, p2, p3, p4, p5⟩ := h.ne_eq
  obtain ⟨d1, d2, d3, d4, d5⟩ := hD
  obtain ⟨h1, h2, h3, h4, h5, h6⟩ := h
  exact ⟨by rw [hwu_ne n2.symm]; exact h1, by rw [hwu_ne p2.symm]; exact h2, hwu_eq, by rw [hwu_ne d1.symm]; exact h4, by rw [hwu_ne d2.symm]; exact h5, fun i hi => by rw [hwu_ne (d4 i hi).1]; exact h6 i hi⟩
theorem ruW.set_rw (h : ruW g w u eq la rw bg er o dg m mem M b r be) (hD : ruD la rw bg er) (r' : Nat → Nat) : ruW g (hwu w rw (ia (g 0) 20 r')) u eq la rw bg er o dg m mem M b r' be := by
  obtain ⟨n1, n2, n3, n4, n5⟩ := h.ne_u
  obtain ⟨p1, p2, p3, p4, p5⟩ := h.ne_eq
  obtain ⟨d1, d2, d3, d4, d5⟩ := hD
  obtain ⟨h1, h2, h3, h4, h5, h6⟩ := h
  exact ⟨by rw [hwu_ne n3.symm]; exact h1, by rw [hwu_ne p3.symm]; exact h2, by rw [hwu_ne d1]; exact h3, hwu_eq, by rw [hwu_ne d3.symm]; exact h5, fun i hi => by rw [hwu_ne (d4 i hi).2.1]; exact h6 i hi⟩
theorem ruW.set_bg (h : ruW g w u eq la rw bg er o dg m mem M b r be) (hD : ruD la rw bg er) (be' : Nat → Nat) : ruW g (hwu w bg (ia (g 0) 20 be')) u eq la rw bg er o dg m mem M b r be' := by
  obtain ⟨n1, n2, n3, n4, n5⟩ := h.ne_u
  obtain ⟨p1, p2, p3, p4, p5⟩ := h.ne_eq
  obtain ⟨d1, d2, d3, d4, d5⟩ := hD
  obtain ⟨h1, h2, h3, h4, h5, h6⟩ := h
  exact ⟨by rw [hwu_ne n4.symm]; exact h1, by rw [hwu_ne p4.symm]; exact h2, by rw [hwu_ne d2]; exact h3, by rw [hwu_ne d3]; exact h4, hwu_eq, fun i hi => by rw [hwu_ne (d4 i hi).2.2]; exact h6 i hi⟩
theorem ruW.set_er (h : ruW g w u eq la rw bg er o dg m mem M b r be) (hD : ruD la rw bg er) {t : Nat} (ht : t < 20) (q : Nat → Nat) : ruW g (hwu w (er t) (ia (g 0) 20 q)) u eq la rw bg er o dg m mem (va_up M t q) b r be := by
  obtain ⟨n1, n2, n3, n4, n5⟩ := h.ne_u
  obtain ⟨p1, p2, p3, p4, p5⟩ := h.ne_eq
  obtain ⟨d1, d2, d3, d4, d5⟩ := hD
  obtain ⟨h1, h2, h3, h4, h5, h6⟩ := h
  refine ⟨by rw [hwu_ne (n5 t ht).symm]; exact h1, by rw [hwu_ne (p5 t ht).symm]; exact h2, by rw [hwu_ne (d4 t ht).1.symm]; exact h3, by rw [hwu_ne (d4 t ht).2.1.symm]; exact h4, by rw [hwu_ne (d4 t ht).2.2.symm]; exact h5, fun i hi => ?_⟩
  by_cases e : i = t
  · subst e
    rw [hwu_eq, va_up_eq]
  · rw [hwu_ne (fun q => e (d5 i t hi ht q)), va_up_no e]
    exact h6 i hi
end RU
theorem sub_lN {x y : Nat} (hx : x < 2 ^ 62) (hy : y < 2 ^ 62) : (lN x - lN y).toInt = (x : Int) - (y : Int) := by
  rw [Int64.toInt_sub, pk_lT (by omega), pk_lT (by omega)]
  exact bm64 (by omega) (by omega)
theorem subR_0 {c a : Nat} {r q : Nat → Nat} : subR c c a r q = r := by
  funext x
  unfold subR
  rw [if_neg (by omega)]
theorem subR_step {c k a : Nat} {r q : Nat → Nat} (h : c ≤ k) : va_up (subR k c a r q) k (rd ((r k : Int) - (a : Int) * (q k : Int))) = subR (k + 1) c a r q := by
  funext x
  unfold subR va_up
  by_cases e : x = k
  · subst e
    rw [if_pos rfl, if_pos ⟨h, by omega⟩]
  · rw [if_neg e]
    dsimp only
    by_cases g : c ≤ x ∧ x < k
    · rw [if_pos g, if_pos ⟨g.1, by omega⟩]
    · rw [if_neg g, if_neg (by omega)]
theorem subR_at {c k a : Nat} {r q : Nat → Nat} : subR k c a r q k = r k := by
  unfold subR
  rw [if_neg (by omega)]
theorem leadR_0 {c a : Nat} {r q : Nat → Nat} : leadR c c a r q = q := by
  funext x
  unfold leadR
  rw [if_neg (by omega)]
theorem leadR_step {c k a : Nat} {r q : Nat → Nat} (h : c ≤ k) : va_up (leadR k c a r q) k (a * r k % 32003) = leadR (k + 1) c a r q := by
  funext x
  unfold leadR va_up
  by_cases e : x = k
  · subst e
    rw [if_pos rfl, if_pos ⟨h, by omega⟩]
  · rw [if_neg e]
    dsimp only
    by_cases g : c ≤ x ∧ x < k
    · rw [if_pos g, if_pos ⟨g.1, by omega⟩]
    · rw [if_neg g, if_neg (by omega)]
theorem leadR_lt {m c a : Nat} {r q : Nat → Nat} {N : Nat} (h : ∀ x, x < N → q x < 32003) : ∀ x, x < N → leadR m c a r q x < 32003 := by
  intro x hx
  unfold leadR
  split
  · exact Nat.mod_lt _ (by decide)
  · exact h x hx
theorem subR_lt20 {m c a : Nat} {r q : Nat → Nat} {N : Nat} (h : ∀ x, x < N → r x < 32003) : ∀ x, x < N → subR m c a r q x < 32003 := by
  intro x hx
  unfold subR
  split
  · exact rd_lt _
  · exact h x hx
theorem va_up2 {α : Type} {f : Nat → α} {k : Nat} {x y : α} : va_up (va_up f k x) k y = va_up f k y := by
  funext j
  unfold va_up
  split <;> rfl
theorem va_up_me {α : Type} {f : Nat → α} {k : Nat} : va_up f k (f k) = f := by
  funext j
  unfold va_up
  split
  · rename_i h; rw [h]
  · rfl
section HWA
variable {p : Program} {l : Launch} {e : Env} {R : Room} {s : State} {m : MethodId} {args : Array Value} {below : List Frame} {meth : Method} {c : Code} {H : Heap} {locs : List Loc} {cells slots : Nat} {Q : State → Prop}
variable {cc : ByteArray} {pc : Nat} {ls : Array Slot} {rest : List Value} {D : va_G} {cl : List vw_C} {A : Nat → Prop} {a : Nat} {tys : List (ClassId × FieldType)} {w : Nat → Option va_E} {H0 : Heap}
theorem hw_aldA (hexec : p.tables.exec = Jvm.exec) (hb : c.code = cc) (hK : va_K D cl tys s) (hW : hw D cl A w H) (t0 : Nat) {cA : ClassId} {t : FieldType} {n : Nat} {f : Nat → Option Nat} (ha : w a = some (.inl (cA, n, .inr (.inr (.inr (.inr f)))))) (ht : tys[t0]? = some (cA, .array t)) {i : Int32} (hin : vp_in i n) (hdg : decode cc pc = .ok (.aaload, 1))
    (kk : W p l e R s m args below meth c H locs cells slots Q (F0 m (pc + 1) ls (va_rf (f i.toNatClampNeg) :: rest))) : W p l e R s m args below meth c H locs cells slots Q (F0 m pc ls (.int i :: .ref a :: rest)) := by
  obtain ⟨ws, hP, hD, hi⟩ := hW
  obtain ⟨j, hj⟩ := List.getElem?_of_mem ((hi a _).mp ha)
  have hlt : i.toNatClampNeg < n := Nat.not_le.mp fun q => hin (Or.inr q)
  exact W.aald (v := va_rf (f i.toNatClampNeg)) (ty := .array t) hexec hb (hP j _ hj) ((hK.2 t0 _ ht).1 n (fun j => va_rf (f j))) rfl (fun q => by cases q) (by show ¬ (i < 0 ∨ (arrV _ _ _).slots.size ≤ _); rw [arrV_size]; exact hin) (by show (arrV _ _ _).slots[_]? = _; rw [arrV_read _ _ hlt]) rfl rfl hdg kk
end HWA
