/-! The world as a map from addresses to cells. A contract is said of the caller's whole map: what a callee leaves alone stays, with no part cut out and no joining. -/
def hwu (w : Nat → Option va_E) (a : Nat) (e : va_E) : Nat → Option va_E := fun q => if q = a then some e else w q
theorem hwu_eq {w : Nat → Option va_E} {a : Nat} {e : va_E} : hwu w a e a = some e := by simp [hwu]
theorem hwu_ne {w : Nat → Option va_E} {a b : Nat} {e : va_E} (h : b ≠ a) : hwu w a e b = w b := by simp [hwu, h]
theorem hwu_two {w : Nat → Option va_E} {a : Nat} {e e' : va_E} : hwu (hwu w a e) a e' = hwu w a e' := by
  funext q
  simp only [hwu]
  split <;> rfl
theorem hwu_self {w : Nat → Option va_E} {a : Nat} {e : va_E} (h : w a = some e) : hwu w a e = w := by
  funext q
  simp only [hwu]
  split
  · rename_i hq
    rw [hq, h]
  · rfl
theorem hwu_comm {w : Nat → Option va_E} {a b : Nat} {e e' : va_E} (h : a ≠ b) : hwu (hwu w a e) b e' = hwu (hwu w b e') a e := by
  funext q
  simp only [hwu]
  by_cases h1 : q = a
  · by_cases h2 : q = b
    · exact absurd (h1.symm.trans h2) h
    · simp [h1, h]
  · simp [h1]
/-- cells that differ lie apart -/
theorem hw_apart {w : Nat → Option va_E} {a b : Nat} {e e' : va_E} (h1 : w a = some e) (h2 : w b = some e') (hne : e ≠ e') : b ≠ a := fun h => hne (by rw [h, h1] at h2; exact Option.some.inj h2)
def hw (D : va_G) (cl : List vw_C) (A : Nat → Prop) (w : Nat → Option va_E) (H : Heap) : Prop := ∃ ws : va_W, va_P D cl ws H ∧ va_D A ws ∧ ∀ (a : Nat) (e : va_E), w a = some e ↔ (a, e) ∈ ws
theorem hw_set {A : Nat → Prop} {ws : va_W} {w : Nat → Option va_E} {k a : Nat} {e0 e : va_E} (hD : va_D A ws) (hi : ∀ (a : Nat) (e : va_E), w a = some e ↔ (a, e) ∈ ws) (hk : ws[k]? = some (a, e0)) : ∀ (b : Nat) (e' : va_E), hwu w a e b = some e' ↔ (b, e') ∈ ws.set k (a, e) := by
  have hl := (List.getElem?_eq_some_iff.mp hk).1
  intro b e'
  constructor
  · intro h
    by_cases hb : b = a
    · subst hb
      rw [hwu_eq] at h
      cases h
      exact List.mem_of_getElem? (List.getElem?_set_self hl)
    · rw [hwu_ne hb] at h
      obtain ⟨j, hj⟩ := List.getElem?_of_mem ((hi b e').mp h)
      have hjk : k ≠ j := fun q => by
        rw [← q, hk] at hj
        cases hj
        exact hb rfl
      exact List.mem_of_getElem? (by rw [List.getElem?_set_ne hjk]; exact hj)
  · intro h
    obtain ⟨j, hj⟩ := List.getElem?_of_mem h
    by_cases hjk : k = j
    · subst hjk
      rw [List.getElem?_set_self hl] at hj
      cases hj
      exact hwu_eq
    · rw [List.getElem?_set_ne hjk] at hj
      have hb : b ≠ a := fun q => by
        subst q
        exact hjk (hD.1 k j _ _ hk hj rfl)
      rw [hwu_ne hb]
      exact (hi b e').mpr (List.mem_of_getElem? hj)
theorem hw_push {A : Nat → Prop} {ws : va_W} {w : Nat → Option va_E} {a : Nat} {e : va_E} (hD : va_D A (ws ++ [(a, e)])) (hi : ∀ (a : Nat) (e : va_E), w a = some e ↔ (a, e) ∈ ws) : (∀ (b : Nat) (e' : va_E), hwu w a e b = some e' ↔ (b, e') ∈ ws ++ [(a, e)]) ∧ w a = none := by
  have hf : ∀ e', w a ≠ some e' := by
    intro e' h
    obtain ⟨j, hj⟩ := List.getElem?_of_mem ((hi a e').mp h)
    have hl := (List.getElem?_eq_some_iff.mp hj).1
    have h1 : (ws ++ [(a, e)])[j]? = some (a, e') := by rw [List.getElem?_append_left hl]; exact hj
    have h2 : (ws ++ [(a, e)])[ws.length]? = some (a, e) := by rw [List.getElem?_append_right (Nat.le_refl _), Nat.sub_self]; rfl
    have := hD.1 j ws.length _ _ h1 h2 rfl
    omega
  refine ⟨fun b e' => ?_, ?_⟩
  · constructor
    · intro h
      by_cases hb : b = a
      · subst hb
        rw [hwu_eq] at h
        cases h
        exact List.mem_append_right _ List.mem_cons_self
      · rw [hwu_ne hb] at h
        exact List.mem_append_left _ ((hi b e').mp h)
    · intro h
      rcases List.mem_append.mp h with h1 | h1
      · have hb : b ≠ a := fun q => by
          subst q
          exact hf e' ((hi b e').mpr h1)
        rw [hwu_ne hb]
        exact (hi b e').mpr h1
      · cases List.mem_singleton.mp h1
        exact hwu_eq
  · cases h : w a with
    | none => rfl
    | some e' => exact absurd h (hf e')
theorem hw_in {D : va_G} {cl : List vw_C} {A : Nat → Prop} {w : Nat → Option va_E} {H : Heap} (h : hw D cl A w H) {a : Nat} {e : va_E} (ha : w a = some e) : A a ∧ a < H.size := by
  obtain ⟨ws, hP, hD, hi⟩ := h
  obtain ⟨k, hk⟩ := List.getElem?_of_mem ((hi a e).mp ha)
  exact ⟨hD.2 k _ hk, (hP k _ hk).lt⟩
theorem hw_weak {D : va_G} {cl : List vw_C} {A B : Nat → Prop} {w : Nat → Option va_E} {H : Heap} (h : hw D cl A w H) (hAB : ∀ (a : Nat) (e : va_E), w a = some e → A a → B a) : hw D cl B w H := by
  obtain ⟨ws, hP, hD, hi⟩ := h
  exact ⟨ws, hP, hD.weaken (fun k q hk hA => hAB q.1 q.2 ((hi q.1 q.2).mpr (List.mem_of_getElem? hk)) hA), hi⟩
/-- what a method may change: the map's cells, and those that it makes -/
def hA (w : Nat → Option va_E) (sz : Nat) : Nat → Prop := fun q => (∃ e, w q = some e) ∨ sz ≤ q
theorem hw_nil {D : va_G} {cl : List vw_C} {A : Nat → Prop} {H : Heap} : hw D cl A (fun _ => none) H := ⟨[], fun k q h => by simp at h, ⟨fun i j p q h => by simp at h, fun k q h => by simp at h⟩, fun a e => by simp⟩
theorem va_RA_one {U : State} {c1 c2 : ClassId} {ty : FieldType} (h1 : va_RA U c1 ty) (h2 : va_RA U c2 ty) : c1 = c2 := by
  cases ty with
  | object C =>
    obtain ⟨_, _, -, -, -, f1⟩ := h1
    obtain ⟨_, _, -, -, -, f2⟩ := h2
    exact Option.some.inj (f1.symm.trans f2)
  | _ => exact Option.some.inj (Eq.trans (Eq.symm h1) h2)
section HWR
variable {p : Program} {l : Launch} {e : Env} {R : Room} {s : State} {m : MethodId} {args : Array Value} {below : List Frame} {meth : Method} {c : Code} {H : Heap} {locs : List Loc} {cells slots : Nat} {Q : State → Prop}
variable {cc : ByteArray} {pc : Nat} {ls : Array Slot} {rest : List Value} {D : va_G} {cl : List vw_C} {A : Nat → Prop} {a : Nat} {tys : List (ClassId × FieldType)} {w : Nat → Option va_E} {H0 : Heap}
theorem tp_i {x y : Int32} (h : x = y) (k : W p l e R s m args below meth c H locs cells slots Q (F0 m pc ls (.int y :: rest))) : W p l e R s m args below meth c H locs cells slots Q (F0 m pc ls (.int x :: rest)) := h ▸ k
theorem tp_l {x y : Int64} (h : x = y) (k : W p l e R s m args below meth c H locs cells slots Q (F0 m pc ls (.long y :: rest))) : W p l e R s m args below meth c H locs cells slots Q (F0 m pc ls (.long x :: rest)) := h ▸ k
theorem tp_v {x y : Value} (h : x = y) (k : W p l e R s m args below meth c H locs cells slots Q (F0 m pc ls (y :: rest))) : W p l e R s m args below meth c H locs cells slots Q (F0 m pc ls (x :: rest)) := h ▸ k
theorem hw_get (hexec : p.tables.exec = Jvm.exec) (hb : c.code = cc) {own ref C : String} {T : u_T} {N ci index : Nat} {Ts : List Cond} (hts : ∀ w ∈ Ts, w.before args s = true) (hin : ∀ w ∈ u_ws C T N, w ∈ Ts) (hown : s.vm.findClass own = some m.cls) (hK : va_K D cl tys s) (hW : hw D cl A w H) {fs : List Value} (ha : w a = some (.inr (ci, fs))) (hc : cl[ci]? = some (C, T, N)) (k : Nat) (hk : k < N) (hlink : (Cond.fieldLink own index ref (T k).2.1 (T k).2.2.1).before args s = true) (hsame : ∀ x, s.fieldFound? (T k).1 (T k).2.1 (T k).2.2.1 = some x → s.fieldFound? ref (T k).2.1 (T k).2.2.1 = some x) {v : Value} (hv : fs[k]? = some v) (hdg : decode cc pc = .ok (.getfield index, 3))
    (kk : W p l e R s m args below meth c H locs cells slots Q (F0 m (pc + 3) ls (v :: rest))) : W p l e R s m args below meth c H locs cells slots Q (F0 m pc ls (.ref a :: rest)) := by
  obtain ⟨ws, hP, hD, hi⟩ := hW
  obtain ⟨j, hj⟩ := List.getElem?_of_mem ((hi a _).mp ha)
  exact va_get hexec hb hts hin hown hK hP j hj hc k hk hlink hsame hv hdg kk
theorem hw_recv {ci : Nat} {q : vw_C} {fs : List Value} (hK : va_K D cl tys s) (hW : hw D cl A w H) (hc : cl[ci]? = some q) (ha : w a = some (.inr (ci, fs))) : ∃ cell : Cell, H[a]? = some cell ∧ cell.vm.isStatics = false ∧ s.vm.findClass q.1 = some cell.cls := by
  obtain ⟨ws, hP, hD, hi⟩ := hW
  obtain ⟨j, hj⟩ := List.getElem?_of_mem ((hi a _).mp ha)
  exact va_recv hK hP hc hj
theorem hw_iald (hexec : p.tables.exec = Jvm.exec) (hb : c.code = cc) (hK : va_K D cl tys s) (hW : hw D cl A w H) (t0 : Nat) {cA : ClassId} {n : Nat} {f : Nat → Int32} (ha : w a = some (.inl (cA, n, .inl f))) (ht : tys[t0]? = some (cA, .int)) {i : Int32} (hin : vp_in i n) (hdg : decode cc pc = .ok (.iaload, 1))
    (kk : W p l e R s m args below meth c H locs cells slots Q (F0 m (pc + 1) ls (.int (f i.toNatClampNeg) :: rest))) : W p l e R s m args below meth c H locs cells slots Q (F0 m pc ls (.int i :: .ref a :: rest)) := by
  obtain ⟨ws, hP, hD, hi⟩ := hW
  obtain ⟨j, hj⟩ := List.getElem?_of_mem ((hi a _).mp ha)
  exact va_iald hexec hb hK hP j t0 hj ht hin hdg kk
theorem hw_zald (hexec : p.tables.exec = Jvm.exec) (hb : c.code = cc) (hK : va_K D cl tys s) (hW : hw D cl A w H) (t0 : Nat) {cA : ClassId} {n : Nat} {f : Nat → Int32} (ha : w a = some (.inl (cA, n, .inl f))) (ht : tys[t0]? = some (cA, .boolean)) {i : Int32} (hin : vp_in i n) (hdg : decode cc pc = .ok (.baload, 1))
    (kk : W p l e R s m args below meth c H locs cells slots Q (F0 m (pc + 1) ls (.int (f i.toNatClampNeg) :: rest))) : W p l e R s m args below meth c H locs cells slots Q (F0 m pc ls (.int i :: .ref a :: rest)) := by
  obtain ⟨ws, hP, hD, hi⟩ := hW
  obtain ⟨j, hj⟩ := List.getElem?_of_mem ((hi a _).mp ha)
  exact va_zald hexec hb hK hP j t0 hj ht hin hdg kk
theorem hw_lald (hexec : p.tables.exec = Jvm.exec) (hb : c.code = cc) (hK : va_K D cl tys s) (hW : hw D cl A w H) (t0 : Nat) {cA : ClassId} {n : Nat} {f : Nat → Int64} (ha : w a = some (.inl (cA, n, .inr (.inl f)))) (ht : tys[t0]? = some (cA, .long)) {i : Int32} (hin : vp_in i n) (hdg : decode cc pc = .ok (.laload, 1))
    (kk : W p l e R s m args below meth c H locs cells slots Q (F0 m (pc + 1) ls (.long (f i.toNatClampNeg) :: rest))) : W p l e R s m args below meth c H locs cells slots Q (F0 m pc ls (.int i :: .ref a :: rest)) := by
  obtain ⟨ws, hP, hD, hi⟩ := hW
  obtain ⟨j, hj⟩ := List.getElem?_of_mem ((hi a _).mp ha)
  exact va_lald hexec hb hK hP j t0 hj ht hin hdg kk
theorem hw_aldq (hexec : p.tables.exec = Jvm.exec) (hb : c.code = cc) (hK : va_K D cl tys s) (hW : hw D cl A w H) (t0 : Nat) {cA : ClassId} {C : String} {n : Nat} {f : Nat → Option Nat} (ha : w a = some (.inl (cA, n, .inr (.inr (.inr (.inr f)))))) (ht : tys[t0]? = some (cA, .object C)) {i : Int32} (hin : vp_in i n) (hdg : decode cc pc = .ok (.aaload, 1))
    (kk : W p l e R s m args below meth c H locs cells slots Q (F0 m (pc + 1) ls (va_rf (f i.toNatClampNeg) :: rest))) : W p l e R s m args below meth c H locs cells slots Q (F0 m pc ls (.int i :: .ref a :: rest)) := by
  obtain ⟨ws, hP, hD, hi⟩ := hW
  obtain ⟨j, hj⟩ := List.getElem?_of_mem ((hi a _).mp ha)
  exact va_aldq hexec hb hK hP j t0 hj ht hin hdg kk
theorem hw_alen (hexec : p.tables.exec = Jvm.exec) (hb : c.code = cc) (hK : va_K D cl tys s) (hW : hw D cl A w H) (t0 : Nat) {cA : ClassId} {x : vp_A} (ha : w a = some (.inl (cA, x))) {ty : FieldType} (ht : tys[t0]? = some (cA, ty)) {v : Int32} (hv : Int32.ofNat x.1 = v) (hdg : decode cc pc = .ok (.arraylength, 1))
    (kk : W p l e R s m args below meth c H locs cells slots Q (F0 m (pc + 1) ls (.int v :: rest))) : W p l e R s m args below meth c H locs cells slots Q (F0 m pc ls (.ref a :: rest)) := by
  obtain ⟨ws, hP, hD, hi⟩ := hW
  obtain ⟨j, hj⟩ := List.getElem?_of_mem ((hi a _).mp ha)
  exact va_alen hexec hb hK hP j t0 hj ht hv hdg kk
theorem hw_iast (hexec : p.tables.exec = Jvm.exec) (hb : c.code = cc) (hK : va_K D cl tys s) (hW : hw D cl A w H) (hS : va_S A H0 H locs) (t0 : Nat) {cA : ClassId} {n : Nat} {f : Nat → Int32} (ha : w a = some (.inl (cA, n, .inl f))) (ht : tys[t0]? = some (cA, .int)) {i : Int32} {x : Int32} (hin : vp_in i n) (hdg : decode cc pc = .ok (.iastore, 1))
    (kk : ∀ (H1 : Heap) (locs1 : List Loc), hw D cl A (hwu w a (.inl (cA, n, .inl (upd f i.toNatClampNeg x)))) H1 → va_S A H0 H1 locs1 → W p l e R s m args below meth c H1 locs1 cells slots Q (F0 m (pc + 1) ls rest)) : W p l e R s m args below meth c H locs cells slots Q (F0 m pc ls (.int x :: .int i :: .ref a :: rest)) := by
  obtain ⟨ws, hP, hD, hi⟩ := hW
  obtain ⟨j, hj⟩ := List.getElem?_of_mem ((hi a _).mp ha)
  exact va_iast hexec hb hK hP hD hS j t0 hj ht hin hdg (fun H1 locs1 h1 h2 h3 => kk H1 locs1 ⟨_, h1, h2, hw_set hD hi hj⟩ h3)
theorem hw_zast (hexec : p.tables.exec = Jvm.exec) (hb : c.code = cc) (hK : va_K D cl tys s) (hW : hw D cl A w H) (hS : va_S A H0 H locs) (t0 : Nat) {cA : ClassId} {n : Nat} {f : Nat → Int32} (ha : w a = some (.inl (cA, n, .inl f))) (ht : tys[t0]? = some (cA, .boolean)) {i : Int32} {x : Int32} (hin : vp_in i n) (hdg : decode cc pc = .ok (.bastore, 1))
    (kk : ∀ (H1 : Heap) (locs1 : List Loc), hw D cl A (hwu w a (.inl (cA, n, .inl (upd f i.toNatClampNeg (vp_nar .boolean x))))) H1 → va_S A H0 H1 locs1 → W p l e R s m args below meth c H1 locs1 cells slots Q (F0 m (pc + 1) ls rest)) : W p l e R s m args below meth c H locs cells slots Q (F0 m pc ls (.int x :: .int i :: .ref a :: rest)) := by
  obtain ⟨ws, hP, hD, hi⟩ := hW
  obtain ⟨j, hj⟩ := List.getElem?_of_mem ((hi a _).mp ha)
  exact va_zast hexec hb hK hP hD hS j t0 hj ht hin hdg (fun H1 locs1 h1 h2 h3 => kk H1 locs1 ⟨_, h1, h2, hw_set hD hi hj⟩ h3)
theorem hw_last (hexec : p.tables.exec = Jvm.exec) (hb : c.code = cc) (hK : va_K D cl tys s) (hW : hw D cl A w H) (hS : va_S A H0 H locs) (t0 : Nat) {cA : ClassId} {n : Nat} {f : Nat → Int64} (ha : w a = some (.inl (cA, n, .inr (.inl f)))) (ht : tys[t0]? = some (cA, .long)) {i : Int32} {x : Int64} (hin : vp_in i n) (hdg : decode cc pc = .ok (.lastore, 1))
    (kk : ∀ (H1 : Heap) (locs1 : List Loc), hw D cl A (hwu w a (.inl (cA, n, .inr (.inl (vp_updL f i.toNatClampNeg x))))) H1 → va_S A H0 H1 locs1 → W p l e R s m args below meth c H1 locs1 cells slots Q (F0 m (pc + 1) ls rest)) : W p l e R s m args below meth c H locs cells slots Q (F0 m pc ls (.long x :: .int i :: .ref a :: rest)) := by
  obtain ⟨ws, hP, hD, hi⟩ := hW
  obtain ⟨j, hj⟩ := List.getElem?_of_mem ((hi a _).mp ha)
  exact va_last hexec hb hK hP hD hS j t0 hj ht hin hdg (fun H1 locs1 h1 h2 h3 => kk H1 locs1 ⟨_, h1, h2, hw_set hD hi hj⟩ h3)
theorem hw_newa (hexec : p.tables.exec = Jvm.exec) (hb : c.code = cc) {atype : ArrayType} (harr : (Cond.arrayClass (newarray.typeOf atype)).before args s = true) {ty : FieldType} (hty : newarray.typeOf atype = ty) (hK : va_K D cl tys s) (hW : hw D cl A w H) (hS : va_S A H0 H locs) (hA : ∀ q, H0.size ≤ q → A q) (t0 : Nat) {cA : ClassId} (ht : tys[t0]? = some (cA, ty))
    {n : Int32} {N' : Nat} {a0 : vp_A} (ha : ∀ cA : ClassId, vp_cell cA a0 = arrV cA N' (fun _ => defaultValue ty)) (hn : ¬ n < 0) (hN : n.toNatClampNeg = N') (hbytes : N' * componentBytes ty ≤ 536870912) (hcells : cells + 1 ≤ R.cells) (hslots : slots + N' ≤ R.slots) (hdg : decode cc pc = .ok (.newarray atype, 2))
    (kk : ∀ (q : Nat) (H1 : Heap), w q = none → hw D cl A (hwu w q (.inl (cA, a0))) H1 → va_S A H0 H1 locs →
      W p l e R s m args below meth c H1 locs (cells + 1) (slots + N') Q (F0 m (pc + 2) ls (.ref q :: rest))) : W p l e R s m args below meth c H locs cells slots Q (F0 m pc ls (.int n :: rest)) := by
  obtain ⟨ws, hP, hD, hi⟩ := hW
  refine va_newa hexec hb harr hty hK hP hD hS hA ha hn hN hbytes hcells hslots hdg (fun q cB H1 hK1 h1 h2 h3 => ?_)
  have e9 : cB = cA := va_RA_one (hK1.2 tys.length (cB, ty) (by rw [List.getElem?_append_right (Nat.le_refl _), Nat.sub_self]; rfl)).2 (hK.2 t0 _ ht).2
  subst e9
  obtain ⟨g1, g2⟩ := hw_push h2 hi
  exact kk q H1 g2 ⟨_, h1, h2, g1⟩ h3
theorem hw_newq (hexec : p.tables.exec = Jvm.exec) (hb : c.code = cc) {own C : String} {index : Nat} (hown : s.vm.findClass own = some m.cls) (hclink : (Cond.classLink own index C).before args s = true) (hover : va_AO C s) (hK : va_K D cl tys s) (hW : hw D cl A w H) (hS : va_S A H0 H locs) (hA : ∀ q, H0.size ≤ q → A q) (t0 : Nat) {cA : ClassId} (ht : tys[t0]? = some (cA, .object C))
    {n : Int32} {N' : Nat} (hn : ¬ n < 0) (hN : n.toNatClampNeg = N') (hbytes : N' * 4 ≤ 536870912) (hcells : cells + 1 ≤ R.cells) (hslots : slots + N' ≤ R.slots) (hdg : decode cc pc = .ok (.anewarray index, 3))
    (kk : ∀ (q : Nat) (H1 : Heap), w q = none → hw D cl A (hwu w q (.inl (cA, N', .inr (.inr (.inr (.inr (fun _ => none))))))) H1 → va_S A H0 H1 locs →
      W p l e R s m args below meth c H1 locs (cells + 1) (slots + N') Q (F0 m (pc + 3) ls (.ref q :: rest))) : W p l e R s m args below meth c H locs cells slots Q (F0 m pc ls (.int n :: rest)) := by
  obtain ⟨ws, hP, hD, hi⟩ := hW
  refine va_newq hexec hb hown hclink hover hK hP hD hS hA hn hN hbytes hcells hslots hdg (fun q cB H1 hK1 h1 h2 h3 => ?_)
  have e9 : cB = cA := va_RA_one (hK1.2 tys.length (cB, .object C) (by rw [List.getElem?_append_right (Nat.le_refl _), Nat.sub_self]; rfl)).2 (hK.2 t0 _ ht).2
  subst e9
  obtain ⟨g1, g2⟩ := hw_push h2 hi
  exact kk q H1 g2 ⟨_, h1, h2, g1⟩ h3
theorem hw_new {c0 : Code} (hexec : p.tables.exec = Jvm.exec) (hb : c0.code = cc) {own C : String} {T : u_T} {N ci index : Nat} {Ts : List Cond} (hts : ∀ w ∈ Ts, w.before args s = true) (hin : ∀ w ∈ u_ws C T N, w ∈ Ts) (ty : Nat → FieldType) (hty : ∀ k, k < N → parseFieldDescriptor (T k).2.2.1 = some (ty k)) (hown : s.vm.findClass own = some m.cls) (hcl : (Cond.classLink own index C).before args s = true) (hinst : (Cond.instantiable C N).before args s = true) (hini : (Cond.initialized C).before args s = true)
    (hK : va_K D cl tys s) (hW : hw D cl A w H) (hS : va_S A H0 H locs) (hA : ∀ q, H0.size ≤ q → A q) (hc : cl[ci]? = some (C, T, N)) {fs : List Value} (hfs : ∀ j, j < N → defaultValue (ty j) = vp_V fs j) (hcells : cells + 1 ≤ R.cells) (hslots : slots + N ≤ R.slots) (hdg : decode cc pc = .ok (.new index, 3))
    (kk : ∀ (q : Nat) (H1 : Heap), w q = none → hw D cl A (hwu w q (.inr (ci, fs))) H1 → va_S A H0 H1 locs →
      W p l e R s m args below meth c0 H1 locs (cells + 1) (slots + N) Q (F0 m (pc + 3) ls (.ref q :: rest))) : W p l e R s m args below meth c0 H locs cells slots Q (F0 m pc ls rest) := by
  obtain ⟨ws, hP, hD, hi⟩ := hW
  refine va_new hexec hb hts hin ty hty hown hcl hinst hini hK hP hD hS hA hc hfs hcells hslots hdg (fun q H1 h1 h2 h3 => ?_)
  obtain ⟨g1, g2⟩ := hw_push h2 hi
  exact kk q H1 g2 ⟨_, h1, h2, g1⟩ h3
theorem hw_put (hexec : p.tables.exec = Jvm.exec) (hb : c.code = cc) {own ref C : String} {T : u_T} {N ci index : Nat} {Ts : List Cond} (hts : ∀ w ∈ Ts, w.before args s = true) (hin : ∀ w ∈ u_ws C T N, w ∈ Ts) (ty0 : Nat → FieldType) (hty : ∀ k, k < N → parseFieldDescriptor (T k).2.2.1 = some (ty0 k)) (hnm : ∀ a, a < N → ∀ b, b < N → a ≠ b → (T a).2.1 ≠ (T b).2.1) (hown : s.vm.findClass own = some m.cls) (hK : va_K D cl tys s) (hW : hw D cl A w H) (hS : va_S A H0 H locs) {fs : List Value} (ha : w a = some (.inr (ci, fs))) (hc : cl[ci]? = some (C, T, N)) (k : Nat) (hk : k < N) (hlink : (Cond.fieldLink own index ref (T k).2.1 (T k).2.2.1).before args s = true) (hsame : ∀ x, s.fieldFound? (T k).1 (T k).2.1 (T k).2.2.1 = some x → s.fieldFound? ref (T k).2.1 (T k).2.2.1 = some x) (hfin : (T k).2.2.2 = false) {ty : FieldType} {v : Value} (hd : parseFieldDescriptor (T k).2.2.1 = some ty) (hn : narrow ty v = v) (hfit : fits ty v = true) (hl : k < fs.length)
    (hdg : decode cc pc = .ok (.putfield index, 3)) (kk : ∀ (H1 : Heap) (locs1 : List Loc), hw D cl A (hwu w a (.inr (ci, fs.set k v))) H1 → va_S A H0 H1 locs1 → W p l e R s m args below meth c H1 locs1 cells slots Q (F0 m (pc + 3) ls rest)) : W p l e R s m args below meth c H locs cells slots Q (F0 m pc ls (v :: .ref a :: rest)) := by
  obtain ⟨ws, hP, hD, hi⟩ := hW
  obtain ⟨j, hj⟩ := List.getElem?_of_mem ((hi a _).mp ha)
  exact va_put hexec hb hts hin ty0 hty hnm hown hK hP hD hS j hj hc k hk hlink hsame hfin hd hn hfit hl hdg (fun H1 locs1 h1 h2 h3 => kk H1 locs1 ⟨_, h1, h2, hw_set hD hi hj⟩ h3)
theorem hw_putF (hexec : p.tables.exec = Jvm.exec) (hb : c.code = cc) {own ref C : String} {T : u_T} {N ci index : Nat} {Ts : List Cond} (hts : ∀ w ∈ Ts, w.before args s = true) (hin : ∀ w ∈ u_ws C T N, w ∈ Ts) (ty0 : Nat → FieldType) (hty : ∀ k, k < N → parseFieldDescriptor (T k).2.2.1 = some (ty0 k)) (hnm : ∀ a, a < N → ∀ b, b < N → a ≠ b → (T a).2.1 ≠ (T b).2.1) (hown : s.vm.findClass own = some m.cls) (hK : va_K D cl tys s) (hW : hw D cl A w H) (hS : va_S A H0 H locs) {fs : List Value} (ha : w a = some (.inr (ci, fs))) (hc : cl[ci]? = some (C, T, N)) (k : Nat) (hk : k < N) (hlink : (Cond.fieldLink own index ref (T k).2.1 (T k).2.2.1).before args s = true) (hsame : ∀ x, s.fieldFound? (T k).1 (T k).2.1 (T k).2.2.1 = some x → s.fieldFound? ref (T k).2.1 (T k).2.2.1 = some x) (hfin : (T k).2.2.2 = true) (hin2 : meth.name = "<init>") (hdecl : (T k).1 = own) {ty : FieldType} {v : Value} (hd : parseFieldDescriptor (T k).2.2.1 = some ty) (hn : narrow ty v = v) (hfit : fits ty v = true) (hl : k < fs.length)
    (hdg : decode cc pc = .ok (.putfield index, 3)) (kk : ∀ (H1 : Heap) (locs1 : List Loc), hw D cl A (hwu w a (.inr (ci, fs.set k v))) H1 → va_S A H0 H1 locs1 → W p l e R s m args below meth c H1 locs1 cells slots Q (F0 m (pc + 3) ls rest)) : W p l e R s m args below meth c H locs cells slots Q (F0 m pc ls (v :: .ref a :: rest)) := by
  obtain ⟨ws, hP, hD, hi⟩ := hW
  obtain ⟨j, hj⟩ := List.getElem?_of_mem ((hi a _).mp ha)
  exact va_putF hexec hb hts hin ty0 hty hnm hown hK hP hD hS j hj hc k hk hlink hsame hfin hin2 hdecl hd hn hfit hl hdg (fun H1 locs1 h1 h2 h3 => kk H1 locs1 ⟨_, h1, h2, hw_set hD hi hj⟩ h3)
theorem hw_putN (hexec : p.tables.exec = Jvm.exec) (hb : c.code = cc) {own ref C host : String} {T : u_T} {N ci index : Nat} {Ts : List Cond} (hts : ∀ w ∈ Ts, w.before args s = true) (hin : ∀ w ∈ u_ws C T N, w ∈ Ts) (ty0 : Nat → FieldType) (hty : ∀ k, k < N → parseFieldDescriptor (T k).2.2.1 = some (ty0 k)) (hnm : ∀ a, a < N → ∀ b, b < N → a ≠ b → (T a).2.1 ≠ (T b).2.1) (hown : s.vm.findClass own = some m.cls) (hK : va_K D cl tys s) (hW : hw D cl A w H) (hS : va_S A H0 H locs) {fs : List Value} (ha : w a = some (.inr (ci, fs))) (hc : cl[ci]? = some (C, T, N)) (k : Nat) (hk : k < N) (hlink : (Cond.fieldLinkNest own index ref (T k).2.1 (T k).2.2.1 host).before args s = true) (hsame : ∀ x, s.fieldFound? (T k).1 (T k).2.1 (T k).2.2.1 = some x → s.fieldFound? ref (T k).2.1 (T k).2.2.1 = some x) (hfin : (T k).2.2.2 = false) {ty : FieldType} {v : Value} (hd : parseFieldDescriptor (T k).2.2.1 = some ty) (hn : narrow ty v = v) (hfit : fits ty v = true) (hl : k < fs.length)
    (hdg : decode cc pc = .ok (.putfield index, 3)) (kk : ∀ (H1 : Heap) (locs1 : List Loc), hw D cl A (hwu w a (.inr (ci, fs.set k v))) H1 → va_S A H0 H1 locs1 → W p l e R s m args below meth c H1 locs1 cells slots Q (F0 m (pc + 3) ls rest)) : W p l e R s m args below meth c H locs cells slots Q (F0 m pc ls (v :: .ref a :: rest)) := by
  obtain ⟨ws, hP, hD, hi⟩ := hW
  obtain ⟨j, hj⟩ := List.getElem?_of_mem ((hi a _).mp ha)
  exact va_putN hexec hb hts hin ty0 hty hnm hown hK hP hD hS j hj hc k hk hlink hsame hfin hd hn hfit hl hdg (fun H1 locs1 h1 h2 h3 => kk H1 locs1 ⟨_, h1, h2, hw_set hD hi hj⟩ h3)
theorem hw_getN (hexec : p.tables.exec = Jvm.exec) (hb : c.code = cc) {own ref C host : String} {T : u_T} {N ci index : Nat} {Ts : List Cond} (hts : ∀ w ∈ Ts, w.before args s = true) (hin : ∀ w ∈ u_ws C T N, w ∈ Ts) (hown : s.vm.findClass own = some m.cls) (hK : va_K D cl tys s) (hW : hw D cl A w H) {fs : List Value} (ha : w a = some (.inr (ci, fs))) (hc : cl[ci]? = some (C, T, N)) (k : Nat) (hk : k < N) (hlink : (Cond.fieldLinkNest own index ref (T k).2.1 (T k).2.2.1 host).before args s = true) (hsame : ∀ x, s.fieldFound? (T k).1 (T k).2.1 (T k).2.2.1 = some x → s.fieldFound? ref (T k).2.1 (T k).2.2.1 = some x) {v : Value} (hv : fs[k]? = some v) (hdg : decode cc pc = .ok (.getfield index, 3))
    (kk : W p l e R s m args below meth c H locs cells slots Q (F0 m (pc + 3) ls (v :: rest))) : W p l e R s m args below meth c H locs cells slots Q (F0 m pc ls (.ref a :: rest)) := by
  obtain ⟨ws, hP, hD, hi⟩ := hW
  obtain ⟨j, hj⟩ := List.getElem?_of_mem ((hi a _).mp ha)
  exact va_getN hexec hb hts hin hown hK hP j hj hc k hk hlink hsame hv hdg kk
theorem hw_astq (hexec : p.tables.exec = Jvm.exec) (hb : c.code = cc) (hK : va_K D cl tys s) (hW : hw D cl A w H) (hS : va_S A H0 H locs) (t0 ci : Nat) {cA : ClassId} {r : vw_C} {n v : Nat} {vs : List Value} {f : Nat → Option Nat} (ha : w a = some (.inl (cA, n, .inr (.inr (.inr (.inr f)))))) (ht : tys[t0]? = some (cA, .object r.1)) (hv : w v = some (.inr (ci, vs))) (hc : cl[ci]? = some r) {i : Int32} (hin : vp_in i n) (hdg : decode cc pc = .ok (.aastore, 1))
    (kk : ∀ (H1 : Heap) (locs1 : List Loc), hw D cl A (hwu w a (.inl (cA, n, .inr (.inr (.inr (.inr (va_up f i.toNatClampNeg (some v)))))))) H1 → va_S A H0 H1 locs1 → W p l e R s m args below meth c H1 locs1 cells slots Q (F0 m (pc + 1) ls rest)) : W p l e R s m args below meth c H locs cells slots Q (F0 m pc ls (.ref v :: .int i :: .ref a :: rest)) := by
  obtain ⟨ws, hP, hD, hi⟩ := hW
  obtain ⟨j, hj⟩ := List.getElem?_of_mem ((hi a _).mp ha)
  obtain ⟨j2, hj2⟩ := List.getElem?_of_mem ((hi v _).mp hv)
  exact va_astq hexec hb hK hP hD hS j t0 j2 ci hj ht hj2 hc hin hdg (fun H1 locs1 h1 h2 h3 => kk H1 locs1 ⟨_, h1, h2, hw_set hD hi hj⟩ h3)
end HWR
/-! Contracts over maps. kn: what else is known of the state and of the cells that nobody of ours writes. -/
def knOK (kn : (Nat → Prop) → State → Heap → Prop) : Prop := ∀ (A B : Nat → Prop) (u U : State) (H H1 : Heap), u.WarmedH U.vm → (∀ q, q < H.size → ¬ A q → H1[q]? = H[q]?) → (∀ q, B q → A q) → kn A u H → kn B U H1
def cPre (D : va_G) (cl : List vw_C) (tys : List (ClassId × FieldType)) (kn : (Nat → Prop) → State → Heap → Prop) (w : Nat → Option va_E) (sz : Nat) (U : State) : Prop := U.heap.size = sz ∧ hw D cl (fun _ => True) w U.heap ∧ va_K D cl tys U ∧ kn (hA w sz) U U.heap
def cPost (D : va_G) (cl : List vw_C) (tys : List (ClassId × FieldType)) (A : Nat → Prop) (w : Nat → Option va_E) (t : State) : Prop := hw D cl A w t.heap ∧ va_K D cl tys t
section HMC
variable {p : Program} {l : Launch} {e : Env} {R : Room} {s : State} {m : MethodId} {args : Array Value} {below : List Frame} {meth : Method} {c : Code} {H : Heap} {locs : List Loc} {cells slots : Nat} {Q : State → Prop}
variable {D : va_G} {cl : List vw_C} {tys : List (ClassId × FieldType)} {kn : (Nat → Prop) → State → Heap → Prop} {w : Nat → Option va_E} {A : Nat → Prop}
theorem hA_in (hW : hw D cl A w H) (hS : va_S A s.heap H locs) (hAA : ∀ q, s.heap.size ≤ q → A q) : ∀ q, hA w H.size q → A q := by
  intro q h
  rcases h with ⟨e, h⟩ | h
  · exact (hw_in hW h).1
  · exact hAA q (Nat.le_trans hS.1 h)
theorem hm_blind (ok : knOK kn) {As : List Value} {sz : Nat} : FrameBlind (va_Pc As (cPre D cl tys kn w sz)) := by
  intro a U g mk q
  obtain ⟨q0, q1, qW, qK, qk⟩ := q
  exact ⟨q0, q1, qW, va_K.moved (u := U) (U := U.calling g mk a) (Vm.Alike.refl U.vm) qK, ok _ _ U (U.calling g mk a) U.heap U.heap (State.WarmedH.refl U) (fun _ _ _ => rfl) (fun _ h => h) qk⟩
theorem hm_at (ok : knOK kn) (hW : hw D cl A w H) (hK : va_K D cl tys s) (hk : kn A s s.heap) (hS : va_S A s.heap H locs) (hAA : ∀ q, s.heap.size ≤ q → A q) {As : List Value} : ∀ U : State, U.heap = H → s.WarmedH U.vm → va_Pc As (cPre D cl tys kn w H.size) As.toArray U := by
  intro U hU hw9
  refine ⟨rfl, by rw [hU], by rw [hU]; exact hw_weak hW (fun _ _ _ _ => trivial), va_K.moved hw9.alike hK, ?_⟩
  exact ok A _ s U s.heap U.heap hw9 (fun q h1 h2 => by rw [hU]; exact hS.2.1 q h1 h2) (hA_in hW hS hAA) hk
theorem hm_preS (ok : knOK kn) (hW : hw D cl A w H) (hK : va_K D cl tys s) (hk : kn A s s.heap) (hS : va_S A s.heap H locs) (hAA : ∀ q, s.heap.size ≤ q → A q) {As : List Value} : PreS s H (va_Pc As (cPre D cl tys kn w H.size)) As := ⟨hm_blind ok, hm_at ok hW hK hk hS hAA⟩
theorem hm_preV (ok : knOK kn) (hW : hw D cl A w H) (hK : va_K D cl tys s) (hk : kn A s s.heap) (hS : va_S A s.heap H locs) (hAA : ∀ q, s.heap.size ≤ q → A q) {As : List Value} {b ci : Nat} {q : vw_C} {fs : List Value} (hc : cl[ci]? = some q) (hb : w b = some (.inr (ci, fs))) : PreV s H q.1 b (va_Pc (.ref b :: As) (cPre D cl tys kn w H.size)) As := ⟨hm_blind ok, hw_recv hK hW hc hb, hm_at ok hW hK hk hS hAA⟩
variable {pc : Nat} {ls : Array Slot} {rest st0 : List Value} {a : Array Value} {mc ms : Nat}
theorem hm_calli {post : Int32 → (Nat → Option va_E) → Prop} (hr : va_Run p l e R s m args below meth c H locs cells slots mc ms (F0 m pc ls st0) rest (va_Qi post (cPost D cl tys (hA w H.size)) (hA w H.size) a) (hA w H.size)) (hW : hw D cl A w H) (hS : va_S A s.heap H locs) (hAA : ∀ q, s.heap.size ≤ q → A q)
    (kk : ∀ (r : Int32) (w' : Nat → Option va_E) (H1 : Heap) (locs1 : List Loc), post r w' → hw D cl A w' H1 → va_S A s.heap H1 locs1 → W p l e R s m args below meth c H1 locs1 (cells + mc) (slots + ms) Q (F0 m (pc + 3) ls (.int r :: rest))) : W p l e R s m args below meth c H locs cells slots Q (F0 m pc ls st0) := by
  have hF := hA_in hW hS hAA
  refine va_calli hr hS (fun q _ h => hF q h) hF (fun r u t H1 locs1 ht hvm hp hB hz hk hS1 => kk r u H1 locs1 hp ?_ hS1)
  obtain ⟨h1, -⟩ := hB
  rw [ht] at h1
  exact hw_weak h1 (fun a _ _ h => hF a h)
theorem hm_calll {post : Int64 → (Nat → Option va_E) → Prop} (hr : va_Run p l e R s m args below meth c H locs cells slots mc ms (F0 m pc ls st0) rest (va_Ql post (cPost D cl tys (hA w H.size)) (hA w H.size) a) (hA w H.size)) (hW : hw D cl A w H) (hS : va_S A s.heap H locs) (hAA : ∀ q, s.heap.size ≤ q → A q)
    (kk : ∀ (r : Int64) (w' : Nat → Option va_E) (H1 : Heap) (locs1 : List Loc), post r w' → hw D cl A w' H1 → va_S A s.heap H1 locs1 → W p l e R s m args below meth c H1 locs1 (cells + mc) (slots + ms) Q (F0 m (pc + 3) ls (.long r :: rest))) : W p l e R s m args below meth c H locs cells slots Q (F0 m pc ls st0) := by
  have hF := hA_in hW hS hAA
  refine va_calll hr hS (fun q _ h => hF q h) hF (fun r u t H1 locs1 ht hvm hp hB hz hk hS1 => kk r u H1 locs1 hp ?_ hS1)
  obtain ⟨h1, -⟩ := hB
  rw [ht] at h1
  exact hw_weak h1 (fun a _ _ h => hF a h)
theorem hm_callv {post : (Nat → Option va_E) → Prop} (hr : va_Run p l e R s m args below meth c H locs cells slots mc ms (F0 m pc ls st0) rest (va_Qv post (cPost D cl tys (hA w H.size)) (hA w H.size) a) (hA w H.size)) (hW : hw D cl A w H) (hS : va_S A s.heap H locs) (hAA : ∀ q, s.heap.size ≤ q → A q)
    (kk : ∀ (w' : Nat → Option va_E) (H1 : Heap) (locs1 : List Loc), post w' → hw D cl A w' H1 → va_S A s.heap H1 locs1 → W p l e R s m args below meth c H1 locs1 (cells + mc) (slots + ms) Q (F0 m (pc + 3) ls rest)) : W p l e R s m args below meth c H locs cells slots Q (F0 m pc ls st0) := by
  have hF := hA_in hW hS hAA
  refine va_callv hr hS (fun q _ h => hF q h) hF (fun u t H1 locs1 ht hvm hp hB hz hk hS1 => kk u H1 locs1 hp ?_ hS1)
  obtain ⟨h1, -⟩ := hB
  rw [ht] at h1
  exact hw_weak h1 (fun a _ _ h => hF a h)
/-- an answer that is a reference: its address is part of what the contract tells -/
def rPost (D : va_G) (cl : List vw_C) (tys : List (ClassId × FieldType)) (A : Nat → Prop) (u : Nat × (Nat → Option va_E)) (ra : Nat) (t : State) : Prop := u.1 = ra ∧ cPost D cl tys A u.2 t
theorem hm_callr {post : Nat → (Nat → Option va_E) → Prop} (hr : va_Run p l e R s m args below meth c H locs cells slots mc ms (F0 m pc ls st0) rest (va_Qr (fun u => post u.1 u.2) (rPost D cl tys (hA w H.size)) (hA w H.size) a) (hA w H.size)) (hW : hw D cl A w H) (hS : va_S A s.heap H locs) (hAA : ∀ q, s.heap.size ≤ q → A q)
    (kk : ∀ (r : Nat) (w' : Nat → Option va_E) (H1 : Heap) (locs1 : List Loc), post r w' → hw D cl A w' H1 → va_S A s.heap H1 locs1 → W p l e R s m args below meth c H1 locs1 (cells + mc) (slots + ms) Q (F0 m (pc + 3) ls (.ref r :: rest))) : W p l e R s m args below meth c H locs cells slots Q (F0 m pc ls st0) := by
  have hF := hA_in hW hS hAA
  refine va_callr hr hS (fun q _ h => hF q h) hF (fun u ra t H1 locs1 ht hvm hp hB hz hk hS1 => ?_)
  obtain ⟨e1, h1, -⟩ := hB
  subst e1
  rw [ht] at h1
  exact kk u.1 u.2 H1 locs1 hp (hw_weak h1 (fun a _ _ h => hF a h)) hS1
end HMC
/-- a contract's body, from its entry -/
theorem hm_of {l : Launch} {D : va_G} {cl : List vw_C} {tys : List (ClassId × FieldType)} {kn : (Nat → Prop) → State → Heap → Prop} {w : Nat → Option va_E} {sz : Nat} {y : MethodName} {ws ws' : List Cond} {rm : Room} {Qc : (Nat → Prop) → Array Value → State → Outcome → State → Prop} {mc ms maxL : Nat} {cc : ByteArray} {ret : Option FieldType} {as : List Value}
    (hy : plainName y.cls = true) (hw0 : ws = Cond.code y cc maxL ret :: ws') (hlen : (lg_sl as).length ≤ maxL)
    (body : ∀ (p : Program) (e : Env) (s : State) (m : MethodId) (below : List Frame) (meth : Method) (c : Code) (A : Nat → Prop) (ls : Array Slot), p.tables.exec = Jvm.exec → c.code = cc → meth.sig.returnType = ret → c.maxLocals = maxL → (∀ x ∈ ws, x.before as.toArray s = true) → s.vm.findClass y.cls = some m.cls → meth.locks = false → meth.name = y.name → (∀ x ∈ c.exceptionTable.toList, ∀ pc, covers x pc = false) → s.heap.size = sz → hw D cl A w s.heap → va_K D cl tys s → kn A s s.heap → va_S A s.heap s.heap [] → (∀ q, s.heap.size ≤ q → A q) → lv_has ls maxL (lv_args 0 as) →
      W p l e rm s m as.toArray below meth c s.heap [] 0 0 (MQ below (Qc A) as.toArray s mc ms A) (F0 m 0 ls [])) :
    Met l y ws rm (va_Pc as (cPre D cl tys kn w sz)) (Qc (hA w sz)) mc ms (hA w sz) := by
  refine Met.ofW (cc := cc) (maxL := maxL) (ret := ret) hy hw0 ?_
  intro p e s m args below meth c s₁ B hml hv
  obtain ⟨rfl, hsz, hW, hK, hk⟩ := hv
  have hts := atoms_spec (ws := ws) B.pre
  have hno : c.exceptionTable.isEmpty = true := BodyLoose.noHandlers B (hts _ (by rw [hw0]; exact List.mem_cons_self))
  have hl := lv_entry as (n := maxL) hlen
  rw [lg_entry_eq]
  refine body p e s m below meth c (hA w sz) _ B.exec B.bytes B.returns hml hts (findClass_of_methodNamed B.named) B.notSynchronized (name_of_methodNamed B.named B.method).1 (fun x hx => ?_) hsz (hw_weak hW (fun a e h _ => Or.inl ⟨e, h⟩)) hK hk va_S.rf (fun q h => Or.inr (by rw [← hsz]; exact h)) hl
  have h0 : c.exceptionTable.size = 0 := by simpa [Array.isEmpty] using hno
  have h1 : c.exceptionTable.toList = [] := List.eq_nil_of_length_eq_zero (by simpa using h0)
  rw [h1] at hx
  cases hx
