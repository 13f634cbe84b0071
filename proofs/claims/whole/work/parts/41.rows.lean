/-! More rows over maps: rows of rows, an element of a lower kind, what throws. -/
def hwr (w : Wd) (L : List Nat) (e : va_E) : Wd := fun x => if x ∈ L then some e else w x
theorem hwr_in {w : Wd} {L : List Nat} {e : va_E} {x : Nat} (h : x ∈ L) : hwr w L e x = some e := if_pos h
theorem hwr_ne {w : Wd} {L : List Nat} {e : va_E} {x : Nat} (h : x ∉ L) : hwr w L e x = w x := if_neg h
theorem vaD_app {A : Nat → Prop} {X Y : va_W} {a : Nat} {e1 e2 : va_E} (hD : va_D A (X ++ Y)) (h1 : (a, e1) ∈ X) (h2 : (a, e2) ∈ Y) : False := by
  obtain ⟨i, hi⟩ := List.getElem?_of_mem h1
  obtain ⟨j, hj⟩ := List.getElem?_of_mem h2
  have hl := (List.getElem?_eq_some_iff.mp hi).1
  have := hD.1 i (X.length + j) (a, e1) (a, e2) (by rw [List.getElem?_append_left hl]; exact hi) (by rw [List.getElem?_append_right (by omega), Nat.add_sub_cancel_left]; exact hj) rfl
  omega
theorem hw_grow {D : va_G} {cl : List vw_C} {A : Nat → Prop} {w : Wd} {H H1 : Heap} (h : hw D cl A w H) (hq : ∀ q, q < H.size → H1[q]? = H[q]?) : hw D cl A w H1 := by
  obtain ⟨ws, h1, h2, h3⟩ := h
  exact ⟨ws, h1.kept (fun k q hk => hq q.1 (h1 k q hk).lt), h2, h3⟩
section HWM
variable {p : Program} {l : Launch} {e : Env} {R : Room} {s : State} {m : MethodId} {args : Array Value} {below : List Frame} {meth : Method} {c : Code} {H : Heap} {locs : List Loc} {cells slots : Nat} {Q : State → Prop}
variable {cc : ByteArray} {pc : Nat} {ls : Array Slot} {rest : List Value} {D : va_G} {cl : List vw_C} {A : Nat → Prop} {a : Nat} {tys : List (ClassId × FieldType)} {w : Wd} {H0 : Heap}
theorem hw_astqO (hexec : p.tables.exec = Jvm.exec) (hb : c.code = cc) (hK : va_K D cl tys s) (hW : hw D cl A w H) (hS : va_S A H0 H locs) (t0 ci : Nat) {E : String} {cA : ClassId} {r : vw_C} {n v : Nat} {vs : List Value} {f : Nat → Option Nat} (ha : w a = some (.inl (cA, n, .inr (.inr (.inr (.inr f)))))) (ht : tys[t0]? = some (cA, .object E)) (hca : va_Nw (.castable r.1 E) s) (hv : w v = some (.inr (ci, vs))) (hc : cl[ci]? = some r) {i : Int32} (hin : vp_in i n) (hdg : decode cc pc = .ok (.aastore, 1))
    (kk : ∀ (H1 : Heap) (locs1 : List Loc), hw D cl A (hwu w a (.inl (cA, n, .inr (.inr (.inr (.inr (va_up f i.toNatClampNeg (some v)))))))) H1 → va_S A H0 H1 locs1 → W p l e R s m args below meth c H1 locs1 cells slots Q (F0 m (pc + 1) ls rest)) : W p l e R s m args below meth c H locs cells slots Q (F0 m pc ls (.ref v :: .int i :: .ref a :: rest)) := by
  obtain ⟨ws, hP, hD, hi⟩ := hW
  obtain ⟨j, hj⟩ := List.getElem?_of_mem ((hi a _).mp ha)
  obtain ⟨j2, hj2⟩ := List.getElem?_of_mem ((hi v _).mp hv)
  exact va_astqO hexec hb hK hP hD hS j t0 j2 ci hj ht hca hj2 hc hin hdg (fun H1 locs1 h1 h2 h3 => kk H1 locs1 ⟨_, h1, h2, hw_set hD hi hj⟩ h3)
theorem hw_mna (hexec : p.tables.exec = Jvm.exec) (hb : c.code = cc) {own : String} {index : Nat} (hown : s.vm.findClass own = some m.cls) (hclink : (Cond.classLink own index ("[" ++ (FieldType.array .int).toString)).before args s = true) (hover : va_AOA .int s) (harr : (Cond.arrayClass .int).before args s = true)
    (hK : va_K D cl tys s) (hW : hw D cl A w H) (hS : va_S A H0 H locs) (hA : ∀ q, H0.size ≤ q → A q) (t0 t1 : Nat) {cA cB : ClassId} (ht : tys[t0]? = some (cA, .int)) (ht1 : tys[t1]? = some (cB, .array .int)) {n k : Int32} {N' K' : Nat} (hn : ¬ n < 0) (hk : ¬ k < 0) (hN : n.toNatClampNeg = N') (hM : k.toNatClampNeg = K') (hb1 : N' * 4 ≤ 536870912) (hb2 : K' * 4 ≤ 536870912)
    (hcells : cells + (1 + N') ≤ R.cells) (hslots : slots + (N' + N' * K') ≤ R.slots) (hdg : decode cc pc = .ok (.multianewarray index 2, 4))
    (kk : ∀ (q : Nat) (r : Nat → Nat) (H1 : Heap), w q = none → (∀ i : Nat, i < N' → w (r i) = none) → (∀ i : Nat, i < N' → r i ≠ q) → (∀ i j : Nat, i < N' → j < N' → r i = r j → i = j) → hw D cl A (hwr (hwu w q (qa cB N' (fun i => if i < N' then some (r i) else none))) ((List.range N').map r) (ia cA K' (fun _ => 0))) H1 → va_S A H0 H1 locs →
      W p l e R s m args below meth c H1 locs (cells + 1 + N') (slots + N' + N' * K') Q (F0 m (pc + 4) ls (.ref q :: rest))) : W p l e R s m args below meth c H locs cells slots Q (F0 m pc ls (.int k :: .int n :: rest)) := by
  obtain ⟨ws, hP, hD, hi⟩ := hW
  have e0 : ws ++ va_pl [] (fun _ => .inr (0, [])) = ws := by simp [va_pl]
  refine va_mna (X := ws) (L := []) (f := fun _ => .inr (0, [])) (ty := .int) (cy := cA) (z := (K', .inl (ni (fun _ => 0)))) hexec hb hown hclink hover harr (hK.2 t0 _ ht).2 hK (by rw [e0]; exact hP) (by rw [e0]; exact hD) hS hA hn hk hN hM hb1 hb2 (by omega) rfl rfl hcells hslots (fun c9 => arrV_new c9 K' (defaultValue .int)) hdg ?_
  intro q r cA9 H1 hinj _ hK1 h1 h2 h3
  have e9 : cA9 = cB := va_RA_one (hK1.2 tys.length (cA9, .array .int) (by rw [List.getElem?_append_right (Nat.le_refl _), Nat.sub_self]; rfl)).2 (hK.2 t1 _ ht1).2
  subst e9
  rw [List.nil_append] at h1 h2
  have key : ∀ (b : Nat) (e' : va_E), (b, e') ∈ va_pl ((List.range N').map r) (vr_up (fun _ => .inr (0, [])) ((List.range N').map r) (.inl (cA, (K', .inl (ni (fun _ => 0)))))) ↔ b ∈ (List.range N').map r ∧ e' = ia cA K' (fun _ => 0) := by
    intro b e'
    unfold va_pl
    constructor
    · intro h
      obtain ⟨x, hx, ex⟩ := List.mem_map.mp h
      obtain ⟨rfl, rfl⟩ := Prod.mk.inj ex
      exact ⟨hx, vr_up_in hx⟩
    · rintro ⟨hb9, rfl⟩
      exact List.mem_map.mpr ⟨b, hb9, by rw [vr_up_in hb9]; rfl⟩
  have mem1 : ∀ i, i < N' → r i ∈ (List.range N').map r := fun i hi9 => List.mem_map.mpr ⟨i, List.mem_range.mpr hi9, rfl⟩
  have nq : ∀ e1 : va_E, (q, e1) ∉ ws := fun e1 h9 => by
    obtain ⟨i, hi9⟩ := List.getElem?_of_mem h9
    have hl := (List.getElem?_eq_some_iff.mp hi9).1
    have := h2.1 i ws.length (q, e1) (q, .inl (cA9, N', .inr (.inr (.inr (.inr (fun i => if i < N' then some (r i) else none)))))) (by rw [List.getElem?_append_left (by rw [List.length_append]; omega), List.getElem?_append_left hl]; exact hi9) (by rw [List.getElem?_append_left (by rw [List.length_append]; simp), List.getElem?_append_right (Nat.le_refl _), Nat.sub_self]; rfl) rfl
    omega
  have nr : ∀ (i : Nat) (e1 : va_E), i < N' → (r i, e1) ∉ ws ++ [(q, .inl (cA9, N', .inr (.inr (.inr (.inr (fun i => if i < N' then some (r i) else none))))))] := fun i e1 hi9 h9 => vaD_app h2 h9 ((key (r i) _).mpr ⟨mem1 i hi9, rfl⟩)
  have wn : ∀ x : Nat, (∀ e1 : va_E, (x, e1) ∉ ws) → w x = none := fun x hx => by
    cases hw9 : w x with
    | none => rfl
    | some e1 => exact absurd ((hi x e1).mp hw9) (hx e1)
  refine kk q r H1 (wn q nq) (fun i hi9 => wn _ (fun e1 h9 => nr i e1 hi9 (List.mem_append_left _ h9))) (fun i hi9 h9 => nr i _ hi9 (by rw [h9]; exact List.mem_append_right _ (List.mem_singleton.mpr rfl))) hinj ⟨_, h1, h2, fun b e' => ?_⟩ h3
  rw [List.mem_append, key]
  by_cases hb9 : b ∈ (List.range N').map r
  · rw [hwr_in hb9]
    constructor
    · intro h9; exact Or.inr ⟨hb9, (Option.some.inj h9).symm⟩
    · rintro (h9 | ⟨_, rfl⟩)
      · obtain ⟨i, hi9, rfl⟩ := List.mem_map.mp hb9
        exact absurd h9 (nr i e' (List.mem_range.mp hi9))
      · rfl
  · rw [hwr_ne hb9]
    have hu : hwu w q (qa cA9 N' (fun i => if i < N' then some (r i) else none)) b = some e' ↔ (b, e') ∈ ws ++ [(q, .inl (cA9, N', .inr (.inr (.inr (.inr (fun i => if i < N' then some (r i) else none))))))] := by
      rw [List.mem_append, List.mem_singleton]
      by_cases hbq : b = q
      · subst hbq
        rw [hwu_eq]
        constructor
        · intro h9; exact Or.inr (by rw [← Option.some.inj h9]; rfl)
        · rintro (h9 | h9)
          · exact absurd h9 (nq e')
          · rw [(Prod.mk.inj h9).2]; rfl
      · rw [hwu_ne hbq, hi]
        constructor
        · exact Or.inl
        · rintro (h9 | h9)
          · exact h9
          · exact absurd (Prod.mk.inj h9).1 hbq
    rw [hu]
    constructor
    · exact Or.inl
    · rintro (h9 | h9)
      · exact h9
      · exact absurd h9.1 hb9
end HWM
def nmS : List String := ["java/lang/RuntimeException", "java/lang/Exception"]
/-- what the tables say of an exception of ours -/
def thOK (E : String) (ik ic : Nat) : Prop := Bundle.fit E = true ∧ Cond.classLink RX ik E ∈ big ∧ Cond.initialized E ∈ big ∧ (∀ w ∈ vx_atS RX ic E nmS, w ∈ big ∨ (w ∈ twL ∧ w.onTables = true)) ∧ ∀ w ∈ Cond.classLink RX ik E :: Cond.initialized E :: vx_atS RX ic E nmS, vx_ot w = true
theorem fitN : ∀ n ∈ nmS, Bundle.fit n = true := by decide +kernel
theorem hwu_old {w : Wd} {q b : Nat} {e e' : va_E} (hn : w q = none) (h : w b = some e) : hwu w q e' b = some e := by
  rw [hwu_ne (fun k => by rw [k, hn] at h; cases h)]
  exact h
theorem hwu_none {w : Wd} {q t : Nat} {e : va_E} (h : hwu w q e t = none) : t ≠ q ∧ w t = none := by
  by_cases k : t = q
  · rw [k, hwu_eq] at h; cases h
  · rw [hwu_ne k] at h; exact ⟨k, h⟩
theorem nI_nneg {n : Nat} (h : n < 2 ^ 31) : ¬ nI n < 0 := by
  rw [Int32.lt_iff_toInt_lt, nI_toInt h]
  have h0 : (0 : Int32).toInt = 0 := rfl
  omega
section TH
variable {p : Program} {l : Launch} {e : Env} {R : Room} {s : State} {m : MethodId} {args : Array Value} {below : List Frame} {meth : Method} {c : Code} {H : Heap} {locs : List Loc} {cells slots : Nat}
variable {cc : ByteArray} {pc : Nat} {ls : Array Slot} {rest : List Value} {D : va_G} {g : Nat → ClassId} {ad : Nat → Nat} {tb : Nat} {sa : Nat → Nat} {A : Nat → Prop} {w : Wd} {Qc : Array Value → State → Outcome → State → Prop} {xp : String → Wd → Prop} {mc ms : Nat}
theorem th_go (hexec : p.tables.exec = Jvm.exec) (hb : c.code = cc) (hl : l.stackTraces = false) {E : String} {ik is ic : Nat} {text : String} (hE : thOK E ik ic) (htx : (is, text) ∈ sTx) (hown : s.vm.findClass RX = some m.cls) (hts : ∀ x ∈ big, x.before args s = true) (hk : kn ad tb sa A s s.heap) (hK : va_K D vwCl (tyL g) s) (hW : hw D vwCl A w H) (hS : va_S A s.heap H locs) (hsize : ls.size = c.maxLocals)
    (d0 : decode cc pc = .ok (.new ik, 3)) (d3 : decode cc (pc + 3) = .ok (.dup, 1)) (d4 : decode cc (pc + 4) = .ok (.ldc is, 2)) (d6 : decode cc (pc + 6) = .ok (.invokespecial ic, 3)) (d9 : decode cc (pc + 9) = .ok (.athrow, 1)) (hout : ∀ x ∈ c.exceptionTable.toList, ∀ pc, covers x pc = false) (hlocks : meth.locks = false)
    (hfr : 6 ≤ R.frames) (hlo : (rest.map fun v => v.category).sum + 82 ≤ R.locals) (hce : cells + 1 ≤ R.cells) (hsl : slots + 6 ≤ R.slots) (hc : cells + 1 ≤ mc) (hs : slots + 6 ≤ ms) (hp : xp E w) :
    W p l e R s m args below meth c H locs cells slots (vx_MQ below Qc (xX D g A xp) args s mc ms A) (F0 m pc ls rest) := by
  obtain ⟨e1, e2, e3, e4, e5⟩ := hE
  refine vx_throwS (names := nmS) hexec hb hl hown e1 fitN (hts _ e2) (hts _ e3) (hk.2.2.2.2.1 (is, text) htx) (fun w hw => ?_) e5 hk.2.2.2.2.2.1 hk.2.2.2.2.2.2.1 hS hsize d0 d3 d4 d6 d9 (fun x hx => hout x hx _) (show 2 + 3 < R.frames by omega) (by show _ + (13 * (2 + 1) + 43) ≤ _; omega) hce hsl hlocks (fun t hv h1 h2 => ?_) hS.2.2 hc hs
  · rcases e4 w hw with h | ⟨h, ht⟩
    · exact hts _ h
    · exact va_Nw.use ht (hk.1 w h)
  · exact ⟨w, trivial, ⟨hp, hw_grow hW h2, va_K.moved hv hK⟩, Nat.le_trans hS.1 h1, fun q hq hA => (h2 q (Nat.lt_of_lt_of_le hq hS.1)).trans (hS.2.1 q hq hA)⟩
theorem xo_go (hout : ∀ x ∈ c.exceptionTable.toList, ∀ pc, covers x pc = false) (hlocks : meth.locks = false) (hK : va_K D vwCl (tyL g) s) (hS : va_S A s.heap H locs) (hW : hw D vwCl A w H) {E : String} {ce : Cell} {q : Addr} (hcell : H[q]? = some ce) (hv : ce.vm = .none) (hcl : s.vm.findClass E = some ce.cls) (hp : xp E w) (hc : cells ≤ mc) (hs : slots ≤ ms) :
    vx_W p l e R s m args below meth c H locs cells slots (vx_MQ below Qc (xX D g A xp) args s mc ms A) (F0 m pc ls rest) q :=
  vx_out (fun x hx => hout x hx _) hlocks hcell hv hcl (fun t ht hv9 => ⟨w, trivial, ⟨hp, by rw [ht]; exact hW, va_K.moved hv9 hK⟩, hS.F ht⟩) hS.2.2 hc hs
end TH
theorem hwr_none {w : Wd} {L : List Nat} {e : va_E} {t : Nat} (h : hwr w L e t = none) : t ∉ L ∧ w t = none := by
  by_cases k : t ∈ L
  · rw [hwr_in k] at h; cases h
  · rw [hwr_ne k] at h; exact ⟨k, h⟩
theorem er_in {r : Nat → Nat} {i : Nat} (h : i < 20) : r i ∈ (List.range 20).map r := List.mem_map.mpr ⟨i, List.mem_range.mpr h, rfl⟩
theorem er_out {r : Nat → Nat} {x : Nat} (h : ∀ i, i < 20 → x ≠ r i) : x ∉ (List.range 20).map r := fun k => by
  obtain ⟨i, hi, e⟩ := List.mem_map.mp k
  exact h i (List.mem_range.mp hi) e.symm
theorem er_ne {r : Nat → Nat} {x i : Nat} (h : x ∉ (List.range 20).map r) (hi : i < 20) : r i ≠ x := fun e => h (e ▸ er_in hi)
