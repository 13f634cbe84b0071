theorem en_arr {s : State} {args : Array Value} {ty : FieldType} (h : (Cond.arrayClass ty).before args s = true) (ho : ∀ c, ty ≠ .object c) : ∃ cA : ClassId, ArrOfT s cA ty ∧ va_RA s cA ty := by
  obtain ⟨c, k, comp, h1, h2, h3⟩ := Cond.arrayClass_spec h
  refine ⟨c, fun n z => ⟨fun k h => (by cases h), k, h2, comp, h3⟩, ?_⟩
  cases ty with
  | object C => exact absurd rfl (ho C)
  | _ => exact h1
theorem en_obj {s : State} {args : Array Value} {C : String} (h : (Cond.arrayOver (.object C)).before args s = true) : ∃ cA : ClassId, ArrOfT s cA (.object C) ∧ va_RA s cA (.object C) := by
  obtain ⟨comp, c, k, h1, h2, h3, h4, h5⟩ := Cond.arrayOver_spec h
  exact ⟨c, fun n z => ⟨fun k h => (by cases h), k, h3, comp, h4⟩, k, comp, h3, h4, h1, h5⟩
theorem en_row {s : State} {args : Array Value} {t : FieldType} (h : (Cond.arrayOver (.array t)).before args s = true) : ∃ cA : ClassId, ArrOfT s cA (.array t) ∧ va_RA s cA (.array t) := by
  obtain ⟨comp, c, k, h1, h2, h3, h4, h5⟩ := arrayOverA_spec h
  exact ⟨c, fun n z => ⟨fun k h => (by cases h), k, h3, comp, h4⟩, h5⟩
theorem en_K {s : State} {args : Array Value} (hts : ∀ w ∈ lw_tbl, w.before args s = true) : ∃ (D : va_G) (g : Nat → ClassId), va_K D vwCl (tyL g) s := by
  obtain ⟨c0, i0, k0⟩ := u_known (C := RX) (T := TX) (N := 4) (n := 4) hts (fun w hw => (List.mem_filter.mp (inX w hw)).1) (hts _ (List.mem_filter.mp bw_17).1)
  obtain ⟨c1, i1, k1⟩ := u_known (C := RR) (T := TR) (N := 6) (n := 6) hts (fun w hw => (List.mem_filter.mp (inR w hw)).1) (hts _ (List.mem_filter.mp bw_177).1)
  obtain ⟨c2, i2, k2⟩ := u_known (C := RK) (T := TK) (N := 7) (n := 7) hts (fun w hw => (List.mem_filter.mp (inK w hw)).1) (hts _ (List.mem_filter.mp bw_296).1)
  obtain ⟨c3, i3, k3⟩ := u_known (C := RU) (T := TU) (N := 8) (n := 8) hts (fun w hw => (List.mem_filter.mp (inU w hw)).1) (hts _ (List.mem_filter.mp bw_27).1)
  obtain ⟨c4, i4, k4⟩ := u_known (C := RM) (T := TM) (N := 16) (n := 16) hts (fun w hw => (List.mem_filter.mp (inM w hw)).1) (hts _ (List.mem_filter.mp bw_512).1)
  obtain ⟨a0, h0⟩ := en_arr (ty := .int) (hts _ (List.mem_filter.mp bw_60).1) (fun c h => by cases h)
  obtain ⟨a1, h1⟩ := en_arr (ty := .boolean) (hts _ (List.mem_filter.mp bw_61).1) (fun c h => by cases h)
  obtain ⟨a2, h2⟩ := en_arr (ty := .long) (hts _ (List.mem_filter.mp bw_566).1) (fun c h => by cases h)
  obtain ⟨a3, h3⟩ := en_obj (C := RQ) (hts _ tw_25)
  obtain ⟨a4, h4⟩ := en_row (t := .int) (hts _ tw_33)
  refine ⟨(fun k => if k = 0 then c0 else if k = 1 then c1 else if k = 2 then c2 else if k = 3 then c3 else c4, fun k => if k = 0 then i0 else if k = 1 then i1 else if k = 2 then i2 else if k = 3 then i3 else i4), fun k => if k = 0 then a0 else if k = 1 then a1 else if k = 2 then a2 else if k = 3 then a3 else a4, fun k q hq => ?_, fun k q hq => ?_⟩
  · match k, hq with
    | 0, hq => cases hq; exact k0
    | 1, hq => cases hq; exact k1
    | 2, hq => cases hq; exact k2
    | 3, hq => cases hq; exact k3
    | 4, hq => cases hq; exact k4
    | k + 5, hq => simp at hq
  · match k, hq with
    | 0, hq => cases hq; exact h0
    | 1, hq => cases hq; exact h1
    | 2, hq => cases hq; exact h2
    | 3, hq => cases hq; exact h3
    | 4, hq => cases hq; exact h4
    | k + 5, hq => simp at hq

set_option maxHeartbeats 1000000 in
set_option maxRecDepth 100000 in
theorem en_E {s : State} {args : Array Value} (hts : ∀ w ∈ lw_tbl, w.before args s = true) (hgv : (Jvm.Cond.and given_1 narrow_1).before args s = true) (hA : ∀ a : Nat, a < s.heap.size → ¬ (fun q : Nat => s.heap.size ≤ q) a) : ∃ ad : Nat → Nat, va_En RE "LHolonomicRows$Kind;" eNm eF ad (fun q : Nat => s.heap.size ≤ q) s s.heap := by
  have hs := flat_of_before _ hgv
  refine va_Enof (args := args) ?_ (hts _ (List.mem_filter.mp bw_13).1) ?_ ?_ ?_ hA
  · intro i hi
    have hi : i < 7 := hi
    rcases (show i = 0 ∨ i = 1 ∨ i = 2 ∨ i = 3 ∨ i = 4 ∨ i = 5 ∨ i = 6 by omega) with rfl | rfl | rfl | rfl | rfl | rfl | rfl
    · exact (hts _ tw_290)
    · exact (hts _ tw_325)
    · exact (hts _ tw_334)
    · exact (hts _ tw_343)
    · exact (hts _ tw_353)
    · exact (hts _ tw_362)
    · exact (hts _ tw_371)
  · intro i hi
    have hi : i < 7 := hi
    rcases (show i = 0 ∨ i = 1 ∨ i = 2 ∨ i = 3 ∨ i = 4 ∨ i = 5 ∨ i = 6 by omega) with rfl | rfl | rfl | rfl | rfl | rfl | rfl
    · exact hs (Jvm.Cond.exactly (Jvm.Term.static "HolonomicRows$Kind" "SUM" "LHolonomicRows$Kind;") "HolonomicRows$Kind") (by decide +kernel)
    · exact hs (Jvm.Cond.exactly (Jvm.Term.static "HolonomicRows$Kind" "PRODUCT" "LHolonomicRows$Kind;") "HolonomicRows$Kind") (by decide +kernel)
    · exact hs (Jvm.Cond.exactly (Jvm.Term.static "HolonomicRows$Kind" "CONVOLUTION" "LHolonomicRows$Kind;") "HolonomicRows$Kind") (by decide +kernel)
    · exact hs (Jvm.Cond.exactly (Jvm.Term.static "HolonomicRows$Kind" "WOVEN" "LHolonomicRows$Kind;") "HolonomicRows$Kind") (by decide +kernel)
    · exact hs (Jvm.Cond.exactly (Jvm.Term.static "HolonomicRows$Kind" "SHIFT" "LHolonomicRows$Kind;") "HolonomicRows$Kind") (by decide +kernel)
    · exact hs (Jvm.Cond.exactly (Jvm.Term.static "HolonomicRows$Kind" "SUMS" "LHolonomicRows$Kind;") "HolonomicRows$Kind") (by decide +kernel)
    · exact hs (Jvm.Cond.exactly (Jvm.Term.static "HolonomicRows$Kind" "SLOPE" "LHolonomicRows$Kind;") "HolonomicRows$Kind") (by decide +kernel)
  · intro q hq i hi
    have hi : i < 7 := hi
    cases List.mem_singleton.mp hq
    rcases (show i = 0 ∨ i = 1 ∨ i = 2 ∨ i = 3 ∨ i = 4 ∨ i = 5 ∨ i = 6 by omega) with rfl | rfl | rfl | rfl | rfl | rfl | rfl
    · exact hs (Jvm.Cond.eq (Jvm.Term.field (Jvm.Term.static "HolonomicRows$Kind" "SUM" "LHolonomicRows$Kind;") "java/lang/Enum" "ordinal" "I") (Jvm.Term.int (0 : Int32))) (by decide +kernel)
    · exact hs (Jvm.Cond.eq (Jvm.Term.field (Jvm.Term.static "HolonomicRows$Kind" "PRODUCT" "LHolonomicRows$Kind;") "java/lang/Enum" "ordinal" "I") (Jvm.Term.int (1 : Int32))) (by decide +kernel)
    · exact hs (Jvm.Cond.eq (Jvm.Term.field (Jvm.Term.static "HolonomicRows$Kind" "CONVOLUTION" "LHolonomicRows$Kind;") "java/lang/Enum" "ordinal" "I") (Jvm.Term.int (2 : Int32))) (by decide +kernel)
    · exact hs (Jvm.Cond.eq (Jvm.Term.field (Jvm.Term.static "HolonomicRows$Kind" "WOVEN" "LHolonomicRows$Kind;") "java/lang/Enum" "ordinal" "I") (Jvm.Term.int (3 : Int32))) (by decide +kernel)
    · exact hs (Jvm.Cond.eq (Jvm.Term.field (Jvm.Term.static "HolonomicRows$Kind" "SHIFT" "LHolonomicRows$Kind;") "java/lang/Enum" "ordinal" "I") (Jvm.Term.int (4 : Int32))) (by decide +kernel)
    · exact hs (Jvm.Cond.eq (Jvm.Term.field (Jvm.Term.static "HolonomicRows$Kind" "SUMS" "LHolonomicRows$Kind;") "java/lang/Enum" "ordinal" "I") (Jvm.Term.int (5 : Int32))) (by decide +kernel)
    · exact hs (Jvm.Cond.eq (Jvm.Term.field (Jvm.Term.static "HolonomicRows$Kind" "SLOPE" "LHolonomicRows$Kind;") "java/lang/Enum" "ordinal" "I") (Jvm.Term.int (6 : Int32))) (by decide +kernel)
  · intro i j hi hj hij
    have hi : i < 7 := hi
    have hj : j < 7 := hj
    have n01 := hs (Jvm.Cond.not (Jvm.Cond.eq (Jvm.Term.static "HolonomicRows$Kind" "SUM" "LHolonomicRows$Kind;") (Jvm.Term.static "HolonomicRows$Kind" "PRODUCT" "LHolonomicRows$Kind;"))) (by decide +kernel)
    have n02 := hs (Jvm.Cond.not (Jvm.Cond.eq (Jvm.Term.static "HolonomicRows$Kind" "SUM" "LHolonomicRows$Kind;") (Jvm.Term.static "HolonomicRows$Kind" "CONVOLUTION" "LHolonomicRows$Kind;"))) (by decide +kernel)
    have n03 := hs (Jvm.Cond.not (Jvm.Cond.eq (Jvm.Term.static "HolonomicRows$Kind" "SUM" "LHolonomicRows$Kind;") (Jvm.Term.static "HolonomicRows$Kind" "WOVEN" "LHolonomicRows$Kind;"))) (by decide +kernel)
    have n04 := hs (Jvm.Cond.not (Jvm.Cond.eq (Jvm.Term.static "HolonomicRows$Kind" "SUM" "LHolonomicRows$Kind;") (Jvm.Term.static "HolonomicRows$Kind" "SHIFT" "LHolonomicRows$Kind;"))) (by decide +kernel)
    have n05 := hs (Jvm.Cond.not (Jvm.Cond.eq (Jvm.Term.static "HolonomicRows$Kind" "SUM" "LHolonomicRows$Kind;") (Jvm.Term.static "HolonomicRows$Kind" "SUMS" "LHolonomicRows$Kind;"))) (by decide +kernel)
    have n06 := hs (Jvm.Cond.not (Jvm.Cond.eq (Jvm.Term.static "HolonomicRows$Kind" "SUM" "LHolonomicRows$Kind;") (Jvm.Term.static "HolonomicRows$Kind" "SLOPE" "LHolonomicRows$Kind;"))) (by decide +kernel)
    have n12 := hs (Jvm.Cond.not (Jvm.Cond.eq (Jvm.Term.static "HolonomicRows$Kind" "PRODUCT" "LHolonomicRows$Kind;") (Jvm.Term.static "HolonomicRows$Kind" "CONVOLUTION" "LHolonomicRows$Kind;"))) (by decide +kernel)
    have n13 := hs (Jvm.Cond.not (Jvm.Cond.eq (Jvm.Term.static "HolonomicRows$Kind" "PRODUCT" "LHolonomicRows$Kind;") (Jvm.Term.static "HolonomicRows$Kind" "WOVEN" "LHolonomicRows$Kind;"))) (by decide +kernel)
    have n14 := hs (Jvm.Cond.not (Jvm.Cond.eq (Jvm.Term.static "HolonomicRows$Kind" "PRODUCT" "LHolonomicRows$Kind;") (Jvm.Term.static "HolonomicRows$Kind" "SHIFT" "LHolonomicRows$Kind;"))) (by decide +kernel)
    have n15 := hs (Jvm.Cond.not (Jvm.Cond.eq (Jvm.Term.static "HolonomicRows$Kind" "PRODUCT" "LHolonomicRows$Kind;") (Jvm.Term.static "HolonomicRows$Kind" "SUMS" "LHolonomicRows$Kind;"))) (by decide +kernel)
    have n16 := hs (Jvm.Cond.not (Jvm.Cond.eq (Jvm.Term.static "HolonomicRows$Kind" "PRODUCT" "LHolonomicRows$Kind;") (Jvm.Term.static "HolonomicRows$Kind" "SLOPE" "LHolonomicRows$Kind;"))) (by decide +kernel)
    have n23 := hs (Jvm.Cond.not (Jvm.Cond.eq (Jvm.Term.static "HolonomicRows$Kind" "CONVOLUTION" "LHolonomicRows$Kind;") (Jvm.Term.static "HolonomicRows$Kind" "WOVEN" "LHolonomicRows$Kind;"))) (by decide +kernel)
    have n24 := hs (Jvm.Cond.not (Jvm.Cond.eq (Jvm.Term.static "HolonomicRows$Kind" "CONVOLUTION" "LHolonomicRows$Kind;") (Jvm.Term.static "HolonomicRows$Kind" "SHIFT" "LHolonomicRows$Kind;"))) (by decide +kernel)
    have n25 := hs (Jvm.Cond.not (Jvm.Cond.eq (Jvm.Term.static "HolonomicRows$Kind" "CONVOLUTION" "LHolonomicRows$Kind;") (Jvm.Term.static "HolonomicRows$Kind" "SUMS" "LHolonomicRows$Kind;"))) (by decide +kernel)
    have n26 := hs (Jvm.Cond.not (Jvm.Cond.eq (Jvm.Term.static "HolonomicRows$Kind" "CONVOLUTION" "LHolonomicRows$Kind;") (Jvm.Term.static "HolonomicRows$Kind" "SLOPE" "LHolonomicRows$Kind;"))) (by decide +kernel)
    have n34 := hs (Jvm.Cond.not (Jvm.Cond.eq (Jvm.Term.static "HolonomicRows$Kind" "WOVEN" "LHolonomicRows$Kind;") (Jvm.Term.static "HolonomicRows$Kind" "SHIFT" "LHolonomicRows$Kind;"))) (by decide +kernel)
    have n35 := hs (Jvm.Cond.not (Jvm.Cond.eq (Jvm.Term.static "HolonomicRows$Kind" "WOVEN" "LHolonomicRows$Kind;") (Jvm.Term.static "HolonomicRows$Kind" "SUMS" "LHolonomicRows$Kind;"))) (by decide +kernel)
    have n36 := hs (Jvm.Cond.not (Jvm.Cond.eq (Jvm.Term.static "HolonomicRows$Kind" "WOVEN" "LHolonomicRows$Kind;") (Jvm.Term.static "HolonomicRows$Kind" "SLOPE" "LHolonomicRows$Kind;"))) (by decide +kernel)
    have n45 := hs (Jvm.Cond.not (Jvm.Cond.eq (Jvm.Term.static "HolonomicRows$Kind" "SHIFT" "LHolonomicRows$Kind;") (Jvm.Term.static "HolonomicRows$Kind" "SUMS" "LHolonomicRows$Kind;"))) (by decide +kernel)
    have n46 := hs (Jvm.Cond.not (Jvm.Cond.eq (Jvm.Term.static "HolonomicRows$Kind" "SHIFT" "LHolonomicRows$Kind;") (Jvm.Term.static "HolonomicRows$Kind" "SLOPE" "LHolonomicRows$Kind;"))) (by decide +kernel)
    have n56 := hs (Jvm.Cond.not (Jvm.Cond.eq (Jvm.Term.static "HolonomicRows$Kind" "SUMS" "LHolonomicRows$Kind;") (Jvm.Term.static "HolonomicRows$Kind" "SLOPE" "LHolonomicRows$Kind;"))) (by decide +kernel)
    rcases (show i = 0 ∨ i = 1 ∨ i = 2 ∨ i = 3 ∨ i = 4 ∨ i = 5 ∨ i = 6 by omega) with rfl | rfl | rfl | rfl | rfl | rfl | rfl
    · rcases (show j = 0 ∨ j = 1 ∨ j = 2 ∨ j = 3 ∨ j = 4 ∨ j = 5 ∨ j = 6 by omega) with rfl | rfl | rfl | rfl | rfl | rfl | rfl
      · exact absurd rfl hij
      · exact Or.inl n01
      · exact Or.inl n02
      · exact Or.inl n03
      · exact Or.inl n04
      · exact Or.inl n05
      · exact Or.inl n06
    · rcases (show j = 0 ∨ j = 1 ∨ j = 2 ∨ j = 3 ∨ j = 4 ∨ j = 5 ∨ j = 6 by omega) with rfl | rfl | rfl | rfl | rfl | rfl | rfl
      · exact Or.inr n01
      · exact absurd rfl hij
      · exact Or.inl n12
      · exact Or.inl n13
      · exact Or.inl n14
      · exact Or.inl n15
      · exact Or.inl n16
    · rcases (show j = 0 ∨ j = 1 ∨ j = 2 ∨ j = 3 ∨ j = 4 ∨ j = 5 ∨ j = 6 by omega) with rfl | rfl | rfl | rfl | rfl | rfl | rfl
      · exact Or.inr n02
      · exact Or.inr n12
      · exact absurd rfl hij
      · exact Or.inl n23
      · exact Or.inl n24
      · exact Or.inl n25
      · exact Or.inl n26
    · rcases (show j = 0 ∨ j = 1 ∨ j = 2 ∨ j = 3 ∨ j = 4 ∨ j = 5 ∨ j = 6 by omega) with rfl | rfl | rfl | rfl | rfl | rfl | rfl
      · exact Or.inr n03
      · exact Or.inr n13
      · exact Or.inr n23
      · exact absurd rfl hij
      · exact Or.inl n34
      · exact Or.inl n35
      · exact Or.inl n36
    · rcases (show j = 0 ∨ j = 1 ∨ j = 2 ∨ j = 3 ∨ j = 4 ∨ j = 5 ∨ j = 6 by omega) with rfl | rfl | rfl | rfl | rfl | rfl | rfl
      · exact Or.inr n04
      · exact Or.inr n14
      · exact Or.inr n24
      · exact Or.inr n34
      · exact absurd rfl hij
      · exact Or.inl n45
      · exact Or.inl n46
    · rcases (show j = 0 ∨ j = 1 ∨ j = 2 ∨ j = 3 ∨ j = 4 ∨ j = 5 ∨ j = 6 by omega) with rfl | rfl | rfl | rfl | rfl | rfl | rfl
      · exact Or.inr n05
      · exact Or.inr n15
      · exact Or.inr n25
      · exact Or.inr n35
      · exact Or.inr n45
      · exact absurd rfl hij
      · exact Or.inl n56
    · rcases (show j = 0 ∨ j = 1 ∨ j = 2 ∨ j = 3 ∨ j = 4 ∨ j = 5 ∨ j = 6 by omega) with rfl | rfl | rfl | rfl | rfl | rfl | rfl
      · exact Or.inr n06
      · exact Or.inr n16
      · exact Or.inr n26
      · exact Or.inr n36
      · exact Or.inr n46
      · exact Or.inr n56
      · exact absurd rfl hij

set_option maxHeartbeats 1000000 in
set_option maxRecDepth 100000 in
theorem en_kn {s : State} {args : Array Value} (hts : ∀ w ∈ lw_tbl, w.before args s = true) (hgv : (Jvm.Cond.and given_1 narrow_1).before args s = true) {D : va_G} {g : Nat → ClassId} (hK : va_K D vwCl (tyL g) s) : ∃ (ad : Nat → Nat) (tb : Nat) (sa : Nat → Nat), kn ad tb sa (fun q : Nat => s.heap.size ≤ q) s s.heap := by
  have hs := flat_of_before _ hgv
  have hA : ∀ a : Nat, a < s.heap.size → ¬ (fun q : Nat => s.heap.size ≤ q) a := fun a h => Nat.not_le.mpr h
  obtain ⟨ad, hE⟩ := en_E hts hgv hA
  obtain ⟨tb, ht, hT⟩ := va_Tof (args := args) (tm := (Jvm.Term.static "HolonomicRows$1" "$SwitchMap$HolonomicRows$Kind" "[I")) (ty := .int) (N := 7) (f := fun j => .int (nI (j + 1))) (A := fun q : Nat => s.heap.size ≤ q) (by omega) (hs (Jvm.Cond.arrayOf (Jvm.Term.static "HolonomicRows$1" "$SwitchMap$HolonomicRows$Kind" "[I") Jvm.ClassFile.FieldType.int) (by decide +kernel)) (va_eqt (hs (Jvm.Cond.eq (Jvm.Term.length (Jvm.Term.static "HolonomicRows$1" "$SwitchMap$HolonomicRows$Kind" "[I")) (Jvm.Term.int (7 : Int32))) (by decide +kernel))) (fun j hj => by
    rcases (show j = 0 ∨ j = 1 ∨ j = 2 ∨ j = 3 ∨ j = 4 ∨ j = 5 ∨ j = 6 by omega) with rfl | rfl | rfl | rfl | rfl | rfl | rfl
    · exact va_eqt (hs (Jvm.Cond.eq (Jvm.Term.elem (Jvm.Term.static "HolonomicRows$1" "$SwitchMap$HolonomicRows$Kind" "[I") (Jvm.Term.int (0 : Int32))) (Jvm.Term.int (1 : Int32))) (by decide +kernel))
    · exact va_eqt (hs (Jvm.Cond.eq (Jvm.Term.elem (Jvm.Term.static "HolonomicRows$1" "$SwitchMap$HolonomicRows$Kind" "[I") (Jvm.Term.int (1 : Int32))) (Jvm.Term.int (2 : Int32))) (by decide +kernel))
    · exact va_eqt (hs (Jvm.Cond.eq (Jvm.Term.elem (Jvm.Term.static "HolonomicRows$1" "$SwitchMap$HolonomicRows$Kind" "[I") (Jvm.Term.int (2 : Int32))) (Jvm.Term.int (3 : Int32))) (by decide +kernel))
    · exact va_eqt (hs (Jvm.Cond.eq (Jvm.Term.elem (Jvm.Term.static "HolonomicRows$1" "$SwitchMap$HolonomicRows$Kind" "[I") (Jvm.Term.int (3 : Int32))) (Jvm.Term.int (4 : Int32))) (by decide +kernel))
    · exact va_eqt (hs (Jvm.Cond.eq (Jvm.Term.elem (Jvm.Term.static "HolonomicRows$1" "$SwitchMap$HolonomicRows$Kind" "[I") (Jvm.Term.int (4 : Int32))) (Jvm.Term.int (5 : Int32))) (by decide +kernel))
    · exact va_eqt (hs (Jvm.Cond.eq (Jvm.Term.elem (Jvm.Term.static "HolonomicRows$1" "$SwitchMap$HolonomicRows$Kind" "[I") (Jvm.Term.int (5 : Int32))) (Jvm.Term.int (6 : Int32))) (by decide +kernel))
    · exact va_eqt (hs (Jvm.Cond.eq (Jvm.Term.elem (Jvm.Term.static "HolonomicRows$1" "$SwitchMap$HolonomicRows$Kind" "[I") (Jvm.Term.int (6 : Int32))) (Jvm.Term.int (7 : Int32))) (by decide +kernel))) hA
  have hstr : ∀ q ∈ sTx, (Cond.stringRef RX q.1 q.2).before args s = true := by
    intro q hq
    simp only [sTx, List.mem_cons, List.not_mem_nil, or_false] at hq
    rcases hq with rfl | rfl | rfl | rfl | rfl | rfl | rfl | rfl | rfl | rfl | rfl
    · exact (hts _ tw_133)
    · exact (hts _ tw_169)
    · exact (hts _ tw_240)
    · exact (hts _ tw_250)
    · exact (hts _ tw_251)
    · exact (hts _ tw_252)
    · exact (hts _ tw_281)
    · exact (hts _ tw_351)
    · exact (hts _ tw_442)
    · exact (hts _ tw_446)
    · exact (hts _ tw_485)
  have h0 : ∀ k : Nat, ∃ a : Nat, ∀ tx, (k, tx) ∈ sTx → vk_R RX k tx a s := by
    intro k
    by_cases h : ∃ tx, (k, tx) ∈ sTx
    · obtain ⟨tx, htx⟩ := h
      obtain ⟨_, _, _, a, -, -, -, -, -, hev⟩ := Cond.stringRef_spec (hK.1 0 _ rfl).2.1 (hstr _ htx)
      exact ⟨a, fun tx' h' => vk_R.of (hstr _ h') hev⟩
    · exact ⟨0, fun tx' h' => absurd ⟨tx', h'⟩ h⟩
  obtain ⟨sa, hsa⟩ := Classical.axiomOfChoice h0
  refine ⟨ad, tb, sa, fun w hw => va_Nw.of (twL_on w hw) (hts w (twL_tbl w hw)), hE, va_Zof (hts _ tw_396) (hts _ (List.mem_filter.mp bw_15).1) ht hA, hT, fun q hq => hsa q.1 q.2 hq, vx_Zqof (hts _ tw_119) (hts _ (List.mem_filter.mp bw_4).1) (hs (Jvm.Cond.isRef (Jvm.Term.static "java/lang/Throwable" "UNASSIGNED_STACK" "[Ljava/lang/StackTraceElement;")) (by decide +kernel)) hA, vx_Zqof (hts _ tw_121) (hts _ (List.mem_filter.mp bw_4).1) (hs (Jvm.Cond.isRef (Jvm.Term.static "java/lang/Throwable" "SUPPRESSED_SENTINEL" "Ljava/util/List;")) (by decide +kernel)) hA, va_AO.of (hts _ tw_25), (hts _ tw_33), fun q hq => ?_⟩
  simp only [nCs, List.mem_cons, List.not_mem_nil, or_false] at hq
  rcases hq with rfl | rfl | rfl | rfl
  · exact va_Nc.of (hs (Jvm.Cond.not (Jvm.Cond.castable "HolonomicRows$Combination" "HolonomicRows$Recurrence")) (by decide +kernel))
  · exact va_Nc.of (hs (Jvm.Cond.not (Jvm.Cond.castable "java/lang/IllegalArgumentException" "java/lang/IllegalStateException")) (by decide +kernel))
  · exact va_Nc.of (hs (Jvm.Cond.not (Jvm.Cond.castable "java/lang/IllegalArgumentException" "java/lang/IndexOutOfBoundsException")) (by decide +kernel))
  · exact va_Nc.of (hs (Jvm.Cond.not (Jvm.Cond.castable "java/lang/IllegalStateException" "java/lang/IndexOutOfBoundsException")) (by decide +kernel))
