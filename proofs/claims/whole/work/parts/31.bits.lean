/-! Bits of a long; longs that aren't below 0; fields of a sequence of either kind. -/
def bz (b : Bool) : Nat := if b = true then 1 else 0
def lb (x : Int64) (j : Nat) : Bool := x.toBitVec.getLsbD j
theorem sh_c : ∀ j, j < 64 → ((nI j).toInt64 &&& 63).toBitVec.smod 64 = BitVec.ofNat 64 j := by decide
theorem shr_bit (x : Int64) {j : Nat} (hj : j < 64) : (x >>> ((nI j).toInt64 &&& 63)) &&& lN 1 = lN (bz (lb x j)) := by
  apply Int64.toBitVec_inj.mp
  show (BitVec.sshiftRight' x.toBitVec (((nI j).toInt64 &&& 63).toBitVec.smod 64)) &&& 1#64 = _
  rw [sh_c j hj]
  apply BitVec.eq_of_getLsbD_eq
  intro i hi
  have e : BitVec.sshiftRight' x.toBitVec (BitVec.ofNat 64 j) = x.toBitVec.sshiftRight j := by
    unfold BitVec.sshiftRight'
    rw [BitVec.toNat_ofNat, Nat.mod_eq_of_lt (by omega)]
  rw [e, BitVec.getLsbD_and, BitVec.getLsbD_sshiftRight]
  unfold bz lb
  by_cases h0 : i = 0
  · subst h0
    cases hb : x.toBitVec.getLsbD j <;> simp [hj, hb] <;> decide
  · have h1 : (1#64).getLsbD i = false := by
      rw [BitVec.getLsbD_one]
      simp [h0]
    rw [h1, Bool.and_false]
    cases hb : x.toBitVec.getLsbD j
    · show false = (BitVec.ofNat 64 0).getLsbD i
      simp
    · show false = (BitVec.ofNat 64 1).getLsbD i
      exact h1.symm
theorem or_bit (x : Int64) {j : Nat} (hj : j < 64) {i : Nat} (hi : i < 64) : lb (x ||| (lN 1 <<< ((nI j).toInt64 &&& 63))) i = (lb x i || decide (i = j)) := by
  unfold lb
  show (x.toBitVec ||| (BitVec.shiftLeft (1#64) ((((nI j).toInt64 &&& 63).toBitVec.smod 64)).toNat)).getLsbD i = _
  rw [sh_c j hj, BitVec.getLsbD_or]
  congr 1
  show ((1#64) <<< ((BitVec.ofNat 64 j).toNat)).getLsbD i = _
  rw [BitVec.toNat_ofNat, Nat.mod_eq_of_lt (show j < 2 ^ 64 by omega), BitVec.getLsbD_shiftLeft, BitVec.getLsbD_one]
  by_cases h : i = j
  · subst h; simp [hi]
  · by_cases h2 : i < j
    · simp [h, h2]
    · simp [h, h2]
      omega
theorem lor_bit (x y : Int64) (i : Nat) : lb (x ||| y) i = (lb x i || lb y i) := by
  unfold lb
  show (x.toBitVec ||| y.toBitVec).getLsbD i = _
  rw [BitVec.getLsbD_or]
theorem l0_bit (i : Nat) : lb (lN 0) i = false := by
  unfold lb
  show (BitVec.ofNat 64 0).getLsbD i = false
  simp
theorem bz_le (b : Bool) : bz b < 2 := by cases b <;> decide
theorem cmp_1 (b : Bool) : lg_cmp (lN (bz b)) (lN 1) = 0 ↔ b = true := by cases b <;> decide
theorem rd_lN {n : Nat} (h : n < 2 ^ 63) : rd (lN n).toInt = n % 32003 := by rw [pk_lT h, rd_nat]
theorem neg_lN {n : Nat} (h : n < 2 ^ 63) : (-(lN n)).toInt = -(n : Int) := by
  rw [Int64.toInt_neg, pk_lT h]
  exact bm64 (by omega) (by omega)
/-- factors at a place stay small -/
theorem fAt_small {a b c x : Nat} (ha : a < 32003) (hb : b < 32003) (hc : c < 32003) (hx : x < 64) : (a * x + b) * x + c < 2 ^ 40 := by
  have h1 : a * x ≤ 32003 * 64 := Nat.mul_le_mul (by omega) (by omega)
  have h2 : (a * x + b) * x ≤ (32003 * 64 + 32003) * 64 := Nat.mul_le_mul (by omega) (by omega)
  omega
theorem mul_small {a b : Nat} (ha : a < 32003) (hb : b < 32003) : a * b < 1024192009 := by
  have : a * b ≤ 32002 * 32002 := Nat.mul_le_mul (by omega) (by omega)
  omega
theorem fAt_lt (F : Nat → Nat) (i x : Nat) : fAt F i x < 32003 := Nat.mod_lt _ (by decide)
section HWQ
variable {p : Program} {l : Launch} {e : Env} {R : Room} {s : State} {m : MethodId} {args : Array Value} {below : List Frame} {meth : Method} {c : Code} {H : Heap} {locs : List Loc} {cells slots : Nat} {Q : State → Prop}
variable {cc : ByteArray} {pc : Nat} {ls : Array Slot} {rest : List Value} {D : va_G} {A : Nat → Prop} {a : Nat} {tys : List (ClassId × FieldType)} {w : Nat → Option va_E} {H0 : Heap}
theorem hw_getQ (hexec : p.tables.exec = Jvm.exec) (hb : c.code = cc) {own ref : String} {ci index : Nat} (hts : ∀ w ∈ big, w.before args s = true) (hown : s.vm.findClass own = some m.cls) (hK : va_K D vwCl tys s) (hW : hw D vwCl A w H) {fs : List Value} (ha : w a = some (.inr (ci, fs))) (hci : ci = 1 ∨ ci = 2) (k : Nat) (hk : k < 3) (hlink : (Cond.fieldLink own index ref (TR k).2.1 (TR k).2.2.1).before args s = true) (hsame : ∀ x, s.fieldFound? (TR k).1 (TR k).2.1 (TR k).2.2.1 = some x → s.fieldFound? ref (TR k).2.1 (TR k).2.2.1 = some x) {v : Value} (hv : fs[k]? = some v) (hdg : decode cc pc = .ok (.getfield index, 3))
    (kk : W p l e R s m args below meth c H locs cells slots Q (F0 m (pc + 3) ls (v :: rest))) : W p l e R s m args below meth c H locs cells slots Q (F0 m pc ls (.ref a :: rest)) := by
  have e9 : TK k = TR k := by
    rcases (show k = 0 ∨ k = 1 ∨ k = 2 by omega) with rfl | rfl | rfl <;> rfl
  rcases hci with rfl | rfl
  · exact hw_get (C := RR) (T := TR) (N := 6) hexec hb hts inR hown hK hW ha rfl k (by omega) hlink hsame hv hdg kk
  · exact hw_get (C := RK) (T := TK) (N := 7) hexec hb hts inK hown hK hW ha rfl k (by omega) (by rw [e9]; exact hlink) (by rw [e9]; exact hsame) hv hdg kk
theorem hw_putQ (hexec : p.tables.exec = Jvm.exec) (hb : c.code = cc) {own ref : String} {ci index : Nat} (hts : ∀ w ∈ big, w.before args s = true) (hown : s.vm.findClass own = some m.cls) (hK : va_K D vwCl tys s) (hW : hw D vwCl A w H) (hS : va_S A H0 H locs) {fs : List Value} (ha : w a = some (.inr (ci, fs))) (hci : ci = 1 ∨ ci = 2) (hlink : (Cond.fieldLink own index ref (TR 1).2.1 (TR 1).2.2.1).before args s = true) (hsame : ∀ x, s.fieldFound? (TR 1).1 (TR 1).2.1 (TR 1).2.2.1 = some x → s.fieldFound? ref (TR 1).2.1 (TR 1).2.2.1 = some x) {v : Value} (hn : narrow .boolean v = v) (hfit : fits .boolean v = true) (hl : 1 < fs.length)
    (hdg : decode cc pc = .ok (.putfield index, 3)) (kk : ∀ (H1 : Heap) (locs1 : List Loc), hw D vwCl A (hwu w a (.inr (ci, fs.set 1 v))) H1 → va_S A H0 H1 locs1 → W p l e R s m args below meth c H1 locs1 cells slots Q (F0 m (pc + 3) ls rest)) : W p l e R s m args below meth c H locs cells slots Q (F0 m pc ls (v :: .ref a :: rest)) := by
  rcases hci with rfl | rfl
  · exact hw_put (C := RR) (T := TR) (N := 6) (ty := .boolean) hexec hb hts inR tyR tyR_ok nmR hown hK hW hS ha rfl 1 (by decide) hlink hsame rfl (by decide +kernel) hn hfit hl hdg kk
  · exact hw_put (C := RK) (T := TK) (N := 7) (ty := .boolean) hexec hb hts inK tyK tyK_ok nmK hown hK hW hS ha rfl 1 (by decide) hlink hsame rfl (by decide +kernel) hn hfit hl hdg kk
theorem lv_aloadN_n (hexec : p.tables.exec = Jvm.exec) (hb : c.code = cc) {k : Fin 4} {i : Nat} (hdg : decode cc pc = .ok (.aload_n k, 1)) (hi : (k : Nat) = i) (hl : ls[i]? = some (.val .null))
    (kk : W p l e R s m args below meth c H locs cells slots Q (F0 m (pc + 1) ls (.null :: rest))) : W p l e R s m args below meth c H locs cells slots Q (F0 m pc ls rest) := by
  subst hi
  intro T hT X
  obtain ⟨t, a, b⟩ := kk T hT X
  refine ⟨t, ?_, b⟩
  jvm_step X.here [X.here.top, hexec, hb, hdg, hl, Value.isRef]
  exact a
theorem lv_astoreN_n (hexec : p.tables.exec = Jvm.exec) (hb : c.code = cc) {k : Fin 4} {i nL : Nat} {lv lv' : List (Nat × Value)} (hdg : decode cc pc = .ok (.astore_n k, 1)) (hi : (k : Nat) = i) (h : lv_has ls nL lv) (hn : i < nL) (hl : (i, Value.null) :: lv.filter (fun q => !(q.1 == i) && !(q.1 + 1 == i && q.2.category == 2)) = lv')
    (kk : ∀ ls' : Array Slot, lv_has ls' nL lv' → W p l e R s m args below meth c H locs cells slots Q (F0 m (pc + 1) ls' rest)) : W p l e R s m args below meth c H locs cells slots Q (F0 m pc ls (.null :: rest)) := by
  subst hi
  obtain ⟨ls', e', h'⟩ := lv_store1 (v := .null) h hn rfl
  intro T hT X
  obtain ⟨t, a, b⟩ := kk ls' (hl ▸ h') T hT X
  refine ⟨t, ?_, b⟩
  jvm_step X.here [X.here.top, ↓top_set X.here.top, hexec, hb, hdg, e', Value.isRef]
  exact a
end HWQ
