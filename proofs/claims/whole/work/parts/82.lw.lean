/-! Methods with handlers: the law's own. -/
def LI (l : Launch) (D : va_G) (g : Nat → ClassId) (ad : Nat → Nat) (tb : Nat) (sa : Nat → Nat) (y : MethodName) (cc : ByteArray) (maxL : Nat) (ret : Option FieldType) (hh : List (Nat × Nat × Nat × Nat)) (fr lo mc ms : Nat) (w : Wd) (sz : Nat) (as : List Value) (post : Int32 → Wd → Prop) : Prop :=
  Met l y (.codeWith y cc maxL ret hh :: big) (rmL fr lo mc ms) (va_Pc as (cPre D vwCl (tyL g) (kn ad tb sa) w sz)) (va_Qi post (cPost D vwCl (tyL g) (hA w sz)) (hA w sz)) mc ms (hA w sz)
theorem hm_LI {l : Launch} {D : va_G} {g : Nat → ClassId} {ad : Nat → Nat} {tb : Nat} {sa : Nat → Nat} {w : Wd} {sz : Nat} {y : MethodName} {fr lo mc ms maxL : Nat} {cc : ByteArray} {ret : Option FieldType} {hh : List (Nat × Nat × Nat × Nat)} {as : List Value} {post : Int32 → Wd → Prop} (hy : plainName y.cls = true) (hlen : (lg_sl as).length ≤ maxL)
    (body : ∀ (p : Program) (e : Env) (s : State) (m : MethodId) (below : List Frame) (meth : Method) (c : Code) (A : Nat → Prop) (ls : Array Slot), p.tables.exec = Jvm.exec → c.code = cc → meth.sig.returnType = ret → c.maxLocals = maxL → (∀ x ∈ big, x.before as.toArray s = true) → s.vm.findClass y.cls = some m.cls → meth.locks = false → meth.name = y.name → c.exceptionTable.toList = tableOf hh → s.heap.size = sz → hw D vwCl A w s.heap → va_K D vwCl (tyL g) s → kn ad tb sa A s s.heap → va_S A s.heap s.heap [] → (∀ q, s.heap.size ≤ q → A q) → lv_has ls maxL (lv_args 0 as) →
      W p l e (rmL fr lo mc ms) s m as.toArray below meth c s.heap [] 0 0 (MQ below (va_Qi post (cPost D vwCl (tyL g) A) A) as.toArray s mc ms A) (F0 m 0 ls [])) : LI l D g ad tb sa y cc maxL ret hh fr lo mc ms w sz as post := by
  refine va_MetW (cc := cc) (maxL := maxL) (ret := ret) hy rfl ?_
  intro p e s m args below meth c s₁ B hml hv
  obtain ⟨rfl, hsz, hW, hK, hk⟩ := hv
  have hts := atoms_spec (ws := Cond.codeWith y cc maxL ret hh :: big) B.pre
  have hl := lv_entry as (n := maxL) hlen
  rw [lg_entry_eq]
  exact body p e s m below meth c (hA w sz) _ B.exec B.bytes B.returns hml (fun x hx => hts x (List.mem_cons_of_mem _ hx)) (findClass_of_methodNamed B.named) B.notSynchronized (name_of_methodNamed B.named B.method).1 (vx_table (x := y) B (hts _ List.mem_cons_self)) hsz (hw_weak hW (fun a e h _ => Or.inl ⟨e, h⟩)) hK hk va_S.rf (fun q h => Or.inr (by rw [← hsz]; exact h)) hl
section LWC
variable {p : Program} {l : Launch} {e : Env} {R : Room} {s : State} {m : MethodId} {args : Array Value} {below : List Frame} {meth : Method} {c : Code} {H : Heap} {locs : List Loc} {cells slots : Nat} {Q : State → Prop}
variable {D : va_G} {g : Nat → ClassId} {ad : Nat → Nat} {tb : Nat} {sa : Nat → Nat} {w : Wd} {A : Nat → Prop}
variable {y x : MethodName} {bytes cc : ByteArray} {maxL nL fr lo mc ms n index : Nat} {ret : Option FieldType} {own : String} {As rest st0 : List Value} {pc : Nat} {ls : Array Slot}
theorem kc_LI {hh : List (Nat × Nat × Nat × Nat)} {post : Int32 → Wd → Prop} (F : CallFix p m c cc nL s args big own) (hM : LI l D g ad tb sa y bytes maxL ret hh fr lo mc ms w H.size As post) (h1 : Cond.methodLink own index y ∈ big) (h2 : Cond.static y ∈ big) (h3 : Cond.initialized y.cls ∈ big) (h4 : Cond.codeWith y bytes maxL ret hh ∈ big) (hd : y.cls ≠ "java/lang/invoke/MethodHandle" ∧ y.cls ≠ "java/lang/invoke/VarHandle" ∧ (parseMethodDescriptor y.desc).map (fun d => d.parameters.length) = some n) (hR : fr + 1 ≤ R.frames ∧ 8 + (maxL + 11) + lo ≤ R.locals) (hW : hw D vwCl A w H) (hK : va_K D vwCl (tyL g) s) (hk : kn ad tb sa A s s.heap) (hS : va_S A s.heap H locs) (hAA : ∀ q, s.heap.size ≤ q → A q) (hn : As.length = n) (hsz : ls.size = nL) (hst : st0 = As.reverse ++ rest) (h8 : (rest.map fun v => v.category).sum ≤ 8) (hdg : decode cc pc = .ok (.invokestatic index, 3)) (hf : cells + mc ≤ R.cells ∧ slots + ms ≤ R.slots)
    (kk : ∀ (r : Int32) (w' : Wd) (H1 : Heap) (locs1 : List Loc), post r w' → hw D vwCl A w' H1 → va_S A s.heap H1 locs1 → W p l e R s m args below meth c H1 locs1 (cells + mc) (slots + ms) Q (F0 m (pc + 3) ls (.int r :: rest))) : W p l e R s m args below meth c H locs cells slots Q (F0 m pc ls st0) := by
  have hG : GoodIn big (va_wsS own index y (.codeWith y bytes maxL ret hh :: big)) := by
    unfold va_wsS
    refine big_all fun w hw => ?_
    rcases List.mem_append.mp hw with h5 | h5
    · simp only [List.mem_cons, List.not_mem_nil, or_false] at h5
      rcases h5 with rfl | rfl | rfl
      · exact h1
      · exact h2
      · exact h3
    · rcases List.mem_cons.mp h5 with h6 | h6
      · rw [h6]; exact h4
      · exact h6
  exact hm_calli (vx_runSW (As := As) (rest := rest) F hM (vx_cwSW n F.2.2.2.2 hG rfl rfl rfl hd hR) (hm_preS (kn_ok ad tb sa) hW hK hk hS hAA) rfl hn hsz hst (lv_room h8) hdg hf) hW hS hAA kk
end LWC
