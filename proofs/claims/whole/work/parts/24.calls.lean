/-! What is known beside the map: words of the tables that no list carries, constants, tables, texts. -/
abbrev kw_28 : Cond := (Jvm.Cond.methodLinkNest "HolonomicRows" (17 : Nat) ({ cls := "HolonomicRows$Rules", name := "<init>", desc := "()V" } : Jvm.MethodName) "HolonomicRows")
abbrev kw_42 : Cond := (Jvm.Cond.fieldLinkNest "HolonomicRows" (131 : Nat) "HolonomicRows$Rules" "members" "I" "HolonomicRows")
abbrev kw_94 : Cond := (Jvm.Cond.castable "java/lang/IllegalStateException" "java/lang/IllegalStateException")
abbrev kw_95 : Cond := (Jvm.Cond.declares ({ cls := "java/lang/RuntimeException", name := "<init>", desc := "()V" } : Jvm.MethodName))
abbrev kw_96 : Cond := (Jvm.Cond.declares ({ cls := "java/lang/RuntimeException", name := "<init>", desc := "(Ljava/lang/String;)V" } : Jvm.MethodName))
abbrev kw_97 : Cond := (Jvm.Cond.declares ({ cls := "java/lang/Exception", name := "<init>", desc := "()V" } : Jvm.MethodName))
abbrev kw_98 : Cond := (Jvm.Cond.declares ({ cls := "java/lang/Exception", name := "<init>", desc := "(Ljava/lang/String;)V" } : Jvm.MethodName))
abbrev kw_99 : Cond := (Jvm.Cond.declares ({ cls := "java/lang/Throwable", name := "<init>", desc := "()V" } : Jvm.MethodName))
abbrev kw_100 : Cond := (Jvm.Cond.declares ({ cls := "java/lang/Throwable", name := "<init>", desc := "(Ljava/lang/String;)V" } : Jvm.MethodName))
abbrev kw_162 : Cond := (Jvm.Cond.castable "java/lang/IllegalArgumentException" "java/lang/IllegalArgumentException")
abbrev kw_233 : Cond := (Jvm.Cond.castable "java/lang/IndexOutOfBoundsException" "java/lang/IndexOutOfBoundsException")
abbrev kw_390 : Cond := (Jvm.Cond.declares ({ cls := "HolonomicRows$Sequence", name := "numberAt", desc := "(I)I" } : Jvm.MethodName))
abbrev kw_399 : Cond := (Jvm.Cond.declares ({ cls := "java/lang/Enum", name := "ordinal", desc := "()I" } : Jvm.MethodName))
abbrev kw_403 : Cond := (Jvm.Cond.methodLinkNest "HolonomicRows$Combination" (44 : Nat) ({ cls := "HolonomicRows", name := "reduce", desc := "(J)I" } : Jvm.MethodName) "HolonomicRows")
abbrev kw_404 : Cond := (Jvm.Cond.methodLinkNest "HolonomicRows$Combination" (48 : Nat) ({ cls := "HolonomicRows", name := "product", desc := "(II)I" } : Jvm.MethodName) "HolonomicRows")
abbrev kw_418 : Cond := (Jvm.Cond.methodLinkNest "HolonomicRows$Recurrence" (29 : Nat) ({ cls := "HolonomicRows", name := "reduce", desc := "(J)I" } : Jvm.MethodName) "HolonomicRows")
abbrev kw_419 : Cond := (Jvm.Cond.methodLinkNest "HolonomicRows$Recurrence" (33 : Nat) ({ cls := "HolonomicRows", name := "inverse", desc := "(I)I" } : Jvm.MethodName) "HolonomicRows")
abbrev kw_423 : Cond := (Jvm.Cond.methodLinkNest "HolonomicRows$Recurrence" (37 : Nat) ({ cls := "HolonomicRows", name := "product", desc := "(II)I" } : Jvm.MethodName) "HolonomicRows")
abbrev kw_455 : Cond := (Jvm.Cond.methodLinkNest "HolonomicRows$Rules" (57 : Nat) ({ cls := "HolonomicRows", name := "product", desc := "(II)I" } : Jvm.MethodName) "HolonomicRows")
abbrev kw_464 : Cond := (Jvm.Cond.methodLinkNest "HolonomicRows$Rules" (69 : Nat) ({ cls := "HolonomicRows", name := "inverse", desc := "(I)I" } : Jvm.MethodName) "HolonomicRows")
abbrev kw_469 : Cond := (Jvm.Cond.methodLinkNest "HolonomicRows$Rules" (53 : Nat) ({ cls := "HolonomicRows", name := "reduce", desc := "(J)I" } : Jvm.MethodName) "HolonomicRows")
abbrev kw_700 : Cond := (Jvm.Cond.castable "HolonomicRows$Recurrence" "HolonomicRows$Recurrence")
abbrev kw_701 : Cond := (Jvm.Cond.castable "HolonomicRows$Combination" "HolonomicRows$Sequence")
abbrev kw_702 : Cond := (Jvm.Cond.castable "HolonomicRows$Recurrence" "HolonomicRows$Sequence")
def twL : List Cond := [kw_28, kw_42, kw_94, kw_95, kw_96, kw_97, kw_98, kw_99, kw_100, kw_162, kw_233, kw_390, kw_399, kw_403, kw_404, kw_418, kw_419, kw_423, kw_455, kw_464, kw_469, kw_700, kw_701, kw_702]
theorem twL_tbl : ∀ w ∈ twL, w ∈ lw_tbl := by
  intro w hw
  simp only [twL, List.mem_cons, List.not_mem_nil, or_false] at hw
  rcases hw with rfl | rfl | rfl | rfl | rfl | rfl | rfl | rfl | rfl | rfl | rfl | rfl | rfl | rfl | rfl | rfl | rfl | rfl | rfl | rfl | rfl | rfl | rfl | rfl
  · exact tw_28
  · exact tw_42
  · exact tw_94
  · exact tw_95
  · exact tw_96
  · exact tw_97
  · exact tw_98
  · exact tw_99
  · exact tw_100
  · exact tw_162
  · exact tw_233
  · exact tw_390
  · exact tw_399
  · exact tw_403
  · exact tw_404
  · exact tw_418
  · exact tw_419
  · exact tw_423
  · exact tw_455
  · exact tw_464
  · exact tw_469
  · exact tw_700
  · exact tw_701
  · exact tw_702
theorem twL_warm {s U : State} (hW : s.WarmedH U.vm) : ∀ w ∈ twL, va_Nw w s → va_Nw w U := by
  intro w hw h
  simp only [twL, List.mem_cons, List.not_mem_nil, or_false] at hw
  rcases hw with rfl | rfl | rfl | rfl | rfl | rfl | rfl | rfl | rfl | rfl | rfl | rfl | rfl | rfl | rfl | rfl | rfl | rfl | rfl | rfl | rfl | rfl | rfl | rfl
  · exact va_Nw.warmM hW h
  · exact va_Nw.warmF hW h
  · exact va_Nw.warmC hW h
  · exact va_Nw.warmD hW h
  · exact va_Nw.warmD hW h
  · exact va_Nw.warmD hW h
  · exact va_Nw.warmD hW h
  · exact va_Nw.warmD hW h
  · exact va_Nw.warmD hW h
  · exact va_Nw.warmC hW h
  · exact va_Nw.warmC hW h
  · exact va_Nw.warmD hW h
  · exact va_Nw.warmD hW h
  · exact va_Nw.warmM hW h
  · exact va_Nw.warmM hW h
  · exact va_Nw.warmM hW h
  · exact va_Nw.warmM hW h
  · exact va_Nw.warmM hW h
  · exact va_Nw.warmM hW h
  · exact va_Nw.warmM hW h
  · exact va_Nw.warmM hW h
  · exact va_Nw.warmC hW h
  · exact va_Nw.warmC hW h
  · exact va_Nw.warmC hW h
theorem twL_on : ∀ w ∈ twL, w.onTables = true := by decide +kernel
def sTx : List (Nat × String) := [(160, "40 sequences are there"), (31, "the order is not 1 to 3"), (150, "no such sequence"), (152, "not a sequence by a recurrence"), (57, "no such factor"), (59, "the power is not 0 to 2"), (154, "no such place"), (99, "the shift is not 0 to 8"), (122, "the order is not 0 to 4"), (156, "the degree is not 0 to 3"), (136, "no such member")]
def nCs : List (String × String) := [("HolonomicRows$Combination", "HolonomicRows$Recurrence"), ("java/lang/IllegalArgumentException", "java/lang/IllegalStateException"), ("java/lang/IllegalArgumentException", "java/lang/IndexOutOfBoundsException"), ("java/lang/IllegalStateException", "java/lang/IndexOutOfBoundsException")]
def eNm : List String := ["SUM", "PRODUCT", "CONVOLUTION", "WOVEN", "SHIFT", "SUMS", "SLOPE"]
def eF : List (String × String × String × List Int32) := [("java/lang/Enum", "ordinal", "I", [0, 1, 2, 3, 4, 5, 6])]
def kn (ad : Nat → Nat) (tb : Nat) (sa : Nat → Nat) (A : Nat → Prop) (U : State) (H : Heap) : Prop :=
  (∀ w ∈ twL, va_Nw w U) ∧ va_En RE "LHolonomicRows$Kind;" eNm eF ad A U H ∧ va_Z RS "$SwitchMap$HolonomicRows$Kind" "[I" (.ref tb) A U H ∧ va_T .int tb 7 (fun j => .int (nI (j + 1))) A U H ∧ (∀ q ∈ sTx, vk_R RX q.1 q.2 (sa q.1) U) ∧
  vx_Zq Bundle.tN "UNASSIGNED_STACK" Bundle.steD A U H ∧ vx_Zq Bundle.tN "SUPPRESSED_SENTINEL" Bundle.listD A U H ∧ va_AO RQ U ∧ va_AOA .int U ∧ ∀ q ∈ nCs, va_Nc q.1 q.2 U
theorem va_AOA.go {t : FieldType} {u U : State} (hvm : u.vm.Alike U.vm) (h : va_AOA t u) : va_AOA t U := over_moved (a := #[]) (a' := #[]) hvm h
theorem kn_ok (ad : Nat → Nat) (tb : Nat) (sa : Nat → Nat) : knOK (kn ad tb sa) := by
  intro A B u U H H1 hW hq hAB h
  obtain ⟨h1, h2, h3, h4, h5, h6, h7, h8, h9, h10⟩ := h
  have hv := hW.alike
  exact ⟨fun w hw => twL_warm hW w hw (h1 w hw), ((h2.moved hv).kept hq).narrow hAB, ((h3.moved hv).kept hq).narrow hAB, ((h4.moved hv).kept hq).narrow hAB, fun q hq => (h5 q hq).warm hW, ((h6.moved hv).kept hq).narrow hAB, ((h7.moved hv).kept hq).narrow hAB, h8.moved hv, h9.go hv, fun q hq => (h10 q hq).moved hv⟩
/-- the array types, by their numbers -/
abbrev tyL (g : Nat → ClassId) : List (ClassId × FieldType) := [(g 0, .int), (g 1, .boolean), (g 2, .long), (g 3, .object RQ), (g 4, .array .int)]
abbrev Wd : Type := Nat → Option va_E
abbrev rmL (fr lo mc ms : Nat) : Room := { frames := fr, cells := mc, slots := ms, locals := lo }
/-- contracts: an int, a long, nothing, a reference comes back; with X: or an exception goes out -/
def MI (l : Launch) (D : va_G) (g : Nat → ClassId) (ad : Nat → Nat) (tb : Nat) (sa : Nat → Nat) (y : MethodName) (cc : ByteArray) (maxL : Nat) (ret : Option FieldType) (fr lo mc ms : Nat) (w : Wd) (sz : Nat) (as : List Value) (post : Int32 → Wd → Prop) : Prop :=
  Met l y (.code y cc maxL ret :: big) (rmL fr lo mc ms) (va_Pc as (cPre D vwCl (tyL g) (kn ad tb sa) w sz)) (va_Qi post (cPost D vwCl (tyL g) (hA w sz)) (hA w sz)) mc ms (hA w sz)
def ML (l : Launch) (D : va_G) (g : Nat → ClassId) (ad : Nat → Nat) (tb : Nat) (sa : Nat → Nat) (y : MethodName) (cc : ByteArray) (maxL : Nat) (ret : Option FieldType) (fr lo mc ms : Nat) (w : Wd) (sz : Nat) (as : List Value) (post : Int64 → Wd → Prop) : Prop :=
  Met l y (.code y cc maxL ret :: big) (rmL fr lo mc ms) (va_Pc as (cPre D vwCl (tyL g) (kn ad tb sa) w sz)) (va_Ql post (cPost D vwCl (tyL g) (hA w sz)) (hA w sz)) mc ms (hA w sz)
def MV (l : Launch) (D : va_G) (g : Nat → ClassId) (ad : Nat → Nat) (tb : Nat) (sa : Nat → Nat) (y : MethodName) (cc : ByteArray) (maxL : Nat) (ret : Option FieldType) (fr lo mc ms : Nat) (w : Wd) (sz : Nat) (as : List Value) (post : Wd → Prop) : Prop :=
  Met l y (.code y cc maxL ret :: big) (rmL fr lo mc ms) (va_Pc as (cPre D vwCl (tyL g) (kn ad tb sa) w sz)) (va_Qv post (cPost D vwCl (tyL g) (hA w sz)) (hA w sz)) mc ms (hA w sz)
def MR (l : Launch) (D : va_G) (g : Nat → ClassId) (ad : Nat → Nat) (tb : Nat) (sa : Nat → Nat) (y : MethodName) (cc : ByteArray) (maxL : Nat) (ret : Option FieldType) (fr lo mc ms : Nat) (w : Wd) (sz : Nat) (as : List Value) (post : Nat → Wd → Prop) : Prop :=
  Met l y (.code y cc maxL ret :: big) (rmL fr lo mc ms) (va_Pc as (cPre D vwCl (tyL g) (kn ad tb sa) w sz)) (va_Qr (fun u => post u.1 u.2) (rPost D vwCl (tyL g) (hA w sz)) (hA w sz)) mc ms (hA w sz)
def xX (D : va_G) (g : Nat → ClassId) (A : Nat → Prop) (xp : String → Wd → Prop) : String → State → State → Prop := vx_X (S := Wd) (fun _ => True) (fun E w t => xp E w ∧ cPost D vwCl (tyL g) A w t) A
def XI (l : Launch) (D : va_G) (g : Nat → ClassId) (ad : Nat → Nat) (tb : Nat) (sa : Nat → Nat) (y : MethodName) (cc : ByteArray) (maxL : Nat) (ret : Option FieldType) (fr lo mc ms : Nat) (w : Wd) (sz : Nat) (as : List Value) (post : Int32 → Wd → Prop) (xp : String → Wd → Prop) : Prop :=
  vx_Met l y (.code y cc maxL ret :: big) (rmL fr lo mc ms) (va_Pc as (cPre D vwCl (tyL g) (kn ad tb sa) w sz)) (va_Qi post (cPost D vwCl (tyL g) (hA w sz)) (hA w sz)) (xX D g (hA w sz) xp) mc ms (hA w sz)
def XV (l : Launch) (D : va_G) (g : Nat → ClassId) (ad : Nat → Nat) (tb : Nat) (sa : Nat → Nat) (y : MethodName) (cc : ByteArray) (maxL : Nat) (ret : Option FieldType) (fr lo mc ms : Nat) (w : Wd) (sz : Nat) (as : List Value) (post : Wd → Prop) (xp : String → Wd → Prop) : Prop :=
  vx_Met l y (.code y cc maxL ret :: big) (rmL fr lo mc ms) (va_Pc as (cPre D vwCl (tyL g) (kn ad tb sa) w sz)) (va_Qv post (cPost D vwCl (tyL g) (hA w sz)) (hA w sz)) (xX D g (hA w sz) xp) mc ms (hA w sz)
def XR (l : Launch) (D : va_G) (g : Nat → ClassId) (ad : Nat → Nat) (tb : Nat) (sa : Nat → Nat) (y : MethodName) (cc : ByteArray) (maxL : Nat) (ret : Option FieldType) (fr lo mc ms : Nat) (w : Wd) (sz : Nat) (as : List Value) (post : Nat → Wd → Prop) (xp : String → Wd → Prop) : Prop :=
  vx_Met l y (.code y cc maxL ret :: big) (rmL fr lo mc ms) (va_Pc as (cPre D vwCl (tyL g) (kn ad tb sa) w sz)) (va_Qr (fun u => post u.1 u.2) (rPost D vwCl (tyL g) (hA w sz)) (hA w sz)) (xX D g (hA w sz) xp) mc ms (hA w sz)

section HXC
variable {p : Program} {l : Launch} {e : Env} {R : Room} {s : State} {m : MethodId} {args : Array Value} {below : List Frame} {meth : Method} {c : Code} {H : Heap} {locs : List Loc} {cells slots : Nat} {Q : State → Prop}
variable {D : va_G} {g : Nat → ClassId} {ad : Nat → Nat} {tb : Nat} {sa : Nat → Nat} {w : Wd} {A : Nat → Prop}
variable {y x : MethodName} {bytes cc : ByteArray} {maxL nL fr lo mc ms n index : Nat} {ret : Option FieldType} {own C owner host : String} {As rest st0 : List Value} {pc : Nat} {ls : Array Slot} {b : Nat}

theorem big_code {ws' : List Cond} (h4 : Cond.code y bytes maxL ret ∈ big) (h : ∀ w ∈ ws', w ∈ big) : GoodIn big (ws' ++ (.code y bytes maxL ret :: big)) := big_all fun w hw => by
  rcases List.mem_append.mp hw with h1 | h1
  · exact h w h1
  · rcases List.mem_cons.mp h1 with h2 | h2
    · rw [h2]; exact h4
    · exact h2
/-- behind a call that may throw -/
theorem hx_calli {post : Int32 → Wd → Prop} {xp : String → Wd → Prop} {a : Array Value} (hr : vx_Run p l e R s m args below meth c H locs cells slots mc ms (F0 m pc ls st0) rest (va_Qi post (cPost D vwCl (tyL g) (hA w H.size)) (hA w H.size) a) (xX D g (hA w H.size) xp) (hA w H.size)) (hW : hw D vwCl A w H) (hS : va_S A s.heap H locs) (hAA : ∀ q, s.heap.size ≤ q → A q)
    (kx : ∀ (E : String) (ce : Cell) (q9 : Addr) (w' : Wd) (H1 : Heap) (locs1 : List Loc), xp E w' → hw D vwCl A w' H1 → va_S A s.heap H1 locs1 → H1[q9]? = some ce → ce.vm = .none → s.vm.findClass E = some ce.cls → vx_W p l e R s m args below meth c H1 locs1 (cells + mc) (slots + ms) Q (F0 m pc ls rest) q9)
    (kk : ∀ (r : Int32) (w' : Wd) (H1 : Heap) (locs1 : List Loc), post r w' → hw D vwCl A w' H1 → va_S A s.heap H1 locs1 → W p l e R s m args below meth c H1 locs1 (cells + mc) (slots + ms) Q (F0 m (pc + 3) ls (.int r :: rest))) : W p l e R s m args below meth c H locs cells slots Q (F0 m pc ls st0) := by
  have hF := hA_in hW hS hAA
  refine vx_calli hr hS (fun q _ h => hF q h) hF (fun q _ h => hF q h) (fun E ce q9 u t H1 locs1 ht hvm _ hB hz hk hS1 hc hv hcl => ?_) (fun r u t H1 locs1 ht hvm hp hB hz hk hS1 => ?_)
  · obtain ⟨h0, h1, -⟩ := hB
    rw [ht] at h1
    exact kx E ce q9 u H1 locs1 h0 (hw_weak h1 (fun a _ _ h => hF a h)) hS1 hc hv hcl
  · obtain ⟨h1, -⟩ := hB
    rw [ht] at h1
    exact kk r u H1 locs1 hp (hw_weak h1 (fun a _ _ h => hF a h)) hS1
theorem hx_callv {post : Wd → Prop} {xp : String → Wd → Prop} {a : Array Value} (hr : vx_Run p l e R s m args below meth c H locs cells slots mc ms (F0 m pc ls st0) rest (va_Qv post (cPost D vwCl (tyL g) (hA w H.size)) (hA w H.size) a) (xX D g (hA w H.size) xp) (hA w H.size)) (hW : hw D vwCl A w H) (hS : va_S A s.heap H locs) (hAA : ∀ q, s.heap.size ≤ q → A q)
    (kx : ∀ (E : String) (ce : Cell) (q9 : Addr) (w' : Wd) (H1 : Heap) (locs1 : List Loc), xp E w' → hw D vwCl A w' H1 → va_S A s.heap H1 locs1 → H1[q9]? = some ce → ce.vm = .none → s.vm.findClass E = some ce.cls → vx_W p l e R s m args below meth c H1 locs1 (cells + mc) (slots + ms) Q (F0 m pc ls rest) q9)
    (kk : ∀ (w' : Wd) (H1 : Heap) (locs1 : List Loc), post w' → hw D vwCl A w' H1 → va_S A s.heap H1 locs1 → W p l e R s m args below meth c H1 locs1 (cells + mc) (slots + ms) Q (F0 m (pc + 3) ls rest)) : W p l e R s m args below meth c H locs cells slots Q (F0 m pc ls st0) := by
  have hF := hA_in hW hS hAA
  refine vx_callv hr hS (fun q _ h => hF q h) hF (fun q _ h => hF q h) (fun E ce q9 u t H1 locs1 ht hvm _ hB hz hk hS1 hc hv hcl => ?_) (fun u t H1 locs1 ht hvm hp hB hz hk hS1 => ?_)
  · obtain ⟨h0, h1, -⟩ := hB
    rw [ht] at h1
    exact kx E ce q9 u H1 locs1 h0 (hw_weak h1 (fun a _ _ h => hF a h)) hS1 hc hv hcl
  · obtain ⟨h1, -⟩ := hB
    rw [ht] at h1
    exact kk u H1 locs1 hp (hw_weak h1 (fun a _ _ h => hF a h)) hS1
theorem hx_callr {post : Nat → Wd → Prop} {xp : String → Wd → Prop} {a : Array Value} (hr : vx_Run p l e R s m args below meth c H locs cells slots mc ms (F0 m pc ls st0) rest (va_Qr (fun u => post u.1 u.2) (rPost D vwCl (tyL g) (hA w H.size)) (hA w H.size) a) (xX D g (hA w H.size) xp) (hA w H.size)) (hW : hw D vwCl A w H) (hS : va_S A s.heap H locs) (hAA : ∀ q, s.heap.size ≤ q → A q)
    (kx : ∀ (E : String) (ce : Cell) (q9 : Addr) (w' : Wd) (H1 : Heap) (locs1 : List Loc), xp E w' → hw D vwCl A w' H1 → va_S A s.heap H1 locs1 → H1[q9]? = some ce → ce.vm = .none → s.vm.findClass E = some ce.cls → vx_W p l e R s m args below meth c H1 locs1 (cells + mc) (slots + ms) Q (F0 m pc ls rest) q9)
    (kk : ∀ (r : Nat) (w' : Wd) (H1 : Heap) (locs1 : List Loc), post r w' → hw D vwCl A w' H1 → va_S A s.heap H1 locs1 → W p l e R s m args below meth c H1 locs1 (cells + mc) (slots + ms) Q (F0 m (pc + 3) ls (.ref r :: rest))) : W p l e R s m args below meth c H locs cells slots Q (F0 m pc ls st0) := by
  have hF := hA_in hW hS hAA
  intro T hT X
  rcases hr T hT X with ⟨v, st₀, t, T', L, h0, X', hL, e1, e2, ⟨⟨u, ra, hv, hp, hb1, hb2, -⟩, hG⟩, st⟩ | ⟨q, st₀, t, T', L, E, ce, h0, X', hL, e1, e2, ⟨u, -, ⟨hp, hb, -⟩, hG⟩, hce, hcv, hcl, st⟩
  · cases hv
    obtain ⟨k1, k2, k3⟩ := vx_keep h0 e1 hS (fun q _ h => hF q h) hF hL hG
    subst hb1
    obtain ⟨t2, a1, b1⟩ := kk u.1 u.2 T'.heap (locs ++ L) hp (by rw [e1]; exact hw_weak hb2 (fun a _ _ h => hF a h)) k3 T' rfl X'
    exact ⟨t2, st t2 a1, b1⟩
  · obtain ⟨k1, k2, k3⟩ := vx_keep h0 e1 hS (fun q _ h => hF q h) hF hL hG
    obtain ⟨t2, a1, b1⟩ := kx E ce q u T'.heap (locs ++ L) hp (by rw [e1]; exact hw_weak hb (fun a _ _ h => hF a h)) k3 (by rw [e1]; exact hce) hcv hcl T' rfl X'
    exact ⟨t2, st.trans a1, b1⟩
theorem kc_SI {post : Int32 → Wd → Prop} (F : CallFix p m c cc nL s args big own) (hM : MI l D g ad tb sa y bytes maxL ret fr lo mc ms w H.size As post) (h1 : Cond.methodLink own index y ∈ big) (h2 : Cond.static y ∈ big) (h3 : Cond.initialized y.cls ∈ big) (h4 : Cond.code y bytes maxL ret ∈ big) (hd : y.cls ≠ "java/lang/invoke/MethodHandle" ∧ y.cls ≠ "java/lang/invoke/VarHandle" ∧ (parseMethodDescriptor y.desc).map (fun d => d.parameters.length) = some n) (hR : fr + 1 ≤ R.frames ∧ 8 + (maxL + 11) + lo ≤ R.locals) (hW : hw D vwCl A w H) (hK : va_K D vwCl (tyL g) s) (hk : kn ad tb sa A s s.heap) (hS : va_S A s.heap H locs) (hAA : ∀ q, s.heap.size ≤ q → A q) (hn : As.length = n) (hsz : ls.size = nL) (hst : st0 = As.reverse ++ rest) (h8 : (rest.map fun v => v.category).sum ≤ 8) (hdg : decode cc pc = .ok (.invokestatic index, 3)) (hf : cells + mc ≤ R.cells ∧ slots + ms ≤ R.slots)
    (kk : ∀ (r : Int32) (w' : Wd) (H1 : Heap) (locs1 : List Loc), post r w' → hw D vwCl A w' H1 → va_S A s.heap H1 locs1 → W p l e R s m args below meth c H1 locs1 (cells + mc) (slots + ms) Q (F0 m (pc + 3) ls (.int r :: rest))) : W p l e R s m args below meth c H locs cells slots Q (F0 m pc ls st0) := by
  have hG : GoodIn big (va_wsS own index y (.code y bytes maxL ret :: big)) := by
    refine big_code h4 ?_
    intro w hw
    simp only [List.mem_cons, List.not_mem_nil, or_false] at hw
    rcases hw with rfl | rfl | rfl
    · exact h1
    · exact h2
    · exact h3
  exact hm_calli (va_runS (As := As) (rest := rest) F hM (va_cwS n F.2.2.2.2 hG rfl rfl rfl hd hR) (hm_preS (kn_ok ad tb sa) hW hK hk hS hAA) rfl hn hsz hst (lv_room h8) hdg hf) hW hS hAA kk
theorem kc_SL {post : Int64 → Wd → Prop} (F : CallFix p m c cc nL s args big own) (hM : ML l D g ad tb sa y bytes maxL ret fr lo mc ms w H.size As post) (h1 : Cond.methodLink own index y ∈ big) (h2 : Cond.static y ∈ big) (h3 : Cond.initialized y.cls ∈ big) (h4 : Cond.code y bytes maxL ret ∈ big) (hd : y.cls ≠ "java/lang/invoke/MethodHandle" ∧ y.cls ≠ "java/lang/invoke/VarHandle" ∧ (parseMethodDescriptor y.desc).map (fun d => d.parameters.length) = some n) (hR : fr + 1 ≤ R.frames ∧ 8 + (maxL + 11) + lo ≤ R.locals) (hW : hw D vwCl A w H) (hK : va_K D vwCl (tyL g) s) (hk : kn ad tb sa A s s.heap) (hS : va_S A s.heap H locs) (hAA : ∀ q, s.heap.size ≤ q → A q) (hn : As.length = n) (hsz : ls.size = nL) (hst : st0 = As.reverse ++ rest) (h8 : (rest.map fun v => v.category).sum ≤ 8) (hdg : decode cc pc = .ok (.invokestatic index, 3)) (hf : cells + mc ≤ R.cells ∧ slots + ms ≤ R.slots)
    (kk : ∀ (r : Int64) (w' : Wd) (H1 : Heap) (locs1 : List Loc), post r w' → hw D vwCl A w' H1 → va_S A s.heap H1 locs1 → W p l e R s m args below meth c H1 locs1 (cells + mc) (slots + ms) Q (F0 m (pc + 3) ls (.long r :: rest))) : W p l e R s m args below meth c H locs cells slots Q (F0 m pc ls st0) := by
  have hG : GoodIn big (va_wsS own index y (.code y bytes maxL ret :: big)) := by
    refine big_code h4 ?_
    intro w hw
    simp only [List.mem_cons, List.not_mem_nil, or_false] at hw
    rcases hw with rfl | rfl | rfl
    · exact h1
    · exact h2
    · exact h3
  exact hm_calll (va_runS (As := As) (rest := rest) F hM (va_cwS n F.2.2.2.2 hG rfl rfl rfl hd hR) (hm_preS (kn_ok ad tb sa) hW hK hk hS hAA) rfl hn hsz hst (lv_room h8) hdg hf) hW hS hAA kk
theorem kc_SV {post : Wd → Prop} (F : CallFix p m c cc nL s args big own) (hM : MV l D g ad tb sa y bytes maxL ret fr lo mc ms w H.size As post) (h1 : Cond.methodLink own index y ∈ big) (h2 : Cond.static y ∈ big) (h3 : Cond.initialized y.cls ∈ big) (h4 : Cond.code y bytes maxL ret ∈ big) (hd : y.cls ≠ "java/lang/invoke/MethodHandle" ∧ y.cls ≠ "java/lang/invoke/VarHandle" ∧ (parseMethodDescriptor y.desc).map (fun d => d.parameters.length) = some n) (hR : fr + 1 ≤ R.frames ∧ 8 + (maxL + 11) + lo ≤ R.locals) (hW : hw D vwCl A w H) (hK : va_K D vwCl (tyL g) s) (hk : kn ad tb sa A s s.heap) (hS : va_S A s.heap H locs) (hAA : ∀ q, s.heap.size ≤ q → A q) (hn : As.length = n) (hsz : ls.size = nL) (hst : st0 = As.reverse ++ rest) (h8 : (rest.map fun v => v.category).sum ≤ 8) (hdg : decode cc pc = .ok (.invokestatic index, 3)) (hf : cells + mc ≤ R.cells ∧ slots + ms ≤ R.slots)
    (kk : ∀ (w' : Wd) (H1 : Heap) (locs1 : List Loc), post w' → hw D vwCl A w' H1 → va_S A s.heap H1 locs1 → W p l e R s m args below meth c H1 locs1 (cells + mc) (slots + ms) Q (F0 m (pc + 3) ls (rest))) : W p l e R s m args below meth c H locs cells slots Q (F0 m pc ls st0) := by
  have hG : GoodIn big (va_wsS own index y (.code y bytes maxL ret :: big)) := by
    refine big_code h4 ?_
    intro w hw
    simp only [List.mem_cons, List.not_mem_nil, or_false] at hw
    rcases hw with rfl | rfl | rfl
    · exact h1
    · exact h2
    · exact h3
  exact hm_callv (va_runS (As := As) (rest := rest) F hM (va_cwS n F.2.2.2.2 hG rfl rfl rfl hd hR) (hm_preS (kn_ok ad tb sa) hW hK hk hS hAA) rfl hn hsz hst (lv_room h8) hdg hf) hW hS hAA kk
theorem kc_SR {post : Nat → Wd → Prop} (F : CallFix p m c cc nL s args big own) (hM : MR l D g ad tb sa y bytes maxL ret fr lo mc ms w H.size As post) (h1 : Cond.methodLink own index y ∈ big) (h2 : Cond.static y ∈ big) (h3 : Cond.initialized y.cls ∈ big) (h4 : Cond.code y bytes maxL ret ∈ big) (hd : y.cls ≠ "java/lang/invoke/MethodHandle" ∧ y.cls ≠ "java/lang/invoke/VarHandle" ∧ (parseMethodDescriptor y.desc).map (fun d => d.parameters.length) = some n) (hR : fr + 1 ≤ R.frames ∧ 8 + (maxL + 11) + lo ≤ R.locals) (hW : hw D vwCl A w H) (hK : va_K D vwCl (tyL g) s) (hk : kn ad tb sa A s s.heap) (hS : va_S A s.heap H locs) (hAA : ∀ q, s.heap.size ≤ q → A q) (hn : As.length = n) (hsz : ls.size = nL) (hst : st0 = As.reverse ++ rest) (h8 : (rest.map fun v => v.category).sum ≤ 8) (hdg : decode cc pc = .ok (.invokestatic index, 3)) (hf : cells + mc ≤ R.cells ∧ slots + ms ≤ R.slots)
    (kk : ∀ (r : Nat) (w' : Wd) (H1 : Heap) (locs1 : List Loc), post r w' → hw D vwCl A w' H1 → va_S A s.heap H1 locs1 → W p l e R s m args below meth c H1 locs1 (cells + mc) (slots + ms) Q (F0 m (pc + 3) ls (.ref r :: rest))) : W p l e R s m args below meth c H locs cells slots Q (F0 m pc ls st0) := by
  have hG : GoodIn big (va_wsS own index y (.code y bytes maxL ret :: big)) := by
    refine big_code h4 ?_
    intro w hw
    simp only [List.mem_cons, List.not_mem_nil, or_false] at hw
    rcases hw with rfl | rfl | rfl
    · exact h1
    · exact h2
    · exact h3
  exact hm_callr (va_runS (As := As) (rest := rest) F hM (va_cwS n F.2.2.2.2 hG rfl rfl rfl hd hR) (hm_preS (kn_ok ad tb sa) hW hK hk hS hAA) rfl hn hsz hst (lv_room h8) hdg hf) hW hS hAA kk
theorem kc_VI {post : Int32 → Wd → Prop} (F : CallFix p m c cc nL s args big own) (hM : MI l D g ad tb sa y bytes maxL ret fr lo mc ms w H.size (.ref b :: As) post) (h1 : Cond.methodLink own index y ∈ big) (h2 : Cond.instanceMethod y ∈ big) (h5 : Cond.selects C y y ∈ big) (h3 : Cond.initialized C ∈ big) (h4 : Cond.code y bytes maxL ret ∈ big) (hd : y.cls = C ∧ y.cls ≠ "java/lang/invoke/MethodHandle" ∧ y.cls ≠ "java/lang/invoke/VarHandle" ∧ (parseMethodDescriptor y.desc).map (fun d => d.parameters.length) = some n) {ci : Nat} {q : vw_C} {fs : List Value} (hc : vwCl[ci]? = some q) (hq : q.1 = C) (hob : w b = some (.inr (ci, fs))) (hR : fr + 1 ≤ R.frames ∧ 8 + (maxL + 11) + lo ≤ R.locals) (hW : hw D vwCl A w H) (hK : va_K D vwCl (tyL g) s) (hk : kn ad tb sa A s s.heap) (hS : va_S A s.heap H locs) (hAA : ∀ q, s.heap.size ≤ q → A q) (hn : As.length = n) (hsz : ls.size = nL) (hst : st0 = As.reverse ++ .ref b :: rest) (h8 : (rest.map fun v => v.category).sum ≤ 8) (hdg : decode cc pc = .ok (.invokevirtual index, 3)) (hf : cells + mc ≤ R.cells ∧ slots + ms ≤ R.slots)
    (kk : ∀ (r : Int32) (w' : Wd) (H1 : Heap) (locs1 : List Loc), post r w' → hw D vwCl A w' H1 → va_S A s.heap H1 locs1 → W p l e R s m args below meth c H1 locs1 (cells + mc) (slots + ms) Q (F0 m (pc + 3) ls (.int r :: rest))) : W p l e R s m args below meth c H locs cells slots Q (F0 m pc ls st0) := by
  have hG : GoodIn big (wsV own index C y (.code y bytes maxL ret :: big)) := by
    refine big_code h4 ?_
    intro w hw
    simp only [List.mem_cons, List.not_mem_nil, or_false] at hw
    rcases hw with rfl | rfl | rfl | rfl
    · exact h1
    · exact h2
    · exact h5
    · exact h3
  exact hm_calli (va_runV (As := As) (rest := rest) F hM (cwV n F.2.2.2.2 hG rfl rfl rfl hd hR) (by subst hq; exact hm_preV (kn_ok ad tb sa) hW hK hk hS hAA hc hob) rfl hn hsz hst (lv_room h8) hdg hf) hW hS hAA kk
theorem kc_VL {post : Int64 → Wd → Prop} (F : CallFix p m c cc nL s args big own) (hM : ML l D g ad tb sa y bytes maxL ret fr lo mc ms w H.size (.ref b :: As) post) (h1 : Cond.methodLink own index y ∈ big) (h2 : Cond.instanceMethod y ∈ big) (h5 : Cond.selects C y y ∈ big) (h3 : Cond.initialized C ∈ big) (h4 : Cond.code y bytes maxL ret ∈ big) (hd : y.cls = C ∧ y.cls ≠ "java/lang/invoke/MethodHandle" ∧ y.cls ≠ "java/lang/invoke/VarHandle" ∧ (parseMethodDescriptor y.desc).map (fun d => d.parameters.length) = some n) {ci : Nat} {q : vw_C} {fs : List Value} (hc : vwCl[ci]? = some q) (hq : q.1 = C) (hob : w b = some (.inr (ci, fs))) (hR : fr + 1 ≤ R.frames ∧ 8 + (maxL + 11) + lo ≤ R.locals) (hW : hw D vwCl A w H) (hK : va_K D vwCl (tyL g) s) (hk : kn ad tb sa A s s.heap) (hS : va_S A s.heap H locs) (hAA : ∀ q, s.heap.size ≤ q → A q) (hn : As.length = n) (hsz : ls.size = nL) (hst : st0 = As.reverse ++ .ref b :: rest) (h8 : (rest.map fun v => v.category).sum ≤ 8) (hdg : decode cc pc = .ok (.invokevirtual index, 3)) (hf : cells + mc ≤ R.cells ∧ slots + ms ≤ R.slots)
    (kk : ∀ (r : Int64) (w' : Wd) (H1 : Heap) (locs1 : List Loc), post r w' → hw D vwCl A w' H1 → va_S A s.heap H1 locs1 → W p l e R s m args below meth c H1 locs1 (cells + mc) (slots + ms) Q (F0 m (pc + 3) ls (.long r :: rest))) : W p l e R s m args below meth c H locs cells slots Q (F0 m pc ls st0) := by
  have hG : GoodIn big (wsV own index C y (.code y bytes maxL ret :: big)) := by
    refine big_code h4 ?_
    intro w hw
    simp only [List.mem_cons, List.not_mem_nil, or_false] at hw
    rcases hw with rfl | rfl | rfl | rfl
    · exact h1
    · exact h2
    · exact h5
    · exact h3
  exact hm_calll (va_runV (As := As) (rest := rest) F hM (cwV n F.2.2.2.2 hG rfl rfl rfl hd hR) (by subst hq; exact hm_preV (kn_ok ad tb sa) hW hK hk hS hAA hc hob) rfl hn hsz hst (lv_room h8) hdg hf) hW hS hAA kk
theorem kc_VV {post : Wd → Prop} (F : CallFix p m c cc nL s args big own) (hM : MV l D g ad tb sa y bytes maxL ret fr lo mc ms w H.size (.ref b :: As) post) (h1 : Cond.methodLink own index y ∈ big) (h2 : Cond.instanceMethod y ∈ big) (h5 : Cond.selects C y y ∈ big) (h3 : Cond.initialized C ∈ big) (h4 : Cond.code y bytes maxL ret ∈ big) (hd : y.cls = C ∧ y.cls ≠ "java/lang/invoke/MethodHandle" ∧ y.cls ≠ "java/lang/invoke/VarHandle" ∧ (parseMethodDescriptor y.desc).map (fun d => d.parameters.length) = some n) {ci : Nat} {q : vw_C} {fs : List Value} (hc : vwCl[ci]? = some q) (hq : q.1 = C) (hob : w b = some (.inr (ci, fs))) (hR : fr + 1 ≤ R.frames ∧ 8 + (maxL + 11) + lo ≤ R.locals) (hW : hw D vwCl A w H) (hK : va_K D vwCl (tyL g) s) (hk : kn ad tb sa A s s.heap) (hS : va_S A s.heap H locs) (hAA : ∀ q, s.heap.size ≤ q → A q) (hn : As.length = n) (hsz : ls.size = nL) (hst : st0 = As.reverse ++ .ref b :: rest) (h8 : (rest.map fun v => v.category).sum ≤ 8) (hdg : decode cc pc = .ok (.invokevirtual index, 3)) (hf : cells + mc ≤ R.cells ∧ slots + ms ≤ R.slots)
    (kk : ∀ (w' : Wd) (H1 : Heap) (locs1 : List Loc), post w' → hw D vwCl A w' H1 → va_S A s.heap H1 locs1 → W p l e R s m args below meth c H1 locs1 (cells + mc) (slots + ms) Q (F0 m (pc + 3) ls (rest))) : W p l e R s m args below meth c H locs cells slots Q (F0 m pc ls st0) := by
  have hG : GoodIn big (wsV own index C y (.code y bytes maxL ret :: big)) := by
    refine big_code h4 ?_
    intro w hw
    simp only [List.mem_cons, List.not_mem_nil, or_false] at hw
    rcases hw with rfl | rfl | rfl | rfl
    · exact h1
    · exact h2
    · exact h5
    · exact h3
  exact hm_callv (va_runV (As := As) (rest := rest) F hM (cwV n F.2.2.2.2 hG rfl rfl rfl hd hR) (by subst hq; exact hm_preV (kn_ok ad tb sa) hW hK hk hS hAA hc hob) rfl hn hsz hst (lv_room h8) hdg hf) hW hS hAA kk
theorem kc_VR {post : Nat → Wd → Prop} (F : CallFix p m c cc nL s args big own) (hM : MR l D g ad tb sa y bytes maxL ret fr lo mc ms w H.size (.ref b :: As) post) (h1 : Cond.methodLink own index y ∈ big) (h2 : Cond.instanceMethod y ∈ big) (h5 : Cond.selects C y y ∈ big) (h3 : Cond.initialized C ∈ big) (h4 : Cond.code y bytes maxL ret ∈ big) (hd : y.cls = C ∧ y.cls ≠ "java/lang/invoke/MethodHandle" ∧ y.cls ≠ "java/lang/invoke/VarHandle" ∧ (parseMethodDescriptor y.desc).map (fun d => d.parameters.length) = some n) {ci : Nat} {q : vw_C} {fs : List Value} (hc : vwCl[ci]? = some q) (hq : q.1 = C) (hob : w b = some (.inr (ci, fs))) (hR : fr + 1 ≤ R.frames ∧ 8 + (maxL + 11) + lo ≤ R.locals) (hW : hw D vwCl A w H) (hK : va_K D vwCl (tyL g) s) (hk : kn ad tb sa A s s.heap) (hS : va_S A s.heap H locs) (hAA : ∀ q, s.heap.size ≤ q → A q) (hn : As.length = n) (hsz : ls.size = nL) (hst : st0 = As.reverse ++ .ref b :: rest) (h8 : (rest.map fun v => v.category).sum ≤ 8) (hdg : decode cc pc = .ok (.invokevirtual index, 3)) (hf : cells + mc ≤ R.cells ∧ slots + ms ≤ R.slots)
    (kk : ∀ (r : Nat) (w' : Wd) (H1 : Heap) (locs1 : List Loc), post r w' → hw D vwCl A w' H1 → va_S A s.heap H1 locs1 → W p l e R s m args below meth c H1 locs1 (cells + mc) (slots + ms) Q (F0 m (pc + 3) ls (.ref r :: rest))) : W p l e R s m args below meth c H locs cells slots Q (F0 m pc ls st0) := by
  have hG : GoodIn big (wsV own index C y (.code y bytes maxL ret :: big)) := by
    refine big_code h4 ?_
    intro w hw
    simp only [List.mem_cons, List.not_mem_nil, or_false] at hw
    rcases hw with rfl | rfl | rfl | rfl
    · exact h1
    · exact h2
    · exact h5
    · exact h3
  exact hm_callr (va_runV (As := As) (rest := rest) F hM (cwV n F.2.2.2.2 hG rfl rfl rfl hd hR) (by subst hq; exact hm_preV (kn_ok ad tb sa) hW hK hk hS hAA hc hob) rfl hn hsz hst (lv_room h8) hdg hf) hW hS hAA kk
theorem kc_IV {post : Wd → Prop} (F : CallFix p m c cc nL s args big own) (hM : MV l D g ad tb sa y bytes maxL none fr lo mc ms w H.size (.ref b :: As) post) (h1 : Cond.methodLink own index y ∈ big) (h2 : Cond.instanceMethod y ∈ big) (h3 : Cond.initialized y.cls ∈ big) (h4 : Cond.code y bytes maxL none ∈ big) (hnm : y.name = "<init>") (hd : y.cls ≠ "java/lang/invoke/MethodHandle" ∧ y.cls ≠ "java/lang/invoke/VarHandle" ∧ (parseMethodDescriptor y.desc).map (fun d => d.parameters.length) = some n) (hR : fr + 1 ≤ R.frames ∧ 8 + (maxL + 11) + lo ≤ R.locals) (hW : hw D vwCl A w H) (hK : va_K D vwCl (tyL g) s) (hk : kn ad tb sa A s s.heap) (hS : va_S A s.heap H locs) (hAA : ∀ q, s.heap.size ≤ q → A q) (hn : As.length = n) (hsz : ls.size = nL) (hst : st0 = As.reverse ++ .ref b :: rest) (h8 : (rest.map fun v => v.category).sum ≤ 8) (hdg : decode cc pc = .ok (.invokespecial index, 3)) (hf : cells + mc ≤ R.cells ∧ slots + ms ≤ R.slots)
    (kk : ∀ (w' : Wd) (H1 : Heap) (locs1 : List Loc), post w' → hw D vwCl A w' H1 → va_S A s.heap H1 locs1 → W p l e R s m args below meth c H1 locs1 (cells + mc) (slots + ms) Q (F0 m (pc + 3) ls (rest))) : W p l e R s m args below meth c H locs cells slots Q (F0 m pc ls st0) := by
  have hG : GoodIn big (.code y bytes maxL none :: big) := big_code (ws' := []) h4 (fun _ h => nomatch h)
  exact hm_callv (va_runI (As := As) (rest := rest) F hM (cwI n F.2.2.2.2 hG rfl rfl rfl (F.2.2.2.2 _ h3) (F.2.2.2.2 _ h1) (F.2.2.2.2 _ h2) hnm hd hR) (hm_preS (kn_ok ad tb sa) hW hK hk hS hAA) rfl hn hsz hst (lv_room h8) hdg hf) hW hS hAA kk
theorem kc_NSI {post : Int32 → Wd → Prop} (F : CallFix p m c cc nL s args big own) (hM : MI l D g ad tb sa y bytes maxL ret fr lo mc ms w H.size As post) (h1 : va_Nw (.methodLinkNest own index y host) s) (h2 : Cond.static y ∈ big) (h3 : Cond.initialized y.cls ∈ big) (h4 : Cond.code y bytes maxL ret ∈ big) (hd : y.cls ≠ "java/lang/invoke/MethodHandle" ∧ y.cls ≠ "java/lang/invoke/VarHandle" ∧ (parseMethodDescriptor y.desc).map (fun d => d.parameters.length) = some n) (hR : fr + 1 ≤ R.frames ∧ 8 + (maxL + 11) + lo ≤ R.locals) (hW : hw D vwCl A w H) (hK : va_K D vwCl (tyL g) s) (hk : kn ad tb sa A s s.heap) (hS : va_S A s.heap H locs) (hAA : ∀ q, s.heap.size ≤ q → A q) (hn : As.length = n) (hsz : ls.size = nL) (hst : st0 = As.reverse ++ rest) (h8 : (rest.map fun v => v.category).sum ≤ 8) (hdg : decode cc pc = .ok (.invokestatic index, 3)) (hf : cells + mc ≤ R.cells ∧ slots + ms ≤ R.slots)
    (kk : ∀ (r : Int32) (w' : Wd) (H1 : Heap) (locs1 : List Loc), post r w' → hw D vwCl A w' H1 → va_S A s.heap H1 locs1 → W p l e R s m args below meth c H1 locs1 (cells + mc) (slots + ms) Q (F0 m (pc + 3) ls (.int r :: rest))) : W p l e R s m args below meth c H locs cells slots Q (F0 m pc ls st0) := by
  have hG : GoodIn big (.code y bytes maxL ret :: big) := big_code (ws' := []) h4 (fun _ h => nomatch h)
  exact hm_calli (va_runSN (As := As) (rest := rest) F hM (⟨va_cnB n F.2.2.2.2 hG rfl rfl rfl h1 (F.2.2.2.2 _ h3) hd hR, F.2.2.2.2 _ h2, trivial⟩) (hm_preS (kn_ok ad tb sa) hW hK hk hS hAA) rfl hn hsz hst (lv_room h8) hdg hf) hW hS hAA kk
theorem kc_NIV {post : Wd → Prop} (F : CallFix p m c cc nL s args big own) (hM : MV l D g ad tb sa y bytes maxL none fr lo mc ms w H.size (.ref b :: As) post) (h1 : va_Nw (.methodLinkNest own index y host) s) (h2 : Cond.instanceMethod y ∈ big) (h3 : Cond.initialized y.cls ∈ big) (h4 : Cond.code y bytes maxL none ∈ big) (hnm : y.name = "<init>") (hd : y.cls ≠ "java/lang/invoke/MethodHandle" ∧ y.cls ≠ "java/lang/invoke/VarHandle" ∧ (parseMethodDescriptor y.desc).map (fun d => d.parameters.length) = some n) (hR : fr + 1 ≤ R.frames ∧ 8 + (maxL + 11) + lo ≤ R.locals) (hW : hw D vwCl A w H) (hK : va_K D vwCl (tyL g) s) (hk : kn ad tb sa A s s.heap) (hS : va_S A s.heap H locs) (hAA : ∀ q, s.heap.size ≤ q → A q) (hn : As.length = n) (hsz : ls.size = nL) (hst : st0 = As.reverse ++ .ref b :: rest) (h8 : (rest.map fun v => v.category).sum ≤ 8) (hdg : decode cc pc = .ok (.invokespecial index, 3)) (hf : cells + mc ≤ R.cells ∧ slots + ms ≤ R.slots)
    (kk : ∀ (w' : Wd) (H1 : Heap) (locs1 : List Loc), post w' → hw D vwCl A w' H1 → va_S A s.heap H1 locs1 → W p l e R s m args below meth c H1 locs1 (cells + mc) (slots + ms) Q (F0 m (pc + 3) ls (rest))) : W p l e R s m args below meth c H locs cells slots Q (F0 m pc ls st0) := by
  have hG : GoodIn big (.code y bytes maxL none :: big) := big_code (ws' := []) h4 (fun _ h => nomatch h)
  exact hm_callv (va_runIN (As := As) (rest := rest) F hM (⟨va_cnB n F.2.2.2.2 hG rfl rfl rfl h1 (F.2.2.2.2 _ h3) hd hR, hnm, F.2.2.2.2 _ h2⟩) (hm_preS (kn_ok ad tb sa) hW hK hk hS hAA) rfl hn hsz hst (lv_room h8) hdg hf) hW hS hAA kk
theorem kc_UI {post : Int32 → Wd → Prop} (F : CallFix p m c cc nL s args big own) (hM : MI l D g ad tb sa y bytes maxL ret fr lo mc ms w H.size (.ref b :: As) post) (h1 : Cond.methodLink own index x ∈ big) (h6 : Cond.sameMethod x.cls owner x.name x.desc ∈ big) (h5 : Cond.selects C x y ∈ big) (h2 : Cond.instanceMethod y ∈ big) (h3 : Cond.initialized y.cls ∈ big) (h4 : Cond.code y bytes maxL ret ∈ big) (hyx : y = ⟨owner, x.name, x.desc⟩) (hd : owner ≠ "java/lang/invoke/MethodHandle" ∧ owner ≠ "java/lang/invoke/VarHandle" ∧ (parseMethodDescriptor x.desc).map (fun d => d.parameters.length) = some n) {ci : Nat} {q : vw_C} {fs : List Value} (hc : vwCl[ci]? = some q) (hq : q.1 = C) (hob : w b = some (.inr (ci, fs))) (hR : fr + 1 ≤ R.frames ∧ 8 + (maxL + 11) + lo ≤ R.locals) (hW : hw D vwCl A w H) (hK : va_K D vwCl (tyL g) s) (hk : kn ad tb sa A s s.heap) (hS : va_S A s.heap H locs) (hAA : ∀ q, s.heap.size ≤ q → A q) (hn : As.length = n) (hsz : ls.size = nL) (hst : st0 = As.reverse ++ .ref b :: rest) (h8 : (rest.map fun v => v.category).sum ≤ 8) (hdg : decode cc pc = .ok (.invokevirtual index, 3)) (hf : cells + mc ≤ R.cells ∧ slots + ms ≤ R.slots)
    (kk : ∀ (r : Int32) (w' : Wd) (H1 : Heap) (locs1 : List Loc), post r w' → hw D vwCl A w' H1 → va_S A s.heap H1 locs1 → W p l e R s m args below meth c H1 locs1 (cells + mc) (slots + ms) Q (F0 m (pc + 3) ls (.int r :: rest))) : W p l e R s m args below meth c H locs cells slots Q (F0 m pc ls st0) := by
  have hG : GoodIn big (va_wsU own index C owner x y (.code y bytes maxL ret :: big)) := by
    refine big_code h4 ?_
    intro w hw
    simp only [List.mem_cons, List.not_mem_nil, or_false] at hw
    rcases hw with rfl | rfl | rfl | rfl | rfl
    · exact h1
    · exact h6
    · exact h5
    · exact h2
    · exact h3
  exact hm_calli (va_runU (As := As) (rest := rest) F hM (va_cwU n F.2.2.2.2 hG rfl rfl rfl hyx hd hR) (by subst hq; exact hm_preV (kn_ok ad tb sa) hW hK hk hS hAA hc hob) rfl hn hsz hst (lv_room h8) hdg hf) hW hS hAA kk
theorem kc_UV {post : Wd → Prop} (F : CallFix p m c cc nL s args big own) (hM : MV l D g ad tb sa y bytes maxL ret fr lo mc ms w H.size (.ref b :: As) post) (h1 : Cond.methodLink own index x ∈ big) (h6 : Cond.sameMethod x.cls owner x.name x.desc ∈ big) (h5 : Cond.selects C x y ∈ big) (h2 : Cond.instanceMethod y ∈ big) (h3 : Cond.initialized y.cls ∈ big) (h4 : Cond.code y bytes maxL ret ∈ big) (hyx : y = ⟨owner, x.name, x.desc⟩) (hd : owner ≠ "java/lang/invoke/MethodHandle" ∧ owner ≠ "java/lang/invoke/VarHandle" ∧ (parseMethodDescriptor x.desc).map (fun d => d.parameters.length) = some n) {ci : Nat} {q : vw_C} {fs : List Value} (hc : vwCl[ci]? = some q) (hq : q.1 = C) (hob : w b = some (.inr (ci, fs))) (hR : fr + 1 ≤ R.frames ∧ 8 + (maxL + 11) + lo ≤ R.locals) (hW : hw D vwCl A w H) (hK : va_K D vwCl (tyL g) s) (hk : kn ad tb sa A s s.heap) (hS : va_S A s.heap H locs) (hAA : ∀ q, s.heap.size ≤ q → A q) (hn : As.length = n) (hsz : ls.size = nL) (hst : st0 = As.reverse ++ .ref b :: rest) (h8 : (rest.map fun v => v.category).sum ≤ 8) (hdg : decode cc pc = .ok (.invokevirtual index, 3)) (hf : cells + mc ≤ R.cells ∧ slots + ms ≤ R.slots)
    (kk : ∀ (w' : Wd) (H1 : Heap) (locs1 : List Loc), post w' → hw D vwCl A w' H1 → va_S A s.heap H1 locs1 → W p l e R s m args below meth c H1 locs1 (cells + mc) (slots + ms) Q (F0 m (pc + 3) ls (rest))) : W p l e R s m args below meth c H locs cells slots Q (F0 m pc ls st0) := by
  have hG : GoodIn big (va_wsU own index C owner x y (.code y bytes maxL ret :: big)) := by
    refine big_code h4 ?_
    intro w hw
    simp only [List.mem_cons, List.not_mem_nil, or_false] at hw
    rcases hw with rfl | rfl | rfl | rfl | rfl
    · exact h1
    · exact h6
    · exact h5
    · exact h2
    · exact h3
  exact hm_callv (va_runU (As := As) (rest := rest) F hM (va_cwU n F.2.2.2.2 hG rfl rfl rfl hyx hd hR) (by subst hq; exact hm_preV (kn_ok ad tb sa) hW hK hk hS hAA hc hob) rfl hn hsz hst (lv_room h8) hdg hf) hW hS hAA kk
theorem kc_AI {post : Int32 → Wd → Prop} (F : CallFix p m c cc nL s args big own) (hM : MI l D g ad tb sa y bytes maxL ret fr lo mc ms w H.size (.ref b :: As) post) (h1 : Cond.methodLink own index x ∈ big) (h6 : Cond.sameMethod x.cls owner x.name x.desc ∈ big) (h5 : Cond.selects C x y ∈ big) (h2 : Cond.instanceMethod y ∈ big) (h3 : Cond.initialized y.cls ∈ big) (h4 : Cond.code y bytes maxL ret ∈ big) (hz : va_Nw (.declares ⟨owner, x.name, x.desc⟩) s) (hd : owner ≠ "java/lang/invoke/MethodHandle" ∧ owner ≠ "java/lang/invoke/VarHandle" ∧ (parseMethodDescriptor x.desc).map (fun d => d.parameters.length) = some n) {ci : Nat} {q : vw_C} {fs : List Value} (hc : vwCl[ci]? = some q) (hq : q.1 = C) (hob : w b = some (.inr (ci, fs))) (hR : fr + 1 ≤ R.frames ∧ 8 + (maxL + 11) + lo ≤ R.locals) (hW : hw D vwCl A w H) (hK : va_K D vwCl (tyL g) s) (hk : kn ad tb sa A s s.heap) (hS : va_S A s.heap H locs) (hAA : ∀ q, s.heap.size ≤ q → A q) (hn : As.length = n) (hsz : ls.size = nL) (hst : st0 = As.reverse ++ .ref b :: rest) (h8 : (rest.map fun v => v.category).sum ≤ 8) (hdg : decode cc pc = .ok (.invokevirtual index, 3)) (hf : cells + mc ≤ R.cells ∧ slots + ms ≤ R.slots)
    (kk : ∀ (r : Int32) (w' : Wd) (H1 : Heap) (locs1 : List Loc), post r w' → hw D vwCl A w' H1 → va_S A s.heap H1 locs1 → W p l e R s m args below meth c H1 locs1 (cells + mc) (slots + ms) Q (F0 m (pc + 3) ls (.int r :: rest))) : W p l e R s m args below meth c H locs cells slots Q (F0 m pc ls st0) := by
  have hG : GoodIn big (va_wsU own index C owner x y (.code y bytes maxL ret :: big)) := by
    refine big_code h4 ?_
    intro w hw
    simp only [List.mem_cons, List.not_mem_nil, or_false] at hw
    rcases hw with rfl | rfl | rfl | rfl | rfl
    · exact h1
    · exact h6
    · exact h5
    · exact h2
    · exact h3
  exact hm_calli (va_runU (As := As) (rest := rest) F hM (va_cwA n F.2.2.2.2 hG rfl rfl rfl hz hd hR) (by subst hq; exact hm_preV (kn_ok ad tb sa) hW hK hk hS hAA hc hob) rfl hn hsz hst (lv_room h8) hdg hf) hW hS hAA kk
theorem kx_SV {post : Wd → Prop} {xp : String → Wd → Prop} (F : CallFix p m c cc nL s args big own) (hM : XV l D g ad tb sa y bytes maxL ret fr lo mc ms w H.size As post xp) (h1 : Cond.methodLink own index y ∈ big) (h2 : Cond.static y ∈ big) (h3 : Cond.initialized y.cls ∈ big) (h4 : Cond.code y bytes maxL ret ∈ big) (hd : y.cls ≠ "java/lang/invoke/MethodHandle" ∧ y.cls ≠ "java/lang/invoke/VarHandle" ∧ (parseMethodDescriptor y.desc).map (fun d => d.parameters.length) = some n) (hR : fr + 1 ≤ R.frames ∧ 8 + (maxL + 11) + lo ≤ R.locals) (hW : hw D vwCl A w H) (hK : va_K D vwCl (tyL g) s) (hk : kn ad tb sa A s s.heap) (hS : va_S A s.heap H locs) (hAA : ∀ q, s.heap.size ≤ q → A q) (hn : As.length = n) (hsz : ls.size = nL) (hst : st0 = As.reverse ++ rest) (h8 : (rest.map fun v => v.category).sum ≤ 8) (hdg : decode cc pc = .ok (.invokestatic index, 3)) (hf : cells + mc ≤ R.cells ∧ slots + ms ≤ R.slots)
    (kx : ∀ (E : String) (ce : Cell) (q9 : Addr) (w' : Wd) (H1 : Heap) (locs1 : List Loc), xp E w' → hw D vwCl A w' H1 → va_S A s.heap H1 locs1 → H1[q9]? = some ce → ce.vm = .none → s.vm.findClass E = some ce.cls → vx_W p l e R s m args below meth c H1 locs1 (cells + mc) (slots + ms) Q (F0 m pc ls rest) q9)
    (kk : ∀ (w' : Wd) (H1 : Heap) (locs1 : List Loc), post w' → hw D vwCl A w' H1 → va_S A s.heap H1 locs1 → W p l e R s m args below meth c H1 locs1 (cells + mc) (slots + ms) Q (F0 m (pc + 3) ls (rest))) : W p l e R s m args below meth c H locs cells slots Q (F0 m pc ls st0) := by
  have hG : GoodIn big (va_wsS own index y (.code y bytes maxL ret :: big)) := by
    refine big_code h4 ?_
    intro w hw
    simp only [List.mem_cons, List.not_mem_nil, or_false] at hw
    rcases hw with rfl | rfl | rfl
    · exact h1
    · exact h2
    · exact h3
  exact hx_callv (vx_runS (As := As) (rest := rest) F hM (va_cwS n F.2.2.2.2 hG rfl rfl rfl hd hR) (hm_preS (kn_ok ad tb sa) hW hK hk hS hAA) rfl hn hsz hst (lv_room h8) hdg hf) hW hS hAA kx kk
theorem kx_SR {post : Nat → Wd → Prop} {xp : String → Wd → Prop} (F : CallFix p m c cc nL s args big own) (hM : XR l D g ad tb sa y bytes maxL ret fr lo mc ms w H.size As post xp) (h1 : Cond.methodLink own index y ∈ big) (h2 : Cond.static y ∈ big) (h3 : Cond.initialized y.cls ∈ big) (h4 : Cond.code y bytes maxL ret ∈ big) (hd : y.cls ≠ "java/lang/invoke/MethodHandle" ∧ y.cls ≠ "java/lang/invoke/VarHandle" ∧ (parseMethodDescriptor y.desc).map (fun d => d.parameters.length) = some n) (hR : fr + 1 ≤ R.frames ∧ 8 + (maxL + 11) + lo ≤ R.locals) (hW : hw D vwCl A w H) (hK : va_K D vwCl (tyL g) s) (hk : kn ad tb sa A s s.heap) (hS : va_S A s.heap H locs) (hAA : ∀ q, s.heap.size ≤ q → A q) (hn : As.length = n) (hsz : ls.size = nL) (hst : st0 = As.reverse ++ rest) (h8 : (rest.map fun v => v.category).sum ≤ 8) (hdg : decode cc pc = .ok (.invokestatic index, 3)) (hf : cells + mc ≤ R.cells ∧ slots + ms ≤ R.slots)
    (kx : ∀ (E : String) (ce : Cell) (q9 : Addr) (w' : Wd) (H1 : Heap) (locs1 : List Loc), xp E w' → hw D vwCl A w' H1 → va_S A s.heap H1 locs1 → H1[q9]? = some ce → ce.vm = .none → s.vm.findClass E = some ce.cls → vx_W p l e R s m args below meth c H1 locs1 (cells + mc) (slots + ms) Q (F0 m pc ls rest) q9)
    (kk : ∀ (r : Nat) (w' : Wd) (H1 : Heap) (locs1 : List Loc), post r w' → hw D vwCl A w' H1 → va_S A s.heap H1 locs1 → W p l e R s m args below meth c H1 locs1 (cells + mc) (slots + ms) Q (F0 m (pc + 3) ls (.ref r :: rest))) : W p l e R s m args below meth c H locs cells slots Q (F0 m pc ls st0) := by
  have hG : GoodIn big (va_wsS own index y (.code y bytes maxL ret :: big)) := by
    refine big_code h4 ?_
    intro w hw
    simp only [List.mem_cons, List.not_mem_nil, or_false] at hw
    rcases hw with rfl | rfl | rfl
    · exact h1
    · exact h2
    · exact h3
  exact hx_callr (vx_runS (As := As) (rest := rest) F hM (va_cwS n F.2.2.2.2 hG rfl rfl rfl hd hR) (hm_preS (kn_ok ad tb sa) hW hK hk hS hAA) rfl hn hsz hst (lv_room h8) hdg hf) hW hS hAA kx kk
theorem kx_VI {post : Int32 → Wd → Prop} {xp : String → Wd → Prop} (F : CallFix p m c cc nL s args big own) (hM : XI l D g ad tb sa y bytes maxL ret fr lo mc ms w H.size (.ref b :: As) post xp) (h1 : Cond.methodLink own index y ∈ big) (h2 : Cond.instanceMethod y ∈ big) (h5 : Cond.selects C y y ∈ big) (h3 : Cond.initialized C ∈ big) (h4 : Cond.code y bytes maxL ret ∈ big) (hd : y.cls = C ∧ y.cls ≠ "java/lang/invoke/MethodHandle" ∧ y.cls ≠ "java/lang/invoke/VarHandle" ∧ (parseMethodDescriptor y.desc).map (fun d => d.parameters.length) = some n) {ci : Nat} {q : vw_C} {fs : List Value} (hc : vwCl[ci]? = some q) (hq : q.1 = C) (hob : w b = some (.inr (ci, fs))) (hR : fr + 1 ≤ R.frames ∧ 8 + (maxL + 11) + lo ≤ R.locals) (hW : hw D vwCl A w H) (hK : va_K D vwCl (tyL g) s) (hk : kn ad tb sa A s s.heap) (hS : va_S A s.heap H locs) (hAA : ∀ q, s.heap.size ≤ q → A q) (hn : As.length = n) (hsz : ls.size = nL) (hst : st0 = As.reverse ++ .ref b :: rest) (h8 : (rest.map fun v => v.category).sum ≤ 8) (hdg : decode cc pc = .ok (.invokevirtual index, 3)) (hf : cells + mc ≤ R.cells ∧ slots + ms ≤ R.slots)
    (kx : ∀ (E : String) (ce : Cell) (q9 : Addr) (w' : Wd) (H1 : Heap) (locs1 : List Loc), xp E w' → hw D vwCl A w' H1 → va_S A s.heap H1 locs1 → H1[q9]? = some ce → ce.vm = .none → s.vm.findClass E = some ce.cls → vx_W p l e R s m args below meth c H1 locs1 (cells + mc) (slots + ms) Q (F0 m pc ls rest) q9)
    (kk : ∀ (r : Int32) (w' : Wd) (H1 : Heap) (locs1 : List Loc), post r w' → hw D vwCl A w' H1 → va_S A s.heap H1 locs1 → W p l e R s m args below meth c H1 locs1 (cells + mc) (slots + ms) Q (F0 m (pc + 3) ls (.int r :: rest))) : W p l e R s m args below meth c H locs cells slots Q (F0 m pc ls st0) := by
  have hG : GoodIn big (wsV own index C y (.code y bytes maxL ret :: big)) := by
    refine big_code h4 ?_
    intro w hw
    simp only [List.mem_cons, List.not_mem_nil, or_false] at hw
    rcases hw with rfl | rfl | rfl | rfl
    · exact h1
    · exact h2
    · exact h5
    · exact h3
  exact hx_calli (vx_runV (As := As) (rest := rest) F hM (cwV n F.2.2.2.2 hG rfl rfl rfl hd hR) (by subst hq; exact hm_preV (kn_ok ad tb sa) hW hK hk hS hAA hc hob) rfl hn hsz hst (lv_room h8) hdg hf) hW hS hAA kx kk
theorem kx_VV {post : Wd → Prop} {xp : String → Wd → Prop} (F : CallFix p m c cc nL s args big own) (hM : XV l D g ad tb sa y bytes maxL ret fr lo mc ms w H.size (.ref b :: As) post xp) (h1 : Cond.methodLink own index y ∈ big) (h2 : Cond.instanceMethod y ∈ big) (h5 : Cond.selects C y y ∈ big) (h3 : Cond.initialized C ∈ big) (h4 : Cond.code y bytes maxL ret ∈ big) (hd : y.cls = C ∧ y.cls ≠ "java/lang/invoke/MethodHandle" ∧ y.cls ≠ "java/lang/invoke/VarHandle" ∧ (parseMethodDescriptor y.desc).map (fun d => d.parameters.length) = some n) {ci : Nat} {q : vw_C} {fs : List Value} (hc : vwCl[ci]? = some q) (hq : q.1 = C) (hob : w b = some (.inr (ci, fs))) (hR : fr + 1 ≤ R.frames ∧ 8 + (maxL + 11) + lo ≤ R.locals) (hW : hw D vwCl A w H) (hK : va_K D vwCl (tyL g) s) (hk : kn ad tb sa A s s.heap) (hS : va_S A s.heap H locs) (hAA : ∀ q, s.heap.size ≤ q → A q) (hn : As.length = n) (hsz : ls.size = nL) (hst : st0 = As.reverse ++ .ref b :: rest) (h8 : (rest.map fun v => v.category).sum ≤ 8) (hdg : decode cc pc = .ok (.invokevirtual index, 3)) (hf : cells + mc ≤ R.cells ∧ slots + ms ≤ R.slots)
    (kx : ∀ (E : String) (ce : Cell) (q9 : Addr) (w' : Wd) (H1 : Heap) (locs1 : List Loc), xp E w' → hw D vwCl A w' H1 → va_S A s.heap H1 locs1 → H1[q9]? = some ce → ce.vm = .none → s.vm.findClass E = some ce.cls → vx_W p l e R s m args below meth c H1 locs1 (cells + mc) (slots + ms) Q (F0 m pc ls rest) q9)
    (kk : ∀ (w' : Wd) (H1 : Heap) (locs1 : List Loc), post w' → hw D vwCl A w' H1 → va_S A s.heap H1 locs1 → W p l e R s m args below meth c H1 locs1 (cells + mc) (slots + ms) Q (F0 m (pc + 3) ls (rest))) : W p l e R s m args below meth c H locs cells slots Q (F0 m pc ls st0) := by
  have hG : GoodIn big (wsV own index C y (.code y bytes maxL ret :: big)) := by
    refine big_code h4 ?_
    intro w hw
    simp only [List.mem_cons, List.not_mem_nil, or_false] at hw
    rcases hw with rfl | rfl | rfl | rfl
    · exact h1
    · exact h2
    · exact h5
    · exact h3
  exact hx_callv (vx_runV (As := As) (rest := rest) F hM (cwV n F.2.2.2.2 hG rfl rfl rfl hd hR) (by subst hq; exact hm_preV (kn_ok ad tb sa) hW hK hk hS hAA hc hob) rfl hn hsz hst (lv_room h8) hdg hf) hW hS hAA kx kk
theorem kx_VR {post : Nat → Wd → Prop} {xp : String → Wd → Prop} (F : CallFix p m c cc nL s args big own) (hM : XR l D g ad tb sa y bytes maxL ret fr lo mc ms w H.size (.ref b :: As) post xp) (h1 : Cond.methodLink own index y ∈ big) (h2 : Cond.instanceMethod y ∈ big) (h5 : Cond.selects C y y ∈ big) (h3 : Cond.initialized C ∈ big) (h4 : Cond.code y bytes maxL ret ∈ big) (hd : y.cls = C ∧ y.cls ≠ "java/lang/invoke/MethodHandle" ∧ y.cls ≠ "java/lang/invoke/VarHandle" ∧ (parseMethodDescriptor y.desc).map (fun d => d.parameters.length) = some n) {ci : Nat} {q : vw_C} {fs : List Value} (hc : vwCl[ci]? = some q) (hq : q.1 = C) (hob : w b = some (.inr (ci, fs))) (hR : fr + 1 ≤ R.frames ∧ 8 + (maxL + 11) + lo ≤ R.locals) (hW : hw D vwCl A w H) (hK : va_K D vwCl (tyL g) s) (hk : kn ad tb sa A s s.heap) (hS : va_S A s.heap H locs) (hAA : ∀ q, s.heap.size ≤ q → A q) (hn : As.length = n) (hsz : ls.size = nL) (hst : st0 = As.reverse ++ .ref b :: rest) (h8 : (rest.map fun v => v.category).sum ≤ 8) (hdg : decode cc pc = .ok (.invokevirtual index, 3)) (hf : cells + mc ≤ R.cells ∧ slots + ms ≤ R.slots)
    (kx : ∀ (E : String) (ce : Cell) (q9 : Addr) (w' : Wd) (H1 : Heap) (locs1 : List Loc), xp E w' → hw D vwCl A w' H1 → va_S A s.heap H1 locs1 → H1[q9]? = some ce → ce.vm = .none → s.vm.findClass E = some ce.cls → vx_W p l e R s m args below meth c H1 locs1 (cells + mc) (slots + ms) Q (F0 m pc ls rest) q9)
    (kk : ∀ (r : Nat) (w' : Wd) (H1 : Heap) (locs1 : List Loc), post r w' → hw D vwCl A w' H1 → va_S A s.heap H1 locs1 → W p l e R s m args below meth c H1 locs1 (cells + mc) (slots + ms) Q (F0 m (pc + 3) ls (.ref r :: rest))) : W p l e R s m args below meth c H locs cells slots Q (F0 m pc ls st0) := by
  have hG : GoodIn big (wsV own index C y (.code y bytes maxL ret :: big)) := by
    refine big_code h4 ?_
    intro w hw
    simp only [List.mem_cons, List.not_mem_nil, or_false] at hw
    rcases hw with rfl | rfl | rfl | rfl
    · exact h1
    · exact h2
    · exact h5
    · exact h3
  exact hx_callr (vx_runV (As := As) (rest := rest) F hM (cwV n F.2.2.2.2 hG rfl rfl rfl hd hR) (by subst hq; exact hm_preV (kn_ok ad tb sa) hW hK hk hS hAA hc hob) rfl hn hsz hst (lv_room h8) hdg hf) hW hS hAA kx kk
end HXC
/-- bodies, from their entries -/
theorem hm_MI {l : Launch} {D : va_G} {g : Nat → ClassId} {ad : Nat → Nat} {tb : Nat} {sa : Nat → Nat} {w : Wd} {sz : Nat} {y : MethodName} {fr lo mc ms maxL : Nat} {cc : ByteArray} {ret : Option FieldType} {as : List Value} {post : Int32 → Wd → Prop} (hy : plainName y.cls = true) (hlen : (lg_sl as).length ≤ maxL)
    (body : ∀ (p : Program) (e : Env) (s : State) (m : MethodId) (below : List Frame) (meth : Method) (c : Code) (A : Nat → Prop) (ls : Array Slot), p.tables.exec = Jvm.exec → c.code = cc → meth.sig.returnType = ret → c.maxLocals = maxL → (∀ x ∈ big, x.before as.toArray s = true) → s.vm.findClass y.cls = some m.cls → meth.locks = false → meth.name = y.name → (∀ x ∈ c.exceptionTable.toList, ∀ pc, covers x pc = false) → s.heap.size = sz → hw D vwCl A w s.heap → va_K D vwCl (tyL g) s → kn ad tb sa A s s.heap → va_S A s.heap s.heap [] → (∀ q, s.heap.size ≤ q → A q) → lv_has ls maxL (lv_args 0 as) →
      W p l e (rmL fr lo mc ms) s m as.toArray below meth c s.heap [] 0 0 (MQ below (va_Qi post (cPost D vwCl (tyL g) A) A) as.toArray s mc ms A) (F0 m 0 ls [])) : MI l D g ad tb sa y cc maxL ret fr lo mc ms w sz as post :=
  hm_of (Qc := fun A => va_Qi post (cPost D vwCl (tyL g) A) A) hy rfl hlen (fun p e s m below meth c A ls h1 h2 h3 h4 h5 => body p e s m below meth c A ls h1 h2 h3 h4 (fun x hx => h5 x (List.mem_cons_of_mem _ hx)))
theorem hm_ML {l : Launch} {D : va_G} {g : Nat → ClassId} {ad : Nat → Nat} {tb : Nat} {sa : Nat → Nat} {w : Wd} {sz : Nat} {y : MethodName} {fr lo mc ms maxL : Nat} {cc : ByteArray} {ret : Option FieldType} {as : List Value} {post : Int64 → Wd → Prop} (hy : plainName y.cls = true) (hlen : (lg_sl as).length ≤ maxL)
    (body : ∀ (p : Program) (e : Env) (s : State) (m : MethodId) (below : List Frame) (meth : Method) (c : Code) (A : Nat → Prop) (ls : Array Slot), p.tables.exec = Jvm.exec → c.code = cc → meth.sig.returnType = ret → c.maxLocals = maxL → (∀ x ∈ big, x.before as.toArray s = true) → s.vm.findClass y.cls = some m.cls → meth.locks = false → meth.name = y.name → (∀ x ∈ c.exceptionTable.toList, ∀ pc, covers x pc = false) → s.heap.size = sz → hw D vwCl A w s.heap → va_K D vwCl (tyL g) s → kn ad tb sa A s s.heap → va_S A s.heap s.heap [] → (∀ q, s.heap.size ≤ q → A q) → lv_has ls maxL (lv_args 0 as) →
      W p l e (rmL fr lo mc ms) s m as.toArray below meth c s.heap [] 0 0 (MQ below (va_Ql post (cPost D vwCl (tyL g) A) A) as.toArray s mc ms A) (F0 m 0 ls [])) : ML l D g ad tb sa y cc maxL ret fr lo mc ms w sz as post :=
  hm_of (Qc := fun A => va_Ql post (cPost D vwCl (tyL g) A) A) hy rfl hlen (fun p e s m below meth c A ls h1 h2 h3 h4 h5 => body p e s m below meth c A ls h1 h2 h3 h4 (fun x hx => h5 x (List.mem_cons_of_mem _ hx)))
theorem hm_MV {l : Launch} {D : va_G} {g : Nat → ClassId} {ad : Nat → Nat} {tb : Nat} {sa : Nat → Nat} {w : Wd} {sz : Nat} {y : MethodName} {fr lo mc ms maxL : Nat} {cc : ByteArray} {ret : Option FieldType} {as : List Value} {post : Wd → Prop} (hy : plainName y.cls = true) (hlen : (lg_sl as).length ≤ maxL)
    (body : ∀ (p : Program) (e : Env) (s : State) (m : MethodId) (below : List Frame) (meth : Method) (c : Code) (A : Nat → Prop) (ls : Array Slot), p.tables.exec = Jvm.exec → c.code = cc → meth.sig.returnType = ret → c.maxLocals = maxL → (∀ x ∈ big, x.before as.toArray s = true) → s.vm.findClass y.cls = some m.cls → meth.locks = false → meth.name = y.name → (∀ x ∈ c.exceptionTable.toList, ∀ pc, covers x pc = false) → s.heap.size = sz → hw D vwCl A w s.heap → va_K D vwCl (tyL g) s → kn ad tb sa A s s.heap → va_S A s.heap s.heap [] → (∀ q, s.heap.size ≤ q → A q) → lv_has ls maxL (lv_args 0 as) →
      W p l e (rmL fr lo mc ms) s m as.toArray below meth c s.heap [] 0 0 (MQ below (va_Qv post (cPost D vwCl (tyL g) A) A) as.toArray s mc ms A) (F0 m 0 ls [])) : MV l D g ad tb sa y cc maxL ret fr lo mc ms w sz as post :=
  hm_of (Qc := fun A => va_Qv post (cPost D vwCl (tyL g) A) A) hy rfl hlen (fun p e s m below meth c A ls h1 h2 h3 h4 h5 => body p e s m below meth c A ls h1 h2 h3 h4 (fun x hx => h5 x (List.mem_cons_of_mem _ hx)))
theorem hm_MR {l : Launch} {D : va_G} {g : Nat → ClassId} {ad : Nat → Nat} {tb : Nat} {sa : Nat → Nat} {w : Wd} {sz : Nat} {y : MethodName} {fr lo mc ms maxL : Nat} {cc : ByteArray} {ret : Option FieldType} {as : List Value} {post : Nat → Wd → Prop} (hy : plainName y.cls = true) (hlen : (lg_sl as).length ≤ maxL)
    (body : ∀ (p : Program) (e : Env) (s : State) (m : MethodId) (below : List Frame) (meth : Method) (c : Code) (A : Nat → Prop) (ls : Array Slot), p.tables.exec = Jvm.exec → c.code = cc → meth.sig.returnType = ret → c.maxLocals = maxL → (∀ x ∈ big, x.before as.toArray s = true) → s.vm.findClass y.cls = some m.cls → meth.locks = false → meth.name = y.name → (∀ x ∈ c.exceptionTable.toList, ∀ pc, covers x pc = false) → s.heap.size = sz → hw D vwCl A w s.heap → va_K D vwCl (tyL g) s → kn ad tb sa A s s.heap → va_S A s.heap s.heap [] → (∀ q, s.heap.size ≤ q → A q) → lv_has ls maxL (lv_args 0 as) →
      W p l e (rmL fr lo mc ms) s m as.toArray below meth c s.heap [] 0 0 (MQ below (va_Qr (fun u => post u.1 u.2) (rPost D vwCl (tyL g) A) A) as.toArray s mc ms A) (F0 m 0 ls [])) : MR l D g ad tb sa y cc maxL ret fr lo mc ms w sz as post :=
  hm_of (Qc := fun A => va_Qr (S := Nat × Wd) (fun u => post u.1 u.2) (rPost D vwCl (tyL g) A) A) hy rfl hlen (fun p e s m below meth c A ls h1 h2 h3 h4 h5 => body p e s m below meth c A ls h1 h2 h3 h4 (fun x hx => h5 x (List.mem_cons_of_mem _ hx)))
theorem hx_XI {l : Launch} {D : va_G} {g : Nat → ClassId} {ad : Nat → Nat} {tb : Nat} {sa : Nat → Nat} {w : Wd} {sz : Nat} {y : MethodName} {fr lo mc ms maxL : Nat} {cc : ByteArray} {ret : Option FieldType} {as : List Value} {post : Int32 → Wd → Prop} {xp : String → Wd → Prop} (hy : plainName y.cls = true) (hlen : (lg_sl as).length ≤ maxL)
    (body : ∀ (p : Program) (e : Env) (s : State) (m : MethodId) (below : List Frame) (meth : Method) (c : Code) (A : Nat → Prop) (ls : Array Slot), p.tables.exec = Jvm.exec → c.code = cc → meth.sig.returnType = ret → c.maxLocals = maxL → (∀ x ∈ big, x.before as.toArray s = true) → s.vm.findClass y.cls = some m.cls → meth.locks = false → meth.name = y.name → (∀ x ∈ c.exceptionTable.toList, ∀ pc, covers x pc = false) → s.heap.size = sz → hw D vwCl A w s.heap → va_K D vwCl (tyL g) s → kn ad tb sa A s s.heap → va_S A s.heap s.heap [] → (∀ q, s.heap.size ≤ q → A q) → lv_has ls maxL (lv_args 0 as) →
      W p l e (rmL fr lo mc ms) s m as.toArray below meth c s.heap [] 0 0 (vx_MQ below (va_Qi post (cPost D vwCl (tyL g) A) A) (xX D g A xp) as.toArray s mc ms A) (F0 m 0 ls [])) : XI l D g ad tb sa y cc maxL ret fr lo mc ms w sz as post xp := by
  refine vx_ofW (cc := cc) (maxL := maxL) (ret := ret) hy rfl ?_
  intro p e s m args below meth c s₁ B hml hno hv
  obtain ⟨rfl, hsz, hW, hK, hk⟩ := hv
  have hts := atoms_spec (ws := Cond.code y cc maxL ret :: big) B.pre
  have hl := lv_entry as (n := maxL) hlen
  rw [lg_entry_eq]
  exact body p e s m below meth c (hA w sz) _ B.exec B.bytes B.returns hml (fun x hx => hts x (List.mem_cons_of_mem _ hx)) (findClass_of_methodNamed B.named) B.notSynchronized (name_of_methodNamed B.named B.method).1 (fun x hx => (hno x hx).elim) hsz (hw_weak hW (fun a e h _ => Or.inl ⟨e, h⟩)) hK hk va_S.rf (fun q h => Or.inr (by rw [← hsz]; exact h)) hl
theorem hx_XV {l : Launch} {D : va_G} {g : Nat → ClassId} {ad : Nat → Nat} {tb : Nat} {sa : Nat → Nat} {w : Wd} {sz : Nat} {y : MethodName} {fr lo mc ms maxL : Nat} {cc : ByteArray} {ret : Option FieldType} {as : List Value} {post : Wd → Prop} {xp : String → Wd → Prop} (hy : plainName y.cls = true) (hlen : (lg_sl as).length ≤ maxL)
    (body : ∀ (p : Program) (e : Env) (s : State) (m : MethodId) (below : List Frame) (meth : Method) (c : Code) (A : Nat → Prop) (ls : Array Slot), p.tables.exec = Jvm.exec → c.code = cc → meth.sig.returnType = ret → c.maxLocals = maxL → (∀ x ∈ big, x.before as.toArray s = true) → s.vm.findClass y.cls = some m.cls → meth.locks = false → meth.name = y.name → (∀ x ∈ c.exceptionTable.toList, ∀ pc, covers x pc = false) → s.heap.size = sz → hw D vwCl A w s.heap → va_K D vwCl (tyL g) s → kn ad tb sa A s s.heap → va_S A s.heap s.heap [] → (∀ q, s.heap.size ≤ q → A q) → lv_has ls maxL (lv_args 0 as) →
      W p l e (rmL fr lo mc ms) s m as.toArray below meth c s.heap [] 0 0 (vx_MQ below (va_Qv post (cPost D vwCl (tyL g) A) A) (xX D g A xp) as.toArray s mc ms A) (F0 m 0 ls [])) : XV l D g ad tb sa y cc maxL ret fr lo mc ms w sz as post xp := by
  refine vx_ofW (cc := cc) (maxL := maxL) (ret := ret) hy rfl ?_
  intro p e s m args below meth c s₁ B hml hno hv
  obtain ⟨rfl, hsz, hW, hK, hk⟩ := hv
  have hts := atoms_spec (ws := Cond.code y cc maxL ret :: big) B.pre
  have hl := lv_entry as (n := maxL) hlen
  rw [lg_entry_eq]
  exact body p e s m below meth c (hA w sz) _ B.exec B.bytes B.returns hml (fun x hx => hts x (List.mem_cons_of_mem _ hx)) (findClass_of_methodNamed B.named) B.notSynchronized (name_of_methodNamed B.named B.method).1 (fun x hx => (hno x hx).elim) hsz (hw_weak hW (fun a e h _ => Or.inl ⟨e, h⟩)) hK hk va_S.rf (fun q h => Or.inr (by rw [← hsz]; exact h)) hl
theorem hx_XR {l : Launch} {D : va_G} {g : Nat → ClassId} {ad : Nat → Nat} {tb : Nat} {sa : Nat → Nat} {w : Wd} {sz : Nat} {y : MethodName} {fr lo mc ms maxL : Nat} {cc : ByteArray} {ret : Option FieldType} {as : List Value} {post : Nat → Wd → Prop} {xp : String → Wd → Prop} (hy : plainName y.cls = true) (hlen : (lg_sl as).length ≤ maxL)
    (body : ∀ (p : Program) (e : Env) (s : State) (m : MethodId) (below : List Frame) (meth : Method) (c : Code) (A : Nat → Prop) (ls : Array Slot), p.tables.exec = Jvm.exec → c.code = cc → meth.sig.returnType = ret → c.maxLocals = maxL → (∀ x ∈ big, x.before as.toArray s = true) → s.vm.findClass y.cls = some m.cls → meth.locks = false → meth.name = y.name → (∀ x ∈ c.exceptionTable.toList, ∀ pc, covers x pc = false) → s.heap.size = sz → hw D vwCl A w s.heap → va_K D vwCl (tyL g) s → kn ad tb sa A s s.heap → va_S A s.heap s.heap [] → (∀ q, s.heap.size ≤ q → A q) → lv_has ls maxL (lv_args 0 as) →
      W p l e (rmL fr lo mc ms) s m as.toArray below meth c s.heap [] 0 0 (vx_MQ below (va_Qr (fun u => post u.1 u.2) (rPost D vwCl (tyL g) A) A) (xX D g A xp) as.toArray s mc ms A) (F0 m 0 ls [])) : XR l D g ad tb sa y cc maxL ret fr lo mc ms w sz as post xp := by
  refine vx_ofW (cc := cc) (maxL := maxL) (ret := ret) hy rfl ?_
  intro p e s m args below meth c s₁ B hml hno hv
  obtain ⟨rfl, hsz, hW, hK, hk⟩ := hv
  have hts := atoms_spec (ws := Cond.code y cc maxL ret :: big) B.pre
  have hl := lv_entry as (n := maxL) hlen
  rw [lg_entry_eq]
  exact body p e s m below meth c (hA w sz) _ B.exec B.bytes B.returns hml (fun x hx => hts x (List.mem_cons_of_mem _ hx)) (findClass_of_methodNamed B.named) B.notSynchronized (name_of_methodNamed B.named B.method).1 (fun x hx => (hno x hx).elim) hsz (hw_weak hW (fun a e h _ => Or.inl ⟨e, h⟩)) hK hk va_S.rf (fun q h => Or.inr (by rw [← hsz]; exact h)) hl
