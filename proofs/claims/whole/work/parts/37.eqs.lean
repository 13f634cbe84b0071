/-! What the loops of Rules keep. -/
/-- rows and columns hold small numbers -/
def mB (M : Nat → Nat → Nat) : Prop := ∀ i x, i < 20 → x < 20 → M i x < 32003
def rB (r : Nat → Nat) : Prop := ∀ x, x < 20 → r x < 32003
theorem mB_up {M : Nat → Nat → Nat} {t : Nat} {q : Nat → Nat} (h : mB M) (hq : rB q) : mB (va_up M t q) := by
  intro i x hi hx
  by_cases e : i = t
  · rw [e, va_up_eq]; exact hq x hx
  · rw [va_up_no e]; exact h i x hi hx
def weR (f : Nat → Nat) (dg n k : Nat) (r : Nat → Nat) : Nat → Nat := fun x => if x < k then eqn f dg n x else r x
theorem weR_0 {f : Nat → Nat} {dg n : Nat} {r : Nat → Nat} : weR f dg n 0 r = r := by
  funext x
  unfold weR
  rw [if_neg (by omega)]
theorem weR_step {f : Nat → Nat} {dg n k : Nat} {r : Nat → Nat} : va_up (weR f dg n k r) k (eqn f dg n k) = weR f dg n (k + 1) r := by
  funext x
  unfold weR va_up
  by_cases e : x = k
  · rw [if_pos e, if_pos (by omega), e]
  · rw [if_neg e]
    dsimp only
    by_cases g : x < k
    · rw [if_pos g, if_pos (by omega)]
    · rw [if_neg g, if_neg (by omega)]
theorem eqn_lt (f : Nat → Nat) (d n c : Nat) : eqn f d n c < 32003 := Nat.mod_lt _ (by decide)
theorem weR_lt {f : Nat → Nat} {dg n k : Nat} {r : Nat → Nat} (h : rB r) : rB (weR f dg n k r) := by
  intro x hx
  unfold weR
  split
  · exact eqn_lt _ _ _ _
  · exact h x hx
theorem we_idx {i j o dg : Nat} (hi : i ≤ o) (hj : j ≤ dg) : i * (dg + 1) + j < (o + 1) * (dg + 1) := by
  have := Nat.mul_le_mul_right (dg + 1) hi
  rw [Nat.succ_mul]
  omega
theorem we_cn {o dg : Nat} (ho : o ≤ 4) (hd : dg ≤ 3) : (o + 1) * (dg + 1) ≤ 20 := Nat.le_trans (Nat.mul_le_mul (show o + 1 ≤ 5 by omega) (show dg + 1 ≤ 4 by omega)) (by decide)
theorem we_at {f : Nat → Nat} {dg n i j : Nat} (hj : j ≤ dg) : eqn f dg n (i * (dg + 1) + j) = f (n + i) * n ^ j % 32003 := by
  unfold eqn
  rw [show (i * (dg + 1) + j) / (dg + 1) = i by rw [Nat.mul_comm, Nat.mul_add_div (by omega), Nat.div_eq_of_lt (by omega), Nat.add_zero], show (i * (dg + 1) + j) % (dg + 1) = j by rw [Nat.mul_comm, Nat.mul_add_mod, Nat.mod_eq_of_lt (by omega)]]
theorem we_pow {a n j : Nat} : a * n ^ j % 32003 * n % 32003 = a * n ^ (j + 1) % 32003 := by
  rw [Nat.mod_mul_mod, Nat.pow_succ, Nat.mul_assoc]
theorem we_p0 {a n : Nat} (h : a < 32003) : a * n ^ 0 % 32003 = a := by
  rw [Nat.pow_zero, Nat.mul_one, Nat.mod_eq_of_lt h]
theorem ia_len {c : ClassId} {n n' : Nat} {f f' : Nat → Nat} (h : n ≠ n') : ia c n f ≠ ia c n' f' := by
  intro q
  unfold ia at q
  simp at q
  exact h q.1
theorem ruW.keep {g : Nat → ClassId} {w w' : Wd} {u eq la rw bg o dg m mem nu : Nat} {er : Nat → Nat} {M : Nat → Nat → Nat} {b : Nat → Bool} {r be f : Nat → Nat} (h : ruW g w u eq la rw bg er o dg m mem M b r be) (hF : ruF u la rw bg er w w') (hn : w nu = some (ia (g 0) 64 f)) (h1 : nu ≠ la) : w' nu = some (ia (g 0) 64 f) := by
  rw [hF nu (hw_apart h.1 hn (by intro q; cases q)) h1 (hw_apart h.2.2.2.1 hn (ia_len (by decide))) (hw_apart h.2.2.2.2.1 hn (ia_len (by decide))) (fun i hi => hw_apart (h.2.2.2.2.2 i hi) hn (ia_len (by decide)))]
  exact hn
/-- the equations so far, their count and their bounds -/
def rI (cn mem : Nat) (M : Nat → Nat → Nat) (b : Nat → Bool) : Prop := es cn b (eI M) ∧ mB M ∧ mem = fr b cn
theorem fr_pos {led : Nat → Bool} {c n : Nat} (hc : c < n) (h : led c = false) : 0 < fr led n := by
  have := fr_lead (g := va_up led c true) hc h (fun x _ => by simp [va_up])
  omega
theorem rI_lead {cn mem c : Nat} {M : Nat → Nat → Nat} {b : Nat → Bool} {r : Nat → Nat} (h : rI cn mem M b) (hm : cn ≤ 20) (hc : c < cn) (hl : b c = false) (hr : rB r) (h0 : r c ≠ 0) (hz : ∀ x, x < c → r x = 0) :
    rI cn (mem - 1) (va_up M c (leadR cn c (iv (r c)) r (M c))) (va_up b c true) ∧ ∀ v, sol cn (va_up b c true) (eI (va_up M c (leadR cn c (iv (r c)) r (M c)))) v ↔ sol cn b (eI M) v ∧ mz (ms_sum (fun x => vI r x * v x) cn) := by
  obtain ⟨h1, h2, h3⟩ := h
  obtain ⟨j1, j2⟩ := jl_lead h1 hc hl (hr c (by omega)) h0 hz
  have := fr_lead (g := va_up b c true) hc hl (fun x _ => by simp [va_up])
  exact ⟨⟨j1, mB_up h2 (leadR_lt (h2 c · (by omega))), by omega⟩, j2⟩
theorem sol_end {cn : Nat} {M : Nat → Nat → Nat} {b : Nat → Bool} {r r1 : Nat → Nat} (hz : ∀ x, x < cn → r1 x = 0) (h : ∀ v, sol cn b (eI M) v → (mz (ms_sum (fun x => vI r1 x * v x) cn) ↔ mz (ms_sum (fun x => vI r x * v x) cn))) : ∀ v, sol cn b (eI M) v ↔ sol cn b (eI M) v ∧ mz (ms_sum (fun x => vI r x * v x) cn) := by
  intro v
  refine ⟨fun hs => ⟨hs, (h v hs).mp ?_⟩, fun hs => hs.1⟩
  rw [ms_zero (fun x hx => by unfold vI; rw [hz x hx]; exact Int.zero_mul _)]
  exact mz_0
theorem sum_we {f r : Nat → Nat} {dg n cn : Nat} {v : Nat → Int} : ms_sum (fun x => vI (weR f dg n cn r) x * v x) cn = ms_sum (fun x => (eqn f dg n x : Int) * v x) cn := by
  refine ms_congr fun x hx => ?_
  unfold vI weR
  rw [if_pos hx]
/-- with columns above c0 cleared -/
def clr (cn c0 : Nat) (M : Nat → Nat → Nat) (b : Nat → Bool) : Prop := ∀ y x, y < x → c0 < x → x < cn → b y = true → b x = true → M y x = 0
def clrI (cn c0 k : Nat) (M : Nat → Nat → Nat) (b : Nat → Bool) : Prop := ∀ y, y < k → b y = true → b c0 = true → M y c0 = 0
theorem clr_step {cn c0 k : Nat} {M : Nat → Nat → Nat} {b : Nat → Bool} {mem : Nat} (h : rI cn mem M b) (hm : cn ≤ 20) (hc : c0 < cn) (hk : k < c0) (hb : b c0 = true) (hbk : b k = true) (h1 : clr cn c0 M b) (h2 : clrI cn c0 k M b) :
    rI cn mem (va_up M k (subR cn c0 (M k c0) (M k) (M c0))) b ∧ (∀ v, sol cn b (eI (va_up M k (subR cn c0 (M k c0) (M k) (M c0)))) v ↔ sol cn b (eI M) v) ∧ clr cn c0 (va_up M k (subR cn c0 (M k c0) (M k) (M c0))) b ∧ clrI cn c0 (k + 1) (va_up M k (subR cn c0 (M k c0) (M k) (M c0))) b := by
  obtain ⟨e1, e2, e3⟩ := h
  obtain ⟨j1, j2, j3, j4⟩ := jl_clear e1 hc hb hk hbk (fun x hx => e2 k x (by omega) (by omega))
  refine ⟨⟨j1, mB_up e2 (subR_lt20 (e2 k · (by omega))), e3⟩, j2, ?_, ?_⟩
  · intro y x hyx hx hxm hy hbx
    by_cases e : y = k
    · rw [e, va_up_eq, j4 x hxm hx (h1 c0 x hx hx hxm hb hbx)]
      exact h1 k x (by omega) hx hxm hbk hbx
    · rw [va_up_no e]
      exact h1 y x hyx hx hxm hy hbx
  · intro y hy hby _
    by_cases e : y = k
    · rw [e, va_up_eq]; exact j3
    · rw [va_up_no e]
      exact h2 y (by omega) hby hb
theorem clr_next {cn c0 k : Nat} {M : Nat → Nat → Nat} {b : Nat → Bool} (h1 : clr cn c0 M b) (h2 : clrI cn c0 k M b) (hk : c0 ≤ k ∨ b c0 = false) (h0 : 0 < c0) : clr cn (c0 - 1) M b := by
  intro y x hyx hx hxm hy hbx
  by_cases e : x = c0
  · subst e
    rcases hk with hk | hk
    · exact h2 y (by omega) hy hbx
    · rw [hk] at hbx; cases hbx
  · exact h1 y x hyx (by omega) hxm hy hbx
/-- the columns from cc on that aren't led, from the last on -/
def lsI (b : Nat → Bool) (cn cc k : Nat) (be : Nat → Nat) : Prop := (∀ j, j < k → cc ≤ be j ∧ be j < cn ∧ b (be j) = false) ∧ (∀ i j, i < j → j < k → be j < be i) ∧ (∀ c, cc ≤ c → c < cn → b c = false → ∃ j, j < k ∧ be j = c) ∧ k + fr b cc = fr b cn
theorem lsI_0 {b : Nat → Bool} {cn : Nat} {be : Nat → Nat} : lsI b cn cn 0 be := ⟨fun j h => absurd h (by omega), fun i j _ h => absurd h (by omega), fun c h1 h2 => absurd h2 (by omega), by omega⟩
theorem fr_s {b : Nat → Bool} {c : Nat} : fr b (c + 1) = fr b c + if b c = true then 0 else 1 := rfl
theorem lsI_led {b : Nat → Bool} {cn cc k : Nat} {be : Nat → Nat} (h : lsI b cn (cc + 1) k be) (hb : b cc = true) : lsI b cn cc k be := by
  obtain ⟨h1, h2, h3, h4⟩ := h
  refine ⟨fun j hj => ⟨by have := h1 j hj; omega, (h1 j hj).2⟩, h2, fun c hc hcn hbc => ?_, ?_⟩
  · by_cases e : c = cc
    · rw [e, hb] at hbc; cases hbc
    · exact h3 c (by omega) hcn hbc
  · rw [fr_s, if_pos hb] at h4; omega
theorem lsI_add {b : Nat → Bool} {cn cc k : Nat} {be : Nat → Nat} (h : lsI b cn (cc + 1) k be) (hc : cc < cn) (hb : b cc = false) : lsI b cn cc (k + 1) (va_up be k cc) := by
  obtain ⟨h1, h2, h3, h4⟩ := h
  refine ⟨fun j hj => ?_, fun i j hij hj => ?_, fun c hc1 hcn hbc => ?_, ?_⟩
  · by_cases e : j = k
    · rw [e, va_up_eq]; exact ⟨by omega, hc, hb⟩
    · rw [va_up_no e]; have := h1 j (by omega); exact ⟨by omega, this.2⟩
  · rw [va_up_no (show i ≠ k by omega)]
    by_cases e : j = k
    · rw [e, va_up_eq]; have := (h1 i (by omega)).1; omega
    · rw [va_up_no e]; exact h2 i j hij (by omega)
  · by_cases e : c = cc
    · exact ⟨k, by omega, by rw [va_up_eq]; exact e.symm⟩
    · obtain ⟨j, hj, ej⟩ := h3 c (by omega) hcn hbc
      exact ⟨j, by omega, by rw [va_up_no (by omega)]; exact ej⟩
  · rw [fr_s, hb] at h4
    simp at h4
    omega
theorem lsI_end {b : Nat → Bool} {cn k : Nat} {be : Nat → Nat} (h : lsI b cn 0 k be) : lists b cn (fr b cn) be := by
  obtain ⟨h1, h2, h3, h4⟩ := h
  have e : k = fr b cn := by
    have : fr b 0 = 0 := rfl
    omega
  rw [← e]
  exact ⟨fun j hj => (h1 j hj).2, h2, fun c hc hb => h3 c (by omega) hc hb⟩
theorem fnd_base {f be : Nat → Nat} {o dg cn mem N : Nat} {M M1 : Nat → Nat → Nat} {b : Nat → Bool} (hcn : cn = (o + 1) * (dg + 1)) (h : rI cn mem M b) (hs : ∀ v, sol cn b (eI M) v ↔ ker (fun n c => (eqn f dg n c : Int)) N cn v) (hN : N = 64 - o ∨ (N ≤ 64 - o ∧ mem = 0)) (h1 : rI cn mem M1 b) (hs1 : ∀ v, sol cn b (eI M1) v ↔ sol cn b (eI M) v) (hc : clr cn 0 M1 b) (hl : lists b cn mem be) : isBase (kerF f o dg) cn mem be (fun k => evec b (eI M1) (be k)) := by
  have hk : ∀ v, sol cn b (eI M) v ↔ ker (fun n c => (eqn f dg n c : Int)) (64 - o) cn v := by
    rcases hN with e | ⟨e1, e2⟩
    · rw [← e]; exact hs
    · exact ker_full h.1 (fr_none (by rw [← h.2.2]; exact e2)) hs e1
  refine base_cong (fun v => ?_) (el_base h1.1 (fun y c hyc hcm hy hbc => ?_) hl)
  · rw [hs1 v, hk v]
    unfold kerF
    rw [hcn]
  · unfold eI
    rw [if_neg (by omega), hc y c hyc (by omega) hcm hy hbc]
    rfl
theorem i_in {i : Int32} {n : Nat} (hn : n < 2 ^ 31) (h1 : ¬ i < 0) (h2 : ¬ nI n < i) : ∃ k, i = nI k ∧ k ≤ n := by
  refine ⟨i.toInt.toNat, ?_, ?_⟩
  · refine i_eq ?_
    rw [Int32.lt_iff_toInt_lt] at h1 h2
    rw [nI_toInt hn] at h2
    have h0 : (0 : Int32).toInt = 0 := rfl
    rw [nI_toInt (by omega)]
    omega
  · rw [Int32.lt_iff_toInt_lt] at h1 h2
    rw [nI_toInt hn] at h2
    have h0 : (0 : Int32).toInt = 0 := rfl
    omega
theorem bn_t {b : Nat → Bool} {i : Nat} (h : bn b i ≠ 0) : b i = true := by
  cases h9 : b i
  · unfold bn at h; rw [h9] at h; exact absurd rfl h
  · rfl
theorem bn_f {b : Nat → Bool} {i : Nat} (h : bn b i = 0) : b i = false := by
  cases h9 : b i
  · rfl
  · unfold bn at h; rw [h9] at h; exact absurd h (by decide)
theorem bn_lt (b : Nat → Bool) (i : Nat) : bn b i < 2 := by unfold bn; split <;> omega
theorem nI_m1 (n : Nat) : nI n + Int32.ofInt (-1) = nI n - nI 1 := by
  rw [Int32.sub_eq_add_neg]
  rfl
theorem nI_p1 (n : Nat) : nI (n + 1) - nI 1 = nI n := by rw [pk_sub (by omega)]; rfl
theorem fr_0 {cn : Nat} : fr (fun _ => false) cn = cn := fr_all (fun _ _ => rfl)
theorem rI_0 {cn : Nat} {M : Nat → Nat → Nat} {b : Nat → Bool} (hM : mB M) (hb : ∀ c, c < cn → b c = false) : rI cn cn M b := ⟨fun c hc h => absurd ((hb c hc).symm.trans h) (by decide), hM, (fr_all hb).symm⟩
theorem sol_0 {cn : Nat} {M : Nat → Nat → Nat} {b : Nat → Bool} {E : Nat → Nat → Int} (hb : ∀ c, c < cn → b c = false) : ∀ v, sol cn b (eI M) v ↔ ker E 0 cn v := fun v => ⟨fun _ k hk => absurd hk (by omega), fun _ c hc h => absurd ((hb c hc).symm.trans h) (by decide)⟩
theorem nof_bad {i9 j9 : Int32} {i j o dg : Nat} (ho : o < 2 ^ 30) (hd : dg < 2 ^ 30) (h : i9 < 0 ∨ nI o < i9 ∨ j9 < 0 ∨ nI dg < j9) (hi : i ≤ o) (hj : j ≤ dg) (e1 : i9 = nI i) (e2 : j9 = nI j) : False := by
  subst e1
  subst e2
  have h0 : (0 : Int32).toInt = 0 := rfl
  rw [Int32.lt_iff_toInt_lt, Int32.lt_iff_toInt_lt, Int32.lt_iff_toInt_lt, Int32.lt_iff_toInt_lt, nI_toInt (by omega), nI_toInt (by omega), nI_toInt (by omega), nI_toInt (by omega)] at h
  omega
theorem nof_ok {i9 j9 x9 : Int32} {i j o dg : Nat} {F : Nat → Nat} (ho : o < 2 ^ 30) (hd : dg < 2 ^ 30) (e1 : i9 = nI i) (e2 : j9 = nI j) (hi : i ≤ o) (hj : j ≤ dg) (h : x9 = nI (F (i * (dg + 1) + j))) : (∀ i j : Nat, i ≤ o → j ≤ dg → i9 = nI i → j9 = nI j → x9 = nI (F (i * (dg + 1) + j))) ∧ (i9 < 0 ∨ nI o < i9 ∨ j9 < 0 ∨ nI dg < j9 → x9 = nI 0) := by
  refine ⟨fun i' j' hi' hj' q1 q2 => ?_, fun q => (nof_bad ho hd q hi hj e1 e2).elim⟩
  rw [e1] at q1
  rw [e2] at q2
  rw [← (nI_eq (by omega) (by omega)).mp q1, ← (nI_eq (by omega) (by omega)).mp q2]
  exact h
theorem ev_eq {b : Nat → Bool} {M : Nat → Nat → Nat} {B x : Nat} (h : x = B) : (evec b (eI M) B x).toNat = 1 := by
  unfold evec
  rw [if_pos h]
  rfl
theorem ev_lt {b : Nat → Bool} {M : Nat → Nat → Nat} {B x : Nat} (h : x < B) (hb : b x = true) : (evec b (eI M) B x).toNat = rd (-(M x B : Int)) := by
  unfold evec
  rw [if_neg (by omega), if_pos ⟨h, hb⟩]
  unfold eI rd
  rw [if_neg (by omega)]
theorem ev_0 {b : Nat → Bool} {M : Nat → Nat → Nat} {B x : Nat} (h : x ≠ B) (hb : B ≤ x ∨ b x = false) : (evec b (eI M) B x).toNat = 0 := by
  unfold evec
  rw [if_neg h, if_neg]
  · rfl
  · rintro ⟨h1, h2⟩
    rcases hb with h3 | h3
    · omega
    · rw [h3] at h2; cases h2
theorem neg_i2l {m : Nat} (h : m < 2 ^ 31) : ((-(nI m)).toInt64).toInt = -(m : Int) := by
  rw [Int32.toInt_toInt64, Int32.toInt_neg, nI_toInt h]
  exact Int.bmod_eq_of_le (by omega) (by omega)
