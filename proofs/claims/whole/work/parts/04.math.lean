/-! what small methods answer -/
theorem zi_nle {a b : Int32} (h : a < b) : ¬ b ≤ a := Int32.not_le.mpr h
theorem zi_nlt {a b : Int32} (h : a ≤ b) : ¬ b < a := Int32.not_lt.mpr h
theorem zi_le {a b : Int32} (h : ¬ a < b) : b ≤ a := Int32.not_lt.mp h
theorem zi_lt {a b : Int32} (h : ¬ a ≤ b) : b < a := Int32.not_le.mp h
/-- a quotient, 0 where the divisor is not above 0 -/
def zq (a b : Int32) : Int32 := if 0 < b then a / b else 0
/-- of a liquid: litres, spirit, heady, oily, strength, taint -/
def zt (w a b c d : Int32) : Int32 := if w = 0 then a else if w = 1 then b else if w = 2 then c else if w = 3 then d else if w = 4 then zq b a else zq (c + d) a
theorem zin_lo {v lo hi : Int32} (h : v < lo) : (0 : Int32) = if lo ≤ v ∧ v ≤ hi then 1 else 0 := (if_neg (fun q => zi_nle h q.1)).symm
theorem zin_hi {v lo hi : Int32} (h : hi < v) : (0 : Int32) = if lo ≤ v ∧ v ≤ hi then 1 else 0 := (if_neg (fun q => zi_nle h q.2)).symm
theorem zin_ok {v lo hi : Int32} (h1 : ¬ v < lo) (h2 : ¬ hi < v) : (1 : Int32) = if lo ≤ v ∧ v ≤ hi then 1 else 0 := (if_pos ⟨zi_le h1, zi_le h2⟩).symm
theorem zn_nle {a b : Nat} (h : ¬ nI a ≤ nI b) (hb : b < 2 ^ 31) : b < a := Nat.lt_of_not_le (fun q => h (nI_le q hb))
theorem zn_le {a b : Nat} (h : nI a ≤ nI b) (ha : a < 2 ^ 31) (hb : b < 2 ^ 31) : a ≤ b := (nI_leI ha hb).mp h
theorem zn_lt {a b : Nat} (h : nI a < nI b) (ha : a < 2 ^ 31) (hb : b < 2 ^ 31) : a < b := (nI_ltI ha hb).mp h
theorem zn_nlt {a b : Nat} (h : ¬ nI a < nI b) (hb : b < 2 ^ 31) : b ≤ a := Nat.le_of_not_lt (fun q => h (nI_lt q hb))
theorem zn_sub1 {k : Nat} (h : 1 ≤ k) : nI k - 1 = nI (k - 1) := pk_sub (a := k) (b := 1) h
theorem zn_max0 {k : Nat} (h : k < 2 ^ 31) : (if nI k < 0 then (0 : Int32) else nI k) = nI k := if_neg (nI_pos h)
/-! a row whose eldest goes -/
def zds (f g : Nat → Int32) (i : Nat) : Prop := (∀ j, j + 1 < i → g j = f (j + 1)) ∧ ∀ j, i ≤ j + 1 → g j = f j
theorem zds_0 (f : Nat → Int32) : zds f f 1 := ⟨fun j h => absurd h (by omega), fun _ _ => rfl⟩
theorem zds_s {f g : Nat → Int32} {i : Nat} (h1 : 1 ≤ i) (h : zds f g i) : zds f (upd g (i - 1) (g i)) (i + 1) := by
  refine ⟨fun j hj => ?_, fun j hj => ?_⟩
  · by_cases e : j = i - 1
    · subst e
      rw [pk_us, h.2 i (by omega)]
      congr 1
      omega
    · rw [pk_un e]
      exact h.1 j (by omega)
  · rw [pk_un (by omega)]
    exact h.2 j (by omega)
/-! a row of which some go: how many stay, where they are then -/
def zc (P : Nat → Bool) : Nat → Nat
  | 0 => 0
  | n + 1 => if P n then zc P n + 1 else zc P n
theorem zc_le (P : Nat → Bool) : ∀ n, zc P n ≤ n
  | 0 => Nat.le_refl 0
  | n + 1 => by
    have h := zc_le P n
    unfold zc
    split <;> omega
theorem zc_mono (P : Nat → Bool) {a b : Nat} (h : a ≤ b) : zc P a ≤ zc P b := by
  induction b with
  | zero => rw [Nat.le_zero.mp h]; exact Nat.le_refl _
  | succ b ih =>
    by_cases e : a = b + 1
    · rw [e]; exact Nat.le_refl _
    · have h2 := ih (by omega)
      rw [show zc P (b + 1) = if P b then zc P b + 1 else zc P b from rfl]
      split <;> omega
theorem zc_t {P : Nat → Bool} {n : Nat} (h : P n = true) : zc P (n + 1) = zc P n + 1 := if_pos h
theorem zc_f {P : Nat → Bool} {n : Nat} (h : ¬ P n = true) : zc P (n + 1) = zc P n := if_neg h
theorem zc_lt {P : Nat → Bool} {a b : Nat} (h : a < b) (ha : P a = true) : zc P a < zc P b := by
  have h1 := zc_mono P (show a + 1 ≤ b from h)
  rw [zc_t ha] at h1
  omega
theorem zc_at {P : Nat → Bool} : ∀ {n q : Nat}, q < zc P n → ∃ j, j < n ∧ P j = true ∧ zc P j = q
  | 0, q, h => absurd h (Nat.not_lt_zero _)
  | n + 1, q, h => by
    by_cases hp : P n = true
    · rw [zc_t hp] at h
      by_cases e : q = zc P n
      · exact ⟨n, by omega, hp, e.symm⟩
      · obtain ⟨j, h1, h2, h3⟩ := zc_at (P := P) (n := n) (q := q) (by omega)
        exact ⟨j, by omega, h2, h3⟩
    · rw [zc_f hp] at h
      obtain ⟨j, h1, h2, h3⟩ := zc_at h
      exact ⟨j, by omega, h2, h3⟩
def zdb (P : Nat → Bool) (f g : Nat → Int32) (i : Nat) : Prop := (∀ j, j < i → P j = true → g (zc P j) = f j) ∧ ∀ j, i ≤ j → g j = f j
theorem zdb_0 (P : Nat → Bool) (f : Nat → Int32) : zdb P f f 0 := ⟨fun j h => absurd h (Nat.not_lt_zero _), fun _ _ => rfl⟩
theorem zdb_t {P : Nat → Bool} {f g : Nat → Int32} {i : Nat} (h : zdb P f g i) (hp : P i = true) : zdb P f (upd g (zc P i) (g i)) (i + 1) := by
  refine ⟨fun j hj hq => ?_, fun j hj => ?_⟩
  · by_cases e : j = i
    · subst e
      rw [pk_us]
      exact h.2 j (Nat.le_refl _)
    · have hlt : zc P j < zc P i := zc_lt (by omega) hq
      rw [pk_un (by omega)]
      exact h.1 j (by omega) hq
  · have := zc_le P i
    rw [pk_un (by omega)]
    exact h.2 j (by omega)
theorem zdb_f {P : Nat → Bool} {f g : Nat → Int32} {i : Nat} (h : zdb P f g i) (hp : ¬ P i = true) : zdb P f g (i + 1) := by
  refine ⟨fun j hj hq => ?_, fun j hj => h.2 j (by omega)⟩
  by_cases e : j = i
  · subst e
    exact absurd hq hp
  · exact h.1 j (by omega) hq
/-- the first k of a row out of another -/
def zcp (f g : Nat → Int32) (k : Nat) : Nat → Int32 := fun j => if j < k then f j else g j
theorem zcp_lt {f g : Nat → Int32} {k j : Nat} (h : j < k) : zcp f g k j = f j := if_pos h
theorem zcp_of (f g : Nat → Int32) (k : Nat) : va_cpy f g 0 0 k = zcp f g k := by
  funext j
  unfold va_cpy zcp
  by_cases h : j < k
  · rw [if_pos h, if_pos ⟨Nat.zero_le _, by omega⟩]
    congr 1
    omega
  · rw [if_neg h, if_neg (by omega)]
/-- strength of a liquid is v or more -/
def zab (v : Int32) (f0 f1 : Nat → Int32) (j : Nat) : Bool := decide (v ≤ zq (f1 j) (f0 j))
theorem zt4 (x0 x1 x2 x3 : Int32) : zt 4 x0 x1 x2 x3 = zq x1 x0 := rfl
section ZKH
variable {p : Program} {l : Launch} {e : Env} {R : Room} {s : State} {m : MethodId} {args : Array Value} {below : List Frame} {meth : Method} {c : Code} {H : Heap} {locs : List Loc} {cells slots : Nat} {Q : State → Prop}
variable {cc : ByteArray} {nL pc a a0 : Nat} {Ts : List Cond} {own : String} {rest : List Value} {ls : Array Slot} {lv : List (Nat × Value)}
variable {D : va_G} {cI cZ : ClassId} {ts : Nat → Nat} {A B : Nat → Prop} {H0 H9 : Heap} {ws ws' : va_W}
theorem zk_cpy {index n0 n1 k : Nat} {n : Int32} {f g : Nat → Int32} (X : CallFix p m c cc nL s args Ts own) (hE : zk_E D cI cZ ts B s H9) (hl : lv_has ls nL lv) (hw : (Cond.methodLink own index arraycopyName ∈ Ts) ∧ (Cond.native arraycopyName ∈ Ts) ∧ (Cond.static arraycopyName ∈ Ts) ∧ Cond.initialized "java/lang/System" ∈ Ts) (hP : va_P D vwCl ws H) (hD : va_D A ws) (hS : va_S A H0 H locs) (q0 q1 : Nat) (ha0 : ws[q0]? = some (a0, .inl (cI, n0, .inl f))) (ha1 : ws[q1]? = some (a, .inl (cI, n1, .inl g))) (hn : n = nI k) (h31 : k < 2 ^ 31) (h4 : k ≤ n0) (h5 : k ≤ n1) (hframes : 1 ≤ R.frames) (hlocals : (rest.map fun v => v.category).sum + (nativeFrameWords "java/lang/System" "arraycopy" 5 + 11) ≤ R.locals) (hdg : decode cc pc = .ok (.invokestatic index, 3)) (hws : ws.set q1 (a, .inl (cI, n1, .inl (zcp f g k))) = ws')
    (kk : ∀ (H1 : Heap) (locs1 : List Loc), va_P D vwCl ws' H1 → va_D A ws' → va_S A H0 H1 locs1 → W p l e R s m args below meth c H1 locs1 cells slots Q (F0 m (pc + 3) ls rest)) : W p l e R s m args below meth c H locs cells slots Q (F0 m pc ls (.int n :: .int 0 :: .ref a :: .int 0 :: .ref a0 :: rest)) := by
  subst hn
  subst hws
  have hts := X.2.2.2.2
  have hck : (nI k).toNatClampNeg = k := nI_clamp h31
  refine va_copyi X.1 X.2.1 (X.2.2.1.trans hl.1.symm) X.2.2.2.1 (hts _ hw.1) (hts _ hw.2.1) (hts _ hw.2.2.1) (hts _ hw.2.2.2) hE.1 hP hD hS q0 q1 0 0 (ty := .int) ha0 ha1 rfl rfl rfl (by decide) (by decide) (nI_pos h31) (by rw [hck, sb_cl0]; omega) (by rw [hck, sb_cl0]; omega) (fun i _ => rfl) hframes hlocals hdg ?_
  rw [hck, sb_cl0, zcp_of]
  exact kk
end ZKH
def zeq (f0 f1 f2 f3 : Nat → Int32) (j : Nat) (x0 x1 x2 x3 : Int32) : Prop := f0 j = x0 ∧ f1 j = x1 ∧ f2 j = x2 ∧ f3 j = x3
theorem zk_obj {D : va_G} {ws : va_W} {H : Heap} {q0 a ci : Nat} {fs fs' : List Value} (hP : va_P D vwCl ws H) (ha : ws[q0]? = some (a, .inr (ci, fs))) (hf : fs = fs') : va_P D vwCl (ws.set q0 (a, .inr (ci, fs'))) H := by
  subst hf
  intro k q hq
  by_cases hk : k = q0
  · subst hk
    have hlt : k < ws.length := (List.getElem?_eq_some_iff.mp ha).1
    rw [List.getElem?_set_self hlt] at hq
    cases hq
    exact hP k _ ha
  · rw [List.getElem?_set_ne (Ne.symm hk)] at hq
    exact hP k q hq
