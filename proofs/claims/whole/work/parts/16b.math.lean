/-! the public calls of the reference -/
theorem zrb_get {b : Nat → Int32} {gd bf bc bs bt : Int32} {g : Nat} (hg : g ≤ 210) (h : zrb b gd bf bc bs bt g) : gd = b 0 ∧ (¬ b 0 = 0 → bf = b 1 ∧ bc = b 2 ∧ bs = b 3 ∧ bt = b 4) := by
  obtain ⟨b0, b1, b2, b3⟩ := h
  refine ⟨b1.trans b0.symm, fun q => b3 ?_⟩
  rcases Nat.eq_zero_or_pos g with e | e
  · subst e
    exact absurd b0 q
  · exact e
theorem zj_6 {x : Int32} (h : 0 ≤ x ∧ x ≤ 5) : x = 0 ∨ x = 1 ∨ x = 2 ∨ x = 3 ∨ x = 4 ∨ x = 5 := by
  obtain ⟨j, hj, e⟩ := nI_of2 (M := 5) (n := 5) (by decide) (zi_nlt h.1) h.2
  subst e
  match j, hj with
  | 0, _ => exact Or.inl rfl
  | 1, _ => exact Or.inr (Or.inl rfl)
  | 2, _ => exact Or.inr (Or.inr (Or.inl rfl))
  | 3, _ => exact Or.inr (Or.inr (Or.inr (Or.inl rfl)))
  | 4, _ => exact Or.inr (Or.inr (Or.inr (Or.inr (Or.inl rfl))))
  | 5, _ => exact Or.inr (Or.inr (Or.inr (Or.inr (Or.inr rfl))))
  | n + 6, h => exact absurd h (by omega)
theorem zj_4 {x : Int32} (h : 0 ≤ x ∧ x ≤ 4) (h4 : ¬ 4 ≤ x) : x = 0 ∨ x = 1 ∨ x = 2 ∨ x = 3 := by
  rcases zj_5 h with e | e | e | e | e
  · exact Or.inl e
  · exact Or.inr (Or.inl e)
  · exact Or.inr (Or.inr (Or.inl e))
  · exact Or.inr (Or.inr (Or.inr e))
  · subst e
    exact absurd (by decide) h4
theorem zj_add (a : Nat) {x : Int32} {j : Nat} (h : x = nI j) : nI a + x = nI (a + j) := by
  rw [h]
  exact nI_add a j
theorem zcl_in {x : Int32} (h : 0 ≤ x ∧ x ≤ 1000) : x = nI (zcl x) := by
  obtain ⟨h1, h2⟩ := zj_of (M := 1000) (n := 1000) (by decide) h
  unfold zcl
  rw [Nat.min_eq_right h2]
  exact h1
theorem zlay4 {s : Nat → Int32} {a j : Nat} {x0 x1 x2 x3 : Int32} (h : j < a) : upd (upd (upd (upd s (a + 0) x0) (a + 1) x1) (a + 2) x2) (a + 3) x3 j = s j := by
  rw [pk_un (by omega), pk_un (by omega), pk_un (by omega), pk_un (by omega)]
/-- a page is laid at place b -/
def zsr1 (s : Nat → Int32) (b : Nat) (h : Nat → Int32) : Nat → Int32 := upd (upd (upd (upd (upd s (27 + 4 * b + 0) (h 0)) (27 + 4 * b + 1) (h 1)) (27 + 4 * b + 2) (h 2)) (27 + 4 * b + 3) (h 3)) 26 (nI (b + 1))
theorem zsr1_lo {s h : Nat → Int32} {b j : Nat} (hj : j < 26) : zsr1 s b h j = s j := by
  unfold zsr1
  rw [pk_un (by omega), zlay4 (by omega)]
/-- what is kept is laid, a run is counted -/
def zsr2 (s h : Nat → Int32) (v : Int32) : Nat → Int32 := upd (upd (upd (upd (upd s 21 (h 0)) 22 (h 1)) 23 (h 2)) 24 (h 3)) 25 v
/-- the oldest page is dropped -/
def zsd (s : Nat → Int32) : Nat → Int32 := upd (zdp s 27 71) 26 (s 26 - 1)
def zpg (s : Nat → Int32) (t : Nat) : Nat → Int32 := fun p => s (27 + 4 * p + t)
theorem zlo_4 {pl ru c : Nat → Int32} {a : Nat} (ha : a < zN pl ru c) : zlo pl ru c a 4 = if a < zfo ru then 0 else if a < max (zfo ru) (zT (zY pl ru c) (zN pl ru c) (zfo ru) (ru 1)) then 1 else 2 := by
  have h1 : zhe pl ru c = min (zfo ru) (zN pl ru c) := rfl
  have h2 : zte pl ru c = zT (zY pl ru c) (zN pl ru c) (zfo ru) (ru 1) := rfl
  have h3 := zte_in pl ru c
  unfold zlo
  rw [if_pos rfl]
  by_cases q : a < zfo ru
  · rw [if_pos q, if_pos (show a < zhe pl ru c by omega)]
  · rw [if_neg q, if_neg (show ¬ a < zhe pl ru c by omega), ← h2]
    by_cases q2 : a < zte pl ru c
    · rw [if_pos q2, if_pos (by omega)]
    · rw [if_neg q2, if_neg (by omega)]
theorem zsumA {pl ru c g Z : Nat → Int32} {t : Nat} (ht : t < 4) (h : zgn pl ru c g (zN pl ru c)) (h0 : Z t = 0) : zsum Z g 0 (max 0 (min (zfo ru) (zN pl ru c))) t = zA pl ru c t := by
  unfold zsum zA
  rw [h0, Int32.zero_add, Nat.zero_max]
  exact zG_congr (zcm_ar h t ht) (Nat.zero_le _) (Nat.min_le_right _ _)
theorem zsumD {pl ru c g Z : Nat → Int32} {t : Nat} (ht : t < 4) (h : zgn pl ru c g (zN pl ru c)) (h0 : Z t = 0) : zsum Z g (max (zfo ru) (zT (fun j => g (4 * j)) (zN pl ru c) (zfo ru) (ru 1))) (max (max (zfo ru) (zT (fun j => g (4 * j)) (zN pl ru c) (zfo ru) (ru 1))) (min 40 (zN pl ru c))) t = zD pl ru c t := by
  unfold zsum zD
  rw [zT_congr (zgy_ar h)]
  have h2 : zte pl ru c = zT (zY pl ru c) (zN pl ru c) (zfo ru) (ru 1) := rfl
  have h1 : zhe pl ru c = min (zfo ru) (zN pl ru c) := rfl
  have h3 := zte_in pl ru c
  have h4 := zN_le pl ru c
  rw [← h2, h0, Int32.zero_add]
  by_cases hf : zN pl ru c ≤ zfo ru
  · have e1 : max (max (zfo ru) (zte pl ru c)) (min 40 (zN pl ru c)) = max (zfo ru) (zte pl ru c) := by omega
    have e2 : zte pl ru c = zN pl ru c := by omega
    rw [e1, e2, zG_self, zG_self]
  · have e1 : max (zfo ru) (zte pl ru c) = zte pl ru c := by omega
    have e2 : max (zte pl ru c) (min 40 (zN pl ru c)) = zN pl ru c := by omega
    rw [e1, e2]
    exact zG_congr (zcm_ar h t ht) h3.2 (Nat.le_refl _)
/-- weeding, backwards: pages from i on are weeded -/
def zwi (s g : Nat → Int32) (P : Nat → Bool) (bk i : Nat) : Prop := (∀ j, j < 26 → g j = s j) ∧ (∀ j t, j < i → t < 4 → g (27 + 4 * j + t) = s (27 + 4 * j + t)) ∧ (∀ j t, i ≤ j → j < bk → t < 4 → P j = true → g (27 + 4 * (i + (zc P j - zc P i)) + t) = s (27 + 4 * j + t)) ∧ g 26 = nI (i + (zc P bk - zc P i))
theorem zwi_0 {s : Nat → Int32} {P : Nat → Bool} {bk : Nat} (h : s 26 = nI bk) : zwi s s P bk bk := by
  refine ⟨fun _ _ => rfl, fun _ _ _ _ => rfl, fun j t h1 h2 => absurd h2 (by omega), ?_⟩
  rw [h, Nat.sub_self, Nat.add_zero]
theorem zc_gap (P : Nat → Bool) {a b : Nat} (h : a ≤ b) : zc P b - zc P a ≤ b - a := by
  induction b with
  | zero =>
    have : a = 0 := by omega
    subst this
    omega
  | succ b ih =>
    by_cases e : a = b + 1
    · subst e
      omega
    · have h1 := ih (by omega)
      have h2 : zc P (b + 1) ≤ zc P b + 1 := by
        by_cases q : P b = true
        · rw [zc_t q]
          exact Nat.le_refl _
        · rw [zc_f q]
          omega
      omega
theorem zwi_t {s g : Nat → Int32} {P : Nat → Bool} {bk i : Nat} (hp : P i = true) (hi : i < bk) (h : zwi s g P bk (i + 1)) : zwi s g P bk i := by
  obtain ⟨h1, h2, h3, h4⟩ := h
  have hz := zc_t hp
  refine ⟨h1, fun j t hj ht => h2 j t (by omega) ht, fun j t ha hb ht hq => ?_, ?_⟩
  · by_cases e : j = i
    · subst e
      rw [Nat.sub_self, Nat.add_zero]
      exact h2 j t (by omega) ht
    · have h5 := h3 j t (by omega) hb ht hq
      have h6 := zc_mono P (show i + 1 ≤ j by omega)
      have e2 : i + (zc P j - zc P i) = i + 1 + (zc P j - zc P (i + 1)) := by omega
      rw [e2]
      exact h5
  · have h6 := zc_mono P (show i + 1 ≤ bk by omega)
    have e2 : i + (zc P bk - zc P i) = i + 1 + (zc P bk - zc P (i + 1)) := by omega
    rw [e2]
    exact h4
theorem zwi_f {s g : Nat → Int32} {P : Nat → Bool} {bk i : Nat} (hp : ¬ P i = true) (hi : i < bk) (hb : bk ≤ 12) (h : zwi s g P bk (i + 1)) : zwi s (upd (zdp g (27 + 4 * i) 71) 26 (g 26 - 1)) P bk i := by
  obtain ⟨h1, h2, h3, h4⟩ := h
  have hz := zc_f hp
  refine ⟨fun j hj => ?_, fun j t hj ht => ?_, fun j t ha hb2 ht hq => ?_, ?_⟩
  · rw [pk_un (by omega)]
    unfold zdp
    rw [if_neg (by omega)]
    exact h1 j hj
  · rw [pk_un (by omega)]
    unfold zdp
    rw [if_neg (by omega)]
    exact h2 j t (by omega) ht
  · have hne : ¬ j = i := by
      intro e
      subst e
      exact hp hq
    have h5 := h3 j t (by omega) hb2 ht hq
    have h6 := zc_mono P (show i + 1 ≤ j by omega)
    have h7 := zc_gap P (show i + 1 ≤ j by omega)
    rw [pk_un (by omega)]
    unfold zdp
    rw [if_pos (by omega), ← h5]
    congr 1
    omega
  · rw [pk_us, h4, hz]
    have e1 : nI (i + 1 + (zc P bk - zc P i)) - 1 = nI (i + 1 + (zc P bk - zc P i) - 1) := pk_sub (b := 1) (by omega)
    rw [e1]
    congr 1
    omega
theorem zwi_n {s g : Nat → Int32} {P : Nat → Bool} {bk : Nat} (h : zwi s g P bk 0) : g 26 = nI (zc P bk) := by
  have h4 := h.2.2.2
  rw [Nat.zero_add, show zc P 0 = 0 from rfl, Nat.sub_zero] at h4
  exact h4
theorem zn_m1 {i : Nat} (hi : i < 2 ^ 31) (h : nI i - 1 < 0) : i = 0 := by
  rcases Nat.eq_zero_or_pos i with e | e
  · exact e
  · exfalso
    have e1 : nI i - 1 = nI (i - 1) := pk_sub (b := 1) e
    rw [e1] at h
    exact nI_pos (by omega) h
theorem zn_m1' {i : Nat} (h : ¬ nI i - 1 < 0) : 0 < i := by
  rcases Nat.eq_zero_or_pos i with e | e
  · subst e
    exact absurd (by decide) h
  · exact e
theorem zn_m2 (i : Nat) : nI (i + 1) - 1 = nI i := pk_sub (a := i + 1) (b := 1) (by omega)
theorem zn_m3 (i : Nat) : nI (i + 1) - 1 + (-1) = nI i - 1 := by
  rw [zn_m2]
  exact (Int32.sub_eq_add_neg _ _).symm
theorem zin01 {k : Nat} (h : k ≤ 1) : 0 ≤ nI k ∧ nI k ≤ 1 := ⟨nI_pos' (by omega), nI_le (b := 1) h (by decide)⟩
theorem zab_y {v : Int32} {f0 f1 : Nat → Int32} {j : Nat} (h : v ≤ zq (f1 j) (f0 j)) : zab v f0 f1 j = true := decide_eq_true h
theorem zab_n {v : Int32} {f0 f1 : Nat → Int32} {j : Nat} (h : ¬ v ≤ zq (f1 j) (f0 j)) : ¬ zab v f0 f1 j = true := fun q => h (of_decide_eq_true q)
def zik (f : Nat → Int32) : Int32 := (if f 0 = 0 then 0 else 1) + (if f 1 = 0 then 0 else 2)
theorem zj_sub2 (c : Nat) {x L : Int32} {j : Nat} (h : x - L = nI j) : nI c + x - L = nI (c + j) := by
  rw [Int32.sub_eq_add_neg, Int32.add_assoc, ← Int32.sub_eq_add_neg, h]
  exact nI_add c j
def zcpi (fi sg gi : Nat → Int32) (k i : Nat) : Prop := (∀ j, j < i → gi (75 * k + j) = sg j) ∧ ∀ j, (j < 75 * k ∨ 75 * k + i ≤ j) → gi j = fi j
theorem zcpi_0 (fi sg : Nat → Int32) (k : Nat) : zcpi fi sg fi k 0 := ⟨fun j h => absurd h (Nat.not_lt_zero _), fun _ _ => rfl⟩
theorem zcpi_s {fi sg gi : Nat → Int32} {k i : Nat} (h : zcpi fi sg gi k i) : zcpi fi sg (upd gi (75 * k + i) (sg i)) k (i + 1) := by
  refine ⟨fun j hj => ?_, fun j hj => ?_⟩
  · by_cases e : j = i
    · subst e
      rw [pk_us]
    · rw [pk_un (by omega)]
      exact h.1 j (by omega)
  · rw [pk_un (by omega)]
    exact h.2 j (by omega)
