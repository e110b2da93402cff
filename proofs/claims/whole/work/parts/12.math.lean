/-! what the public calls answer, by rows w (wash), pl (the table), ru (rules), what is kept kf -/
theorem zj_of {x M : Int32} {n : Nat} (hM : M.toInt = n) (h : 0 ≤ x ∧ x ≤ M) : x = nI x.toNatClampNeg ∧ x.toNatClampNeg ≤ n := by
  obtain ⟨j, hj, e⟩ := nI_of2 hM (zi_nlt h.1) h.2
  have hM2 : n < 2 ^ 31 := by
    have := Int32.toInt_lt M
    rw [hM] at this
    omega
  rw [e, nI_clamp (by omega)]
  exact ⟨rfl, hj⟩
abbrev zCw (p0 p1 p2 p3 : Int32) : Prop := (1 ≤ p0 ∧ p0 ≤ 30) ∧ (0 ≤ p1 ∧ p1 ≤ 300) ∧ (0 ≤ p2 ∧ p2 ≤ 99) ∧ 0 ≤ p3 ∧ p3 ≤ 99
def zover (pl : Nat → Int32) (x : Int32) : Int32 := if 0 ≤ x ∧ x ≤ 1000 then zov pl (zcl x) else (-2)
/-- of litre j: its y, spirit, heady, oily, of which part it is -/
def zlo (pl ru c : Nat → Int32) (j : Nat) (wh : Int32) : Int32 := if wh = 4 then (if j < zhe pl ru c then 0 else if j < zte pl ru c then 1 else 2) else if wh = 0 then zY pl ru c j else zt wh (zL pl ru c 0 j) (zL pl ru c 1 j) (zL pl ru c 2 j) (zL pl ru c 3 j)
def zlitre (pl ru c : Nat → Int32) (i wh : Int32) : Int32 := if (-1) ≤ i ∧ i ≤ nI (zN pl ru c) - 1 then (if 0 ≤ wh ∧ wh ≤ 4 then (if i = (-1) then nI (zN pl ru c) else zlo pl ru c i.toNatClampNeg wh) else (-2)) else (-1)
def zl4 (wh : Int32) (f : Nat → Int32) : Int32 := zt wh (f 0) (f 1) (f 2) (f 3)
def zpart (pl ru c : Nat → Int32) (p0 p1 : Int32) : Int32 := if (0 ≤ p0 ∧ p0 ≤ 4) ∧ 0 ≤ p1 ∧ p1 ≤ 5 then zl4 p1 (if p0 = 0 then c else if p0 = 1 then zA pl ru c else if p0 = 2 then zB pl ru c else if p0 = 3 then zD pl ru c else zP pl ru c (zN pl ru c)) else (-2)
def zkept (kf : Nat → Int32) (p0 : Int32) : Int32 := if 0 ≤ p0 ∧ p0 ≤ 5 then zl4 p0 kf else (-2)
theorem zN_ix {pl ru c : Nat → Int32} {i : Int32} (h : (-1) ≤ i ∧ i ≤ nI (zN pl ru c) - 1) (h1 : ¬ i = (-1)) : i = nI i.toNatClampNeg ∧ i.toNatClampNeg < zN pl ru c := by
  have hn := zN_le pl ru c
  have h2 : (nI (zN pl ru c) - 1).toInt = (zN pl ru c : Int) - 1 := pk_sub_toInt (a := zN pl ru c) (b := 1) (by omega) (by decide)
  have ha : (-1 : Int) ≤ i.toInt := by simpa using Int32.le_iff_toInt_le.mp h.1
  have hb : i.toInt ≤ (zN pl ru c : Int) - 1 := by
    have := Int32.le_iff_toInt_le.mp h.2
    rw [h2] at this
    exact this
  have hc : i.toInt ≠ -1 := fun e => h1 (Int32.toInt_inj.mp (by rw [e]; decide))
  have h0 : ¬ i < 0 := by
    rw [Int32.lt_iff_toInt_lt]
    show ¬ i.toInt < 0
    omega
  obtain ⟨j, hj, e⟩ := nI_of h0
  have hji : i.toInt = j := by rw [e]; exact nI_toInt hj
  rw [e, nI_clamp hj]
  exact ⟨rfl, by omega⟩
/-- of the best cuts -/
def zbst (b : Nat → Int32) (wh : Int32) : Int32 := if 0 ≤ wh ∧ wh ≤ 4 then (if wh = 4 then b 0 else if b 0 = 0 then (-6) else if wh = 0 then b 1 else if wh = 1 then b 2 else if wh = 2 then b 3 else b 4) else (-2)
def zcnt (w pl ru : Nat → Int32) (gone many kept wh : Int32) : Int32 := if 3 ≤ wh ∧ wh ≤ 6 then w (wh - 3).toNatClampNeg else if 10 ≤ wh ∧ wh ≤ 15 then ru (wh - 10).toNatClampNeg else if 20 ≤ wh ∧ wh ≤ 30 then pl (wh - 20).toNatClampNeg else if wh = 0 then gone else if wh = 1 then many else if wh = 2 then kept else (-2)
theorem zj_sub {x L M : Int32} {a b : Nat} (hL : L = nI a) (hM : M = nI b) (hb : b < 2 ^ 30) (hab : a ≤ b) (h : L ≤ x ∧ x ≤ M) : x - L = nI (x - L).toNatClampNeg ∧ (x - L).toNatClampNeg ≤ b - a := by
  subst hL
  subst hM
  have ha0 : ¬ x < 0 := by
    rw [Int32.lt_iff_toInt_lt]
    have := Int32.le_iff_toInt_le.mp h.1
    rw [nI_toInt (by omega)] at this
    show ¬ x.toInt < 0
    omega
  obtain ⟨j, hj, e⟩ := nI_of ha0
  subst e
  have h1 := zn_le h.1 (by omega) hj
  have h2 := zn_le h.2 hj (by omega)
  rw [pk_sub h1, nI_clamp (by omega)]
  exact ⟨rfl, by omega⟩
theorem zj_5 {x : Int32} (h : 0 ≤ x ∧ x ≤ 4) : x = 0 ∨ x = 1 ∨ x = 2 ∨ x = 3 ∨ x = 4 := by
  obtain ⟨j, hj, e⟩ := nI_of2 (M := 4) (n := 4) (by decide) (zi_nlt h.1) h.2
  subst e
  match j, hj with
  | 0, _ => exact Or.inl rfl
  | 1, _ => exact Or.inr (Or.inl rfl)
  | 2, _ => exact Or.inr (Or.inr (Or.inl rfl))
  | 3, _ => exact Or.inr (Or.inr (Or.inr (Or.inl rfl)))
  | 4, _ => exact Or.inr (Or.inr (Or.inr (Or.inr rfl)))
  | n + 5, h => exact absurd h (by omega)
theorem zj_2 {x : Int32} (h : 0 ≤ x ∧ x ≤ 1) : x = 0 ∨ x = 1 := by
  obtain ⟨j, hj, e⟩ := nI_of2 (M := 1) (n := 1) (by decide) (zi_nlt h.1) h.2
  subst e
  match j, hj with
  | 0, _ => exact Or.inl rfl
  | 1, _ => exact Or.inr rfl
  | n + 2, h => exact absurd h (by omega)
def zsettled (K h : Nat → Nat → Int32) (wh r : Int32) : Prop := if 0 ≤ wh ∧ wh ≤ 3 then ((∃ R e, zset1 K R e ∧ r = if wh = 0 then nI e else if wh = 1 then nI (R - e) else if wh = 2 then zG (h 0) e R else zG (h 1) e R) ∨ (zset0 K ∧ r = (-6))) else r = (-2)
def zcask (h : Nat → Nat → Int32) (n wh r : Int32) : Prop := if (1 ≤ n ∧ n ≤ 999) ∧ 0 ≤ wh ∧ wh ≤ 1 then ((∃ R, zfil1 (zS (h 0)) n R ∧ r = if wh = 0 then nI R else zq (zS (h 1) R) (zS (h 0) R)) ∨ (zfil0 (zS (h 0)) n ∧ r = (-6))) else r = (-2)
theorem zset1_uniq {K : Nat → Nat → Int32} {R e R' e' : Nat} (h : zset1 K R e) (h' : zset1 K R' e') : R = R' ∧ e = e' := by
  obtain ⟨a1, a2, a3, a4, a5, a6⟩ := h
  obtain ⟨b1, b2, b3, b4, b5, b6⟩ := h'
  have hR : R = R' := by
    rcases Nat.lt_trichotomy R R' with q | q | q
    · exact absurd a4 (b6 R a1 q e a3)
    · exact q
    · exact absurd b4 (a6 R' b1 q e' b3)
  subst hR
  refine ⟨rfl, ?_⟩
  rcases Nat.lt_trichotomy e e' with q | q | q
  · exact absurd a4 (b5 e q)
  · exact q
  · exact absurd b4 (a5 e' q)
theorem zset_not {K : Nat → Nat → Int32} {R e : Nat} (h : zset1 K R e) (h0 : zset0 K) : False := h0 R h.1 h.2.1 e h.2.2.1 h.2.2.2.1
theorem zsettled_uniq {K h : Nat → Nat → Int32} {wh r r' : Int32} (a : zsettled K h wh r) (b : zsettled K h wh r') : r = r' := by
  unfold zsettled at a b
  by_cases hw : 0 ≤ wh ∧ wh ≤ 3
  · rw [if_pos hw] at a b
    rcases a with ⟨R, e, h1, h2⟩ | ⟨h1, h2⟩
    · rcases b with ⟨R', e', h1', h2'⟩ | ⟨h1', h2'⟩
      · obtain ⟨rfl, rfl⟩ := zset1_uniq h1 h1'
        rw [h2, h2']
      · exact (zset_not h1 h1').elim
    · rcases b with ⟨R', e', h1', h2'⟩ | ⟨h1', h2'⟩
      · exact (zset_not h1' h1).elim
      · rw [h2, h2']
  · rw [if_neg hw] at a b
    rw [a, b]
theorem zfil1_uniq {S : Nat → Int32} {n : Int32} {R R' : Nat} (h : zfil1 S n R) (h' : zfil1 S n R') : R = R' := by
  obtain ⟨a1, a2, a3, a4⟩ := h
  obtain ⟨b1, b2, b3, b4⟩ := h'
  rcases Nat.lt_trichotomy R R' with q | q | q
  · exact absurd a3 (b4 R a1 q)
  · exact q
  · exact absurd b3 (a4 R' b1 q)
theorem zcask_uniq {h : Nat → Nat → Int32} {n wh r r' : Int32} (a : zcask h n wh r) (b : zcask h n wh r') : r = r' := by
  unfold zcask at a b
  by_cases hw : (1 ≤ n ∧ n ≤ 999) ∧ 0 ≤ wh ∧ wh ≤ 1
  · rw [if_pos hw] at a b
    rcases a with ⟨R, h1, h2⟩ | ⟨h1, h2⟩
    · rcases b with ⟨R', h1', h2'⟩ | ⟨h1', h2'⟩
      · obtain rfl := zfil1_uniq h1 h1'
        rw [h2, h2']
      · exact absurd h1.2.2.1 (h1' R h1.1 h1.2.1)
    · rcases b with ⟨R', h1', h2'⟩ | ⟨h1', h2'⟩
      · exact absurd h1'.2.2.1 (h1 R' h1'.1 h1'.2.1)
      · rw [h2, h2']
  · rw [if_neg hw] at a b
    rw [a, b]
/-- of the heart on a page -/
def zpage (bk : Nat) (n0 n1 n2 n3 : Nat → Int32) (p0 p1 : Int32) : Int32 := if 0 ≤ p0 ∧ p0 ≤ nI bk - 1 then (if 0 ≤ p1 ∧ p1 ≤ 5 then zt p1 (n0 p0.toNatClampNeg) (n1 p0.toNatClampNeg) (n2 p0.toNatClampNeg) (n3 p0.toNatClampNeg) else (-2)) else (-1)
theorem zpage_ix {bk : Nat} {i : Int32} (hb : bk ≤ 12) (h : 0 ≤ i ∧ i ≤ nI bk - 1) : i = nI i.toNatClampNeg ∧ i.toNatClampNeg < bk := by
  have h2 : (nI bk - 1).toInt = (bk : Int) - 1 := pk_sub_toInt (a := bk) (b := 1) (by omega) (by decide)
  have hb : i.toInt ≤ (bk : Int) - 1 := by
    have := Int32.le_iff_toInt_le.mp h.2
    rw [h2] at this
    exact this
  obtain ⟨j, hj, e⟩ := nI_of (zi_nlt h.1)
  have hji : i.toInt = j := by rw [e]; exact nI_toInt hj
  rw [e, nI_clamp hj]
  exact ⟨rfl, by omega⟩
