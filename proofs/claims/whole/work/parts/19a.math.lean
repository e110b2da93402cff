/-! ranges: what the told numbers keep to, and what follows of a run -/
def zr (M : Nat) (x : Int32) : Prop := ∃ n : Nat, n ≤ M ∧ x = nI n
theorem zr_of {M : Nat} {N x : Int32} (hN : N.toInt = M) (h : 0 ≤ x ∧ x ≤ N) : zr M x := by
  obtain ⟨j, hj, e⟩ := nI_of2 hN (zi_nlt h.1) h.2
  exact ⟨j, hj, e⟩
theorem zr_pos {M : Nat} {x : Int32} (hM : M < 2 ^ 31) (h : zr M x) : ¬ x < 0 := by
  obtain ⟨n, hn, rfl⟩ := h
  exact nI_pos (by omega)
theorem zr_le {M : Nat} {x : Int32} (hM : M < 2 ^ 31) (h : zr M x) : x ≤ nI M := by
  obtain ⟨n, hn, rfl⟩ := h
  exact nI_le hn hM
theorem zr_up {M N : Nat} {x : Int32} (h : zr M x) (hMN : M ≤ N) : zr N x := by
  obtain ⟨n, hn, e⟩ := h
  exact ⟨n, by omega, e⟩
theorem zr_add {M N : Nat} {x y : Int32} (hx : zr M x) (hy : zr N y) : zr (M + N) (x + y) := by
  obtain ⟨m, hm, rfl⟩ := hx
  obtain ⟨n, hn, rfl⟩ := hy
  exact ⟨m + n, by omega, nI_add m n⟩
theorem zr_mul {M N : Nat} {x y : Int32} (hx : zr M x) (hy : zr N y) : zr (M * N) (x * y) := by
  obtain ⟨m, hm, rfl⟩ := hx
  obtain ⟨n, hn, rfl⟩ := hy
  exact ⟨m * n, Nat.mul_le_mul hm hn, pk_mul m n⟩
theorem zbm {x : Int} (h1 : -2147483648 ≤ x) (h2 : x < 2147483648) : x.bmod (2 ^ 32) = x := by
  apply Int.bmod_eq_of_le <;> omega
theorem zneg_div {m : Nat} (hm : m < 2 ^ 30) {x : Int32} (hx : x.toInt = -(m : Int)) : (x / 100).toInt = -((m / 100 : Nat) : Int) := by
  rw [Int32.toInt_div, hx]
  have e : (100 : Int32).toInt = 100 := by decide
  rw [e, Int.neg_tdiv]
  have e2 : ((m : Int)).tdiv 100 = ((m / 100 : Nat) : Int) := rfl
  rw [e2]
  exact zbm (by omega) (by omega)
theorem zov_dn {i j t : Nat} (hi : i ≤ 1000) (hj : j < i) (ht : t < 100) : nI i + (nI j - nI i) * nI t / 100 = nI (i - (i - j) * t / 100) := by
  have hm : (i - j) * t ≤ 1000 * 100 := Nat.mul_le_mul (by omega) (by omega)
  have hm2 : (i - j) * t / 100 ≤ i := by
    have : (i - j) * t ≤ i * 100 := Nat.mul_le_mul (by omega) (by omega)
    omega
  have h1 : ((nI j - nI i) * nI t).toInt = -(((i - j) * t : Nat) : Int) := by
    rw [Int32.toInt_mul, pk_sub_toInt (by omega) (by omega), nI_toInt (by omega)]
    have e : ((j : Int) - i) * t = -(((i - j) * t : Nat) : Int) := by
      rw [Int.natCast_mul, Int.ofNat_sub (by omega), ← Int.neg_mul]
      congr 1
      omega
    rw [e]
    exact zbm (by omega) (by omega)
  have h2 := zneg_div (by omega) h1
  apply Int32.toInt_inj.mp
  rw [Int32.toInt_add, h2, nI_toInt (by omega), nI_toInt (by omega)]
  rw [zbm (by omega) (by omega)]
  omega
theorem zov_up {i j t : Nat} (hj : j ≤ 1000) (hi : i ≤ j) (ht : t < 100) : nI i + (nI j - nI i) * nI t / 100 = nI (i + (j - i) * t / 100) := by
  have hm : (j - i) * t ≤ 1000 * 100 := Nat.mul_le_mul (by omega) (by omega)
  have e : (nI ((j - i) * t)) / 100 = nI ((j - i) * t / 100) := pk_div (d := 100) (by omega) (by decide) (by decide)
  rw [pk_sub hi, pk_mul, e, nI_add]
theorem zov_rng {pl : Nat → Int32} (h : ∀ j, j < 11 → zr 1000 (pl j)) {q : Nat} (hq : q ≤ 1000) : zr 1000 (zov pl q) := by
  unfold zov
  by_cases h1 : q / 100 < 10
  · rw [if_pos h1]
    obtain ⟨i, hi, ei⟩ := h (q / 100) (by omega)
    obtain ⟨j, hj, ej⟩ := h (q / 100 + 1) (by omega)
    rw [ei, ej]
    have ht : q % 100 < 100 := Nat.mod_lt _ (by decide)
    by_cases hij : i ≤ j
    · rw [zov_up hj hij ht]
      have : (j - i) * (q % 100) ≤ (j - i) * 100 := Nat.mul_le_mul (Nat.le_refl _) (by omega)
      exact ⟨_, by omega, rfl⟩
    · rw [zov_dn hi (by omega) ht]
      exact ⟨_, by omega, rfl⟩
  · rw [if_neg h1]
    exact h 10 (by decide)
theorem zy_rng {pl : Nat → Int32} (h : ∀ j, j < 11 → zr 1000 (pl j)) (P : Nat → Int32) : zr 1000 (zy pl P) := zov_rng h (zcl_le _)
/-- the spirit that goes over, the spirit that stays -/
theorem zl1_rng {y p1 : Int32} {M : Nat} (hM : M < 2 ^ 31) (hy : zr 1000 y) (hp : zr M p1) : zr 1000 (zl1 y p1) ∧ zr M (p1 - zl1 y p1) := by
  obtain ⟨i, hi, rfl⟩ := hy
  obtain ⟨j, hj, rfl⟩ := hp
  unfold zl1
  by_cases h : j < i
  · rw [if_pos (nI_lt h (by omega)), pk_sub (Nat.le_refl _)]
    exact ⟨⟨j, by omega, rfl⟩, ⟨j - j, by omega, rfl⟩⟩
  · rw [if_neg (nI_nlt (by omega) (by omega)), pk_sub (by omega)]
    exact ⟨⟨i, by omega, rfl⟩, ⟨j - i, by omega, rfl⟩⟩
theorem zP1_rng {pl ru c : Nat → Int32} {M : Nat} (hM : M < 2 ^ 31) (h : ∀ j, j < 11 → zr 1000 (pl j)) (hc : zr M (c 1)) : ∀ i, zr M (zP pl ru c i 1)
  | 0 => hc
  | i + 1 => (zl1_rng hM (zy_rng h (zP pl ru c i)) (zP1_rng hM h hc i)).2
theorem zL1_rng {pl ru c : Nat → Int32} {M : Nat} (hM : M < 2 ^ 31) (h : ∀ j, j < 11 → zr 1000 (pl j)) (hc : zr M (c 1)) (j : Nat) : zr 1000 (zL pl ru c 1 j) := (zl1_rng hM (zy_rng h (zP pl ru c j)) (zP1_rng hM h hc j)).1
theorem zG_rng {f : Nat → Int32} {M : Nat} (h : ∀ j, zr M (f j)) {a : Nat} : ∀ n, zr (M * n) (zG f a (a + n))
  | 0 => by
    rw [Nat.add_zero, zG_self]
    exact ⟨0, Nat.zero_le _, rfl⟩
  | n + 1 => by
    rw [← Nat.add_assoc, ← zG_s (f := f) (a := a) (i := a + n) rfl, Nat.mul_succ]
    exact zr_add (zG_rng h n) (h _)
theorem zG_rng' {f : Nat → Int32} {M : Nat} (h : ∀ j, zr M (f j)) {a b : Nat} (hab : a ≤ b) : zr (M * (b - a)) (zG f a b) := by
  have h1 := zG_rng h (a := a) (b - a)
  rw [show a + (b - a) = b by omega] at h1
  exact h1
/-- what is kept keeps to this -/
def zkr (k : Nat → Int32) : Prop := zr 40 (k 0) ∧ zr 40000 (k 1)
/-- the wash, the table, the rules as told -/
def zwr (w pl ru : Nat → Int32) : Prop := zr 30 (w 0) ∧ zr 300 (w 1) ∧ (∀ j, j < 11 → zr 1000 (pl j)) ∧ zr 9 (ru 0) ∧ zr 1000 (ru 2) ∧ (1 ≤ ru 4 ∧ ru 4 ≤ 99)
theorem zch1 {w pl ru k : Nat → Int32} (h : zwr w pl ru) (hk : zkr k) : zr 49000 (zch w k 1) := zr_up (zr_add (zr_mul h.1 h.2.1) hk.2) (by decide)
theorem zch0 {w pl ru k : Nat → Int32} (h : zwr w pl ru) (hk : zkr k) : zr 70 (zch w k 0) := zr_up (zr_add h.1 hk.1) (by decide)
theorem zinv_sp {w pl ru k : Nat → Int32} (h : zwr w pl ru) (hk : zkr k) (i : Nat) : ¬ zP pl ru (zch w k) i 1 < 0 := zr_pos (by decide) (zP1_rng (by decide) h.2.2.1 (zch1 h hk) i)
theorem zinv_L1 {w pl ru k : Nat → Int32} (h : zwr w pl ru) (hk : zkr k) (j : Nat) : zr 1000 (zL pl ru (zch w k) 1 j) := zL1_rng (by decide) h.2.2.1 (zch1 h hk) j
theorem zinv_B1 {w pl ru k : Nat → Int32} (h : zwr w pl ru) (hk : zkr k) (fo : Nat) (cut : Int32) : ¬ zBc pl ru (zch w k) fo cut 1 < 0 := by
  have h1 := zT_in (zY pl ru (zch w k)) (zN pl ru (zch w k)) fo cut
  have h2 := zN_le pl ru (zch w k)
  refine zr_pos (M := 1000 * (zT (zY pl ru (zch w k)) (zN pl ru (zch w k)) fo cut - min fo (zN pl ru (zch w k)))) ?_ (zG_rng' (zinv_L1 h hk) h1.1)
  have : 1000 * (zT (zY pl ru (zch w k)) (zN pl ru (zch w k)) fo cut - min fo (zN pl ru (zch w k))) ≤ 1000 * 40 := Nat.mul_le_mul (Nat.le_refl _) (by omega)
  omega
theorem zinv_K1 {w pl ru k : Nat → Int32} (h : zwr w pl ru) (hk : zkr k) : zkr (zK1 w pl ru k) := by
  have h1 := zte_in pl ru (zch w k)
  have h2 := zN_le pl ru (zch w k)
  refine ⟨?_, ?_⟩
  · show zr 40 (zA pl ru (zch w k) 0 + zD pl ru (zch w k) 0)
    unfold zA zD
    rw [zG_one (zL0 _ _ _) (Nat.zero_le _), zG_one (zL0 _ _ _) h1.2, nI_add]
    exact ⟨_, by omega, rfl⟩
  · show zr 40000 (zA pl ru (zch w k) 1 + zD pl ru (zch w k) 1)
    refine zr_up (zr_add (zG_rng' (zinv_L1 h hk) (Nat.zero_le _)) (zG_rng' (zinv_L1 h hk) h1.2)) ?_
    omega
theorem zinv_Kr {w pl ru k : Nat → Int32} (h : zwr w pl ru) (hk : zkr k) : ∀ r, zkr (zKr w pl ru k r)
  | 0 => hk
  | r + 1 => zinv_K1 h (zinv_Kr h hk r)
theorem zP0_eq (pl ru c : Nat → Int32) : ∀ i, zP pl ru c i 0 = c 0 - nI i
  | 0 => (Int32.sub_zero _).symm
  | i + 1 => by
    show zP pl ru c i 0 - 1 = c 0 - nI (i + 1)
    rw [zP0_eq pl ru c i, ← nI_1 i, Int32.sub_sub]
theorem zinv_P0 {w pl ru k : Nat → Int32} (h : zwr w pl ru) (hk : zkr k) : ¬ zP pl ru (zch w k) (zN pl ru (zch w k)) 0 < 0 := by
  obtain ⟨n, hn, e⟩ := zch0 h hk
  rcases Nat.eq_zero_or_pos (zN pl ru (zch w k)) with q | q
  · rw [q]
    exact zr_pos (M := 70) (by decide) ⟨n, hn, e⟩
  · have hg := (zN_go pl ru (zch w k) (j := zN pl ru (zch w k) - 1) (by omega)).1
    rw [zP0_eq, e] at hg
    have hN := zN_le pl ru (zch w k)
    rw [zP0_eq, e]
    rcases Nat.lt_or_ge n (zN pl ru (zch w k)) with hl | hl
    · exfalso
      refine hg ?_
      rcases Nat.lt_or_ge n (zN pl ru (zch w k) - 1) with h3 | h3
      · exact Int32.le_trans (Int32.le_of_lt (pk_sneg (by omega) h3)) (by decide)
      · rw [pk_sub h3, show n - (zN pl ru (zch w k) - 1) = 0 by omega]
        decide
    · rw [pk_sub hl]
      exact nI_pos (by omega)
