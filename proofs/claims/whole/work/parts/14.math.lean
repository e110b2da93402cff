/-! the reference's state: 75 ints; its rows as the class's -/
def zpl (s : Nat → Int32) : Nat → Int32 := fun j => s (4 + j)
def zru (s : Nat → Int32) : Nat → Int32 := fun j => s (15 + j)
def zkk (s : Nat → Int32) : Nat → Int32 := fun j => s (21 + j)
theorem zsr_q {a b : Int32} (hb : ¬ b < 0) (h : b = 0) : (0 : Int32) = zq a b := by
  subst h
  rfl
theorem zq_ne {a b : Int32} (hb : ¬ b < 0) (h : ¬ b = 0) : a / b = zq a b := by
  obtain ⟨j, hj, rfl⟩ := nI_of hb
  unfold zq
  rw [if_pos]
  refine nI_lt (a := 0) ?_ hj
  by_cases e : j = 0
  · subst e
    exact absurd rfl h
  · omega
theorem zl1_ge (y p1 : Int32) : (if p1 ≤ y then p1 else y) = zl1 y p1 := by
  unfold zl1
  by_cases h : p1 < y
  · rw [if_pos h, if_pos (Int32.le_of_lt h)]
  · rw [if_neg h]
    by_cases h2 : p1 ≤ y
    · rw [if_pos h2]
      exact Int32.le_antisymm h2 (zi_le h)
    · rw [if_neg h2]
theorem zl2_ge (p2 fa : Int32) : (if p2 ≤ p2 * fa / 10 + 1 then p2 else p2 * fa / 10 + 1) = zl2 p2 fa := zl1_ge (p2 * fa / 10 + 1) p2
theorem zcl_pos {x : Int32} (h : ¬ x < 0) : (if x ≤ 1000 then x else 1000) = nI (zcl x) := by
  obtain ⟨j, hj, rfl⟩ := nI_of h
  unfold zcl
  rw [nI_clamp hj]
  by_cases h1 : j ≤ 1000
  · rw [if_pos (show nI j ≤ 1000 from nI_le (b := 1000) h1 (by decide)), Nat.min_eq_right h1]
  · rw [if_neg (show ¬ nI j ≤ 1000 from nI_ge (a := 1000) (by omega) hj), Nat.min_eq_left (by omega)]
    rfl
theorem zq_pos {a b : Int32} (ha : ¬ a < 0) (hb : ¬ b < 0) : ¬ zq a b < 0 := by
  obtain ⟨i, hi, rfl⟩ := nI_of ha
  obtain ⟨j, hj, rfl⟩ := nI_of hb
  unfold zq
  by_cases h : j = 0
  · subst h
    rw [if_neg (show ¬ (0 : Int32) < nI 0 by decide)]
    decide
  · rw [if_pos (show (0 : Int32) < nI j from nI_lt (a := 0) (by omega) hj), pk_div hi (by omega) hj]
    exact nI_pos (Nat.lt_of_le_of_lt (Nat.div_le_self _ _) hi)
/-- the rows of litres that went over -/
def zgn (pl ru c g : Nat → Int32) (n : Nat) : Prop := ∀ j, j < n → g (4 * j) = zY pl ru c j ∧ g (4 * j + 1) = zL pl ru c 1 j ∧ g (4 * j + 2) = zL pl ru c 2 j ∧ g (4 * j + 3) = zL pl ru c 3 j
theorem zgn_s {pl ru c g : Nat → Int32} {n : Nat} {v0 v1 v2 v3 : Int32} (h : zgn pl ru c g n) (h0 : v0 = zY pl ru c n) (h1 : v1 = zL pl ru c 1 n) (h2 : v2 = zL pl ru c 2 n) (h3 : v3 = zL pl ru c 3 n) : zgn pl ru c (upd (upd (upd (upd g (4 * n) v0) (4 * n + 1) v1) (4 * n + 2) v2) (4 * n + 3) v3) (n + 1) := by
  intro j hj
  by_cases e : j = n
  · subst e
    refine ⟨?_, ?_, ?_, ?_⟩
    · rw [pk_un (by omega), pk_un (by omega), pk_un (by omega), pk_us, h0]
    · rw [pk_un (by omega), pk_un (by omega), pk_us, h1]
    · rw [pk_un (by omega), pk_us, h2]
    · rw [pk_us, h3]
  · obtain ⟨a, b, d, f⟩ := h j (by omega)
    refine ⟨?_, ?_, ?_, ?_⟩
    · rw [pk_un (by omega), pk_un (by omega), pk_un (by omega), pk_un (by omega)]; exact a
    · rw [pk_un (by omega), pk_un (by omega), pk_un (by omega), pk_un (by omega)]; exact b
    · rw [pk_un (by omega), pk_un (by omega), pk_un (by omega), pk_un (by omega)]; exact d
    · rw [pk_un (by omega), pk_un (by omega), pk_un (by omega), pk_un (by omega)]; exact f
/-- four places of a row -/
theorem zar_4 {g F : Nat → Int32} (h0 : g 0 = F 0) (h1 : g 1 = F 1) (h2 : g 2 = F 2) (h3 : g 3 = F 3) : zar g F 4 := by
  intro j hj
  match j, hj with
  | 0, _ => exact h0
  | 1, _ => exact h1
  | 2, _ => exact h2
  | 3, _ => exact h3
  | n + 4, h => exact absurd h (by omega)
theorem zar_pot {pl ru c g : Nat → Int32} {i : Nat} {y : Int32} (h : zar g (zP pl ru c i) 4) (hy : y = zy pl (zP pl ru c i)) (hq : zl3 (g 3) y (ru 4) = g 3 * (1000 - y) / (1000 * ru 4)) : zar (upd (upd (upd (upd g 0 (g 0 - 1)) 1 (g 1 - zl1 y (g 1))) 2 (g 2 - zl2 (g 2) (ru 3))) 3 (g 3 - g 3 * (1000 - y) / (1000 * ru 4))) (zP pl ru c (i + 1)) 4 := by
  have e0 := h 0 (by decide)
  have e1 := h 1 (by decide)
  have e2 := h 2 (by decide)
  have e3 := h 3 (by decide)
  refine zar_4 ?_ ?_ ?_ ?_
  · show g 0 - 1 = zP pl ru c i 0 - 1
    rw [e0]
  · show g 1 - zl1 y (g 1) = zP pl ru c i 1 - zl1 (zy pl (zP pl ru c i)) (zP pl ru c i 1)
    rw [e1, hy]
  · show g 2 - zl2 (g 2) (ru 3) = zP pl ru c i 2 - zl2 (zP pl ru c i 2) (ru 3)
    rw [e2]
  · show g 3 - g 3 * (1000 - y) / (1000 * ru 4) = zP pl ru c i 3 - zl3 (zP pl ru c i 3) (zy pl (zP pl ru c i)) (ru 4)
    rw [← hq, e3, hy]
theorem zsl_pos {x : Int32} (h : 1 ≤ x ∧ x ≤ 99) : 0 < 1000 * x ∧ ¬ 1000 * x = 0 := by
  obtain ⟨j, hj, rfl⟩ := nI_of2 (M := 99) (n := 99) (by decide) (fun q => zi_nle q (Int32.le_trans (by decide) h.1)) h.2
  have h1 : 1 ≤ j := zn_le (a := 1) h.1 (by decide) (by omega)
  have e : (1000 : Int32) * nI j = nI (1000 * j) := pk_mul 1000 j
  rw [e]
  exact ⟨nI_lt (a := 0) (by omega) (by omega), nI_ne0 (by omega) (by omega)⟩
theorem zl3_eq {p3 y x : Int32} (h : 1 ≤ x ∧ x ≤ 99) : zl3 p3 y x = p3 * (1000 - y) / (1000 * x) := if_pos (zsl_pos h).1
/-- a litre's part k out of the rows -/
def zcm (g : Nat → Int32) : Nat → Nat → Int32 := fun k j => match k with
  | 0 => 1
  | k + 1 => g (4 * j + (k + 1))
theorem zcm_ar {pl ru c g : Nat → Int32} {n : Nat} (h : zgn pl ru c g n) : ∀ k, k < 4 → zar (zcm g k) (zL pl ru c k) n := by
  intro k hk j hj
  match k, hk with
  | 0, _ => rfl
  | 1, _ => exact (h j hj).2.1
  | 2, _ => exact (h j hj).2.2.1
  | 3, _ => exact (h j hj).2.2.2
  | n + 4, h => exact absurd h (by omega)
theorem zgy_ar {pl ru c g : Nat → Int32} {n : Nat} (h : zgn pl ru c g n) : zar (fun j => g (4 * j)) (zY pl ru c) n := fun j hj => (h j hj).1
/-- where the reference says that tails begin -/
theorem zTr_at {y : Nat → Int32} {n fo t : Nat} {cut : Int32} (h1 : fo ≤ t) (h2 : t ≤ n ∨ t = fo) (hg : ∀ j, fo ≤ j → j < t → ¬ y j < cut) (he : n ≤ t ∨ y t < cut) : t = max fo (zT y n fo cut) := by
  have hin := zT_in y n fo cut
  by_cases hf : n ≤ fo
  · have : t = fo := by omega
    omega
  · have hm : min fo n = fo := by omega
    have e := zT_at (y := y) (n := n) (fo := fo) (t := t) (cut := cut) (by omega) (by omega) (fun j a b => hg j (by omega) b) (by
      rcases he with he | he
      · left; omega
      · right; exact he)
    omega
def zsum (f g : Nat → Int32) (a b : Nat) (k : Nat) : Int32 := f k + zG (zcm g k) a b
theorem zsum_0 (f g : Nat → Int32) (a : Nat) : zar f (zsum f g a a) 4 := by
  intro j _
  unfold zsum
  rw [← zG_0, Int32.add_zero]
theorem zsum_s {f g h : Nat → Int32} {a i : Nat} (hz : zar h (zsum f g a i) 4) : zar (upd (upd (upd (upd h 0 (h 0 + 1)) 1 (h 1 + g (4 * i + 1))) 2 (h 2 + g (4 * i + 2))) 3 (h 3 + g (4 * i + 3))) (zsum f g a (i + 1)) 4 := by
  have key : ∀ k, k < 4 → h k + zcm g k i = zsum f g a (i + 1) k := by
    intro k hk
    rw [hz k hk]
    unfold zsum
    rw [Int32.add_assoc, ← zG_s (f := zcm g k) (a := a) (i := i) rfl]
  exact zar_4 (key 0 (by decide)) (key 1 (by decide)) (key 2 (by decide)) (key 3 (by decide))
theorem zG_self (f : Nat → Int32) (a : Nat) : zG f a a = 0 := Int32.sub_self _
/-- the heart, as the reference sums it -/
theorem zheart {f g y : Nat → Int32} {n fo : Nat} {cut : Int32} {k : Nat} (h0 : f k = 0) : zsum f g fo (max fo (min (max fo (zT y n fo cut)) n)) k = zG (zcm g k) (min fo n) (zT y n fo cut) := by
  have hin := zT_in y n fo cut
  unfold zsum
  rw [h0, Int32.zero_add]
  by_cases hf : n ≤ fo
  · have e1 : max fo (min (max fo (zT y n fo cut)) n) = fo := by omega
    have e2 : min fo n = n := by omega
    have e3 : zT y n fo cut = n := by omega
    rw [e1, e2, e3, zG_self, zG_self]
  · have e1 : max fo (min (max fo (zT y n fo cut)) n) = zT y n fo cut := by omega
    have e2 : min fo n = fo := by omega
    rw [e1, e2]
/-- what is kept, as the reference sums it -/
theorem zkeep {f f2 g y : Nat → Int32} {n fo : Nat} {cut : Int32} {k : Nat} (hn : n ≤ 40) (h0 : f k = 0) (h1 : f2 k = zsum f g 0 (max 0 (min fo n)) k) : zsum f2 g (max fo (zT y n fo cut)) (max (max fo (zT y n fo cut)) (min 40 n)) k = zG (zcm g k) 0 (min fo n) + zG (zcm g k) (zT y n fo cut) n := by
  have hin := zT_in y n fo cut
  have h2 : f2 k = zG (zcm g k) 0 (min fo n) := by
    rw [h1]
    unfold zsum
    rw [h0, Int32.zero_add, show max 0 (min fo n) = min fo n by omega]
  unfold zsum
  rw [h2]
  by_cases hf : n ≤ fo
  · have e1 : max (max fo (zT y n fo cut)) (min 40 n) = max fo (zT y n fo cut) := by omega
    have e3 : zT y n fo cut = n := by omega
    rw [e1, e3, zG_self, zG_self]
  · have e1 : max (max fo (zT y n fo cut)) (min 40 n) = n := by omega
    have e2 : max fo (zT y n fo cut) = zT y n fo cut := by omega
    rw [e1, e2]
/-- pages drop by one -/
def zdp (s : Nat → Int32) (a k : Nat) : Nat → Int32 := fun j => if a ≤ j ∧ j < k then s (j + 4) else s j
theorem zdp_0 (s : Nat → Int32) (a : Nat) : s = zdp s a a := by
  funext j
  unfold zdp
  rw [if_neg (by omega)]
theorem zdp_s {s g : Nat → Int32} {a k : Nat} (ha : a ≤ k) (h : g = zdp s a k) : upd g k (g (k + 4)) = zdp s a (k + 1) := by
  subst h
  funext j
  unfold upd zdp
  by_cases e : j = k
  · subst e
    rw [if_pos rfl, if_neg (by omega), if_pos (by omega)]
  · rw [if_neg e]
    by_cases e2 : a ≤ j ∧ j < k
    · rw [if_pos e2, if_pos (by omega)]
    · rw [if_neg e2, if_neg (by omega)]
/-! runs laid one behind the other -/
def zks (K : Nat → Nat → Int32) (g : Nat → Int32) (n : Nat) : Prop := ∀ r, r < n → g (4 * r) = K r 0 ∧ g (4 * r + 1) = K r 1 ∧ g (4 * r + 2) = K r 2 ∧ g (4 * r + 3) = K r 3
theorem zks_s {K : Nat → Nat → Int32} {g : Nat → Int32} {n : Nat} {v0 v1 v2 v3 : Int32} (h : zks K g n) (h0 : v0 = K n 0) (h1 : v1 = K n 1) (h2 : v2 = K n 2) (h3 : v3 = K n 3) : zks K (upd (upd (upd (upd g (4 * n) v0) (4 * n + 1) v1) (4 * n + 2) v2) (4 * n + 3) v3) (n + 1) := by
  intro j hj
  by_cases e : j = n
  · subst e
    refine ⟨?_, ?_, ?_, ?_⟩
    · rw [pk_un (by omega), pk_un (by omega), pk_un (by omega), pk_us, h0]
    · rw [pk_un (by omega), pk_un (by omega), pk_us, h1]
    · rw [pk_un (by omega), pk_us, h2]
    · rw [pk_us, h3]
  · obtain ⟨a, b, d, f⟩ := h j (by omega)
    refine ⟨?_, ?_, ?_, ?_⟩
    · rw [pk_un (by omega), pk_un (by omega), pk_un (by omega), pk_un (by omega)]; exact a
    · rw [pk_un (by omega), pk_un (by omega), pk_un (by omega), pk_un (by omega)]; exact b
    · rw [pk_un (by omega), pk_un (by omega), pk_un (by omega), pk_un (by omega)]; exact d
    · rw [pk_un (by omega), pk_un (by omega), pk_un (by omega), pk_un (by omega)]; exact f
def zhs (h : Nat → Nat → Int32) (g : Nat → Int32) (n : Nat) : Prop := ∀ r, r < n → g (2 * r) = h r 0 ∧ g (2 * r + 1) = h r 1
theorem zhs_s {h : Nat → Nat → Int32} {g : Nat → Int32} {n : Nat} {v0 v1 : Int32} (hz : zhs h g n) (h0 : v0 = h n 0) (h1 : v1 = h n 1) : zhs h (upd (upd g (2 * n) v0) (2 * n + 1) v1) (n + 1) := by
  intro j hj
  by_cases e : j = n
  · subst e
    refine ⟨?_, ?_⟩
    · rw [pk_un (by omega), pk_us, h0]
    · rw [pk_us, h1]
  · obtain ⟨a, b⟩ := hz j (by omega)
    refine ⟨?_, ?_⟩
    · rw [pk_un (by omega), pk_un (by omega)]; exact a
    · rw [pk_un (by omega), pk_un (by omega)]; exact b
def zal (g : Nat → Int32) (a b : Nat) : Prop := g (4 * a + 0) = g (4 * b + 0) ∧ g (4 * a + 1) = g (4 * b + 1) ∧ g (4 * a + 2) = g (4 * b + 2) ∧ g (4 * a + 3) = g (4 * b + 3)
theorem zal_same {K : Nat → Nat → Int32} {g : Nat → Int32} {n a b : Nat} (h : zks K g n) (ha : a < n) (hb : b < n) : zal g a b ↔ zsame K a b := by
  obtain ⟨a0, a1, a2, a3⟩ := h a ha
  obtain ⟨b0, b1, b2, b3⟩ := h b hb
  unfold zal zsame
  rw [Nat.add_zero, Nat.add_zero, a0, a1, a2, a3, b0, b1, b2, b3]
theorem zG_congr' {f g : Nat → Int32} {a b : Nat} (hab : a ≤ b) (h : ∀ j, j < b → f j = g j) : zG f a b = zG g a b := zG_congr (n := b) h hab (Nat.le_refl _)
/-- the heart and what is kept, out of the rows, are the run's -/
theorem zheart_run {pl ru c g : Nat → Int32} {fo : Nat} {cut : Int32} {k : Nat} (hk : k < 4) (h : zgn pl ru c g (zN pl ru c)) : zG (zcm g k) (min fo (zN pl ru c)) (zT (fun j => g (4 * j)) (zN pl ru c) fo cut) = zBc pl ru c fo cut k := by
  unfold zBc
  rw [zT_congr (zgy_ar h)]
  exact zG_congr (zcm_ar h k hk) (Nat.min_le_right _ _) (zT_in _ _ _ _).2
theorem zkeep_run {pl ru c g : Nat → Int32} {k : Nat} (hk : k < 4) (h : zgn pl ru c g (zN pl ru c)) : zG (zcm g k) 0 (min (zfo ru) (zN pl ru c)) + zG (zcm g k) (zT (fun j => g (4 * j)) (zN pl ru c) (zfo ru) (ru 1)) (zN pl ru c) = zA pl ru c k + zD pl ru c k := by
  have hin := zte_in pl ru c
  unfold zA zD
  rw [zT_congr (zgy_ar h), zG_congr (zcm_ar h k hk) (Nat.zero_le _) (Nat.min_le_right _ _)]
  congr 1
  exact zG_congr (zcm_ar h k hk) (zT_in _ _ _ _).2 (Nat.le_refl _)
theorem zBc_B (pl ru c : Nat → Int32) (k : Nat) : zBc pl ru c (zfo ru) (ru 1) k = zB pl ru c k := rfl
/-- heads have one litre each: the litres of a part are counted -/
theorem zS_one (f : Nat → Int32) (h : ∀ j, f j = 1) : ∀ n, zS f n = nI n
  | 0 => rfl
  | n + 1 => by
    show zS f n + f n = nI (n + 1)
    rw [zS_one f h n, h n]
    exact nI_1 n
theorem zG_one {f : Nat → Int32} (h : ∀ j, f j = 1) {a b : Nat} (hab : a ≤ b) : zG f a b = nI (b - a) := by
  unfold zG
  rw [zS_one f h, zS_one f h, pk_sub hab]
theorem zL0 (pl ru c : Nat → Int32) (j : Nat) : zL pl ru c 0 j = 1 := rfl
theorem zBc_0 (pl ru c : Nat → Int32) (fo : Nat) (cut : Int32) : zBc pl ru c fo cut 0 = nI (zT (zY pl ru c) (zN pl ru c) fo cut - min fo (zN pl ru c)) := zG_one (zL0 pl ru c) (zT_in _ _ _ _).1
theorem zBc_0p (pl ru c : Nat → Int32) (fo : Nat) (cut : Int32) : ¬ zBc pl ru c fo cut 0 < 0 := by
  rw [zBc_0]
  have h1 := (zT_in (zY pl ru c) (zN pl ru c) fo cut).2
  have h2 := zN_le pl ru c
  exact nI_pos (by omega)
theorem zA_0p (pl ru c : Nat → Int32) : ¬ zA pl ru c 0 < 0 := by
  unfold zA
  rw [zG_one (zL0 pl ru c) (Nat.zero_le _)]
  have h1 : zhe pl ru c ≤ zN pl ru c := Nat.min_le_right _ _
  have h2 := zN_le pl ru c
  exact nI_pos (by omega)
theorem zD_0p (pl ru c : Nat → Int32) : ¬ zD pl ru c 0 < 0 := by
  unfold zD
  rw [zG_one (zL0 pl ru c) (zte_in pl ru c).2]
  have h2 := zN_le pl ru c
  exact nI_pos (by omega)
theorem zw_2 {x : Int32} (h : 0 ≤ x ∧ x ≤ 3) (h0 : ¬ x = 0) (h1 : ¬ x = 1) : x - 2 = nI (x - 2).toNatClampNeg ∧ (x - 2).toNatClampNeg ≤ 1 := by
  obtain ⟨j, hj, e⟩ := nI_of2 (M := 3) (n := 3) (by decide) (zi_nlt h.1) h.2
  subst e
  match j, hj with
  | 0, _ => exact absurd rfl h0
  | 1, _ => exact absurd rfl h1
  | 2, _ => exact ⟨rfl, by decide⟩
  | 3, _ => exact ⟨rfl, by decide⟩
  | n + 4, h => exact absurd h (by omega)
theorem zset_hs {w pl ru k g : Nat → Int32} {x : Int32} {e R : Nat} (hz : zhs (fun r i => zHs w pl ru k i r) g 300) (h0 : ¬ x = 0) (h1 : ¬ x = 1) (h2 : (x - 2).toNatClampNeg ≤ 1) (he : e ≤ R) (hR : R ≤ 300) (hx : x - 2 = nI (x - 2).toNatClampNeg) : zG (fun j => g (2 * j + (x - 2).toNatClampNeg)) e R = if x = 0 then nI e else if x = 1 then nI (R - e) else if x = 2 then zG (zHs w pl ru k 0) e R else zG (zHs w pl ru k 1) e R := by
  rw [if_neg h0, if_neg h1]
  by_cases h : x = 2
  · rw [if_pos h]
    subst h
    exact zG_congr' he (fun j hj => (hz j (by omega)).1)
  · rw [if_neg h]
    have e1 : (x - 2).toNatClampNeg = 1 := by
      rcases Nat.lt_or_ge (x - 2).toNatClampNeg 1 with q | q
      · exfalso
        have q0 : (x - 2).toNatClampNeg = 0 := by omega
        rw [q0] at hx
        refine h ?_
        have h9 : x - 2 + 2 = (0 : Int32) + 2 := by rw [hx]; rfl
        rw [Int32.sub_add_cancel] at h9
        exact h9
      · omega
    rw [e1]
    exact zG_congr' he (fun j hj => (hz j (by omega)).2)
theorem zks_1 {K : Nat → Nat → Int32} {g : Nat → Int32} (h0 : g 0 = K 0 0) (h1 : g 1 = K 0 1) (h2 : g 2 = K 0 2) (h3 : g 3 = K 0 3) : zks K g (0 + 1) := by
  intro r hr
  have e : r = 0 := by omega
  subst e
  exact ⟨h0, h1, h2, h3⟩
