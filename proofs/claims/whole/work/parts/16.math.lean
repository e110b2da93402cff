/-! the best cuts, as the reference keeps them -/
def zrb (b : Nat → Int32) (gd bf bc bs bt : Int32) (g : Nat) : Prop := b 0 = nI g ∧ gd = nI g ∧ (g = 0 → bs = (-6)) ∧ (0 < g → bf = b 1 ∧ bc = b 2 ∧ bs = b 3 ∧ bt = b 4)
theorem zi_lt1 {x : Int32} (h : x ≤ 0) : x < 1 := by
  rw [Int32.le_iff_toInt_le] at h
  rw [Int32.lt_iff_toInt_lt]
  have e0 : (0 : Int32).toInt = 0 := by decide
  have e1 : (1 : Int32).toInt = 1 := by decide
  omega
theorem zi_nlt1 {x : Int32} (h : ¬ x ≤ 0) : ¬ x < 1 := by
  rw [Int32.le_iff_toInt_le] at h
  rw [Int32.lt_iff_toInt_lt]
  have e0 : (0 : Int32).toInt = 0 := by decide
  have e1 : (1 : Int32).toInt = 1 := by decide
  omega
theorem zrb_skip {b h : Nat → Int32} {f c lim gd bf bc bs bt : Int32} {g : Nat} (hz : h 0 ≤ 0 ∨ lim < zq (h 2 + h 3) (h 0)) (hb : zrb b gd bf bc bs bt g) : zrb (zw b h f c lim) gd bf bc bs bt g := by
  have e : zw b h f c lim = zk5 (b 0) (b 1) (b 2) (b 3) (b 4) := if_pos (hz.elim (fun q => Or.inl (zi_lt1 q)) Or.inr)
  rw [e]
  exact hb
theorem zg1 {g : Nat} (hg : g < 2 ^ 30) : nI g + 1 = 1 ↔ g = 0 := by
  have e : nI g + 1 = nI (g + 1) := nI_1 g
  rw [e]
  constructor
  · intro q
    have := (nI_eq (a := g + 1) (b := 1) (by omega) (by decide)).mp q
    omega
  · intro q
    subst q
    rfl
theorem zrb_up {b h : Nat → Int32} {f c lim gd bf bc bs bt : Int32} {g : Nat} (hg : g < 2 ^ 30) (hz : ¬ (h 0 ≤ 0)) (hl : ¬ lim < zq (h 2 + h 3) (h 0)) (hs : ¬ h 1 ≤ bs) (hb : zrb b gd bf bc bs bt g) : zrb (zw b h f c lim) (gd + 1) f c (h 1) (zq (h 2 + h 3) (h 0)) (g + 1) := by
  obtain ⟨b0, b1, b2, b3⟩ := hb
  have e : zw b h f c lim = zk5 (b 0 + 1) f c (h 1) (zq (h 2 + h 3) (h 0)) := by
    unfold zw
    rw [if_neg (fun q => q.elim (zi_nlt1 hz) hl), if_pos]
    by_cases h0 : g = 0
    · left
      rw [b0]
      exact (zg1 hg).mpr h0
    · right
      rw [← (b3 (by omega)).2.2.1]
      exact zi_lt hs
  rw [e]
  refine ⟨?_, ?_, fun q => absurd q (by omega), fun _ => ⟨rfl, rfl, rfl, rfl⟩⟩
  · show b 0 + 1 = nI (g + 1)
    rw [b0]
    exact nI_1 g
  · rw [b1]
    exact nI_1 g
theorem zrb_no {b h : Nat → Int32} {f c lim gd bf bc bs bt : Int32} {g : Nat} (hg : g < 2 ^ 30) (hz : ¬ (h 0 ≤ 0)) (hl : ¬ lim < zq (h 2 + h 3) (h 0)) (hp : ¬ h 1 < 0) (hs : h 1 ≤ bs) (hb : zrb b gd bf bc bs bt g) : zrb (zw b h f c lim) (gd + 1) bf bc bs bt (g + 1) := by
  obtain ⟨b0, b1, b2, b3⟩ := hb
  have hg0 : 0 < g := by
    rcases Nat.eq_zero_or_pos g with q | q
    · exfalso
      rw [b2 q] at hs
      exact hp (Int32.lt_of_le_of_lt hs (by decide))
    · exact q
  obtain ⟨c1, c2, c3, c4⟩ := b3 hg0
  have e : zw b h f c lim = zk5 (b 0 + 1) (b 1) (b 2) (b 3) (b 4) := by
    unfold zw
    rw [if_neg (fun q => q.elim (zi_nlt1 hz) hl), if_neg]
    intro q
    rcases q with q | q
    · rw [b0] at q
      have := (zg1 hg).mp q
      omega
    · rw [← c3] at q
      exact zi_nle q hs
  rw [e]
  refine ⟨?_, ?_, fun q => absurd q (by omega), fun _ => ⟨c1, c2, c3, c4⟩⟩
  · show b 0 + 1 = nI (g + 1)
    rw [b0]
    exact nI_1 g
  · rw [b1]
    exact nI_1 g
/-- what stood there before doesn't matter -/
def zrc (b d : Nat → Int32) (g : Nat) : Prop := b 0 = nI g ∧ d 0 = nI g ∧ (0 < g → b 1 = d 1 ∧ b 2 = d 2 ∧ b 3 = d 3 ∧ b 4 = d 4)
theorem zrc_w {b d h : Nat → Int32} {f c lim : Int32} {g : Nat} (hg : g < 2 ^ 30) (hr : zrc b d g) : ∃ g2, g2 ≤ g + 1 ∧ zrc (zw b h f c lim) (zw d h f c lim) g2 := by
  obtain ⟨b0, d0, hi⟩ := hr
  unfold zw
  by_cases h1 : h 0 < 1 ∨ lim < zq (h 2 + h 3) (h 0)
  · rw [if_pos h1, if_pos h1]
    exact ⟨g, by omega, b0, d0, hi⟩
  · rw [if_neg h1, if_neg h1]
    have hb1 : b 0 + 1 = nI (g + 1) := by rw [b0]; exact nI_1 g
    have hd1 : d 0 + 1 = nI (g + 1) := by rw [d0]; exact nI_1 g
    by_cases h0 : g = 0
    · have hb2 : b 0 + 1 = 1 ∨ b 3 < h 1 := Or.inl (by rw [b0]; exact (zg1 hg).mpr h0)
      have hd2 : d 0 + 1 = 1 ∨ d 3 < h 1 := Or.inl (by rw [d0]; exact (zg1 hg).mpr h0)
      rw [if_pos hb2, if_pos hd2]
      exact ⟨g + 1, Nat.le_refl _, hb1, hd1, fun _ => ⟨rfl, rfl, rfl, rfl⟩⟩
    · obtain ⟨c1, c2, c3, c4⟩ := hi (by omega)
      have hiff : (b 0 + 1 = 1 ∨ b 3 < h 1) ↔ (d 0 + 1 = 1 ∨ d 3 < h 1) := by rw [b0, d0, c3]
      by_cases h2 : b 0 + 1 = 1 ∨ b 3 < h 1
      · rw [if_pos h2, if_pos (hiff.mp h2)]
        exact ⟨g + 1, Nat.le_refl _, hb1, hd1, fun _ => ⟨rfl, rfl, rfl, rfl⟩⟩
      · rw [if_neg h2, if_neg (fun q => h2 (hiff.mpr q))]
        exact ⟨g + 1, Nat.le_refl _, hb1, hd1, fun _ => ⟨c1, c2, c3, c4⟩⟩
theorem zrc_i {pl ru c b d : Nat → Int32} {fo en g : Nat} (hr : zrc b d g) : ∀ i, g + i < 2 ^ 30 → ∃ g2, g2 ≤ g + i ∧ zrc (zBi pl ru c b fo en i) (zBi pl ru c d fo en i) g2
  | 0, _ => ⟨g, Nat.le_refl _, hr⟩
  | i + 1, hi => by
    obtain ⟨g2, h1, h2⟩ := zrc_i (pl := pl) (ru := ru) (c := c) (fo := fo) (en := en) hr i (by omega)
    obtain ⟨g3, h3, h4⟩ := zrc_w (h := zBc pl ru c fo (nI (en + 50 * i))) (f := nI fo) (c := nI (en + 50 * i)) (lim := ru 5) (show g2 < 2 ^ 30 by omega) h2
    exact ⟨g3, by omega, h4⟩
theorem zrc_o {pl ru c b d : Nat → Int32} {en : Nat} (hr : zrc b d 0) : ∀ f, f ≤ 10 → ∃ g2, g2 ≤ 21 * f ∧ zrc (zBo pl ru c b en f) (zBo pl ru c d en f) g2
  | 0, _ => ⟨0, Nat.le_refl _, hr⟩
  | f + 1, hf => by
    obtain ⟨g2, h1, h2⟩ := zrc_o (pl := pl) (ru := ru) (c := c) (en := en) hr f (by omega)
    obtain ⟨g3, h3, h4⟩ := zrc_i (pl := pl) (ru := ru) (c := c) (fo := f) (en := en) h2 ((1000 - en) / 50 + 1) (by omega)
    exact ⟨g3, by omega, h4⟩
/-- the best cuts, from nothing -/
def zBz (pl ru c : Nat → Int32) : Nat → Int32 := zBo pl ru c (zk5 0 0 0 0 0) (zen ru) 10
theorem zBz_of (pl ru c : Nat → Int32) (v1 v2 v3 v4 : Int32) : ∃ g, g ≤ 210 ∧ zrc (zBo pl ru c (zk5 0 v1 v2 v3 v4) (zen ru) 10) (zBz pl ru c) g := by
  obtain ⟨g, h1, h2⟩ := zrc_o (pl := pl) (ru := ru) (c := c) (en := zen ru) (b := zk5 0 v1 v2 v3 v4) (d := zk5 0 0 0 0 0) ⟨rfl, rfl, fun h => absurd h (Nat.lt_irrefl 0)⟩ 10 (Nat.le_refl _)
  exact ⟨g, by omega, h2⟩
theorem zrc_0 {b d : Nat → Int32} {g : Nat} (hg : g ≤ 210) (h : zrc b d g) : (b 0 = 0 ↔ g = 0) ∧ (d 0 = 0 ↔ g = 0) := by
  have e : nI g = 0 ↔ g = 0 := nI_eq (a := g) (b := 0) (by omega) (by decide)
  rw [h.1, h.2.1]
  exact ⟨e, e⟩
theorem zbst_c {b d : Nat → Int32} {g : Nat} {wh : Int32} (hg : g ≤ 210) (h : zrc b d g) : zbst b wh = zbst d wh := by
  obtain ⟨e1, e2⟩ := zrc_0 hg h
  unfold zbst
  by_cases h0 : g = 0
  · rw [if_pos (e1.mpr h0), if_pos (e2.mpr h0), h.1, h.2.1]
  · obtain ⟨c1, c2, c3, c4⟩ := h.2.2 (by omega)
    rw [if_neg (fun q => h0 (e1.mp q)), if_neg (fun q => h0 (e2.mp q)), c1, c2, c3, c4, h.1, h.2.1]
theorem zrb_bst {b : Nat → Int32} {gd bf bc bs bt wh : Int32} {g : Nat} (hg : g ≤ 210) (h : zrb b gd bf bc bs bt g) : zbst b wh = if 0 ≤ wh ∧ wh ≤ 4 then (if wh = 4 then gd else if gd = 0 then (-6) else if wh = 0 then bf else if wh = 1 then bc else if wh = 2 then bs else bt) else (-2) := by
  obtain ⟨b0, b1, b2, b3⟩ := h
  have e : nI g = 0 ↔ g = 0 := nI_eq (a := g) (b := 0) (by omega) (by decide)
  unfold zbst
  rw [b0, b1]
  by_cases h0 : g = 0
  · rw [if_pos (e.mpr h0), if_pos (e.mpr h0)]
  · obtain ⟨c1, c2, c3, c4⟩ := b3 (by omega)
    rw [if_neg (fun q => h0 (e.mp q)), if_neg (fun q => h0 (e.mp q)), c1, c2, c3, c4]
