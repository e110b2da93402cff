/-! class and reference side by side: what holds between two calls -/
def zOK (s : Nat → Int32) (bk : Nat) : Prop := zwr s (zpl s) (zru s) ∧ zkr (zkk s) ∧ s 26 = nI bk ∧ bk ≤ 12 ∧ ∀ p, p < bk → ¬ s (27 + 4 * p) < 0
/-- the book's rows -/
def zbR (s n0 n1 n2 n3 : Nat → Int32) (bk : Nat) : Prop := ∀ p, p < bk → n0 p = zpg s 0 p ∧ n1 p = zpg s 1 p ∧ n2 p = zpg s 2 p ∧ n3 p = zpg s 3 p
/-- an image -/
def zir (s wa pa ra ka : Nat → Int32) (ga : Int32) (qa : Nat) (c0 c1 c2 c3 : Nat → Int32) : Prop := (∀ j, j < 4 → wa j = s j) ∧ (∀ j, j < 11 → pa j = zpl s j) ∧ (∀ j, j < 6 → ra j = zru s j) ∧ (∀ j, j < 4 → ka j = zkk s j) ∧ ga = s 25 ∧ zOK s qa ∧ zbR s c0 c1 c2 c3 qa
def zblk (f : Nat → Int32) (k : Nat) : Nat → Int32 := fun j => f (75 * k + j)
section ZOK
variable {s s' n0 n1 n2 n3 : Nat → Int32} {bk : Nat}
theorem zOK_hi (h : ∀ j, 21 ≤ j → s' j = s j) (hI : zOK s bk) (hw : zwr s' (zpl s') (zru s')) : zOK s' bk := by
  obtain ⟨-, h2, h3, h4, h5⟩ := hI
  refine ⟨hw, ⟨?_, ?_⟩, ?_, h4, fun p hp => ?_⟩
  · show zr 40 (s' 21)
    rw [h 21 (by decide)]
    exact h2.1
  · show zr 40000 (s' 22)
    rw [h 22 (by decide)]
    exact h2.2
  · rw [h 26 (by decide)]
    exact h3
  · rw [h _ (by omega)]
    exact h5 p hp
theorem zbR_hi (h : ∀ j, 21 ≤ j → s' j = s j) (hB : zbR s n0 n1 n2 n3 bk) : zbR s' n0 n1 n2 n3 bk := by
  intro p hp
  obtain ⟨a, b, c, d⟩ := hB p hp
  refine ⟨a.trans ?_, b.trans ?_, c.trans ?_, d.trans ?_⟩ <;> exact (h _ (by omega)).symm
theorem zkk_hi (h : ∀ j, 21 ≤ j → s' j = s j) : [Value.int (zkk s 0), Value.int (zkk s 1), Value.int (zkk s 2), Value.int (zkk s 3)] = [Value.int (zkk s' 0), Value.int (zkk s' 1), Value.int (zkk s' 2), Value.int (zkk s' 3)] := by
  have e : ∀ t, zkk s' t = zkk s t := fun t => h (21 + t) (by omega)
  rw [e, e, e, e]
theorem zwr_lo (h : ∀ j, j < 21 → s' j = s j) (hw : zwr s (zpl s) (zru s)) : zwr s' (zpl s') (zru s') := by
  obtain ⟨h1, h2, h3, h4, h5, h6⟩ := hw
  have r : ∀ i, i < 6 → zru s' i = zru s i := fun i hi => h (15 + i) (by omega)
  refine ⟨?_, ?_, fun j hj => ?_, ?_, ?_, ?_⟩
  · rw [h 0 (by decide)]
    exact h1
  · rw [h 1 (by decide)]
    exact h2
  · rw [show zpl s' j = zpl s j from h (4 + j) (by omega)]
    exact h3 j hj
  · rw [r 0 (by decide)]
    exact h4
  · rw [r 2 (by decide)]
    exact h5
  · rw [r 4 (by decide)]
    exact h6
theorem ztw_lo (h : ∀ j, j < 21 → s' j = s j) : ∀ j, j < 4 → s j = s' j := fun j hj => (h j (by omega)).symm
theorem ztp_lo (h : ∀ j, j < 21 → s' j = s j) : ∀ j, j < 11 → zpl s j = zpl s' j := fun j hj => (h (4 + j) (by omega)).symm
theorem ztr_lo (h : ∀ j, j < 21 → s' j = s j) : ∀ j, j < 6 → zru s j = zru s' j := fun j hj => (h (15 + j) (by omega)).symm
theorem zOK_75 (h : ∀ j, j < 75 → s' j = s j) (hI : zOK s bk) : zOK s' bk := by
  obtain ⟨h1, h2, h3, h4, h5⟩ := hI
  refine ⟨zwr_lo (fun j hj => h j (by omega)) h1, ⟨?_, ?_⟩, ?_, h4, fun p hp => ?_⟩
  · show zr 40 (s' 21)
    rw [h 21 (by decide)]
    exact h2.1
  · show zr 40000 (s' 22)
    rw [h 22 (by decide)]
    exact h2.2
  · rw [h 26 (by decide)]
    exact h3
  · rw [h _ (by omega)]
    exact h5 p hp
theorem zbR_75 (h : ∀ j, j < 75 → s' j = s j) (hb : bk ≤ 12) (hB : zbR s n0 n1 n2 n3 bk) : zbR s' n0 n1 n2 n3 bk := by
  intro p hp
  obtain ⟨a, b, c, d⟩ := hB p hp
  refine ⟨a.trans ?_, b.trans ?_, c.trans ?_, d.trans ?_⟩ <;> exact (h _ (by omega)).symm
theorem zir_75 {wa pa ra ka c0 c1 c2 c3 : Nat → Int32} {ga : Int32} {qa : Nat} (h : ∀ j, j < 75 → s' j = s j) (hr : zir s wa pa ra ka ga qa c0 c1 c2 c3) : zir s' wa pa ra ka ga qa c0 c1 c2 c3 := by
  obtain ⟨h1, h2, h3, h4, h5, h6, h7⟩ := hr
  exact ⟨fun j hj => (h1 j hj).trans (h j (by omega)).symm, fun j hj => (h2 j hj).trans (h (4 + j) (by omega)).symm, fun j hj => (h3 j hj).trans (h (15 + j) (by omega)).symm, fun j hj => (h4 j hj).trans (h (21 + j) (by omega)).symm, h5.trans (h 25 (by decide)).symm, zOK_75 h h6, zbR_75 h h6.2.2.2.1 h7⟩
end ZOK
/-! wash, table, rule, take -/
theorem zwash_hi {s : Nat → Int32} {p0 p1 p2 p3 : Int32} : ∀ j, 4 ≤ j → upd (upd (upd (upd s 0 p0) 1 p1) 2 p2) 3 p3 j = s j := fun j hj => by rw [pk_un (by omega), pk_un (by omega), pk_un (by omega), pk_un (by omega)]
theorem zwash_wr {s : Nat → Int32} {p0 p1 p2 p3 : Int32} (hC : zCw p0 p1 p2 p3) (h : zwr s (zpl s) (zru s)) : zwr (upd (upd (upd (upd s 0 p0) 1 p1) 2 p2) 3 p3) (zpl (upd (upd (upd (upd s 0 p0) 1 p1) 2 p2) 3 p3)) (zru (upd (upd (upd (upd s 0 p0) 1 p1) 2 p2) 3 p3)) := by
  obtain ⟨h1, h2, h3, h4, h5, h6⟩ := h
  exact ⟨zr_of (N := 30) (by decide) ⟨Int32.le_trans (by decide) hC.1.1, hC.1.2⟩, zr_of (N := 300) (by decide) hC.2.1, fun j hj => by rw [show zpl (upd (upd (upd (upd s 0 p0) 1 p1) 2 p2) 3 p3) j = s (4 + j) from zwash_hi (4 + j) (by omega)]; exact h3 j hj, h4, h5, h6⟩
theorem ztab_wr {s : Nat → Int32} {a : Nat} {v : Int32} (ha : a ≤ 10) (hv : 0 ≤ v ∧ v ≤ 1000) (h : zwr s (zpl s) (zru s)) : zwr (upd s (4 + a) v) (zpl (upd s (4 + a) v)) (zru (upd s (4 + a) v)) := by
  obtain ⟨h1, h2, h3, h4, h5, h6⟩ := h
  have r : ∀ i, zru (upd s (4 + a) v) i = zru s i := fun i => pk_un (by omega)
  refine ⟨by rw [pk_un (by omega)]; exact h1, by rw [pk_un (by omega)]; exact h2, fun j hj => ?_, by rw [r]; exact h4, by rw [r]; exact h5, by rw [r]; exact h6⟩
  show zr 1000 (upd s (4 + a) v (4 + j))
  by_cases e : j = a
  · subst e
    rw [pk_us]
    exact zr_of (N := 1000) (by decide) hv
  · rw [pk_un (by omega)]
    exact h3 j hj
theorem ztab_tp {s : Nat → Int32} {a : Nat} {v : Int32} : ∀ j, j < 11 → upd (zpl s) a v j = zpl (upd s (4 + a) v) j := by
  intro j _
  show upd (zpl s) a v j = upd s (4 + a) v (4 + j)
  by_cases e : j = a
  · subst e
    rw [pk_us, pk_us]
  · rw [pk_un e, pk_un (by omega)]
    rfl
theorem zrule_wr {s : Nat → Int32} {a : Nat} {v : Int32} (ha : a ≤ 5) (hv : zk_lr a ≤ v ∧ v ≤ zk_mr a) (h : zwr s (zpl s) (zru s)) : zwr (upd s (15 + a) v) (zpl (upd s (15 + a) v)) (zru (upd s (15 + a) v)) := by
  obtain ⟨h1, h2, h3, h4, h5, h6⟩ := h
  refine ⟨by rw [pk_un (by omega)]; exact h1, by rw [pk_un (by omega)]; exact h2, fun j hj => ?_, ?_⟩
  · show zr 1000 (upd s (15 + a) v (4 + j))
    rw [pk_un (by omega)]
    exact h3 j hj
  · match a, ha, hv with
    | 0, _, hv => exact ⟨zr_of (N := 9) (by decide) hv, h5, h6⟩
    | 1, _, hv => exact ⟨h4, h5, h6⟩
    | 2, _, hv => exact ⟨h4, zr_of (N := 1000) (by decide) hv, h6⟩
    | 3, _, hv => exact ⟨h4, h5, h6⟩
    | 4, _, hv => exact ⟨h4, h5, hv⟩
    | 5, _, hv => exact ⟨h4, h5, h6⟩
    | n + 6, h, _ => exact absurd h (by omega)
theorem zrule_tr {s : Nat → Int32} {a : Nat} {v : Int32} : ∀ j, j < 6 → upd (zru s) a v j = zru (upd s (15 + a) v) j := by
  intro j _
  show upd (zru s) a v j = upd s (15 + a) v (15 + j)
  by_cases e : j = a
  · subst e
    rw [pk_us, pk_us]
  · rw [pk_un e, pk_un (by omega)]
    rfl
theorem ztake_wr {s : Nat → Int32} {x y : Int32} (hx : zr 9 x) (h : zwr s (zpl s) (zru s)) : zwr (upd (upd s 15 x) 16 y) (zpl (upd (upd s 15 x) 16 y)) (zru (upd (upd s 15 x) 16 y)) := by
  obtain ⟨h1, h2, h3, h4, h5, h6⟩ := h
  refine ⟨h1, h2, fun j hj => ?_, hx, h5, h6⟩
  show zr 1000 (upd (upd s 15 x) 16 y (4 + j))
  rw [pk_un (by omega), pk_un (by omega)]
  exact h3 j hj
theorem ztake_hi {s : Nat → Int32} {x y : Int32} : ∀ j, 21 ≤ j → upd (upd s 15 x) 16 y j = s j := fun j hj => by rw [pk_un (by omega), pk_un (by omega)]
theorem ztake_tr {s : Nat → Int32} {x y x' y' : Int32} (hx : x' = x) (hy : y' = y) : ∀ j, j < 6 → upd (upd (zru s) 0 x') 1 y' j = zru (upd (upd s 15 x) 16 y) j := by
  intro j _
  subst hx
  subst hy
  show upd (upd (zru s) 0 x') 1 y' j = upd (upd s 15 x') 16 y' (15 + j)
  by_cases e : j = 1
  · subst e
    rw [pk_us, show (15 + 1 : Nat) = 16 from rfl, pk_us]
  · rw [pk_un e, pk_un (show 15 + j ≠ 16 by omega)]
    by_cases e2 : j = 0
    · subst e2
      rw [pk_us, show (15 + 0 : Nat) = 15 from rfl, pk_us]
    · rw [pk_un e2, pk_un (show 15 + j ≠ 15 by omega)]
      rfl
theorem zw_1 {b h : Nat → Int32} {f c lim : Int32} (hb : zr 9 (b 1)) (hf : zr 9 f) : zr 9 (zw b h f c lim 1) := by
  unfold zw
  by_cases h1 : h 0 < 1 ∨ lim < zq (h 2 + h 3) (h 0)
  · rw [if_pos h1]
    exact hb
  · rw [if_neg h1]
    by_cases h2 : b 0 + 1 = 1 ∨ b 3 < h 1
    · rw [if_pos h2]
      exact hf
    · rw [if_neg h2]
      exact hb
theorem zBi_1 {pl ru c b : Nat → Int32} {fo en : Nat} (hf : fo ≤ 9) (hb : zr 9 (b 1)) : ∀ i, zr 9 (zBi pl ru c b fo en i 1)
  | 0 => hb
  | i + 1 => zw_1 (zBi_1 hf hb i) ⟨fo, hf, rfl⟩
theorem zBo_1 {pl ru c b : Nat → Int32} {en : Nat} (hb : zr 9 (b 1)) : ∀ f, f ≤ 10 → zr 9 (zBo pl ru c b en f 1)
  | 0, _ => hb
  | f + 1, hf => zBi_1 (by omega) (zBo_1 hb f (by omega)) _
theorem zBz_1 (pl ru c : Nat → Int32) : zr 9 (zBz pl ru c 1) := zBo_1 (b := zk5 0 0 0 0 0) ⟨0, by decide, rfl⟩ 10 (Nat.le_refl _)
/-! run, pour, weed -/
theorem zsr2_lo {s h : Nat → Int32} {v : Int32} {j : Nat} (hj : j < 21 ∨ 26 ≤ j) : zsr2 s h v j = s j := by
  unfold zsr2
  rw [pk_un (by omega), pk_un (by omega), pk_un (by omega), pk_un (by omega), pk_un (by omega)]
theorem zsd_lo {s : Nat → Int32} {j : Nat} (hj : j < 26) : zsd s j = s j := by
  unfold zsd zdp
  rw [pk_un (by omega), if_neg (by omega)]
theorem zsd_pg {s : Nat → Int32} {p t : Nat} (hp : p ≤ 10) (ht : t < 4) : zsd s (27 + 4 * p + t) = s (27 + 4 * (p + 1) + t) := by
  unfold zsd zdp
  rw [pk_un (by omega), if_pos (by omega)]
  congr 1
  omega
theorem zsr_pg {s h K : Nat → Int32} {v : Int32} {b p t : Nat} (hp : p < b) (ht : t < 4) : zsr2 (zsr1 s b h) K v (27 + 4 * p + t) = s (27 + 4 * p + t) := by
  rw [zsr2_lo (by omega)]
  unfold zsr1
  rw [pk_un (by omega), pk_un (by omega), pk_un (by omega), pk_un (by omega), pk_un (by omega)]
theorem zsr_pb {s h K : Nat → Int32} {v : Int32} {b : Nat} : zsr2 (zsr1 s b h) K v (27 + 4 * b + 0) = h 0 ∧ zsr2 (zsr1 s b h) K v (27 + 4 * b + 1) = h 1 ∧ zsr2 (zsr1 s b h) K v (27 + 4 * b + 2) = h 2 ∧ zsr2 (zsr1 s b h) K v (27 + 4 * b + 3) = h 3 := by
  refine ⟨?_, ?_, ?_, ?_⟩
  · rw [zsr2_lo (by omega)]
    unfold zsr1
    rw [pk_un (by omega), pk_un (by omega), pk_un (by omega), pk_un (by omega), pk_us]
  · rw [zsr2_lo (by omega)]
    unfold zsr1
    rw [pk_un (by omega), pk_un (by omega), pk_un (by omega), pk_us]
  · rw [zsr2_lo (by omega)]
    unfold zsr1
    rw [pk_un (by omega), pk_un (by omega), pk_us]
  · rw [zsr2_lo (by omega)]
    unfold zsr1
    rw [pk_un (by omega), pk_us]
theorem zrun_lo {s h K : Nat → Int32} {v : Int32} {b : Nat} : ∀ j, j < 21 → zsr2 (zsr1 s b h) K v j = s j := fun j hj => by rw [zsr2_lo (by omega), zsr1_lo (by omega)]
theorem zrun_OK {s0 s h K : Nat → Int32} {v : Int32} {b : Nat} (h0 : ∀ j, j < 21 → s0 j = s j) (hb : b < 12) (hw : zwr s (zpl s) (zru s)) (hK : zkr K) (hp : ∀ p, p < b → ¬ s0 (27 + 4 * p) < 0) (hh : ¬ h 0 < 0) : zOK (zsr2 (zsr1 s0 b h) K v) (b + 1) := by
  refine ⟨zwr_lo (fun j hj => (zrun_lo j hj).trans (h0 j hj)) hw, hK, ?_, by omega, fun p hpb => ?_⟩
  · rw [zsr2_lo (by omega)]
    unfold zsr1
    rw [pk_us]
  · by_cases e : p = b
    · subst e
      have h1 := (zsr_pb (s := s0) (h := h) (K := K) (v := v) (b := p)).1
      rw [show 27 + 4 * p = 27 + 4 * p + 0 from rfl, h1]
      exact hh
    · have h1 := zsr_pg (s := s0) (h := h) (K := K) (v := v) (b := b) (p := p) (t := 0) (by omega) (by decide)
      rw [show 27 + 4 * p = 27 + 4 * p + 0 from rfl, h1]
      exact hp p (by omega)
theorem zrun_bR {s0 h K n0 n1 n2 n3 : Nat → Int32} {v : Int32} {b : Nat} (hB : zbR s0 n0 n1 n2 n3 b) : zbR (zsr2 (zsr1 s0 b h) K v) (upd n0 b (h 0)) (upd n1 b (h 1)) (upd n2 b (h 2)) (upd n3 b (h 3)) (b + 1) := by
  intro p hp
  by_cases e : p = b
  · subst e
    obtain ⟨a0, a1, a2, a3⟩ := zsr_pb (s := s0) (h := h) (K := K) (v := v) (b := p)
    rw [pk_us, pk_us, pk_us, pk_us]
    exact ⟨a0.symm, a1.symm, a2.symm, a3.symm⟩
  · obtain ⟨a0, a1, a2, a3⟩ := hB p (by omega)
    rw [pk_un e, pk_un e, pk_un e, pk_un e]
    exact ⟨a0.trans (zsr_pg (by omega) (by decide)).symm, a1.trans (zsr_pg (by omega) (by decide)).symm, a2.trans (zsr_pg (by omega) (by decide)).symm, a3.trans (zsr_pg (by omega) (by decide)).symm⟩
theorem zrunF_bR {s0 h K n0 n1 n2 n3 : Nat → Int32} {v : Int32} (hB : zbR s0 n0 n1 n2 n3 11) : zbR (zsr2 (zsr1 s0 11 h) K v) (upd n0 (12 - 1) (h 0)) (upd n1 (12 - 1) (h 1)) (upd n2 (12 - 1) (h 2)) (upd n3 (12 - 1) (h 3)) 12 := zrun_bR hB
theorem zfull_bR {s n0 n1 n2 n3 l0 l1 l2 l3 : Nat → Int32} (hB : zbR s n0 n1 n2 n3 12) (h0 : zds n0 l0 12) (h1 : zds n1 l1 12) (h2 : zds n2 l2 12) (h3 : zds n3 l3 12) : zbR (zsd s) l0 l1 l2 l3 11 := by
  intro p hp
  obtain ⟨a0, a1, a2, a3⟩ := hB (p + 1) (by omega)
  exact ⟨(h0.1 p (by omega)).trans (a0.trans (zsd_pg (by omega) (by decide)).symm), (h1.1 p (by omega)).trans (a1.trans (zsd_pg (by omega) (by decide)).symm), (h2.1 p (by omega)).trans (a2.trans (zsd_pg (by omega) (by decide)).symm), (h3.1 p (by omega)).trans (a3.trans (zsd_pg (by omega) (by decide)).symm)⟩
theorem zfull_p {s : Nat → Int32} (h : ∀ p, p < 12 → ¬ s (27 + 4 * p) < 0) : ∀ p, p < 11 → ¬ zsd s (27 + 4 * p) < 0 := fun p hp => by
  have h1 := zsd_pg (s := s) (p := p) (t := 0) (by omega) (by decide)
  rw [show 27 + 4 * p = 27 + 4 * p + 0 from rfl, h1]
  exact h (p + 1) (by omega)
def zsp (s : Nat → Int32) : Nat → Int32 := upd (upd (upd (upd s 21 0) 22 0) 23 0) 24 0
theorem zsp_o {s : Nat → Int32} {j : Nat} (hj : j < 21 ∨ 25 ≤ j) : zsp s j = s j := by
  unfold zsp
  rw [pk_un (by omega), pk_un (by omega), pk_un (by omega), pk_un (by omega)]
theorem zpour_OK {s : Nat → Int32} {bk : Nat} (hI : zOK s bk) : zOK (zsp s) bk := by
  obtain ⟨h1, h2, h3, h4, h5⟩ := hI
  refine ⟨zwr_lo (fun j hj => zsp_o (by omega)) h1, ⟨⟨0, by decide, rfl⟩, ⟨0, by decide, rfl⟩⟩, ?_, h4, fun p hp => ?_⟩
  · rw [zsp_o (by omega)]
    exact h3
  · rw [zsp_o (by omega)]
    exact h5 p hp
theorem zpour_bR {s n0 n1 n2 n3 : Nat → Int32} {bk : Nat} (hB : zbR s n0 n1 n2 n3 bk) : zbR (zsp s) n0 n1 n2 n3 bk := by
  intro p hp
  obtain ⟨a, b, c, d⟩ := hB p hp
  exact ⟨a.trans (zsp_o (j := 27 + 4 * p + 0) (by omega)).symm, b.trans (zsp_o (j := 27 + 4 * p + 1) (by omega)).symm, c.trans (zsp_o (j := 27 + 4 * p + 2) (by omega)).symm, d.trans (zsp_o (j := 27 + 4 * p + 3) (by omega)).symm⟩
theorem zc_congr {P P' : Nat → Bool} : ∀ {n : Nat}, (∀ j, j < n → P j = P' j) → zc P n = zc P' n
  | 0, _ => rfl
  | n + 1, h => by
    show (if P n then zc P n + 1 else zc P n) = if P' n then zc P' n + 1 else zc P' n
    rw [h n (by omega), zc_congr (n := n) (fun j hj => h j (by omega))]
theorem zab_bR {s n0 n1 n2 n3 : Nat → Int32} {bk : Nat} (hB : zbR s n0 n1 n2 n3 bk) (v : Int32) : ∀ j, j < bk → zab v n0 n1 j = zab v (zpg s 0) (zpg s 1) j := fun j hj => by
  obtain ⟨a, b, -, -⟩ := hB j hj
  unfold zab
  rw [a, b]
theorem zweed_at {s g n0 n1 n2 n3 l0 l1 l2 l3 : Nat → Int32} {P P' : Nat → Bool} {bk : Nat} (hB : zbR s n0 n1 n2 n3 bk) (hP : ∀ j, j < bk → P j = P' j) (hw : zwi s g P' bk 0) (d0 : zdb P n0 l0 bk) (d1 : zdb P n1 l1 bk) (d2 : zdb P n2 l2 bk) (d3 : zdb P n3 l3 bk) (q : Nat) (hq : q < zc P bk) : ∃ j, j < bk ∧ (∀ t, t < 4 → g (27 + 4 * q + t) = s (27 + 4 * j + t)) ∧ l0 q = zpg g 0 q ∧ l1 q = zpg g 1 q ∧ l2 q = zpg g 2 q ∧ l3 q = zpg g 3 q := by
  obtain ⟨j, hj, hp, hz⟩ := zc_at hq
  have hz' : zc P' j = q := by rw [← zc_congr (n := j) (fun i hi => hP i (by omega)), hz]
  have hg : ∀ t, t < 4 → g (27 + 4 * q + t) = s (27 + 4 * j + t) := fun t ht => by
    have h := hw.2.2.1 j t (Nat.zero_le _) hj ht (by rw [← hP j hj]; exact hp)
    rw [hz', show zc P' 0 = 0 from rfl, Nat.sub_zero, Nat.zero_add] at h
    exact h
  obtain ⟨a, b, c, d⟩ := hB j hj
  have e0 := d0.1 j hj hp
  have e1 := d1.1 j hj hp
  have e2 := d2.1 j hj hp
  have e3 := d3.1 j hj hp
  rw [hz] at e0 e1 e2 e3
  exact ⟨j, hj, hg, e0.trans (a.trans (hg 0 (by decide)).symm), e1.trans (b.trans (hg 1 (by decide)).symm), e2.trans (c.trans (hg 2 (by decide)).symm), e3.trans (d.trans (hg 3 (by decide)).symm)⟩
theorem zweed_bR {s g n0 n1 n2 n3 l0 l1 l2 l3 : Nat → Int32} {P P' : Nat → Bool} {bk : Nat} (hB : zbR s n0 n1 n2 n3 bk) (hP : ∀ j, j < bk → P j = P' j) (hw : zwi s g P' bk 0) (d0 : zdb P n0 l0 bk) (d1 : zdb P n1 l1 bk) (d2 : zdb P n2 l2 bk) (d3 : zdb P n3 l3 bk) : zbR g l0 l1 l2 l3 (zc P bk) := fun q hq => by
  obtain ⟨j, -, -, h⟩ := zweed_at hB hP hw d0 d1 d2 d3 q hq
  exact h
theorem zweed_OK {s g n0 n1 n2 n3 l0 l1 l2 l3 : Nat → Int32} {P P' : Nat → Bool} {bk : Nat} (hI : zOK s bk) (hB : zbR s n0 n1 n2 n3 bk) (hP : ∀ j, j < bk → P j = P' j) (hw : zwi s g P' bk 0) (d0 : zdb P n0 l0 bk) (d1 : zdb P n1 l1 bk) (d2 : zdb P n2 l2 bk) (d3 : zdb P n3 l3 bk) : zOK g (zc P bk) := by
  obtain ⟨h1, h2, h3, h4, h5⟩ := hI
  have hlo := hw.1
  refine ⟨zwr_lo (fun j hj => hlo j (by omega)) h1, ⟨?_, ?_⟩, ?_, Nat.le_trans (zc_le P bk) h4, fun q hq => ?_⟩
  · show zr 40 (g 21)
    rw [hlo 21 (by decide)]
    exact h2.1
  · show zr 40000 (g 22)
    rw [hlo 22 (by decide)]
    exact h2.2
  · rw [zwi_n hw, zc_congr hP]
  · obtain ⟨j, hj, hg, -⟩ := zweed_at hB hP hw d0 d1 d2 d3 q hq
    rw [show 27 + 4 * q = 27 + 4 * q + 0 from rfl, hg 0 (by decide)]
    exact h5 j hj
theorem zpage_eq {s n0 n1 n2 n3 : Nat → Int32} {bk : Nat} {p0 p1 : Int32} (hb : bk ≤ 12) (hB : zbR s n0 n1 n2 n3 bk) : zpage bk n0 n1 n2 n3 p0 p1 = zpage bk (zpg s 0) (zpg s 1) (zpg s 2) (zpg s 3) p0 p1 := by
  unfold zpage
  by_cases h : 0 ≤ p0 ∧ p0 ≤ nI bk - 1
  · obtain ⟨a, b, c, d⟩ := hB p0.toNatClampNeg (zpage_ix hb h).2
    rw [if_pos h, if_pos h, a, b, c, d]
  · rw [if_neg h, if_neg h]
/-! images -/
theorem zik_0 (f : Nat → Int32) : zik f &&& 1 = 0 ↔ f 0 = 0 := by
  unfold zik
  by_cases h0 : f 0 = 0 <;> by_cases h1 : f 1 = 0 <;> simp [h0, h1] <;> decide
theorem zik_1 (f : Nat → Int32) : zik f &&& 2 = 0 ↔ f 1 = 0 := by
  unfold zik
  by_cases h0 : f 0 = 0 <;> by_cases h1 : f 1 = 0 <;> simp [h0, h1] <;> decide
theorem zik_u0 (f : Nat → Int32) : zik f ||| 1 = zik (upd f 0 1) := by
  have e0 : upd f 0 1 0 = 1 := pk_us
  have e1 : upd f 0 1 1 = f 1 := pk_un (by decide)
  unfold zik
  rw [e0, e1]
  by_cases h0 : f 0 = 0 <;> by_cases h1 : f 1 = 0 <;> simp [h0, h1] <;> decide
theorem zik_u1 (f : Nat → Int32) : zik f ||| 2 = zik (upd f 1 1) := by
  have e0 : upd f 1 1 1 = 1 := pk_us
  have e1 : upd f 1 1 0 = f 0 := pk_un (by decide)
  unfold zik
  rw [e0, e1]
  by_cases h0 : f 0 = 0 <;> by_cases h1 : f 1 = 0 <;> simp [h0, h1] <;> decide
theorem zimg_y {s fi gi wa pa ra n0 n1 n2 n3 c0 c1 c2 c3 : Nat → Int32} {bk k : Nat} (hI : zOK s bk) (hB : zbR s n0 n1 n2 n3 bk) (hc : zcpi fi s gi k 75) : zir (zblk gi k) (zcp s wa 4) (zcp (zpl s) pa 11) (zcp (zru s) ra 6) (zkk s) (s 25) bk (zcp n0 c0 bk) (zcp n1 c1 bk) (zcp n2 c2 bk) (zcp n3 c3 bk) := by
  refine zir_75 (s := s) (fun j hj => hc.1 j hj) ⟨fun j hj => zcp_lt hj, fun j hj => zcp_lt hj, fun j hj => zcp_lt hj, fun _ _ => rfl, rfl, hI, fun p hp => ?_⟩
  rw [zcp_lt hp, zcp_lt hp, zcp_lt hp, zcp_lt hp]
  exact hB p hp
theorem zimg_o {s fi gi : Nat → Int32} {k k' : Nat} (hk : k ≠ k') (hc : zcpi fi s gi k 75) : ∀ j, j < 75 → zblk gi k' j = zblk fi k' j := fun j hj => by
  refine hc.2 (75 * k' + j) ?_
  rcases Nat.lt_or_ge k k' with h | h
  · right
    have : 75 * (k + 1) ≤ 75 * k' := Nat.mul_le_mul (Nat.le_refl _) h
    omega
  · left
    have : 75 * (k' + 1) ≤ 75 * k := Nat.mul_le_mul (Nat.le_refl _) (by omega)
    omega
theorem zcp_all {f g F : Nat → Int32} {n : Nat} (h : ∀ j, j < n → f j = F j) : ∀ j, j < n → zcp f g n j = F j := fun j hj => (zcp_lt hj).trans (h j hj)
theorem zlen {L j : Nat} (hL : L ≤ 2560) (hj : j ≤ 2560) (h : ¬ nI L - 5 < nI j) : j + 5 ≤ L := by
  rw [Int32.lt_iff_toInt_lt, show (nI L - 5).toInt = (L : Int) - 5 from pk_sub_toInt (b := 5) (by omega) (by decide), nI_toInt (by omega)] at h
  omega
