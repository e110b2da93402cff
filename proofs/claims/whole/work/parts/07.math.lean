/-! A RUN, in numbers: rows w (wash), pl (the table), ru (rules), k (what is kept) -/
/-- a strength, held between 0 and 1000 -/
def zcl (x : Int32) : Nat := min 1000 x.toNatClampNeg
theorem zcl_le (x : Int32) : zcl x ≤ 1000 := Nat.min_le_left _ _
theorem zcl_eq (x : Int32) : (if 0 < (if 1000 < x then (1000 : Int32) else x) then (if 1000 < x then (1000 : Int32) else x) else 0) = nI (zcl x) := by
  unfold zcl
  by_cases h0 : x < 0
  · have hx : x.toInt < 0 := by simpa using Int32.lt_iff_toInt_lt.mp h0
    have h1 : ¬ (1000 : Int32) < x := by
      rw [Int32.lt_iff_toInt_lt]
      show ¬ (1000 : Int) < x.toInt
      omega
    have hc : x.toNatClampNeg = 0 := by
      show x.toInt.toNat = 0
      omega
    rw [if_neg h1, if_neg (Int32.not_lt.mpr (Int32.le_of_lt h0)), hc]
    rfl
  · obtain ⟨j, hj, rfl⟩ := nI_of h0
    rw [nI_clamp hj]
    by_cases h1 : 1000 < j
    · have h2 : (1000 : Int32) < nI j := nI_lt (a := 1000) h1 hj
      rw [if_pos h2, if_pos (by decide), Nat.min_eq_left (Nat.le_of_lt h1)]
      rfl
    · have h2 : ¬ (1000 : Int32) < nI j := nI_nlt (a := 1000) (b := j) (by omega) (by omega)
      rw [if_neg h2, Nat.min_eq_right (by omega)]
      by_cases h3 : j = 0
      · subst h3
        rfl
      · rw [if_pos (show (0 : Int32) < nI j from nI_lt (a := 0) (by omega) hj)]
/-- what the table tells of a strength -/
def zov (pl : Nat → Int32) (q : Nat) : Int32 := if q / 100 < 10 then pl (q / 100) + (pl (q / 100 + 1) - pl (q / 100)) * nI (q % 100) / 100 else pl 10
def zch (w k : Nat → Int32) : Nat → Int32 := fun i => match i with
  | 0 => w 0 + k 0
  | 1 => w 0 * w 1 + k 1
  | 2 => w 2 + k 2
  | _ => w 3 + k 3
def zy (pl P : Nat → Int32) : Int32 := zov pl (zcl (zq (P 1) (P 0)))
def zl1 (y p1 : Int32) : Int32 := if p1 < y then p1 else y
def zl2 (p2 fa : Int32) : Int32 := if p2 < p2 * fa / 10 + 1 then p2 else p2 * fa / 10 + 1
def zl3 (p3 y sl : Int32) : Int32 := zq (p3 * (1000 - y)) (1000 * sl)
/-- the litre that goes over out of the pot P -/
def zli (pl ru P : Nat → Int32) : Nat → Int32 := fun i => match i with
  | 0 => 1
  | 1 => zl1 (zy pl P) (P 1)
  | 2 => zl2 (P 2) (ru 3)
  | _ => zl3 (P 3) (zy pl P) (ru 4)
/-- the pot behind so many litres -/
def zP (pl ru c : Nat → Int32) : Nat → Nat → Int32
  | 0 => c
  | i + 1 => fun k => zP pl ru c i k - zli pl ru (zP pl ru c i) k
abbrev zgo (pl ru P : Nat → Int32) : Prop := ¬ P 0 ≤ 1 ∧ ru 2 ≤ zy pl P
/-- how many litres go over -/
def zNf (pl ru c : Nat → Int32) : Nat → Nat → Nat
  | 0, i => i
  | f + 1, i => if zgo pl ru (zP pl ru c i) then zNf pl ru c f (i + 1) else i
def zN (pl ru c : Nat → Int32) : Nat := zNf pl ru c 40 0
theorem zNf_at {pl ru c : Nat → Int32} : ∀ {f i n : Nat}, i ≤ n → n ≤ i + f → (∀ j, i ≤ j → j < n → zgo pl ru (zP pl ru c j)) → (n = i + f ∨ ¬ zgo pl ru (zP pl ru c n)) → zNf pl ru c f i = n
  | 0, i, n, h1, h2, _, _ => by
    have : n = i := by omega
    rw [this]
    rfl
  | f + 1, i, n, h1, h2, hg, he => by
    by_cases hz : zgo pl ru (zP pl ru c i)
    · by_cases e : n = i
      · rcases he with he | he
        · omega
        · rw [e] at he
          exact absurd hz he
      · rw [show zNf pl ru c (f + 1) i = zNf pl ru c f (i + 1) from if_pos hz]
        exact zNf_at (by omega) (by omega) (fun j a b => hg j (by omega) b) (by
          rcases he with he | he
          · left; omega
          · right; exact he)
    · rw [show zNf pl ru c (f + 1) i = i from if_neg hz]
      by_cases e : n = i
      · exact e.symm
      · exact absurd (hg i (Nat.le_refl _) (by omega)) hz
theorem zN_at {pl ru c : Nat → Int32} {n : Nat} (h : n ≤ 40) (hg : ∀ j, j < n → zgo pl ru (zP pl ru c j)) (he : n = 40 ∨ ¬ zgo pl ru (zP pl ru c n)) : n = zN pl ru c :=
  (zNf_at (f := 40) (i := 0) (Nat.zero_le _) (by omega) (fun j _ b => hg j b) (by rcases he with he | he; left; omega; right; exact he)).symm
theorem zNf_go {pl ru c : Nat → Int32} : ∀ (f i : Nat), i ≤ zNf pl ru c f i ∧ zNf pl ru c f i ≤ i + f ∧ ∀ j, i ≤ j → j < zNf pl ru c f i → zgo pl ru (zP pl ru c j)
  | 0, i => ⟨Nat.le_refl _, Nat.le_refl _, fun j a b => absurd b (by show ¬ j < i; omega)⟩
  | f + 1, i => by
    by_cases hz : zgo pl ru (zP pl ru c i)
    · rw [show zNf pl ru c (f + 1) i = zNf pl ru c f (i + 1) from if_pos hz]
      obtain ⟨a1, a2, a3⟩ := zNf_go (pl := pl) (ru := ru) (c := c) f (i + 1)
      refine ⟨by omega, by omega, fun j h1 h2 => ?_⟩
      by_cases e : j = i
      · rw [e]; exact hz
      · exact a3 j (by omega) h2
    · rw [show zNf pl ru c (f + 1) i = i from if_neg hz]
      exact ⟨Nat.le_refl _, by omega, fun j a b => absurd b (by omega)⟩
theorem zN_le (pl ru c : Nat → Int32) : zN pl ru c ≤ 40 := by
  have h := (zNf_go (pl := pl) (ru := ru) (c := c) 40 0).2.1
  unfold zN
  omega
theorem zN_go (pl ru c : Nat → Int32) {j : Nat} (h : j < zN pl ru c) : zgo pl ru (zP pl ru c j) := (zNf_go (pl := pl) (ru := ru) (c := c) 40 0).2.2 j (Nat.zero_le _) h
/-- litre i's part k; its y -/
def zL (pl ru c : Nat → Int32) (k i : Nat) : Int32 := zli pl ru (zP pl ru c i) k
def zY (pl ru c : Nat → Int32) (i : Nat) : Int32 := zy pl (zP pl ru c i)
def zar (g F : Nat → Int32) (i : Nat) : Prop := ∀ j, j < i → g j = F j
theorem zar_0 (g F : Nat → Int32) : zar g F 0 := fun j h => absurd h (Nat.not_lt_zero _)
theorem zar_s {g F : Nat → Int32} {i : Nat} {v : Int32} (h : zar g F i) (hv : v = F i) : zar (upd g i v) F (i + 1) := by
  intro j hj
  by_cases e : j = i
  · rw [e, pk_us, hv]
  · rw [pk_un e]
    exact h j (by omega)
theorem zar_k {g F : Nat → Int32} {i k : Nat} {v : Int32} (h : zar g F i) (hk : i ≤ k) : zar (upd g k v) F i := by
  intro j hj
  rw [pk_un (by omega)]
  exact h j hj
/-- sums -/
def zS (f : Nat → Int32) : Nat → Int32
  | 0 => 0
  | n + 1 => zS f n + f n
def zG (f : Nat → Int32) (a b : Nat) : Int32 := zS f b - zS f a
theorem zG_0 (f : Nat → Int32) (a : Nat) : (0 : Int32) = zG f a a := (Int32.sub_self _).symm
theorem zG_s {f : Nat → Int32} {a i : Nat} {t : Int32} (h : t = zG f a i) : t + f i = zG f a (i + 1) := by
  rw [h]
  unfold zG
  rw [show zS f (i + 1) = zS f i + f i from rfl, Int32.sub_eq_add_neg, Int32.sub_eq_add_neg, Int32.add_assoc, Int32.add_assoc, Int32.add_comm (-zS f a)]
theorem zS_congr {f g : Nat → Int32} : ∀ {n : Nat}, zar f g n → zS f n = zS g n
  | 0, _ => rfl
  | n + 1, h => by
    show zS f n + f n = zS g n + g n
    rw [zS_congr (fun j hj => h j (by omega)), h n (Nat.lt_succ_self n)]
theorem zG_congr {f g : Nat → Int32} {a b n : Nat} (h : zar f g n) (ha : a ≤ n) (hb : b ≤ n) : zG f a b = zG g a b := by
  unfold zG
  rw [zS_congr (fun j hj => h j (by omega)), zS_congr (n := a) (fun j hj => h j (by omega))]
/-- where tails begin -/
def zTf (y : Nat → Int32) (cut : Int32) : Nat → Nat → Nat
  | 0, i => i
  | f + 1, i => if y i < cut then i else zTf y cut f (i + 1)
def zT (y : Nat → Int32) (n fo : Nat) (cut : Int32) : Nat := zTf y cut (n - min fo n) (min fo n)
theorem zTf_at {y : Nat → Int32} {cut : Int32} : ∀ {f i t : Nat}, i ≤ t → t ≤ i + f → (∀ j, i ≤ j → j < t → ¬ y j < cut) → (t = i + f ∨ y t < cut) → zTf y cut f i = t
  | 0, i, t, h1, h2, _, _ => by
    have : t = i := by omega
    rw [this]
    rfl
  | f + 1, i, t, h1, h2, hg, he => by
    by_cases hz : y i < cut
    · rw [show zTf y cut (f + 1) i = i from if_pos hz]
      by_cases e : t = i
      · exact e.symm
      · exact absurd hz (hg i (Nat.le_refl _) (by omega))
    · rw [show zTf y cut (f + 1) i = zTf y cut f (i + 1) from if_neg hz]
      by_cases e : t = i
      · rcases he with he | he
        · omega
        · rw [e] at he
          exact absurd he hz
      · exact zTf_at (by omega) (by omega) (fun j a b => hg j (by omega) b) (by
          rcases he with he | he
          · left; omega
          · right; exact he)
theorem zT_at {y : Nat → Int32} {n fo t : Nat} {cut : Int32} (h1 : min fo n ≤ t) (h2 : t ≤ n) (hg : ∀ j, min fo n ≤ j → j < t → ¬ y j < cut) (he : t = n ∨ y t < cut) : t = zT y n fo cut :=
  (zTf_at (f := n - min fo n) (i := min fo n) h1 (by omega) hg (by rcases he with he | he; left; omega; right; exact he)).symm
theorem zTf_in {y : Nat → Int32} {cut : Int32} : ∀ (f i : Nat), i ≤ zTf y cut f i ∧ zTf y cut f i ≤ i + f
  | 0, i => ⟨Nat.le_refl _, Nat.le_refl _⟩
  | f + 1, i => by
    by_cases hz : y i < cut
    · rw [show zTf y cut (f + 1) i = i from if_pos hz]
      exact ⟨Nat.le_refl _, by omega⟩
    · rw [show zTf y cut (f + 1) i = zTf y cut f (i + 1) from if_neg hz]
      have := zTf_in (y := y) (cut := cut) f (i + 1)
      omega
theorem zT_in (y : Nat → Int32) (n fo : Nat) (cut : Int32) : min fo n ≤ zT y n fo cut ∧ zT y n fo cut ≤ n := by
  have h := zTf_in (y := y) (cut := cut) (n - min fo n) (min fo n)
  unfold zT
  omega
theorem zTf_congr {y z : Nat → Int32} {cut : Int32} : ∀ {f i n : Nat}, zar y z n → i + f ≤ n → zTf y cut f i = zTf z cut f i
  | 0, i, n, _, _ => rfl
  | f + 1, i, n, h, hn => by
    show (if y i < cut then i else zTf y cut f (i + 1)) = if z i < cut then i else zTf z cut f (i + 1)
    rw [h i (by omega), zTf_congr h (by omega)]
theorem zT_congr {y z : Nat → Int32} {n fo : Nat} {cut : Int32} (h : zar y z n) : zT y n fo cut = zT z n fo cut := zTf_congr h (by omega)
theorem zmin {a b : Nat} (ha : a < 2 ^ 31) (hb : b < 2 ^ 31) : (if nI b < nI a then nI b else nI a) = nI (min a b) := by
  by_cases h : b < a
  · rw [if_pos (nI_lt h ha), Nat.min_eq_right (Nat.le_of_lt h)]
  · rw [if_neg (nI_nlt (by omega) hb), Nat.min_eq_left (by omega)]
/-! heads, heart, tails of the run that is next; what is kept then -/
def zfo (ru : Nat → Int32) : Nat := (ru 0).toNatClampNeg
theorem zfo_eq {ru : Nat → Int32} (h : ¬ ru 0 < 0) : ru 0 = nI (zfo ru) ∧ zfo ru < 2 ^ 31 := by
  obtain ⟨j, hj, e⟩ := nI_of h
  unfold zfo
  rw [e, nI_clamp hj]
  exact ⟨rfl, hj⟩
def zhe (pl ru c : Nat → Int32) : Nat := min (zfo ru) (zN pl ru c)
def zte (pl ru c : Nat → Int32) : Nat := zT (zY pl ru c) (zN pl ru c) (zfo ru) (ru 1)
theorem zte_in (pl ru c : Nat → Int32) : zhe pl ru c ≤ zte pl ru c ∧ zte pl ru c ≤ zN pl ru c := zT_in _ _ _ _
def zA (pl ru c : Nat → Int32) (k : Nat) : Int32 := zG (zL pl ru c k) 0 (zhe pl ru c)
def zB (pl ru c : Nat → Int32) (k : Nat) : Int32 := zG (zL pl ru c k) (zhe pl ru c) (zte pl ru c)
def zD (pl ru c : Nat → Int32) (k : Nat) : Int32 := zG (zL pl ru c k) (zte pl ru c) (zN pl ru c)
def zK1 (w pl ru k : Nat → Int32) : Nat → Int32 := fun i => zA pl ru (zch w k) i + zD pl ru (zch w k) i
def zKr (w pl ru k : Nat → Int32) : Nat → Nat → Int32
  | 0 => k
  | r + 1 => zK1 w pl ru (zKr w pl ru k r)
/-- the heart of run r from here on -/
def zHs (w pl ru k : Nat → Int32) (i r : Nat) : Int32 := zB pl ru (zch w (zKr w pl ru k r)) i
def zk4 (a b c d : Int32) : Nat → Int32 := fun i => match i with
  | 0 => a
  | 1 => b
  | 2 => c
  | _ => d
def zk5 (a b c d e : Int32) : Nat → Int32 := fun i => match i with
  | 0 => a
  | 1 => b
  | 2 => c
  | 3 => d
  | _ => e
/-- cuts weighed: how many are good, the best one's fore, cut, spirit, taint -/
def zw (b h : Nat → Int32) (f c lim : Int32) : Nat → Int32 :=
  if h 0 < 1 ∨ lim < zq (h 2 + h 3) (h 0) then zk5 (b 0) (b 1) (b 2) (b 3) (b 4)
  else if b 0 + 1 = 1 ∨ b 3 < h 1 then zk5 (b 0 + 1) f c (h 1) (zq (h 2 + h 3) (h 0)) else zk5 (b 0 + 1) (b 1) (b 2) (b 3) (b 4)
/-- the heart by other cuts upon one boiling -/
def zBc (pl ru c : Nat → Int32) (fo : Nat) (cut : Int32) (k : Nat) : Int32 := zG (zL pl ru c k) (min fo (zN pl ru c)) (zT (zY pl ru c) (zN pl ru c) fo cut)
def zBi (pl ru c b : Nat → Int32) (fo en : Nat) : Nat → Nat → Int32
  | 0 => b
  | i + 1 => zw (zBi pl ru c b fo en i) (zBc pl ru c fo (nI (en + 50 * i))) (nI fo) (nI (en + 50 * i)) (ru 5)
def zBo (pl ru c b : Nat → Int32) (en : Nat) : Nat → Nat → Int32
  | 0 => b
  | f + 1 => zBi pl ru c (zBo pl ru c b en f) f en ((1000 - en) / 50 + 1)
def zen (ru : Nat → Int32) : Nat := (ru 2).toNatClampNeg
/-! how runs settle, how a cask fills -/
def zsame (K : Nat → Nat → Int32) (a b : Nat) : Prop := K a 0 = K b 0 ∧ K a 1 = K b 1 ∧ K a 2 = K b 2 ∧ K a 3 = K b 3
def zset1 (K : Nat → Nat → Int32) (R e : Nat) : Prop := 1 ≤ R ∧ R ≤ 300 ∧ e < R ∧ zsame K e R ∧ (∀ d, d < e → ¬ zsame K d R) ∧ ∀ r, 1 ≤ r → r < R → ∀ d, d < r → ¬ zsame K d r
def zset0 (K : Nat → Nat → Int32) : Prop := ∀ r, 1 ≤ r → r ≤ 300 → ∀ d, d < r → ¬ zsame K d r
theorem zch_congr {w k k' : Nat → Int32} (h0 : k 0 = k' 0) (h1 : k 1 = k' 1) (h2 : k 2 = k' 2) (h3 : k 3 = k' 3) : zch w k = zch w k' := by
  funext i
  match i with
  | 0 => show w 0 + k 0 = w 0 + k' 0; rw [h0]
  | 1 => show w 0 * w 1 + k 1 = w 0 * w 1 + k' 1; rw [h1]
  | 2 => show w 2 + k 2 = w 2 + k' 2; rw [h2]
  | n + 3 => show w 3 + k 3 = w 3 + k' 3; rw [h3]
theorem zKr_add (w pl ru k : Nat → Int32) (a : Nat) : ∀ r, zKr w pl ru (zKr w pl ru k a) r = zKr w pl ru k (a + r)
  | 0 => rfl
  | r + 1 => by
    show zK1 w pl ru (zKr w pl ru (zKr w pl ru k a) r) = zK1 w pl ru (zKr w pl ru k (a + r))
    rw [zKr_add w pl ru k a r]
theorem zKr_ch {w pl ru k : Nat → Int32} {a b : Nat} (h : zsame (zKr w pl ru k) a b) : ∀ r, zch w (zKr w pl ru k (a + r)) = zch w (zKr w pl ru k (b + r))
  | 0 => zch_congr h.1 h.2.1 h.2.2.1 h.2.2.2
  | r + 1 => by
    have e := zKr_ch h r
    have e2 : zKr w pl ru k (a + (r + 1)) = zKr w pl ru k (b + (r + 1)) := by
      show zK1 w pl ru (zKr w pl ru k (a + r)) = zK1 w pl ru (zKr w pl ru k (b + r))
      unfold zK1
      rw [e]
    rw [e2]
theorem zS_shift (f : Nat → Int32) (a : Nat) : ∀ n, zS (fun r => f (a + r)) n = zG f a (a + n)
  | 0 => (Int32.sub_self _).symm
  | n + 1 => by
    show zS (fun r => f (a + r)) n + f (a + n) = zG f a (a + (n + 1))
    rw [zS_shift f a n]
    exact zG_s rfl
theorem zset_sum {w pl ru k : Nat → Int32} {R d i : Nat} (h : zsame (zKr w pl ru k) d R) (hd : d ≤ R) : zS (zHs w pl ru (zKr w pl ru k R) i) (R - d) = zG (zHs w pl ru k i) d R := by
  have e : zS (zHs w pl ru (zKr w pl ru k R) i) (R - d) = zS (fun r => zHs w pl ru k i (d + r)) (R - d) := by
    refine zS_congr (fun r _ => ?_)
    show zB pl ru (zch w (zKr w pl ru (zKr w pl ru k R) r)) i = zB pl ru (zch w (zKr w pl ru k (d + r))) i
    rw [zKr_add, zKr_ch h r]
  rw [e, zS_shift (zHs w pl ru k i) d (R - d)]
  congr 1
  omega
def zfil1 (S : Nat → Int32) (n : Int32) (R : Nat) : Prop := 1 ≤ R ∧ R ≤ 300 ∧ n ≤ S R ∧ ∀ r, 1 ≤ r → r < R → ¬ n ≤ S r
def zfil0 (S : Nat → Int32) (n : Int32) : Prop := ∀ r, 1 ≤ r → r ≤ 300 → ¬ n ≤ S r
theorem zen_eq {ru : Nat → Int32} (h0 : ¬ ru 2 < 0) (h1 : ru 2 ≤ 1000) : ru 2 = nI (zen ru + 50 * 0) ∧ zen ru ≤ 1000 := by
  obtain ⟨j, hj, e⟩ := nI_of2 (n := 1000) (M := 1000) (by decide) h0 h1
  unfold zen
  rw [e, nI_clamp (by omega)]
  exact ⟨rfl, hj⟩
theorem zk_mn {N M q : Nat} (hN : N < 2 ^ 31) (hM : M < 2 ^ 31) (hq : q ≤ M) (hqN : q ≤ N) : (if 0 < (if (if nI N < nI M then nI N else nI M) < nI q then (if nI N < nI M then nI N else nI M) else nI q) then (if (if nI N < nI M then nI N else nI M) < nI q then (if nI N < nI M then nI N else nI M) else nI q) else 0) = nI q := by
  rw [zmin hM hN, zmin (a := q) (b := min M N) (by omega) (by omega), Nat.min_eq_left (a := q) (b := min M N) (by omega)]
  by_cases h : q = 0
  · subst h
    rfl
  · rw [if_pos (show (0 : Int32) < nI q from nI_lt (a := 0) (by omega) (by omega))]
