/-! the start: words, classes, static rows -/
theorem wsL_law_in : ∀ w ∈ wsL_law, w ∈ lw_tbl := by
  intro w h
  unfold wsL_law at h
  simp only [List.mem_append] at h
  have hn : ∀ {x : Cond}, x ∈ ([] : List Cond) → x ∈ lw_tbl := fun q => absurd q List.not_mem_nil
  rcases h with (((((((((h | h | h | h | h | h | h | h | h | h | h | h | h | h | h | h | h | h | h | h | h | h | h | h | h) | h) | h) | h) | h) | h) | h) | h) | h) | h
  · exact inLr1 w h
  · exact inLr2 w h
  · exact inLr3 w h
  · exact inLr4 w h
  · exact inLr5 w h
  · exact inLr6 w h
  · exact inLr7 w h
  · exact inLr8 w h
  · exact inLr9 w h
  · exact inLr10 w h
  · exact inLr11 w h
  · exact inLr12 w h
  · exact inLr13 w h
  · exact inLr14 w h
  · exact inLr15 w h
  · exact inLr16 w h
  · exact inLr17 w h
  · exact inLr18 w h
  · exact inLr19 w h
  · exact inLr20 w h
  · exact inLr21 w h
  · exact inLr22 w h
  · exact inLr23 w h
  · exact inLr24 w h
  · exact inLr25 w h
  · exact inX6 w h
  · exact inX7 w h
  · exact inX5 w h
  · exact inX4 w h
  · exact inX0 w h
  · exact inX1 w h
  · exact inX2 w h
  · exact inX3 w h
  · exact hn h
theorem zlen_spec {args : Array Value} {s : State} {t : Term} {v : Value} (h : (Term.length t).eval args s none [] s = some v) : ∃ a cell, t.eval args s none [] s = some (.ref a) ∧ s.arrayAt? a = some cell ∧ cell.slots.size < 2 ^ 31 ∧ v = .int cell.slots.size.toInt32 := by
  simp only [Term.eval, Option.bind_eq_bind] at h
  cases ht : t.eval args s none [] s with
  | none => simp [ht] at h
  | some x =>
    cases x <;> simp [ht] at h
    case ref a =>
      obtain ⟨cell, hcell, h⟩ := Option.bind_eq_some_iff.mp h
      by_cases hn : cell.slots.size < 2147483648
      · rw [if_pos hn] at h; cases h; exact ⟨a, cell, rfl, hcell, hn, rfl⟩
      · rw [if_neg hn] at h; cases h
theorem zst_of {args : Array Value} {s : State} {nm : String} {N : Nat} {f : Nat → Int32} {A : Nat → Prop} {cI : ClassId} (hN : N < 2 ^ 31) (hl : (Cond.laysStatic "PotCuts" nm "[I").before args s = true) (hini : (Cond.initialized "PotCuts").before args s = true) (hlen : (Cond.eq (.length (.static "PotCuts" nm "[I")) (.int (Int32.ofNat N))).before args s = true)
    (hel : ∀ j : Nat, j < N → (Cond.eq (.elem (.static "PotCuts" nm "[I") (.int (Int32.ofNat j))) (.int (f j))).before args s = true) (hex : (Cond.exactly (.static "PotCuts" nm "[I") "[I").before args s = true) (hcI : s.vm.findClass "[I" = some cI) (hA : ∀ a : Nat, a < s.heap.size → ¬ A a) : ∃ t : Nat, zk_st cI nm t N f A s s.heap := by
  obtain ⟨t, cell, ht, hat, hsz, hv⟩ := zlen_spec (va_eqt hlen)
  obtain ⟨hcell, hkn, hns, -⟩ := State.arrayAt?_spec hat
  obtain ⟨t2, c2, cell2, k2, e1, e2, e3, -, -, e6, -⟩ := Cond.exactly_spec (args := args) (first := s) (o := none) (s := s) (idx := []) hex
  cases ht.symm.trans e1
  cases hcell.symm.trans e3
  cases hcI.symm.trans e2
  have hsN : cell.slots.size = N := by
    have h1 : nI N = nI cell.slots.size := Value.int.inj hv
    exact ((nI_eq hN hsz).mp h1).symm
  have key : ∀ j : Nat, j < N → cell.slots[j]? = some (.int (f j)) := by
    intro j hj
    obtain ⟨a, i, cell3, h1, h2, h3, h4, h5⟩ := Term.elem_spec (va_eqt (hel j hj))
    cases ht.symm.trans h1
    cases hat.symm.trans h3
    have hi : i = Int32.ofNat j := by
      have e : (Term.int (Int32.ofNat j)).eval args s none [] s = some (.int (Int32.ofNat j)) := rfl
      cases h2.symm.trans e
      rfl
    have hc : i.toNatClampNeg = j := by rw [hi]; exact nI_clamp (Nat.lt_trans hj hN)
    rw [hc] at h5
    exact h5
  refine ⟨t, va_Zof hl hini ht hA, cell, hcell, e6, ?_, hkn, ?_, hA t (Array.getElem?_eq_some_iff.mp hcell).1⟩
  · apply Array.ext_getElem?
    intro j
    rcases Nat.lt_or_ge j N with h | h
    · rw [key j h, arrV_read _ _ h]
    · rw [Array.getElem?_eq_none (by omega), Array.getElem?_eq_none (by rw [arrV_size]; exact h)]
  · intro k hk
    rw [hk] at hns
    cases hns
theorem zk_nest_in : ∀ w ∈ zk_nest, w ∈ lw_tbl := by decide +kernel
