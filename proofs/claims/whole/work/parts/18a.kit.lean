/-! things made anew -/
def zz0 : Nat → Int32 := fun _ => 0
section ZKN
variable {p : Program} {l : Launch} {e : Env} {R : Room} {s : State} {m : MethodId} {args : Array Value} {below : List Frame} {meth : Method} {c : Code} {H : Heap} {locs : List Loc} {cells slots : Nat} {Q : State → Prop}
variable {cc : ByteArray} {pc : Nat} {rest : List Value} {ls : Array Slot}
variable {D : va_G} {cI cZ : ClassId} {ts : Nat → Nat} {A B : Nat → Prop} {H0 H9 : Heap} {ws : va_W}
theorem zk_nmI (hE : zk_E D cI cZ ts B s H9) : s.vm.findClass "[I" = some cI := (hE.1.2 0 _ rfl).2
theorem zk_newI (hx : p.tables.exec = Jvm.exec) (hb : c.code = cc) (harr : (Cond.arrayClass .int).before args s = true) (hE : zk_E D cI cZ ts B s H9) (hP : va_P D vwCl ws H) (hD : va_D A ws) (hS : va_S A H0 H locs) (hA : ∀ q, H0.size ≤ q → A q) {n : Int32} {N : Nat} (hn : ¬ n < 0) (hN : n.toNatClampNeg = N) (hbytes : N * componentBytes .int ≤ 536870912) (hcells : cells + 1 ≤ R.cells) (hslots : slots + N ≤ R.slots) (hdg : decode cc pc = .ok (.newarray .int, 2))
    (kk : ∀ (q : Nat) (H1 : Heap), va_P D vwCl (ws ++ [(q, .inl (cI, N, .inl zz0))]) H1 → va_D A (ws ++ [(q, .inl (cI, N, .inl zz0))]) → va_S A H0 H1 locs → W p l e R s m args below meth c H1 locs (cells + 1) (slots + N) Q (F0 m (pc + 2) ls (.ref q :: rest))) : W p l e R s m args below meth c H locs cells slots Q (F0 m pc ls (.int n :: rest)) := by
  refine va_newa (atype := .int) (ty := .int) (a0 := (N, .inl zz0)) hx hb harr rfl hE.1 hP hD hS hA (fun cA => vp_cell_i cA N zz0) hn hN hbytes hcells hslots hdg (fun q cA H1 hK hP1 hD1 hS1 => ?_)
  have h1 : s.vm.findClass ("[" ++ FieldType.int.toString) = some cA := (hK.2 2 _ rfl).2
  have h2 : s.vm.findClass ("[" ++ FieldType.int.toString) = some cI := (hE.1.2 0 _ rfl).2
  cases h1.symm.trans h2
  exact kk q H1 hP1 hD1 hS1
theorem zk_newZ (hx : p.tables.exec = Jvm.exec) (hb : c.code = cc) (harr : (Cond.arrayClass .boolean).before args s = true) (hE : zk_E D cI cZ ts B s H9) (hP : va_P D vwCl ws H) (hD : va_D A ws) (hS : va_S A H0 H locs) (hA : ∀ q, H0.size ≤ q → A q) {n : Int32} {N : Nat} (hn : ¬ n < 0) (hN : n.toNatClampNeg = N) (hbytes : N * componentBytes .boolean ≤ 536870912) (hcells : cells + 1 ≤ R.cells) (hslots : slots + N ≤ R.slots) (hdg : decode cc pc = .ok (.newarray .boolean, 2))
    (kk : ∀ (q : Nat) (H1 : Heap), va_P D vwCl (ws ++ [(q, .inl (cZ, N, .inl zz0))]) H1 → va_D A (ws ++ [(q, .inl (cZ, N, .inl zz0))]) → va_S A H0 H1 locs → W p l e R s m args below meth c H1 locs (cells + 1) (slots + N) Q (F0 m (pc + 2) ls (.ref q :: rest))) : W p l e R s m args below meth c H locs cells slots Q (F0 m pc ls (.int n :: rest)) := by
  refine va_newa (atype := .boolean) (ty := .boolean) (a0 := (N, .inl zz0)) hx hb harr rfl hE.1 hP hD hS hA (fun cA => vp_cell_i cA N zz0) hn hN hbytes hcells hslots hdg (fun q cA H1 hK hP1 hD1 hS1 => ?_)
  have h1 : s.vm.findClass ("[" ++ FieldType.boolean.toString) = some cA := (hK.2 2 _ rfl).2
  have h2 : s.vm.findClass ("[" ++ FieldType.boolean.toString) = some cZ := (hE.1.2 1 _ rfl).2
  cases h1.symm.trans h2
  exact kk q H1 hP1 hD1 hS1
/-- a static row, cloned -/
theorem zk_cln {nm : String} {t N : Nat} {f : Nat → Int32} (hx : p.tables.exec = Jvm.exec) (hb : c.code = cc) (hml : c.maxLocals = ls.size) {own : String} {index : Nat} (hown : s.vm.findClass own = some m.cls)
    (hlink : (Cond.methodLink own index ⟨"[I", "clone", "()Ljava/lang/Object;"⟩).before args s = true) (hsame : (Cond.sameMethod "[I" "java/lang/Object" "clone" "()Ljava/lang/Object;").before args s = true) (hnat : (Cond.native ⟨"java/lang/Object", "clone", "()Ljava/lang/Object;"⟩).before args s = true) (hinst : (Cond.instanceMethod ⟨"java/lang/Object", "clone", "()Ljava/lang/Object;"⟩).before args s = true)
    (hsel : (Cond.selects "[I" ⟨"[I", "clone", "()Ljava/lang/Object;"⟩ ⟨"java/lang/Object", "clone", "()Ljava/lang/Object;"⟩).before args s = true) (hE : zk_E D cI cZ ts A s s.heap) (hZ : zk_st cI nm t N f A s s.heap) (hP : va_P D vwCl ws H) (hD : va_D A ws) (hS : va_S A s.heap H locs) (hA : ∀ q, s.heap.size ≤ q → A q)
    (hframes : 1 ≤ R.frames) (hlocals : (rest.map fun v => v.category).sum + 14 ≤ R.locals) (hcells : cells + 1 ≤ R.cells) (hslots : slots + N ≤ R.slots) (hdg : decode cc pc = .ok (.invokevirtual index, 3))
    (kk : ∀ (q : Nat) (H1 : Heap), va_P D vwCl (ws ++ [(q, .inl (cI, N, .inl f))]) H1 → va_D A (ws ++ [(q, .inl (cI, N, .inl f))]) → va_S A s.heap H1 locs → W p l e R s m args below meth c H1 locs (cells + 1) (slots + N) Q (F0 m (pc + 3) ls (.ref q :: rest))) : W p l e R s m args below meth c H locs cells slots Q (F0 m pc ls (.ref t :: rest)) := by
  obtain ⟨-, cell, h1, h2, h3, h4, h5, h6⟩ := hZ
  have hsz : cell.slots.size = N := by rw [h3]; exact arrV_size _ _ _
  have hcE : ({ cls := cell.cls, slots := cell.slots } : Cell) = vp_cell cI (N, .inl f) := by rw [h2, h3, vp_cell_i]; rfl
  have hnm := zk_nmI hE
  obtain ⟨c0, t0', f1, f2, f3⟩ := Cond.castable_spec (va_Nw.use (A := args) rfl (hE.2.1 _ (List.mem_of_getElem? (i := 14) rfl)))
  cases hnm.symm.trans f1
  intro T hT X
  have hcellT : T.heap[t]? = some cell := by rw [hT, hS.2.1 t (Array.getElem?_eq_some_iff.mp h1).1 h6]; exact h1
  obtain ⟨-, kA, hkA, comp, hkind⟩ := State.isArrayOf_alike X.warmed.alike ((hE.1.2 0 _ rfl).1 0 (fun _ => .null))
  obtain ⟨-, kS, hkS, compS, hkindS⟩ := (hE.1.2 0 _ rfl).1 0 (fun _ => .null)
  obtain ⟨vm', X', st⟩ := X.cloneArray hx hown hlink hsame hnat hinst hsel (a := t) (cell := cell) hcellT h5 h4 (by rw [h2]; exact hnm) f2 (by rw [h2]; exact f3)
    (fun i v hv => by
      rw [h2]
      have hk' : T.vm.classes[cI]? = some kA := hkA
      have hv2 : v = .int (f i) := by
        rw [h3] at hv
        have hi : i < N := by
          have := (Array.getElem?_eq_some_iff.mp hv).1
          rw [arrV_size] at this
          exact this
        rw [arrV_read _ _ hi] at hv
        exact (Option.some.inj hv).symm
      subst hv2
      simp [State.fitsSlot, State.slotType?, hk', hkind, fits])
    (g := F0 m pc ls (.ref t :: rest)) rfl (by rw [hml]) rfl (by rw [hb]; exact hdg) hframes (by show 2 * 0 + _ + 14 ≤ _; omega) hcells (by rw [hsz]; exact hslots) (hloader := by rw [h2]; exact Vm.clonesLoader_of_array hkS hkindS)
  rw [hcE, hsz] at X'
  generalize hH1 : H.push (vp_cell cI (N, .inl f)) = H1
  have z1 : H1.size = H.size + 1 := by rw [← hH1, Array.size_push]
  have e1 : H1[H.size]? = some (vp_cell cI (N, .inl f)) := by rw [← hH1, Array.getElem?_push_size]
  have o1 : ∀ q : Nat, q < H.size → H1[q]? = H[q]? := fun q hq => by rw [← hH1, Array.getElem?_push, if_neg (Nat.ne_of_lt hq)]
  have hk : ∀ (k : Nat) (y : Nat × va_E), ws[k]? = some y → H1[y.1]? = H[y.1]? := fun k y hy => o1 y.1 ((hP k y hy).lt)
  obtain ⟨t2, b1, b2⟩ := kk H.size H1 ((hP.kept hk).app (fun k y hy => by
      have hz : k < 1 := (List.getElem?_eq_some_iff.mp hy).1
      rw [show k = 0 by omega] at hy
      cases hy
      exact e1)) (hD.push hP rfl (hA _ hS.1)) ⟨Nat.le_trans hS.1 (by omega), fun y q1 q2 => (o1 y (Nat.lt_of_lt_of_le q1 hS.1)).trans (hS.2.1 y q1 q2), hS.2.2⟩
    ((T.setVm vm').pushCell (vp_cell cI (N, .inl f))) (by rw [← hH1, ← hT]; rfl) X'
  refine ⟨t2, st t2 ?_, b2⟩
  rw [hcE, hT]
  exact b1
end ZKN
