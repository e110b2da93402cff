theorem zk_inc (i : Nat) : nI i + Int32.ofInt 1 = nI (i + 1) := nI_1 i
theorem zk_ite0 {P : Prop} [Decidable P] (h : (if P then (1 : Int32) else 0) = 0) : ¬ P := by
  intro hp
  rw [if_pos hp] at h
  exact absurd h (by decide)
theorem zk_ite1 {P : Prop} [Decidable P] (h : ¬ (if P then (1 : Int32) else 0) = 0) : P := by
  by_cases hp : P
  · exact hp
  · rw [if_neg hp] at h
    exact absurd rfl h
def zk_pf (cc : ByteArray) (Ts : List Cond) (own : String) (pc ci k : Nat) (ty : FieldType) : Prop := ∃ (C : String) (T : u_T) (N index : Nat) (ty0 : Nat → FieldType), vwCl[ci]? = some (C, T, N) ∧ (∀ w ∈ u_ws C T N, w ∈ Ts) ∧ (∀ k, k < N → parseFieldDescriptor (T k).2.2.1 = some (ty0 k)) ∧ (∀ a, a < N → ∀ b, b < N → a ≠ b → (T a).2.1 ≠ (T b).2.1) ∧ k < N ∧ Cond.fieldLink own index C (T k).2.1 (T k).2.2.1 ∈ Ts ∧ (T k).1 = C ∧ (T k).2.2.2 = true ∧ (T k).1 = own ∧ parseFieldDescriptor (T k).2.2.1 = some ty ∧ decode cc pc = .ok (.putfield index, 3)
section ZKG
variable {p : Program} {l : Launch} {e : Env} {R : Room} {s : State} {m : MethodId} {args : Array Value} {below : List Frame} {meth : Method} {c : Code} {H : Heap} {locs : List Loc} {cells slots : Nat} {Q : State → Prop}
variable {cc : ByteArray} {nL pc ci k a : Nat} {Ts : List Cond} {own : String} {rest : List Value} {ls : Array Slot}
variable {D : va_G} {cI cZ : ClassId} {ts : Nat → Nat} {A B : Nat → Prop} {H0 H9 : Heap} {ws ws' : va_W}
theorem zk_putF {ty : FieldType} (X : CallFix p m c cc nL s args Ts own) (hE : zk_E D cI cZ ts B s H9) (hin : meth.name = "<init>") (hs : zk_pf cc Ts own pc ci k ty) (hP : va_P D vwCl ws H) (hD : va_D A ws) (hS : va_S A H0 H locs) (q0 : Nat) {fs : List Value} {v : Value} (he : ws[q0]? = some (a, .inr (ci, fs))) (hlen : k < fs.length) (hn : narrow ty v = v) (hfit : fits ty v = true) (hws : ws.set q0 (a, .inr (ci, fs.set k v)) = ws')
    (kk : ∀ (H1 : Heap) (locs1 : List Loc), va_P D vwCl ws' H1 → va_D A ws' → va_S A H0 H1 locs1 → W p l e R s m args below meth c H1 locs1 cells slots Q (F0 m (pc + 3) ls rest)) : W p l e R s m args below meth c H locs cells slots Q (F0 m pc ls (v :: .ref a :: rest)) := by
  subst hws
  obtain ⟨C, T, N, index, ty0, hc, hin2, hty, hnm, hk, hlk, hd, hf, hdo, hpd, hdg⟩ := hs
  exact va_putF X.1 X.2.1 X.2.2.2.2 hin2 ty0 hty hnm X.2.2.2.1 hE.1 hP hD hS q0 he hc k hk (X.2.2.2.2 _ hlk) (fun x h => by rw [hd] at h; exact h) hf hin hdo hpd hn hfit hlen hdg kk
theorem zk_zst (hx : p.tables.exec = Jvm.exec) (hb : c.code = cc) (hE : zk_E D cI cZ ts B s H9) (hP : va_P D vwCl ws H) (hD : va_D A ws) (hS : va_S A H0 H locs) (q0 j : Nat) {n : Nat} {f : Nat → Int32} {i x : Int32} (ha : ws[q0]? = some (a, .inl (cZ, n, .inl f))) (hi : i = nI j) (hj : j < n) (hn : n < 2 ^ 31) (hv : vp_nar .boolean x = x) (hdg : decode cc pc = .ok (.bastore, 1)) (hws : ws.set q0 (a, .inl (cZ, n, .inl (upd f j x))) = ws')
    (kk : ∀ (H1 : Heap) (locs1 : List Loc), va_P D vwCl ws' H1 → va_D A ws' → va_S A H0 H1 locs1 → W p l e R s m args below meth c H1 locs1 cells slots Q (F0 m (pc + 1) ls rest)) : W p l e R s m args below meth c H locs cells slots Q (F0 m pc ls (.int x :: .int i :: .ref a :: rest)) := by
  subst hi
  subst hws
  refine va_zast hx hb hE.1 hP hD hS q0 1 ha rfl (vp_in_nI hj hn) hdg ?_
  rw [nI_clamp (Nat.lt_trans hj hn), hv]
  exact kk
/-- a static row, read -/
theorem zk_sld {nm : String} {t N : Nat} {f : Nat → Int32} (hx : p.tables.exec = Jvm.exec) (hb : c.code = cc) (hE : zk_E D cI cZ ts A s s.heap) (hZ : zk_st cI nm t N f A s s.heap) (hS : va_S A s.heap H locs) (j : Nat) {i : Int32} (hi : i = nI j) (hj : j < N) (hN : N < 2 ^ 31) (hdg : decode cc pc = .ok (.iaload, 1))
    (kk : W p l e R s m args below meth c H locs cells slots Q (F0 m (pc + 1) ls (.int (f j) :: rest))) : W p l e R s m args below meth c H locs cells slots Q (F0 m pc ls (.int i :: .ref t :: rest)) := by
  subst hi
  obtain ⟨-, cell, h1, h2, h3, h4, h5, h6⟩ := hZ
  have hsz : cell.slots.size = N := by rw [h3]; exact arrV_size _ _ _
  have hcl : (nI j).toNatClampNeg = j := nI_clamp (Nat.lt_trans hj hN)
  refine W.iald (v := .int (f j)) hx hb (by rw [hS.2.1 t (Array.getElem?_eq_some_iff.mp h1).1 h6]; exact h1) ?_ h4 (by rw [hsz]; exact vp_in_nI hj hN) (by rw [h3, hcl]; exact arrV_read _ _ hj) rfl rfl hdg kk
  obtain ⟨-, kA, hkA, comp, hkind⟩ := (hE.1.2 0 _ rfl).1 0 (fun _ => .null)
  exact ⟨h5, kA, by rw [h2]; exact hkA, comp, hkind⟩
end ZKG
