abbrev vwCl : List vw_C := [(RX0, TX0, 5), (RX1, TX1, 7), (RX2, TX2, 4), (RX3, TX3, 6), (RX4, TX4, 10), (RX5, TX5, 6), (RX6, TX6, 8), (RX7, TX7, 15)]
/-! my own rows over the kit's: what holds around every method, contract forms, one row a call, a field, an array -/
/-- links of private members of nest mates, and the cast of a row to what can be cloned -/
def zk_nest : List Cond := [.methodLinkNest RX6 9 yX5_init "PotCuts", .methodLinkNest RX5 37 yX2_init "PotCuts", .methodLinkNest RX6 28 yX4_init "PotCuts", .methodLinkNest RX4 11 yX2_init "PotCuts", .methodLinkNest RX6 35 yX0_init "PotCuts", .methodLinkNest RX6 42 yX1_init "PotCuts", .methodLinkNest RX1 11 yX2_init "PotCuts", .methodLinkNest RX6 49 yX2_init "PotCuts", .methodLinkNest RX2 28 yX6_quotient "PotCuts", .methodLinkNest RX4 104 yX6_quotient "PotCuts", .fieldLinkNest RX5 9 "PotCuts" "FIRST_WASH" "[I" "PotCuts", .fieldLinkNest RX5 23 "PotCuts" "FIRST_PLACES" "[I" "PotCuts", .fieldLinkNest RX5 29 "PotCuts" "FIRST_RULES" "[I" "PotCuts", .fieldLinkNest RX0 39 "PotCuts" "MOST_RULES" "[I" "PotCuts", .castable "[I" "java/lang/Cloneable"]
def zk_NN (U : State) : Prop := ∀ w ∈ zk_nest, va_Nw w U
theorem zk_nest_on : ∀ w ∈ zk_nest, w.onTables = true := by
  intro w hw
  simp only [zk_nest, List.mem_cons, List.not_mem_nil, or_false] at hw
  rcases hw with rfl | rfl | rfl | rfl | rfl | rfl | rfl | rfl | rfl | rfl | rfl | rfl | rfl | rfl | rfl <;> rfl
theorem zk_NN.same {u U : State} (e : u.vm = U.vm) (h : zk_NN u) : zk_NN U := fun w hw => va_Nw.same (zk_nest_on w hw) e (h w hw)
theorem zk_NN.warm {s U : State} (hW : s.WarmedH U.vm) (h : zk_NN s) : zk_NN U := by
  intro w hw
  have h1 := h w hw
  simp only [zk_nest, List.mem_cons, List.not_mem_nil, or_false] at hw
  rcases hw with rfl | rfl | rfl | rfl | rfl | rfl | rfl | rfl | rfl | rfl | rfl | rfl | rfl | rfl | rfl <;> first | exact va_Nw.warmM hW h1 | exact va_Nw.warmF hW h1 | exact va_Nw.warmC hW h1
/-- a static row of ints that nobody writes -/
def zk_st (cI : ClassId) (nm : String) (t N : Nat) (f : Nat → Int32) (A : Nat → Prop) (U : State) (H : Heap) : Prop := va_Z "PotCuts" nm "[I" (.ref t) A U H ∧ ∃ cell : Cell, H[t]? = some cell ∧ cell.cls = cI ∧ cell.slots = (arrV cI N (fun j => .int (f j))).slots ∧ cell.vm ≠ .unknown ∧ (∀ k, cell.vm ≠ .statics k) ∧ ¬ A t
theorem zk_st.move {cI : ClassId} {nm : String} {t N : Nat} {f : Nat → Int32} {A B : Nat → Prop} {u U : State} {H H1 : Heap} (h : zk_st cI nm t N f A u H) (hvm : u.vm.Alike U.vm) (hq : ∀ a : Nat, a < H.size → ¬ A a → H1[a]? = H[a]?) (hAB : ∀ q, B q → A q) : zk_st cI nm t N f B U H1 := by
  obtain ⟨hZ, cell, h1, h2, h3, h4, h5, h6⟩ := h
  exact ⟨((va_Z.moved hvm hZ).kept hq).narrow hAB, cell, by rw [hq t (Array.getElem?_eq_some_iff.mp h1).1 h6]; exact h1, h2, h3, h4, h5, fun z => h6 (hAB t z)⟩
def zk_fw : Nat → Int32 := fun j => match j with
  | 0 => 12
  | 1 => 80
  | 2 => 20
  | _ => 40
def zk_fp : Nat → Int32 := fun j => match j with
  | 0 => 0
  | 1 => 450
  | 2 => 600
  | 3 => 690
  | 4 => 740
  | 5 => 780
  | 6 => 820
  | 7 => 860
  | 8 => 900
  | 9 => 950
  | _ => 1000
def zk_fr : Nat → Int32 := fun j => match j with
  | 0 => 1
  | 1 => 600
  | 2 => 200
  | 3 => 5
  | 4 => 9
  | _ => 10
def zk_lr : Nat → Int32 := fun j => match j with
  | 3 => 1
  | 4 => 1
  | _ => 0
def zk_mr : Nat → Int32 := fun j => match j with
  | 0 => 9
  | 1 => 1000
  | 2 => 1000
  | 3 => 9
  | _ => 99
def zk_SS (cI : ClassId) (ts : Nat → Nat) (A : Nat → Prop) (U : State) (H : Heap) : Prop := zk_st cI "FIRST_WASH" (ts 0) 4 zk_fw A U H ∧ zk_st cI "FIRST_PLACES" (ts 1) 11 zk_fp A U H ∧ zk_st cI "FIRST_RULES" (ts 2) 6 zk_fr A U H ∧ zk_st cI "LEAST_RULES" (ts 3) 6 zk_lr A U H ∧ zk_st cI "MOST_RULES" (ts 4) 6 zk_mr A U H
/-- what stands around every method -/
def zk_E (D : va_G) (cI cZ : ClassId) (ts : Nat → Nat) (A : Nat → Prop) (U : State) (H : Heap) : Prop := va_K D vwCl [(cI, .int), (cZ, .boolean)] U ∧ zk_NN U ∧ zk_SS cI ts A U H
theorem zk_E.move {D : va_G} {cI cZ : ClassId} {ts : Nat → Nat} {A B : Nat → Prop} {s U : State} {H H1 : Heap} (h : zk_E D cI cZ ts A s H) (hW : s.WarmedH U.vm) (hq : ∀ a : Nat, a < H.size → ¬ A a → H1[a]? = H[a]?) (hAB : ∀ q, B q → A q) : zk_E D cI cZ ts B U H1 := by
  obtain ⟨h1, h2, h3, h4, h5, h6, h7⟩ := h
  exact ⟨va_K.moved hW.alike h1, h2.warm hW, h3.move hW.alike hq hAB, h4.move hW.alike hq hAB, h5.move hW.alike hq hAB, h6.move hW.alike hq hAB, h7.move hW.alike hq hAB⟩
theorem zk_E.blind {D : va_G} {cI cZ : ClassId} {ts : Nat → Nat} {A : Nat → Prop} {U : State} {H : Heap} {g : JFrame} {mk : MethodId} {a : Array Value} (h : zk_E D cI cZ ts A U H) : zk_E D cI cZ ts A (U.calling g mk a) H := by
  have hv : U.vm.Alike (U.calling g mk a).vm := Vm.Alike.refl U.vm
  obtain ⟨h1, h2, h3, h4, h5, h6, h7⟩ := h
  exact ⟨va_K.moved hv h1, zk_NN.same (u := U) (U := U.calling g mk a) rfl h2, h3.move hv (fun _ _ _ => rfl) (fun _ z => z), h4.move hv (fun _ _ _ => rfl) (fun _ z => z), h5.move hv (fun _ _ _ => rfl) (fun _ z => z), h6.move hv (fun _ _ _ => rfl) (fun _ z => z), h7.move hv (fun _ _ _ => rfl) (fun _ z => z)⟩
/-! contracts: from the cells w0 to the cells w1 -/
def zk_Pre (D : va_G) (cI cZ : ClassId) (ts : Nat → Nat) (w0 : va_W) (sz : Nat) : State → Prop := fun U => U.heap.size = sz ∧ va_P D vwCl w0 U.heap ∧ zk_E D cI cZ ts (va_A w0 sz) U U.heap ∧ va_D (fun _ => True) w0
def zk_Mi (l : Launch) (y : MethodName) (ws : List Cond) (rm : Room) (D : va_G) (cI cZ : ClassId) (ts : Nat → Nat) (av : List Value) (w0 : va_W) {S : Type} (post : Int32 → S → Prop) (w1 : S → va_W) (mc ms : Nat) : Prop := ∀ sz : Nat, Met l y ws rm (va_Pc av (zk_Pre D cI cZ ts w0 sz)) (va_Qi post (fun u t => va_P D vwCl (w1 u) t.heap ∧ va_D (va_A w0 sz) (w1 u)) (va_A w0 sz)) mc ms (va_A w0 sz)
def zk_Mv (l : Launch) (y : MethodName) (ws : List Cond) (rm : Room) (D : va_G) (cI cZ : ClassId) (ts : Nat → Nat) (av : List Value) (w0 : va_W) {S : Type} (post : S → Prop) (w1 : S → va_W) (mc ms : Nat) : Prop := ∀ sz : Nat, Met l y ws rm (va_Pc av (zk_Pre D cI cZ ts w0 sz)) (va_Qv post (fun u t => va_P D vwCl (w1 u) t.heap ∧ va_D (va_A w0 sz) (w1 u)) (va_A w0 sz)) mc ms (va_A w0 sz)
def zk_Mr (l : Launch) (y : MethodName) (ws : List Cond) (rm : Room) (D : va_G) (cI cZ : ClassId) (ts : Nat → Nat) (av : List Value) (w0 : va_W) {S : Type} (post : Nat → S → Prop) (w1 : S → va_W) (mc ms : Nat) : Prop := ∀ sz : Nat, Met l y ws rm (va_Pc av (zk_Pre D cI cZ ts w0 sz)) (va_Qr (fun _ : S => True) (fun u a t => post a u ∧ va_P D vwCl (w1 u) t.heap ∧ va_D (va_A w0 sz) (w1 u)) (va_A w0 sz)) mc ms (va_A w0 sz)
theorem zk_blind {D : va_G} {cI cZ : ClassId} {ts : Nat → Nat} {w0 : va_W} {sz : Nat} {av : List Value} : FrameBlind (va_Pc av (zk_Pre D cI cZ ts w0 sz)) := fun a U g mk q => by
  obtain ⟨q0, q1, qP, qE, qD⟩ := q
  exact ⟨q0, q1, qP, qE.blind, qD⟩
section ZKM
variable {l : Launch} {y : MethodName} {ws ws' : List Cond} {rm : Room} {D : va_G} {cI cZ : ClassId} {ts : Nat → Nat} {av : List Value} {w0 : va_W} {S : Type} {w1 : S → va_W} {mc ms : Nat} {cc : ByteArray} {maxL : Nat}
theorem zk_Mi.of {post : Int32 → S → Prop} (own : String) (hy : plainName y.cls = true) (hw : ws = Cond.code y cc maxL (some .int) :: ws') (hnl : (lg_sl av).length ≤ maxL) (hcls : y.cls = own)
    (body : ∀ (p : Program) (e : Env) (s : State) (m : MethodId) (below : List Frame) (meth : Method) (c : Code) (A : Nat → Prop) (Q : State → Prop) (H : Heap) (locs : List Loc) (ls : Array Slot), CallFix p m c cc maxL s av.toArray ws own → zk_E D cI cZ ts A s s.heap → (∀ q, s.heap.size ≤ q → A q) → va_P D vwCl w0 H → va_D A w0 → va_S A s.heap H locs →
      (∀ (r : Int32) (u : S) (H : Heap) (locs : List Loc) (pc : Nat) (ls : Array Slot), post r u → va_P D vwCl (w1 u) H → va_D A (w1 u) → va_S A s.heap H locs → decode cc pc = .ok (.ireturn, 1) → W p l e rm s m av.toArray below meth c H locs mc ms Q (F0 m pc ls [.int r])) →
      lv_has ls maxL (lv_args 0 av) → W p l e rm s m av.toArray below meth c H locs 0 0 Q (F0 m 0 ls [])) : zk_Mi l y ws rm D cI cZ ts av w0 post w1 mc ms := by
  intro sz
  refine Met.ofW (cc := cc) (maxL := maxL) (ret := some .int) hy hw ?_
  intro p e s m args below meth c s₁ B hml hv
  obtain ⟨rfl, hsz, hP, hE, hD0⟩ := hv
  subst hsz
  have hl := lv_entry av (n := maxL) hnl
  rw [lg_entry_eq]
  exact body p e s m below meth c (va_A w0 s.heap.size) _ _ _ _ ⟨B.exec, B.bytes, hml, hcls ▸ findClass_of_methodNamed B.named, atoms_spec (ws := ws) B.pre⟩ hE (fun q h => Or.inr h) hP hD0.self va_S.rf
    (fun r u H locs pc ls hpost hP hD hS hdg => W.iret B.exec B.bytes B.returns (fun t ht hW => ⟨⟨r, u, rfl, hpost, by rw [ht]; exact hP, hD⟩, hS.F ht⟩) hS.2.2 hdg B.notSynchronized) hl
theorem zk_Mi.ofZ {post : Int32 → S → Prop} (own : String) (hy : plainName y.cls = true) (hw : ws = Cond.code y cc maxL (some .boolean) :: ws') (hnl : (lg_sl av).length ≤ maxL) (hcls : y.cls = own)
    (body : ∀ (p : Program) (e : Env) (s : State) (m : MethodId) (below : List Frame) (meth : Method) (c : Code) (A : Nat → Prop) (Q : State → Prop) (H : Heap) (locs : List Loc) (ls : Array Slot), CallFix p m c cc maxL s av.toArray ws own → zk_E D cI cZ ts A s s.heap → (∀ q, s.heap.size ≤ q → A q) → va_P D vwCl w0 H → va_D A w0 → va_S A s.heap H locs →
      (∀ (r : Int32) (u : S) (H : Heap) (locs : List Loc) (pc : Nat) (ls : Array Slot), narrow .boolean (.int r) = .int r → post r u → va_P D vwCl (w1 u) H → va_D A (w1 u) → va_S A s.heap H locs → decode cc pc = .ok (.ireturn, 1) → W p l e rm s m av.toArray below meth c H locs mc ms Q (F0 m pc ls [.int r])) →
      lv_has ls maxL (lv_args 0 av) → W p l e rm s m av.toArray below meth c H locs 0 0 Q (F0 m 0 ls [])) : zk_Mi l y ws rm D cI cZ ts av w0 post w1 mc ms := by
  intro sz
  refine Met.ofW (cc := cc) (maxL := maxL) (ret := some .boolean) hy hw ?_
  intro p e s m args below meth c s₁ B hml hv
  obtain ⟨rfl, hsz, hP, hE, hD0⟩ := hv
  subst hsz
  have hl := lv_entry av (n := maxL) hnl
  rw [lg_entry_eq]
  exact body p e s m below meth c (va_A w0 s.heap.size) _ _ _ _ ⟨B.exec, B.bytes, hml, hcls ▸ findClass_of_methodNamed B.named, atoms_spec (ws := ws) B.pre⟩ hE (fun q h => Or.inr h) hP hD0.self va_S.rf
    (fun r u H locs pc ls hn hpost hP hD hS hdg => W.zret B.exec B.bytes B.returns hn (fun t ht hW => ⟨⟨r, u, rfl, hpost, by rw [ht]; exact hP, hD⟩, hS.F ht⟩) hS.2.2 hdg B.notSynchronized) hl
theorem zk_Mv.of {post : S → Prop} (own : String) (hy : plainName y.cls = true) (hw : ws = Cond.code y cc maxL none :: ws') (hnl : (lg_sl av).length ≤ maxL) (hcls : y.cls = own)
    (body : ∀ (p : Program) (e : Env) (s : State) (m : MethodId) (below : List Frame) (meth : Method) (c : Code) (A : Nat → Prop) (Q : State → Prop) (H : Heap) (locs : List Loc) (ls : Array Slot), CallFix p m c cc maxL s av.toArray ws own → zk_E D cI cZ ts A s s.heap → (∀ q, s.heap.size ≤ q → A q) → meth.name = y.name → va_P D vwCl w0 H → va_D A w0 → va_S A s.heap H locs →
      (∀ (u : S) (H : Heap) (locs : List Loc) (pc : Nat) (ls : Array Slot), post u → va_P D vwCl (w1 u) H → va_D A (w1 u) → va_S A s.heap H locs → decode cc pc = .ok (.return_, 1) → W p l e rm s m av.toArray below meth c H locs mc ms Q (F0 m pc ls [])) →
      lv_has ls maxL (lv_args 0 av) → W p l e rm s m av.toArray below meth c H locs 0 0 Q (F0 m 0 ls [])) : zk_Mv l y ws rm D cI cZ ts av w0 post w1 mc ms := by
  intro sz
  refine Met.ofW (cc := cc) (maxL := maxL) (ret := none) hy hw ?_
  intro p e s m args below meth c s₁ B hml hv
  obtain ⟨rfl, hsz, hP, hE, hD0⟩ := hv
  subst hsz
  have hl := lv_entry av (n := maxL) hnl
  rw [lg_entry_eq]
  exact body p e s m below meth c (va_A w0 s.heap.size) _ _ _ _ ⟨B.exec, B.bytes, hml, hcls ▸ findClass_of_methodNamed B.named, atoms_spec (ws := ws) B.pre⟩ hE (fun q h => Or.inr h) (name_of_methodNamed B.named B.method).1 hP hD0.self va_S.rf
    (fun u H locs pc ls hpost hP hD hS hdg => W.vret B.exec B.bytes B.returns (fun t ht hW => ⟨⟨u, rfl, hpost, by rw [ht]; exact hP, hD⟩, hS.F ht⟩) hS.2.2 hdg B.notSynchronized) hl
theorem zk_Mr.of {post : Nat → S → Prop} {rn : String} (own : String) (hy : plainName y.cls = true) (hw : ws = Cond.code y cc maxL (some (.object rn)) :: ws') (hnl : (lg_sl av).length ≤ maxL) (hcls : y.cls = own)
    (body : ∀ (p : Program) (e : Env) (s : State) (m : MethodId) (below : List Frame) (meth : Method) (c : Code) (A : Nat → Prop) (Q : State → Prop) (H : Heap) (locs : List Loc) (ls : Array Slot), CallFix p m c cc maxL s av.toArray ws own → zk_E D cI cZ ts A s s.heap → (∀ q, s.heap.size ≤ q → A q) → va_P D vwCl w0 H → va_D A w0 → va_S A s.heap H locs →
      (∀ (r : Nat) (u : S) (H : Heap) (locs : List Loc) (pc : Nat) (ls : Array Slot), post r u → va_P D vwCl (w1 u) H → va_D A (w1 u) → va_S A s.heap H locs → decode cc pc = .ok (.areturn, 1) → W p l e rm s m av.toArray below meth c H locs mc ms Q (F0 m pc ls [.ref r])) →
      lv_has ls maxL (lv_args 0 av) → W p l e rm s m av.toArray below meth c H locs 0 0 Q (F0 m 0 ls [])) : zk_Mr l y ws rm D cI cZ ts av w0 post w1 mc ms := by
  intro sz
  refine Met.ofW (cc := cc) (maxL := maxL) (ret := some (.object rn)) hy hw ?_
  intro p e s m args below meth c s₁ B hml hv
  obtain ⟨rfl, hsz, hP, hE, hD0⟩ := hv
  subst hsz
  have hl := lv_entry av (n := maxL) hnl
  rw [lg_entry_eq]
  exact body p e s m below meth c (va_A w0 s.heap.size) _ _ _ _ ⟨B.exec, B.bytes, hml, hcls ▸ findClass_of_methodNamed B.named, atoms_spec (ws := ws) B.pre⟩ hE (fun q h => Or.inr h) hP hD0.self va_S.rf
    (fun r u H locs pc ls hpost hP hD hS hdg => W.aret B.exec B.bytes B.returns (Or.inl ⟨rn, rfl⟩) (Or.inr ⟨r, rfl⟩) (fun t ht hW => ⟨⟨u, r, rfl, trivial, hpost, by rw [ht]; exact hP, hD⟩, hS.F ht⟩) hS.2.2 hdg B.notSynchronized) hl
end ZKM
/-- part of a world by places, as va_join has them -/
theorem zk_part {D : va_G} {ws wc : va_W} {H : Heap} (hP : va_P D vwCl ws H) (is : List Nat) (hC : is.map (fun i => ws[i]?) = wc.map some) : va_P D vwCl wc H := by
  intro k q hq
  have h1 : (is.map (fun i => ws[i]?))[k]? = some (some q) := by rw [hC, List.getElem?_map, hq]; rfl
  rw [List.getElem?_map] at h1
  cases hi : is[k]? with
  | none => rw [hi] at h1; cases h1
  | some i => rw [hi] at h1; exact hP i q (Option.some.inj h1)
/-- cells of a world by their places -/
def zpk (ws : va_W) : List Nat → va_W → Prop
  | [], [] => True
  | i :: is, c :: cs => ws[i]? = some c ∧ zpk ws is cs
  | _, _ => False
theorem zpk_map {ws : va_W} : ∀ {is : List Nat} {w : va_W}, zpk ws is w → is.map (fun i => ws[i]?) = w.map some
  | [], [], _ => rfl
  | i :: is, c :: cs, h => by
    show ws[i]? :: is.map (fun i => ws[i]?) = some c :: cs.map some
    rw [h.1, zpk_map h.2]
  | [], _ :: _, h => h.elim
  | _ :: _, [], h => h.elim
theorem zk_subP {D : va_G} {ws w : va_W} {H : Heap} (hP : va_P D vwCl ws H) (is : List Nat) (h : zpk ws is w) : va_P D vwCl w H := zk_part hP is (zpk_map h)
theorem zk_subD {A : Nat → Prop} {ws w : va_W} (hD : va_D A ws) (is : List Nat) (hn : va_nd is = true) (h : zpk ws is w) : va_D A w := hD.sub is hn (zpk_map h)
section ZKC
variable {p : Program} {l : Launch} {e : Env} {R : Room} {s : State} {m : MethodId} {args : Array Value} {below : List Frame} {meth : Method} {c : Code} {H : Heap} {locs : List Loc} {cells slots : Nat} {Q : State → Prop}
variable {y : MethodName} {bytes cc : ByteArray} {maxL nL mc ms n index pc : Nat} {ret : Option FieldType} {wy : List Cond} {rm : Room} {Ts : List Cond} {own C : String} {b : Addr} {As rest st0 : List Value} {ls : Array Slot} {lv : List (Nat × Value)}
variable {D : va_G} {cI cZ : ClassId} {ts : Nat → Nat} {A : Nat → Prop} {ws w0 wr : va_W} {S : Type} {w1 : S → va_W}
theorem zk_pre (hE : zk_E D cI cZ ts A s s.heap) (hS : va_S A s.heap H locs) (hFc : ∀ q, va_A w0 H.size q → A q) (hPc : va_P D vwCl w0 H) (hDc : va_D A w0) (av : List Value) : ∀ U : State, U.heap = H → s.WarmedH U.vm → va_Pc av (zk_Pre D cI cZ ts w0 H.size) av.toArray U := by
  intro U hU hW
  refine ⟨rfl, by rw [hU], by rw [hU]; exact hPc, ?_, hDc.weaken (fun _ _ _ _ => trivial)⟩
  rw [hU]
  exact hE.move hW (fun a h1 h2 => hS.2.1 a h1 h2) hFc
theorem zk_cVi {post : Int32 → S → Prop} (X : CallFix p m c cc nL s args Ts own) (hE : zk_E D cI cZ ts A s s.heap) (hA : ∀ q, s.heap.size ≤ q → A q) (hM : zk_Mi l y wy rm D cI cZ ts (.ref b :: As) w0 post w1 mc ms) (cw : CallW R s args own C index y bytes maxL ret wy rm mc ms n) (hdg : decode cc pc = .ok (.invokevirtual index, 3))
    (hP : va_P D vwCl ws H) (hD : va_D A ws) (hS : va_S A s.heap H locs) (isC isR : List Nat) (hC0 : zpk ws isC w0) (hR0 : zpk ws isR wr) (hnC : va_nd isC = true) (hnR : va_nd isR = true) (hdis : ∀ i ∈ isR, i ∉ isC)
    (ci : Nat) {T : u_T} {N : Nat} {fs : List Value} (hrc : w0[0]? = some (b, .inr (ci, fs))) (hcl : vwCl[ci]? = some (C, T, N)) (hn : As.length = n) (hl : lv_has ls nL lv) (hst : st0 = As.reverse ++ .ref b :: rest) (hroom : (rest.map fun v => v.category).sum ≤ 8) (hcs : cells + mc ≤ R.cells ∧ slots + ms ≤ R.slots)
    (kk : ∀ (r : Int32) (u : S) (H1 : Heap) (locs1 : List Loc), post r u → va_P D vwCl (wr ++ w1 u) H1 → va_D A (wr ++ w1 u) → va_S A s.heap H1 locs1 → W p l e R s m args below meth c H1 locs1 (cells + mc) (slots + ms) Q (F0 m (pc + 3) ls (.int r :: rest))) : W p l e R s m args below meth c H locs cells slots Q (F0 m pc ls st0) := by
  have hC := zpk_map hC0
  have hR := zpk_map hR0
  have hPc := zk_part hP isC hC
  have hDc := hD.sub isC hnC hC
  have hFc := va_free hD hS hA isC hC
  refine va_calli (va_runV (As := As) (rest := rest) X (hM H.size) cw ⟨zk_blind, va_recv hE.1 hPc hcl hrc, zk_pre hE hS hFc hPc hDc _⟩ rfl hn hl.1 hst (lv_room hroom) hdg hcs) hS (fun q _ h => hFc q h) hFc (fun r u t H1 locs1 ht hvm hpost hB hz hk hS1 => ?_)
  obtain ⟨hP1, hD1⟩ := hB
  rw [ht] at hP1
  obtain ⟨hPj, hDj⟩ := va_join hP hD isC isR hC hR hnR hdis hk hFc hP1 hD1
  exact kk r u H1 locs1 hpost hPj hDj hS1
theorem zk_cVv {post : S → Prop} (X : CallFix p m c cc nL s args Ts own) (hE : zk_E D cI cZ ts A s s.heap) (hA : ∀ q, s.heap.size ≤ q → A q) (hM : zk_Mv l y wy rm D cI cZ ts (.ref b :: As) w0 post w1 mc ms) (cw : CallW R s args own C index y bytes maxL ret wy rm mc ms n) (hdg : decode cc pc = .ok (.invokevirtual index, 3))
    (hP : va_P D vwCl ws H) (hD : va_D A ws) (hS : va_S A s.heap H locs) (isC isR : List Nat) (hC0 : zpk ws isC w0) (hR0 : zpk ws isR wr) (hnC : va_nd isC = true) (hnR : va_nd isR = true) (hdis : ∀ i ∈ isR, i ∉ isC)
    (ci : Nat) {T : u_T} {N : Nat} {fs : List Value} (hrc : w0[0]? = some (b, .inr (ci, fs))) (hcl : vwCl[ci]? = some (C, T, N)) (hn : As.length = n) (hl : lv_has ls nL lv) (hst : st0 = As.reverse ++ .ref b :: rest) (hroom : (rest.map fun v => v.category).sum ≤ 8) (hcs : cells + mc ≤ R.cells ∧ slots + ms ≤ R.slots)
    (kk : ∀ (u : S) (H1 : Heap) (locs1 : List Loc), post u → va_P D vwCl (wr ++ w1 u) H1 → va_D A (wr ++ w1 u) → va_S A s.heap H1 locs1 → W p l e R s m args below meth c H1 locs1 (cells + mc) (slots + ms) Q (F0 m (pc + 3) ls rest)) : W p l e R s m args below meth c H locs cells slots Q (F0 m pc ls st0) := by
  have hC := zpk_map hC0
  have hR := zpk_map hR0
  have hPc := zk_part hP isC hC
  have hDc := hD.sub isC hnC hC
  have hFc := va_free hD hS hA isC hC
  refine va_callv (va_runV (As := As) (rest := rest) X (hM H.size) cw ⟨zk_blind, va_recv hE.1 hPc hcl hrc, zk_pre hE hS hFc hPc hDc _⟩ rfl hn hl.1 hst (lv_room hroom) hdg hcs) hS (fun q _ h => hFc q h) hFc (fun u t H1 locs1 ht hvm hpost hB hz hk hS1 => ?_)
  obtain ⟨hP1, hD1⟩ := hB
  rw [ht] at hP1
  obtain ⟨hPj, hDj⟩ := va_join hP hD isC isR hC hR hnR hdis hk hFc hP1 hD1
  exact kk u H1 locs1 hpost hPj hDj hS1
theorem zk_cVr {post : Nat → S → Prop} (X : CallFix p m c cc nL s args Ts own) (hE : zk_E D cI cZ ts A s s.heap) (hA : ∀ q, s.heap.size ≤ q → A q) (hM : zk_Mr l y wy rm D cI cZ ts (.ref b :: As) w0 post w1 mc ms) (cw : CallW R s args own C index y bytes maxL ret wy rm mc ms n) (hdg : decode cc pc = .ok (.invokevirtual index, 3))
    (hP : va_P D vwCl ws H) (hD : va_D A ws) (hS : va_S A s.heap H locs) (isC isR : List Nat) (hC0 : zpk ws isC w0) (hR0 : zpk ws isR wr) (hnC : va_nd isC = true) (hnR : va_nd isR = true) (hdis : ∀ i ∈ isR, i ∉ isC)
    (ci : Nat) {T : u_T} {N : Nat} {fs : List Value} (hrc : w0[0]? = some (b, .inr (ci, fs))) (hcl : vwCl[ci]? = some (C, T, N)) (hn : As.length = n) (hl : lv_has ls nL lv) (hst : st0 = As.reverse ++ .ref b :: rest) (hroom : (rest.map fun v => v.category).sum ≤ 8) (hcs : cells + mc ≤ R.cells ∧ slots + ms ≤ R.slots)
    (kk : ∀ (r : Nat) (u : S) (H1 : Heap) (locs1 : List Loc), post r u → va_P D vwCl (wr ++ w1 u) H1 → va_D A (wr ++ w1 u) → va_S A s.heap H1 locs1 → W p l e R s m args below meth c H1 locs1 (cells + mc) (slots + ms) Q (F0 m (pc + 3) ls (.ref r :: rest))) : W p l e R s m args below meth c H locs cells slots Q (F0 m pc ls st0) := by
  have hC := zpk_map hC0
  have hR := zpk_map hR0
  have hPc := zk_part hP isC hC
  have hDc := hD.sub isC hnC hC
  have hFc := va_free hD hS hA isC hC
  refine va_callr (va_runV (As := As) (rest := rest) X (hM H.size) cw ⟨zk_blind, va_recv hE.1 hPc hcl hrc, zk_pre hE hS hFc hPc hDc _⟩ rfl hn hl.1 hst (lv_room hroom) hdg hcs) hS (fun q _ h => hFc q h) hFc (fun u ra t H1 locs1 ht hvm _ hB hz hk hS1 => ?_)
  obtain ⟨hpost, hP1, hD1⟩ := hB
  rw [ht] at hP1
  obtain ⟨hPj, hDj⟩ := va_join hP hD isC isR hC hR hnR hdis hk hFc hP1 hD1
  exact kk ra u H1 locs1 hpost hPj hDj hS1
theorem zk_cSi {post : Int32 → S → Prop} (X : CallFix p m c cc nL s args Ts own) (hE : zk_E D cI cZ ts A s s.heap) (hA : ∀ q, s.heap.size ≤ q → A q) (hM : zk_Mi l y wy rm D cI cZ ts As [] post w1 0 0) (cw : CallB R s args own index y bytes maxL ret wy rm 0 0 n ∧ (Cond.static y).before args s = true) (hdg : decode cc pc = .ok (.invokestatic index, 3))
    (hP : va_P D vwCl ws H) (hD : va_D A ws) (hS : va_S A s.heap H locs) (hn : As.length = n) (hl : lv_has ls nL lv) (hst : st0 = As.reverse ++ rest) (hroom : (rest.map fun v => v.category).sum ≤ 8) (hcs : cells + 0 ≤ R.cells ∧ slots + 0 ≤ R.slots)
    (kk : ∀ (r : Int32) (u : S) (H1 : Heap) (locs1 : List Loc), post r u → va_P D vwCl ws H1 → va_D A ws → va_S A s.heap H1 locs1 → W p l e R s m args below meth c H1 locs1 cells slots Q (F0 m (pc + 3) ls (.int r :: rest))) : W p l e R s m args below meth c H locs cells slots Q (F0 m pc ls st0) := by
  have hPc : va_P D vwCl [] H := fun k q h => by simp at h
  have hDc : va_D A [] := ⟨fun i j p q h => by simp at h, fun k q h => by simp at h⟩
  have hFc : ∀ q, va_A [] H.size q → A q := fun q h => by
    rcases h with ⟨k, e, h⟩ | h
    · simp at h
    · exact hA q (Nat.le_trans hS.1 h)
  refine va_calli (va_runS (As := As) (rest := rest) X (hM H.size) cw ⟨zk_blind, zk_pre hE hS hFc hPc hDc _⟩ rfl hn hl.1 hst (lv_room hroom) hdg hcs) hS (fun q _ h => hFc q h) hFc (fun r u t H1 locs1 ht hvm hpost hB hz hk hS1 => ?_)
  refine kk r u H1 locs1 hpost (hP.kept (fun k q hq => ?_)) hD hS1
  have hlt := (hP k q hq).lt
  exact hk q.1 hlt (fun h => by
    rcases h with ⟨k, e, h⟩ | h
    · simp at h
    · omega)
theorem zk_cSNi {host : String} {post : Int32 → S → Prop} (X : CallFix p m c cc nL s args Ts own) (hE : zk_E D cI cZ ts A s s.heap) (hA : ∀ q, s.heap.size ≤ q → A q) (hM : zk_Mi l y wy rm D cI cZ ts As [] post w1 0 0) (cw : va_CN R s args own index y host bytes maxL ret wy rm 0 0 n ∧ (Cond.static y).before args s = true ∧ True) (hdg : decode cc pc = .ok (.invokestatic index, 3))
    (hP : va_P D vwCl ws H) (hD : va_D A ws) (hS : va_S A s.heap H locs) (hn : As.length = n) (hl : lv_has ls nL lv) (hst : st0 = As.reverse ++ rest) (hroom : (rest.map fun v => v.category).sum ≤ 8) (hcs : cells + 0 ≤ R.cells ∧ slots + 0 ≤ R.slots)
    (kk : ∀ (r : Int32) (u : S) (H1 : Heap) (locs1 : List Loc), post r u → va_P D vwCl ws H1 → va_D A ws → va_S A s.heap H1 locs1 → W p l e R s m args below meth c H1 locs1 cells slots Q (F0 m (pc + 3) ls (.int r :: rest))) : W p l e R s m args below meth c H locs cells slots Q (F0 m pc ls st0) := by
  have hPc : va_P D vwCl [] H := fun k q h => by simp at h
  have hDc : va_D A [] := ⟨fun i j p q h => by simp at h, fun k q h => by simp at h⟩
  have hFc : ∀ q, va_A [] H.size q → A q := fun q h => by
    rcases h with ⟨k, e, h⟩ | h
    · simp at h
    · exact hA q (Nat.le_trans hS.1 h)
  refine va_calli (va_runSN (As := As) (rest := rest) X (hM H.size) cw ⟨zk_blind, zk_pre hE hS hFc hPc hDc _⟩ rfl hn hl.1 hst (lv_room hroom) hdg hcs) hS (fun q _ h => hFc q h) hFc (fun r u t H1 locs1 ht hvm hpost hB hz hk hS1 => ?_)
  refine kk r u H1 locs1 hpost (hP.kept (fun k q hq => ?_)) hD hS1
  have hlt := (hP k q hq).lt
  exact hk q.1 hlt (fun h => by
    rcases h with ⟨k, e, h⟩ | h
    · simp at h
    · omega)
theorem zk_cIv {post : S → Prop} (X : CallFix p m c cc nL s args Ts own) (hE : zk_E D cI cZ ts A s s.heap) (hA : ∀ q, s.heap.size ≤ q → A q) (hM : zk_Mv l y wy rm D cI cZ ts (.ref b :: As) w0 post w1 mc ms) (cw : CallB R s args own index y bytes maxL none wy rm mc ms n ∧ y.name = "<init>" ∧ (Cond.instanceMethod y).before args s = true) (hdg : decode cc pc = .ok (.invokespecial index, 3))
    (hP : va_P D vwCl ws H) (hD : va_D A ws) (hS : va_S A s.heap H locs) (isC isR : List Nat) (hC0 : zpk ws isC w0) (hR0 : zpk ws isR wr) (hnC : va_nd isC = true) (hnR : va_nd isR = true) (hdis : ∀ i ∈ isR, i ∉ isC)
    (hn : As.length = n) (hl : lv_has ls nL lv) (hst : st0 = As.reverse ++ .ref b :: rest) (hroom : (rest.map fun v => v.category).sum ≤ 8) (hcs : cells + mc ≤ R.cells ∧ slots + ms ≤ R.slots)
    (kk : ∀ (u : S) (H1 : Heap) (locs1 : List Loc), post u → va_P D vwCl (wr ++ w1 u) H1 → va_D A (wr ++ w1 u) → va_S A s.heap H1 locs1 → W p l e R s m args below meth c H1 locs1 (cells + mc) (slots + ms) Q (F0 m (pc + 3) ls rest)) : W p l e R s m args below meth c H locs cells slots Q (F0 m pc ls st0) := by
  have hC := zpk_map hC0
  have hR := zpk_map hR0
  have hPc := zk_part hP isC hC
  have hDc := hD.sub isC hnC hC
  have hFc := va_free hD hS hA isC hC
  refine va_callv (va_runI (As := As) (rest := rest) X (hM H.size) cw ⟨zk_blind, zk_pre hE hS hFc hPc hDc _⟩ rfl hn hl.1 hst (lv_room hroom) hdg hcs) hS (fun q _ h => hFc q h) hFc (fun u t H1 locs1 ht hvm hpost hB hz hk hS1 => ?_)
  obtain ⟨hP1, hD1⟩ := hB
  rw [ht] at hP1
  obtain ⟨hPj, hDj⟩ := va_join hP hD isC isR hC hR hnR hdis hk hFc hP1 hD1
  exact kk u H1 locs1 hpost hPj hDj hS1
theorem zk_cINv {host : String} {post : S → Prop} (X : CallFix p m c cc nL s args Ts own) (hE : zk_E D cI cZ ts A s s.heap) (hA : ∀ q, s.heap.size ≤ q → A q) (hM : zk_Mv l y wy rm D cI cZ ts (.ref b :: As) w0 post w1 mc ms) (cw : va_CN R s args own index y host bytes maxL none wy rm mc ms n ∧ y.name = "<init>" ∧ (Cond.instanceMethod y).before args s = true) (hdg : decode cc pc = .ok (.invokespecial index, 3))
    (hP : va_P D vwCl ws H) (hD : va_D A ws) (hS : va_S A s.heap H locs) (isC isR : List Nat) (hC0 : zpk ws isC w0) (hR0 : zpk ws isR wr) (hnC : va_nd isC = true) (hnR : va_nd isR = true) (hdis : ∀ i ∈ isR, i ∉ isC)
    (hn : As.length = n) (hl : lv_has ls nL lv) (hst : st0 = As.reverse ++ .ref b :: rest) (hroom : (rest.map fun v => v.category).sum ≤ 8) (hcs : cells + mc ≤ R.cells ∧ slots + ms ≤ R.slots)
    (kk : ∀ (u : S) (H1 : Heap) (locs1 : List Loc), post u → va_P D vwCl (wr ++ w1 u) H1 → va_D A (wr ++ w1 u) → va_S A s.heap H1 locs1 → W p l e R s m args below meth c H1 locs1 (cells + mc) (slots + ms) Q (F0 m (pc + 3) ls rest)) : W p l e R s m args below meth c H locs cells slots Q (F0 m pc ls st0) := by
  have hC := zpk_map hC0
  have hR := zpk_map hR0
  have hPc := zk_part hP isC hC
  have hDc := hD.sub isC hnC hC
  have hFc := va_free hD hS hA isC hC
  refine va_callv (va_runIN (As := As) (rest := rest) X (hM H.size) cw ⟨zk_blind, zk_pre hE hS hFc hPc hDc _⟩ rfl hn hl.1 hst (lv_room hroom) hdg hcs) hS (fun q _ h => hFc q h) hFc (fun u t H1 locs1 ht hvm hpost hB hz hk hS1 => ?_)
  obtain ⟨hP1, hD1⟩ := hB
  rw [ht] at hP1
  obtain ⟨hPj, hDj⟩ := va_join hP hD isC isR hC hR hnR hdis hk hFc hP1 hD1
  exact kk u H1 locs1 hpost hPj hDj hS1
/-! sites: what an instruction at a place of a method links, decided once -/
end ZKC
def zk_gs (cc : ByteArray) (Ts : List Cond) (own : String) (pc ci k : Nat) : Prop := ∃ (C : String) (T : u_T) (N index : Nat), vwCl[ci]? = some (C, T, N) ∧ (∀ w ∈ u_ws C T N, w ∈ Ts) ∧ k < N ∧ Cond.fieldLink own index C (T k).2.1 (T k).2.2.1 ∈ Ts ∧ (T k).1 = C ∧ decode cc pc = .ok (.getfield index, 3)
def zk_ps (cc : ByteArray) (Ts : List Cond) (own : String) (pc ci k : Nat) : Prop := ∃ (C : String) (T : u_T) (N index : Nat) (ty0 : Nat → FieldType), vwCl[ci]? = some (C, T, N) ∧ (∀ w ∈ u_ws C T N, w ∈ Ts) ∧ (∀ k, k < N → parseFieldDescriptor (T k).2.2.1 = some (ty0 k)) ∧ (∀ a, a < N → ∀ b, b < N → a ≠ b → (T a).2.1 ≠ (T b).2.1) ∧ k < N ∧ Cond.fieldLink own index C (T k).2.1 (T k).2.2.1 ∈ Ts ∧ (T k).1 = C ∧ (T k).2.2.2 = false ∧ parseFieldDescriptor (T k).2.2.1 = some .int ∧ decode cc pc = .ok (.putfield index, 3)
section ZKF
variable {p : Program} {l : Launch} {e : Env} {R : Room} {s : State} {m : MethodId} {args : Array Value} {below : List Frame} {meth : Method} {c : Code} {H : Heap} {locs : List Loc} {cells slots : Nat} {Q : State → Prop}
variable {cc : ByteArray} {nL pc ci k a : Nat} {Ts : List Cond} {own : String} {rest : List Value} {ls : Array Slot}
variable {D : va_G} {cI cZ : ClassId} {ts : Nat → Nat} {A B : Nat → Prop} {H0 H9 : Heap} {ws ws' : va_W}
theorem zk_get (X : CallFix p m c cc nL s args Ts own) (hE : zk_E D cI cZ ts B s H9) (hs : zk_gs cc Ts own pc ci k) (hP : va_P D vwCl ws H) (q0 : Nat) {fs : List Value} {v : Value} (he : ws[q0]? = some (a, .inr (ci, fs))) (hv : fs[k]? = some v)
    (kk : W p l e R s m args below meth c H locs cells slots Q (F0 m (pc + 3) ls (v :: rest))) : W p l e R s m args below meth c H locs cells slots Q (F0 m pc ls (.ref a :: rest)) := by
  obtain ⟨C, T, N, index, hc, hin, hk, hlk, hd, hdg⟩ := hs
  exact va_get X.1 X.2.1 X.2.2.2.2 hin X.2.2.2.1 hE.1 hP q0 he hc k hk (X.2.2.2.2 _ hlk) (fun x h => by rw [hd] at h; exact h) hv hdg kk
theorem zk_put (X : CallFix p m c cc nL s args Ts own) (hE : zk_E D cI cZ ts B s H9) (hs : zk_ps cc Ts own pc ci k) (hP : va_P D vwCl ws H) (hD : va_D A ws) (hS : va_S A H0 H locs) (q0 : Nat) {fs : List Value} {x : Int32} (he : ws[q0]? = some (a, .inr (ci, fs))) (hlen : k < fs.length) (hws : ws.set q0 (a, .inr (ci, fs.set k (.int x))) = ws')
    (kk : ∀ (H1 : Heap) (locs1 : List Loc), va_P D vwCl ws' H1 → va_D A ws' → va_S A H0 H1 locs1 → W p l e R s m args below meth c H1 locs1 cells slots Q (F0 m (pc + 3) ls rest)) : W p l e R s m args below meth c H locs cells slots Q (F0 m pc ls (.int x :: .ref a :: rest)) := by
  subst hws
  obtain ⟨C, T, N, index, ty0, hc, hin, hty, hnm, hk, hlk, hd, hf, hpd, hdg⟩ := hs
  exact va_put X.1 X.2.1 X.2.2.2.2 hin ty0 hty hnm X.2.2.2.1 hE.1 hP hD hS q0 he hc k hk (X.2.2.2.2 _ hlk) (fun x h => by rw [hd] at h; exact h) hf hpd (vp_nar_int x) rfl hlen hdg kk
theorem zk_ald (hx : p.tables.exec = Jvm.exec) (hb : c.code = cc) (hE : zk_E D cI cZ ts B s H9) (hP : va_P D vwCl ws H) (q0 j : Nat) {n : Nat} {f : Nat → Int32} {i : Int32} (ha : ws[q0]? = some (a, .inl (cI, n, .inl f))) (hi : i = nI j) (hj : j < n) (hn : n < 2 ^ 31) (hdg : decode cc pc = .ok (.iaload, 1))
    (kk : W p l e R s m args below meth c H locs cells slots Q (F0 m (pc + 1) ls (.int (f j) :: rest))) : W p l e R s m args below meth c H locs cells slots Q (F0 m pc ls (.int i :: .ref a :: rest)) := by
  subst hi
  refine va_iald hx hb hE.1 hP q0 0 ha rfl (vp_in_nI hj hn) hdg ?_
  rw [nI_clamp (Nat.lt_trans hj hn)]
  exact kk
theorem zk_ast (hx : p.tables.exec = Jvm.exec) (hb : c.code = cc) (hE : zk_E D cI cZ ts B s H9) (hP : va_P D vwCl ws H) (hD : va_D A ws) (hS : va_S A H0 H locs) (q0 j : Nat) {n : Nat} {f : Nat → Int32} {i x : Int32} (ha : ws[q0]? = some (a, .inl (cI, n, .inl f))) (hi : i = nI j) (hj : j < n) (hn : n < 2 ^ 31) (hdg : decode cc pc = .ok (.iastore, 1)) (hws : ws.set q0 (a, .inl (cI, n, .inl (upd f j x))) = ws')
    (kk : ∀ (H1 : Heap) (locs1 : List Loc), va_P D vwCl ws' H1 → va_D A ws' → va_S A H0 H1 locs1 → W p l e R s m args below meth c H1 locs1 cells slots Q (F0 m (pc + 1) ls rest)) : W p l e R s m args below meth c H locs cells slots Q (F0 m pc ls (.int x :: .int i :: .ref a :: rest)) := by
  subst hi
  subst hws
  refine va_iast hx hb hE.1 hP hD hS q0 0 ha rfl (vp_in_nI hj hn) hdg ?_
  rw [nI_clamp (Nat.lt_trans hj hn)]
  exact kk
theorem zk_zld (hx : p.tables.exec = Jvm.exec) (hb : c.code = cc) (hE : zk_E D cI cZ ts B s H9) (hP : va_P D vwCl ws H) (q0 j : Nat) {n : Nat} {f : Nat → Int32} {i : Int32} (ha : ws[q0]? = some (a, .inl (cZ, n, .inl f))) (hi : i = nI j) (hj : j < n) (hn : n < 2 ^ 31) (hdg : decode cc pc = .ok (.baload, 1))
    (kk : W p l e R s m args below meth c H locs cells slots Q (F0 m (pc + 1) ls (.int (f j) :: rest))) : W p l e R s m args below meth c H locs cells slots Q (F0 m pc ls (.int i :: .ref a :: rest)) := by
  subst hi
  refine va_zald hx hb hE.1 hP q0 1 ha rfl (vp_in_nI hj hn) hdg ?_
  rw [nI_clamp (Nat.lt_trans hj hn)]
  exact kk
theorem zk_top {x x' : Int32} (h : x = x') (kk : W p l e R s m args below meth c H locs cells slots Q (F0 m pc ls (.int x' :: rest))) : W p l e R s m args below meth c H locs cells slots Q (F0 m pc ls (.int x :: rest)) := h ▸ kk
theorem zk_stk {st st' : List Value} (h : st = st') (kk : W p l e R s m args below meth c H locs cells slots Q (F0 m pc ls st')) : W p l e R s m args below meth c H locs cells slots Q (F0 m pc ls st) := h ▸ kk
end ZKF
/-- cells that hold the same -/
theorem zk_arr {D : va_G} {ws : va_W} {H : Heap} {q0 a n : Nat} {cA : ClassId} {f g : Nat → Int32} (hP : va_P D vwCl ws H) (ha : ws[q0]? = some (a, .inl (cA, n, .inl f))) (hfg : ∀ j, j < n → f j = g j) : va_P D vwCl (ws.set q0 (a, .inl (cA, n, .inl g))) H := by
  have hc : vp_cell cA (n, .inl f) = vp_cell cA (n, .inl g) := by
    rw [vp_cell_i, vp_cell_i]
    unfold arrV
    congr 2
    funext j
    show Value.int (f j.1) = Value.int (g j.1)
    rw [hfg j.1 j.2]
  intro k q hq
  by_cases hk : k = q0
  · subst hk
    have hlt : k < ws.length := (List.getElem?_eq_some_iff.mp ha).1
    rw [List.getElem?_set_self hlt] at hq
    cases hq
    have h1 := hP k _ ha
    show H[a]? = some (vp_cell cA (n, .inl g))
    rw [← hc]
    exact h1
  · rw [List.getElem?_set_ne (Ne.symm hk)] at hq
    exact hP k q hq
