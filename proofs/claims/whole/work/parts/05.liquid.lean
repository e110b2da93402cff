set_option maxHeartbeats 4000000 in
set_option maxRecDepth 100000 in
theorem c_X6_within (l : Launch) (D : va_G) (cI cZ : ClassId) (ts : Nat → Nat) (v : Int32) (lo : Int32) (hi : Int32)  : zk_Mi l yX6_within wsX6_within ({ frames := 0, cells := 0, slots := 0, locals := 0 } : Room) D cI cZ ts [.int v, .int lo, .int hi] [] (fun (r : Int32) (_ : Unit) => r = (if lo ≤ v ∧ v ≤ hi then 1 else 0)) (fun (_ : Unit) => []) 0 0 := by
  refine zk_Mi.ofZ (cc := cX6_within) (maxL := 3) RX6 (by decide) rfl (Nat.le_of_ble_eq_true rfl) rfl ?_
  intro p e s m below meth c A Q H locs ls X hE hA hP hD hS hret hl
  obtain ⟨hx, hb, hml, hown, hts⟩ := id X
  have hl : lv_has ls 3 [(0, .int v), (1, .int lo), (2, .int hi)] := hl
  refine lv_iload_n hx hb dX6_within_0 rfl (lv_at hl 0 rfl) ?_
  refine lv_iload_n hx hb dX6_within_1 rfl (lv_at hl 1 rfl) ?_
  refine lv_icmp_lt (tgt := 14) hx hb dX6_within_2 (by decide) (fun c_2 => ?_) (fun c_2 => ?_)
  · refine lv_iconst (v := 0) hx hb dX6_within_14 (by decide) ?_
    exact hret 0 () H locs 15 ls (by first | rfl | decide) (by first | exact zin_lo c_2 | exact zin_hi c_7 | exact zin_ok c_2 c_7) hP hD hS dX6_within_15
  · refine lv_iload_n hx hb dX6_within_5 rfl (lv_at hl 0 rfl) ?_
    refine lv_iload_n hx hb dX6_within_6 rfl (lv_at hl 2 rfl) ?_
    refine lv_icmp_gt (tgt := 14) hx hb dX6_within_7 (by decide) (fun c_7 => ?_) (fun c_7 => ?_)
    · refine lv_iconst (v := 0) hx hb dX6_within_14 (by decide) ?_
      exact hret 0 () H locs 15 ls (by first | rfl | decide) (by first | exact zin_lo c_2 | exact zin_hi c_7 | exact zin_ok c_2 c_7) hP hD hS dX6_within_15
    · refine lv_iconst (v := 1) hx hb dX6_within_10 (by decide) ?_
      refine lv_goto (tgt := 15) hx hb dX6_within_11 (by decide) ?_
      exact hret 1 () H locs 15 ls (by first | rfl | decide) (by first | exact zin_lo c_2 | exact zin_hi c_7 | exact zin_ok c_2 c_7) hP hD hS dX6_within_15
set_option maxHeartbeats 4000000 in
set_option maxRecDepth 100000 in
theorem c_X6_quotient (l : Launch) (D : va_G) (cI cZ : ClassId) (ts : Nat → Nat) (a : Int32) (b : Int32)  : zk_Mi l yX6_quotient wsX6_quotient ({ frames := 0, cells := 0, slots := 0, locals := 0 } : Room) D cI cZ ts [.int a, .int b] [] (fun (r : Int32) (_ : Unit) => r = (zq a b)) (fun (_ : Unit) => []) 0 0 := by
  refine zk_Mi.of (cc := cX6_quotient) (maxL := 2) RX6 (by decide) rfl (Nat.le_of_ble_eq_true rfl) rfl ?_
  intro p e s m below meth c A Q H locs ls X hE hA hP hD hS hret hl
  obtain ⟨hx, hb, hml, hown, hts⟩ := id X
  have hl : lv_has ls 2 [(0, .int a), (1, .int b)] := hl
  refine lv_iload_n hx hb dX6_quotient_0 rfl (lv_at hl 1 rfl) ?_
  refine lv_if_le (tgt := 10) hx hb dX6_quotient_1 (by decide) (fun c_1 => ?_) (fun c_1 => ?_)
  · refine lv_iconst (v := 0) hx hb dX6_quotient_10 (by decide) ?_
    exact hret 0 () H locs 11 ls (by unfold zq; first | rw [if_neg (zi_nlt c_1)] | rw [if_pos (zi_lt c_1)]) hP hD hS dX6_quotient_11
  · refine lv_iload_n hx hb dX6_quotient_4 rfl (lv_at hl 0 rfl) ?_
    refine lv_iload_n hx hb dX6_quotient_5 rfl (lv_at hl 1 rfl) ?_
    refine lv_idiv hx hb dX6_quotient_6 (fun h => c_1 (by rw [h]; decide)) ?_
    refine lv_goto (tgt := 11) hx hb dX6_quotient_7 (by decide) ?_
    exact hret (a / b) () H locs 11 ls (by unfold zq; first | rw [if_neg (zi_nlt c_1)] | rw [if_pos (zi_lt c_1)]) hP hD hS dX6_quotient_11
set_option maxHeartbeats 4000000 in
set_option maxRecDepth 100000 in
theorem c_X2_init (l : Launch) (D : va_G) (cI cZ : ClassId) (ts : Nat → Nat) (h0 : Nat)  : zk_Mv l yX2_init wsX2_init ({ frames := 1, cells := 0, slots := 0, locals := 12 } : Room) D cI cZ ts [.ref h0] [(h0, .inr (2, [.int 0, .int 0, .int 0, .int 0]))] (fun (_ : Unit) => True) (fun (_ : Unit) => [(h0, .inr (2, [.int 0, .int 0, .int 0, .int 0]))]) 0 0 := by
  refine zk_Mv.of (cc := cX2_init) (maxL := 1) RX2 (by decide) rfl (Nat.le_of_ble_eq_true rfl) rfl ?_
  intro p e s m below meth c A Q H locs ls X hE hA hin hP hD hS hret hl
  obtain ⟨hx, hb, hml, hown, hts⟩ := id X
  have hl : lv_has ls 1 [(0, .ref h0)] := hl
  refine lv_aload_n hx hb dX2_init_0 rfl (lv_at hl 0 rfl) ?_
  refine W.objInit hx hb hown (hts (.methodLink RX2 3 objectInit) (by decide +kernel)) (hts (.instanceMethod objectInit) (by decide +kernel)) (hts _ (List.mem_of_getElem? (i := 3) rfl)) rfl (by rw [hml]; exact hl.1) rfl dX2_init_1 (Nat.le_of_ble_eq_true rfl) (Nat.le_of_ble_eq_true rfl) ?_
  refine W.eq (g2 := F0 m 4 ls []) rfl ?_
  refine lv_aload_n hx hb dX2_init_4 rfl (lv_at hl 0 rfl) ?_
  refine lv_iconst (v := 0) hx hb dX2_init_5 (by decide) ?_
  refine zk_put (ws' := [(h0, .inr (2, [.int 0, .int 0, .int 0, .int 0]))]) X hE sX2_init_6 hP hD hS 0 rfl (Nat.le_of_ble_eq_true rfl) rfl (fun H locs hP hD hS => ?_)
  refine lv_aload_n hx hb dX2_init_9 rfl (lv_at hl 0 rfl) ?_
  refine lv_iconst (v := 0) hx hb dX2_init_10 (by decide) ?_
  refine zk_put (ws' := [(h0, .inr (2, [.int 0, .int 0, .int 0, .int 0]))]) X hE sX2_init_11 hP hD hS 0 rfl (Nat.le_of_ble_eq_true rfl) rfl (fun H locs hP hD hS => ?_)
  refine lv_aload_n hx hb dX2_init_14 rfl (lv_at hl 0 rfl) ?_
  refine lv_iconst (v := 0) hx hb dX2_init_15 (by decide) ?_
  refine zk_put (ws' := [(h0, .inr (2, [.int 0, .int 0, .int 0, .int 0]))]) X hE sX2_init_16 hP hD hS 0 rfl (Nat.le_of_ble_eq_true rfl) rfl (fun H locs hP hD hS => ?_)
  refine lv_aload_n hx hb dX2_init_19 rfl (lv_at hl 0 rfl) ?_
  refine lv_iconst (v := 0) hx hb dX2_init_20 (by decide) ?_
  refine zk_put (ws' := [(h0, .inr (2, [.int 0, .int 0, .int 0, .int 0]))]) X hE sX2_init_21 hP hD hS 0 rfl (Nat.le_of_ble_eq_true rfl) rfl (fun H locs hP hD hS => ?_)
  exact hret  () H locs 24 ls trivial hP hD hS dX2_init_24
set_option maxHeartbeats 4000000 in
set_option maxRecDepth 100000 in
theorem c_X2_put (l : Launch) (D : va_G) (cI cZ : ClassId) (ts : Nat → Nat) (h0 : Nat) (x0 : Int32) (x1 : Int32) (x2 : Int32) (x3 : Int32) (p0 : Int32) (p1 : Int32) (p2 : Int32) (p3 : Int32)  : zk_Mv l yX2_put wsX2_put ({ frames := 0, cells := 0, slots := 0, locals := 0 } : Room) D cI cZ ts [.ref h0, .int p0, .int p1, .int p2, .int p3] [(h0, .inr (2, [.int x0, .int x1, .int x2, .int x3]))] (fun (_ : Unit) => True) (fun (_ : Unit) => [(h0, .inr (2, [.int p0, .int p1, .int p2, .int p3]))]) 0 0 := by
  refine zk_Mv.of (cc := cX2_put) (maxL := 5) RX2 (by decide) rfl (Nat.le_of_ble_eq_true rfl) rfl ?_
  intro p e s m below meth c A Q H locs ls X hE hA hin hP hD hS hret hl
  obtain ⟨hx, hb, hml, hown, hts⟩ := id X
  have hl : lv_has ls 5 [(0, .ref h0), (1, .int p0), (2, .int p1), (3, .int p2), (4, .int p3)] := hl
  refine lv_aload_n hx hb dX2_put_0 rfl (lv_at hl 0 rfl) ?_
  refine lv_iload_n hx hb dX2_put_1 rfl (lv_at hl 1 rfl) ?_
  refine zk_put (ws' := [(h0, .inr (2, [.int p0, .int x1, .int x2, .int x3]))]) X hE sX2_put_2 hP hD hS 0 rfl (Nat.le_of_ble_eq_true rfl) rfl (fun H locs hP hD hS => ?_)
  refine lv_aload_n hx hb dX2_put_5 rfl (lv_at hl 0 rfl) ?_
  refine lv_iload_n hx hb dX2_put_6 rfl (lv_at hl 2 rfl) ?_
  refine zk_put (ws' := [(h0, .inr (2, [.int p0, .int p1, .int x2, .int x3]))]) X hE sX2_put_7 hP hD hS 0 rfl (Nat.le_of_ble_eq_true rfl) rfl (fun H locs hP hD hS => ?_)
  refine lv_aload_n hx hb dX2_put_10 rfl (lv_at hl 0 rfl) ?_
  refine lv_iload_n hx hb dX2_put_11 rfl (lv_at hl 3 rfl) ?_
  refine zk_put (ws' := [(h0, .inr (2, [.int p0, .int p1, .int p2, .int x3]))]) X hE sX2_put_12 hP hD hS 0 rfl (Nat.le_of_ble_eq_true rfl) rfl (fun H locs hP hD hS => ?_)
  refine lv_aload_n hx hb dX2_put_15 rfl (lv_at hl 0 rfl) ?_
  refine lv_iload hx hb dX2_put_16 (lv_at hl 4 rfl) ?_
  refine zk_put (ws' := [(h0, .inr (2, [.int p0, .int p1, .int p2, .int p3]))]) X hE sX2_put_18 hP hD hS 0 rfl (Nat.le_of_ble_eq_true rfl) rfl (fun H locs hP hD hS => ?_)
  exact hret  () H locs 21 ls trivial hP hD hS dX2_put_21
set_option maxHeartbeats 4000000 in
set_option maxRecDepth 100000 in
theorem c_X2_clear (l : Launch) (D : va_G) (cI cZ : ClassId) (ts : Nat → Nat) (h0 : Nat) (x0 : Int32) (x1 : Int32) (x2 : Int32) (x3 : Int32)  : zk_Mv l yX2_clear wsX2_clear ({ frames := 1, cells := 0, slots := 0, locals := 24 } : Room) D cI cZ ts [.ref h0] [(h0, .inr (2, [.int x0, .int x1, .int x2, .int x3]))] (fun (_ : Unit) => True) (fun (_ : Unit) => [(h0, .inr (2, [.int 0, .int 0, .int 0, .int 0]))]) 0 0 := by
  refine zk_Mv.of (cc := cX2_clear) (maxL := 1) RX2 (by decide) rfl (Nat.le_of_ble_eq_true rfl) rfl ?_
  intro p e s m below meth c A Q H locs ls X hE hA hin hP hD hS hret hl
  obtain ⟨hx, hb, hml, hown, hts⟩ := id X
  have hl : lv_has ls 1 [(0, .ref h0)] := hl
  refine lv_aload_n hx hb dX2_clear_0 rfl (lv_at hl 0 rfl) ?_
  refine lv_iconst (v := 0) hx hb dX2_clear_1 (by decide) ?_
  refine lv_iconst (v := 0) hx hb dX2_clear_2 (by decide) ?_
  refine lv_iconst (v := 0) hx hb dX2_clear_3 (by decide) ?_
  refine lv_iconst (v := 0) hx hb dX2_clear_4 (by decide) ?_
  refine zk_cVv (rest := []) (wr := []) X hE hA (c_X2_put l D cI cZ ts h0 x0 x1 x2 x3 0 0 0 0) (cwV 4 hts gX2_clear_X2_put rfl rfl rfl hdX2_put ⟨Nat.le_of_ble_eq_true rfl, Nat.le_of_ble_eq_true rfl⟩) dX2_clear_5 hP hD hS [0] [] ⟨rfl, trivial⟩ trivial (by decide +kernel) (by decide +kernel) (by decide +kernel) 2 rfl rfl rfl hl rfl (Nat.le_of_ble_eq_true rfl) ⟨Nat.le_of_ble_eq_true rfl, Nat.le_of_ble_eq_true rfl⟩ (fun _ H locs hw_5 hP hD hS => ?_)
  have hP : va_P D vwCl [(h0, .inr (2, [.int 0, .int 0, .int 0, .int 0]))] H := hP
  have hD : va_D A [(h0, .inr (2, [.int 0, .int 0, .int 0, .int 0]))] := hD
  exact hret  () H locs 8 ls trivial hP hD hS dX2_clear_8
set_option maxHeartbeats 4000000 in
set_option maxRecDepth 100000 in
theorem c_X2_become (l : Launch) (D : va_G) (cI cZ : ClassId) (ts : Nat → Nat) (h0 : Nat) (h1 : Nat) (x0 : Int32) (x1 : Int32) (x2 : Int32) (x3 : Int32) (y0 : Int32) (y1 : Int32) (y2 : Int32) (y3 : Int32)  : zk_Mv l yX2_become wsX2_become ({ frames := 1, cells := 0, slots := 0, locals := 24 } : Room) D cI cZ ts [.ref h0, .ref h1] [(h0, .inr (2, [.int x0, .int x1, .int x2, .int x3])), (h1, .inr (2, [.int y0, .int y1, .int y2, .int y3]))] (fun (_ : Unit) => True) (fun (_ : Unit) => [(h0, .inr (2, [.int y0, .int y1, .int y2, .int y3])), (h1, .inr (2, [.int y0, .int y1, .int y2, .int y3]))]) 0 0 := by
  refine zk_Mv.of (cc := cX2_become) (maxL := 2) RX2 (by decide) rfl (Nat.le_of_ble_eq_true rfl) rfl ?_
  intro p e s m below meth c A Q H locs ls X hE hA hin hP hD hS hret hl
  obtain ⟨hx, hb, hml, hown, hts⟩ := id X
  have hl : lv_has ls 2 [(0, .ref h0), (1, .ref h1)] := hl
  refine lv_aload_n hx hb dX2_become_0 rfl (lv_at hl 0 rfl) ?_
  refine lv_aload_n hx hb dX2_become_1 rfl (lv_at hl 1 rfl) ?_
  refine zk_get X hE sX2_become_2 hP 1 rfl rfl ?_
  refine lv_aload_n hx hb dX2_become_5 rfl (lv_at hl 1 rfl) ?_
  refine zk_get X hE sX2_become_6 hP 1 rfl rfl ?_
  refine lv_aload_n hx hb dX2_become_9 rfl (lv_at hl 1 rfl) ?_
  refine zk_get X hE sX2_become_10 hP 1 rfl rfl ?_
  refine lv_aload_n hx hb dX2_become_13 rfl (lv_at hl 1 rfl) ?_
  refine zk_get X hE sX2_become_14 hP 1 rfl rfl ?_
  refine zk_cVv (rest := []) (wr := [(h1, .inr (2, [.int y0, .int y1, .int y2, .int y3]))]) X hE hA (c_X2_put l D cI cZ ts h0 x0 x1 x2 x3 y0 y1 y2 y3) (cwV 4 hts gX2_become_X2_put rfl rfl rfl hdX2_put ⟨Nat.le_of_ble_eq_true rfl, Nat.le_of_ble_eq_true rfl⟩) dX2_become_17 hP hD hS [0] [1] ⟨rfl, trivial⟩ ⟨rfl, trivial⟩ (by decide +kernel) (by decide +kernel) (by decide +kernel) 2 rfl rfl rfl hl rfl (Nat.le_of_ble_eq_true rfl) ⟨Nat.le_of_ble_eq_true rfl, Nat.le_of_ble_eq_true rfl⟩ (fun _ H locs hw_17 hP hD hS => ?_)
  have hP : va_P D vwCl [(h1, .inr (2, [.int y0, .int y1, .int y2, .int y3])), (h0, .inr (2, [.int y0, .int y1, .int y2, .int y3]))] H := hP
  have hD : va_D A [(h1, .inr (2, [.int y0, .int y1, .int y2, .int y3])), (h0, .inr (2, [.int y0, .int y1, .int y2, .int y3]))] := hD
  exact hret  () H locs 20 ls trivial (zk_subP hP [1, 0] ⟨rfl, rfl, trivial⟩) (zk_subD hD [1, 0] (by decide +kernel) ⟨rfl, rfl, trivial⟩) hS dX2_become_20
set_option maxHeartbeats 4000000 in
set_option maxRecDepth 100000 in
theorem c_X2_add (l : Launch) (D : va_G) (cI cZ : ClassId) (ts : Nat → Nat) (h0 : Nat) (h1 : Nat) (x0 : Int32) (x1 : Int32) (x2 : Int32) (x3 : Int32) (y0 : Int32) (y1 : Int32) (y2 : Int32) (y3 : Int32)  : zk_Mv l yX2_add wsX2_add ({ frames := 1, cells := 0, slots := 0, locals := 24 } : Room) D cI cZ ts [.ref h0, .ref h1] [(h0, .inr (2, [.int x0, .int x1, .int x2, .int x3])), (h1, .inr (2, [.int y0, .int y1, .int y2, .int y3]))] (fun (_ : Unit) => True) (fun (_ : Unit) => [(h0, .inr (2, [.int (x0 + y0), .int (x1 + y1), .int (x2 + y2), .int (x3 + y3)])), (h1, .inr (2, [.int y0, .int y1, .int y2, .int y3]))]) 0 0 := by
  refine zk_Mv.of (cc := cX2_add) (maxL := 2) RX2 (by decide) rfl (Nat.le_of_ble_eq_true rfl) rfl ?_
  intro p e s m below meth c A Q H locs ls X hE hA hin hP hD hS hret hl
  obtain ⟨hx, hb, hml, hown, hts⟩ := id X
  have hl : lv_has ls 2 [(0, .ref h0), (1, .ref h1)] := hl
  refine lv_aload_n hx hb dX2_add_0 rfl (lv_at hl 0 rfl) ?_
  refine lv_aload_n hx hb dX2_add_1 rfl (lv_at hl 0 rfl) ?_
  refine zk_get X hE sX2_add_2 hP 0 rfl rfl ?_
  refine lv_aload_n hx hb dX2_add_5 rfl (lv_at hl 1 rfl) ?_
  refine zk_get X hE sX2_add_6 hP 1 rfl rfl ?_
  refine lv_iadd hx hb dX2_add_9 ?_
  refine lv_aload_n hx hb dX2_add_10 rfl (lv_at hl 0 rfl) ?_
  refine zk_get X hE sX2_add_11 hP 0 rfl rfl ?_
  refine lv_aload_n hx hb dX2_add_14 rfl (lv_at hl 1 rfl) ?_
  refine zk_get X hE sX2_add_15 hP 1 rfl rfl ?_
  refine lv_iadd hx hb dX2_add_18 ?_
  refine lv_aload_n hx hb dX2_add_19 rfl (lv_at hl 0 rfl) ?_
  refine zk_get X hE sX2_add_20 hP 0 rfl rfl ?_
  refine lv_aload_n hx hb dX2_add_23 rfl (lv_at hl 1 rfl) ?_
  refine zk_get X hE sX2_add_24 hP 1 rfl rfl ?_
  refine lv_iadd hx hb dX2_add_27 ?_
  refine lv_aload_n hx hb dX2_add_28 rfl (lv_at hl 0 rfl) ?_
  refine zk_get X hE sX2_add_29 hP 0 rfl rfl ?_
  refine lv_aload_n hx hb dX2_add_32 rfl (lv_at hl 1 rfl) ?_
  refine zk_get X hE sX2_add_33 hP 1 rfl rfl ?_
  refine lv_iadd hx hb dX2_add_36 ?_
  refine zk_cVv (rest := []) (wr := [(h1, .inr (2, [.int y0, .int y1, .int y2, .int y3]))]) X hE hA (c_X2_put l D cI cZ ts h0 x0 x1 x2 x3 (x0 + y0) (x1 + y1) (x2 + y2) (x3 + y3)) (cwV 4 hts gX2_add_X2_put rfl rfl rfl hdX2_put ⟨Nat.le_of_ble_eq_true rfl, Nat.le_of_ble_eq_true rfl⟩) dX2_add_37 hP hD hS [0] [1] ⟨rfl, trivial⟩ ⟨rfl, trivial⟩ (by decide +kernel) (by decide +kernel) (by decide +kernel) 2 rfl rfl rfl hl rfl (Nat.le_of_ble_eq_true rfl) ⟨Nat.le_of_ble_eq_true rfl, Nat.le_of_ble_eq_true rfl⟩ (fun _ H locs hw_37 hP hD hS => ?_)
  have hP : va_P D vwCl [(h1, .inr (2, [.int y0, .int y1, .int y2, .int y3])), (h0, .inr (2, [.int (x0 + y0), .int (x1 + y1), .int (x2 + y2), .int (x3 + y3)]))] H := hP
  have hD : va_D A [(h1, .inr (2, [.int y0, .int y1, .int y2, .int y3])), (h0, .inr (2, [.int (x0 + y0), .int (x1 + y1), .int (x2 + y2), .int (x3 + y3)]))] := hD
  exact hret  () H locs 40 ls trivial (zk_subP hP [1, 0] ⟨rfl, rfl, trivial⟩) (zk_subD hD [1, 0] (by decide +kernel) ⟨rfl, rfl, trivial⟩) hS dX2_add_40
set_option maxHeartbeats 4000000 in
set_option maxRecDepth 100000 in
theorem c_X2_lose (l : Launch) (D : va_G) (cI cZ : ClassId) (ts : Nat → Nat) (h0 : Nat) (h1 : Nat) (x0 : Int32) (x1 : Int32) (x2 : Int32) (x3 : Int32) (y0 : Int32) (y1 : Int32) (y2 : Int32) (y3 : Int32)  : zk_Mv l yX2_lose wsX2_lose ({ frames := 1, cells := 0, slots := 0, locals := 24 } : Room) D cI cZ ts [.ref h0, .ref h1] [(h0, .inr (2, [.int x0, .int x1, .int x2, .int x3])), (h1, .inr (2, [.int y0, .int y1, .int y2, .int y3]))] (fun (_ : Unit) => True) (fun (_ : Unit) => [(h0, .inr (2, [.int (x0 - y0), .int (x1 - y1), .int (x2 - y2), .int (x3 - y3)])), (h1, .inr (2, [.int y0, .int y1, .int y2, .int y3]))]) 0 0 := by
  refine zk_Mv.of (cc := cX2_lose) (maxL := 2) RX2 (by decide) rfl (Nat.le_of_ble_eq_true rfl) rfl ?_
  intro p e s m below meth c A Q H locs ls X hE hA hin hP hD hS hret hl
  obtain ⟨hx, hb, hml, hown, hts⟩ := id X
  have hl : lv_has ls 2 [(0, .ref h0), (1, .ref h1)] := hl
  refine lv_aload_n hx hb dX2_lose_0 rfl (lv_at hl 0 rfl) ?_
  refine lv_aload_n hx hb dX2_lose_1 rfl (lv_at hl 0 rfl) ?_
  refine zk_get X hE sX2_lose_2 hP 0 rfl rfl ?_
  refine lv_aload_n hx hb dX2_lose_5 rfl (lv_at hl 1 rfl) ?_
  refine zk_get X hE sX2_lose_6 hP 1 rfl rfl ?_
  refine lv_isub hx hb dX2_lose_9 ?_
  refine lv_aload_n hx hb dX2_lose_10 rfl (lv_at hl 0 rfl) ?_
  refine zk_get X hE sX2_lose_11 hP 0 rfl rfl ?_
  refine lv_aload_n hx hb dX2_lose_14 rfl (lv_at hl 1 rfl) ?_
  refine zk_get X hE sX2_lose_15 hP 1 rfl rfl ?_
  refine lv_isub hx hb dX2_lose_18 ?_
  refine lv_aload_n hx hb dX2_lose_19 rfl (lv_at hl 0 rfl) ?_
  refine zk_get X hE sX2_lose_20 hP 0 rfl rfl ?_
  refine lv_aload_n hx hb dX2_lose_23 rfl (lv_at hl 1 rfl) ?_
  refine zk_get X hE sX2_lose_24 hP 1 rfl rfl ?_
  refine lv_isub hx hb dX2_lose_27 ?_
  refine lv_aload_n hx hb dX2_lose_28 rfl (lv_at hl 0 rfl) ?_
  refine zk_get X hE sX2_lose_29 hP 0 rfl rfl ?_
  refine lv_aload_n hx hb dX2_lose_32 rfl (lv_at hl 1 rfl) ?_
  refine zk_get X hE sX2_lose_33 hP 1 rfl rfl ?_
  refine lv_isub hx hb dX2_lose_36 ?_
  refine zk_cVv (rest := []) (wr := [(h1, .inr (2, [.int y0, .int y1, .int y2, .int y3]))]) X hE hA (c_X2_put l D cI cZ ts h0 x0 x1 x2 x3 (x0 - y0) (x1 - y1) (x2 - y2) (x3 - y3)) (cwV 4 hts gX2_lose_X2_put rfl rfl rfl hdX2_put ⟨Nat.le_of_ble_eq_true rfl, Nat.le_of_ble_eq_true rfl⟩) dX2_lose_37 hP hD hS [0] [1] ⟨rfl, trivial⟩ ⟨rfl, trivial⟩ (by decide +kernel) (by decide +kernel) (by decide +kernel) 2 rfl rfl rfl hl rfl (Nat.le_of_ble_eq_true rfl) ⟨Nat.le_of_ble_eq_true rfl, Nat.le_of_ble_eq_true rfl⟩ (fun _ H locs hw_37 hP hD hS => ?_)
  have hP : va_P D vwCl [(h1, .inr (2, [.int y0, .int y1, .int y2, .int y3])), (h0, .inr (2, [.int (x0 - y0), .int (x1 - y1), .int (x2 - y2), .int (x3 - y3)]))] H := hP
  have hD : va_D A [(h1, .inr (2, [.int y0, .int y1, .int y2, .int y3])), (h0, .inr (2, [.int (x0 - y0), .int (x1 - y1), .int (x2 - y2), .int (x3 - y3)]))] := hD
  exact hret  () H locs 40 ls trivial (zk_subP hP [1, 0] ⟨rfl, rfl, trivial⟩) (zk_subD hD [1, 0] (by decide +kernel) ⟨rfl, rfl, trivial⟩) hS dX2_lose_40
set_option maxHeartbeats 4000000 in
set_option maxRecDepth 100000 in
theorem c_X2_tell (l : Launch) (D : va_G) (cI cZ : ClassId) (ts : Nat → Nat) (h0 : Nat) (x0 : Int32) (x1 : Int32) (x2 : Int32) (x3 : Int32) (w : Int32)  : zk_Mi l yX2_tell wsX2_tell ({ frames := 1, cells := 0, slots := 0, locals := 21 } : Room) D cI cZ ts [.ref h0, .int w] [(h0, .inr (2, [.int x0, .int x1, .int x2, .int x3]))] (fun (r : Int32) (_ : Unit) => r = (zt w x0 x1 x2 x3)) (fun (_ : Unit) => [(h0, .inr (2, [.int x0, .int x1, .int x2, .int x3]))]) 0 0 := by
  refine zk_Mi.of (cc := cX2_tell) (maxL := 2) RX2 (by decide) rfl (Nat.le_of_ble_eq_true rfl) rfl ?_
  intro p e s m below meth c A Q H locs ls X hE hA hP hD hS hret hl
  obtain ⟨hx, hb, hml, hown, hts⟩ := id X
  have hl : lv_has ls 2 [(0, .ref h0), (1, .int w)] := hl
  refine lv_iload_n hx hb dX2_tell_0 rfl (lv_at hl 1 rfl) ?_
  by_cases h_1_0 : w = 0
  · refine zk_top h_1_0 ?_
    refine lv_tableIn (tgt := 36) hx hb dX2_tell_1 (by decide) (by decide) rfl (by decide) ?_
    refine lv_aload_n hx hb dX2_tell_36 rfl (lv_at hl 0 rfl) ?_
    refine zk_get X hE sX2_tell_37 hP 0 rfl rfl ?_
    exact hret x0 () H locs 40 ls (by simp [zt, h_1_0]) hP hD hS dX2_tell_40
  by_cases h_1_1 : w = 1
  · refine zk_top h_1_1 ?_
    refine lv_tableIn (tgt := 41) hx hb dX2_tell_1 (by decide) (by decide) rfl (by decide) ?_
    refine lv_aload_n hx hb dX2_tell_41 rfl (lv_at hl 0 rfl) ?_
    refine zk_get X hE sX2_tell_42 hP 0 rfl rfl ?_
    exact hret x1 () H locs 45 ls (by simp [zt, h_1_0, h_1_1]) hP hD hS dX2_tell_45
  by_cases h_1_2 : w = 2
  · refine zk_top h_1_2 ?_
    refine lv_tableIn (tgt := 46) hx hb dX2_tell_1 (by decide) (by decide) rfl (by decide) ?_
    refine lv_aload_n hx hb dX2_tell_46 rfl (lv_at hl 0 rfl) ?_
    refine zk_get X hE sX2_tell_47 hP 0 rfl rfl ?_
    exact hret x2 () H locs 50 ls (by simp [zt, h_1_0, h_1_1, h_1_2]) hP hD hS dX2_tell_50
  by_cases h_1_3 : w = 3
  · refine zk_top h_1_3 ?_
    refine lv_tableIn (tgt := 51) hx hb dX2_tell_1 (by decide) (by decide) rfl (by decide) ?_
    refine lv_aload_n hx hb dX2_tell_51 rfl (lv_at hl 0 rfl) ?_
    refine zk_get X hE sX2_tell_52 hP 0 rfl rfl ?_
    exact hret x3 () H locs 55 ls (by simp [zt, h_1_0, h_1_1, h_1_2, h_1_3]) hP hD hS dX2_tell_55
  by_cases h_1_4 : w = 4
  · refine zk_top h_1_4 ?_
    refine lv_tableIn (tgt := 56) hx hb dX2_tell_1 (by decide) (by decide) rfl (by decide) ?_
    refine lv_aload_n hx hb dX2_tell_56 rfl (lv_at hl 0 rfl) ?_
    refine zk_get X hE sX2_tell_57 hP 0 rfl rfl ?_
    refine lv_aload_n hx hb dX2_tell_60 rfl (lv_at hl 0 rfl) ?_
    refine zk_get X hE sX2_tell_61 hP 0 rfl rfl ?_
    refine zk_cSNi (rest := []) X hE hA (c_X6_quotient l D cI cZ ts x1 x0) ⟨va_cnB 2 hts gX2_tell_X6_quotient_n28 rfl rfl rfl (hE.2.1 _ (List.mem_of_getElem? (i := 8) rfl)) (hts (.initialized RX6) (by decide +kernel)) hdX6_quotient.2 ⟨Nat.le_of_ble_eq_true rfl, Nat.le_of_ble_eq_true rfl⟩, hts (.static yX6_quotient) (by decide +kernel), trivial⟩ dX2_tell_64 hP hD hS rfl hl rfl (Nat.le_of_ble_eq_true rfl) ⟨Nat.le_of_ble_eq_true rfl, Nat.le_of_ble_eq_true rfl⟩ (fun r_64 _ H locs hw_64 hP hD hS => ?_)
    obtain rfl : r_64 = (zq x1 x0) := hw_64
    exact hret (zq x1 x0) () H locs 67 ls (by simp [zt, h_1_0, h_1_1, h_1_2, h_1_3, h_1_4]) hP hD hS dX2_tell_67
  refine lv_tableOut (tgt := 68) hx hb dX2_tell_1 (by have z0 := lv_neT (a := 0) h_1_0 (by decide); have z1 := lv_neT (a := 1) h_1_1 (by decide); have z2 := lv_neT (a := 2) h_1_2 (by decide); have z3 := lv_neT (a := 3) h_1_3 (by decide); have z4 := lv_neT (a := 4) h_1_4 (by decide); omega) (by decide) ?_
  refine lv_aload_n hx hb dX2_tell_68 rfl (lv_at hl 0 rfl) ?_
  refine zk_get X hE sX2_tell_69 hP 0 rfl rfl ?_
  refine lv_aload_n hx hb dX2_tell_72 rfl (lv_at hl 0 rfl) ?_
  refine zk_get X hE sX2_tell_73 hP 0 rfl rfl ?_
  refine lv_iadd hx hb dX2_tell_76 ?_
  refine lv_aload_n hx hb dX2_tell_77 rfl (lv_at hl 0 rfl) ?_
  refine zk_get X hE sX2_tell_78 hP 0 rfl rfl ?_
  refine zk_cSNi (rest := []) X hE hA (c_X6_quotient l D cI cZ ts (x2 + x3) x0) ⟨va_cnB 2 hts gX2_tell_X6_quotient_n28 rfl rfl rfl (hE.2.1 _ (List.mem_of_getElem? (i := 8) rfl)) (hts (.initialized RX6) (by decide +kernel)) hdX6_quotient.2 ⟨Nat.le_of_ble_eq_true rfl, Nat.le_of_ble_eq_true rfl⟩, hts (.static yX6_quotient) (by decide +kernel), trivial⟩ dX2_tell_81 hP hD hS rfl hl rfl (Nat.le_of_ble_eq_true rfl) ⟨Nat.le_of_ble_eq_true rfl, Nat.le_of_ble_eq_true rfl⟩ (fun r_81 _ H locs hw_81 hP hD hS => ?_)
  obtain rfl : r_81 = (zq (x2 + x3) x0) := hw_81
  exact hret (zq (x2 + x3) x0) () H locs 84 ls (by simp [zt, h_1_0, h_1_1, h_1_2, h_1_3, h_1_4]) hP hD hS dX2_tell_84
