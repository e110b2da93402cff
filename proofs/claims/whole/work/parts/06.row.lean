set_option maxHeartbeats 4000000 in
set_option maxRecDepth 100000 in
theorem c_X3_clear (l : Launch) (D : va_G) (cI cZ : ClassId) (ts : Nat → Nat) (ro : Nat) (a0 : Nat) (a1 : Nat) (a2 : Nat) (a3 : Nat) (mo : Int32) (sz : Int32)  : zk_Mv l yX3_clear wsX3_clear ({ frames := 0, cells := 0, slots := 0, locals := 0 } : Room) D cI cZ ts [.ref ro] [(ro, .inr (3, [.int mo, .ref a0, .ref a1, .ref a2, .ref a3, .int sz]))] (fun (_ : Unit) => True) (fun (_ : Unit) => [(ro, .inr (3, [.int mo, .ref a0, .ref a1, .ref a2, .ref a3, .int 0]))]) 0 0 := by
  refine zk_Mv.of (cc := cX3_clear) (maxL := 1) RX3 (by decide) rfl (Nat.le_of_ble_eq_true rfl) rfl ?_
  intro p e s m below meth c A Q H locs ls X hE hA hin hP hD hS hret hl
  obtain ⟨hx, hb, hml, hown, hts⟩ := id X
  have hl : lv_has ls 1 [(0, .ref ro)] := hl
  refine lv_aload_n hx hb dX3_clear_0 rfl (lv_at hl 0 rfl) ?_
  refine lv_iconst (v := 0) hx hb dX3_clear_1 (by decide) ?_
  refine zk_put (ws' := [(ro, .inr (3, [.int mo, .ref a0, .ref a1, .ref a2, .ref a3, .int 0]))]) X hE sX3_clear_2 hP hD hS 0 rfl (Nat.le_of_ble_eq_true rfl) rfl (fun H locs hP hD hS => ?_)
  exact hret  () H locs 5 ls trivial hP hD hS dX3_clear_5
set_option maxHeartbeats 4000000 in
set_option maxRecDepth 100000 in
theorem c_X3_holds (l : Launch) (D : va_G) (cI cZ : ClassId) (ts : Nat → Nat) (ro : Nat) (a0 : Nat) (a1 : Nat) (a2 : Nat) (a3 : Nat) (N : Nat) (k : Nat) (j : Nat) (hj : j < k) (hk : k ≤ N) (hN : N < 2 ^ 31) : zk_Mi l yX3_holds wsX3_holds ({ frames := 0, cells := 0, slots := 0, locals := 0 } : Room) D cI cZ ts [.ref ro, .int (nI j)] [(ro, .inr (3, [.int (nI N), .ref a0, .ref a1, .ref a2, .ref a3, .int (nI k)]))] (fun (r : Int32) (_ : Unit) => r = 1) (fun (_ : Unit) => [(ro, .inr (3, [.int (nI N), .ref a0, .ref a1, .ref a2, .ref a3, .int (nI k)]))]) 0 0 := by
  refine zk_Mi.ofZ (cc := cX3_holds) (maxL := 2) RX3 (by decide) rfl (Nat.le_of_ble_eq_true rfl) rfl ?_
  intro p e s m below meth c A Q H locs ls X hE hA hP hD hS hret hl
  obtain ⟨hx, hb, hml, hown, hts⟩ := id X
  have hl : lv_has ls 2 [(0, .ref ro), (1, .int (nI j))] := hl
  refine lv_iload_n hx hb dX3_holds_0 rfl (lv_at hl 1 rfl) ?_
  refine lv_if_lt (tgt := 24) hx hb dX3_holds_1 (by decide) (fun c_1 => absurd c_1 (nI_pos (by omega))) (fun c_1 => ?_)
  refine lv_iload_n hx hb dX3_holds_4 rfl (lv_at hl 1 rfl) ?_
  refine lv_aload_n hx hb dX3_holds_5 rfl (lv_at hl 0 rfl) ?_
  refine zk_get X hE sX3_holds_6 hP 0 rfl rfl ?_
  refine lv_icmp_ge (tgt := 24) hx hb dX3_holds_9 (by decide) (fun c_9 => absurd c_9 (nI_ge hj (by omega))) (fun c_9 => ?_)
  refine lv_iload_n hx hb dX3_holds_12 rfl (lv_at hl 1 rfl) ?_
  refine lv_aload_n hx hb dX3_holds_13 rfl (lv_at hl 0 rfl) ?_
  refine zk_get X hE sX3_holds_14 hP 0 rfl rfl ?_
  refine lv_icmp_ge (tgt := 24) hx hb dX3_holds_17 (by decide) (fun c_17 => absurd c_17 (nI_ge (show j < N by omega) hN)) (fun c_17 => ?_)
  refine lv_iconst (v := 1) hx hb dX3_holds_20 (by decide) ?_
  refine lv_goto (tgt := 25) hx hb dX3_holds_21 (by decide) ?_
  exact hret 1 () H locs 25 ls (by first | rfl | decide) rfl hP hD hS dX3_holds_25
set_option maxHeartbeats 4000000 in
set_option maxRecDepth 100000 in
theorem c_X3_load (l : Launch) (D : va_G) (cI cZ : ClassId) (ts : Nat → Nat) (ro : Nat) (a0 : Nat) (a1 : Nat) (a2 : Nat) (a3 : Nat) (N : Nat) (k : Nat) (j : Nat) (io : Nat) (f0 : Nat → Int32) (f1 : Nat → Int32) (f2 : Nat → Int32) (f3 : Nat → Int32) (x0 : Int32) (x1 : Int32) (x2 : Int32) (x3 : Int32) (hj : j < k) (hk : k ≤ N) (hN : N < 2 ^ 31) : zk_Mv l yX3_load wsX3_load ({ frames := 1, cells := 0, slots := 0, locals := 24 } : Room) D cI cZ ts [.ref ro, .int (nI j), .ref io] [(ro, .inr (3, [.int (nI N), .ref a0, .ref a1, .ref a2, .ref a3, .int (nI k)])), (a0, .inl (cI, N, .inl f0)), (a1, .inl (cI, N, .inl f1)), (a2, .inl (cI, N, .inl f2)), (a3, .inl (cI, N, .inl f3)), (io, .inr (2, [.int x0, .int x1, .int x2, .int x3]))] (fun (_ : Unit) => True) (fun (_ : Unit) => [(ro, .inr (3, [.int (nI N), .ref a0, .ref a1, .ref a2, .ref a3, .int (nI k)])), (a0, .inl (cI, N, .inl f0)), (a1, .inl (cI, N, .inl f1)), (a2, .inl (cI, N, .inl f2)), (a3, .inl (cI, N, .inl f3)), (io, .inr (2, [.int (f0 j), .int (f1 j), .int (f2 j), .int (f3 j)]))]) 0 0 := by
  refine zk_Mv.of (cc := cX3_load) (maxL := 3) RX3 (by decide) rfl (Nat.le_of_ble_eq_true rfl) rfl ?_
  intro p e s m below meth c A Q H locs ls X hE hA hin hP hD hS hret hl
  obtain ⟨hx, hb, hml, hown, hts⟩ := id X
  have hl : lv_has ls 3 [(0, .ref ro), (1, .int (nI j)), (2, .ref io)] := hl
  refine lv_aload_n hx hb dX3_load_0 rfl (lv_at hl 0 rfl) ?_
  refine lv_iload_n hx hb dX3_load_1 rfl (lv_at hl 1 rfl) ?_
  refine zk_cVi (rest := []) (wr := [(a0, .inl (cI, N, .inl f0)), (a1, .inl (cI, N, .inl f1)), (a2, .inl (cI, N, .inl f2)), (a3, .inl (cI, N, .inl f3)), (io, .inr (2, [.int x0, .int x1, .int x2, .int x3]))]) X hE hA (c_X3_holds l D cI cZ ts ro a0 a1 a2 a3 N k j (by first | assumption | omega) (by first | assumption | omega) (by first | assumption | omega)) (cwV 1 hts gX3_load_X3_holds rfl rfl rfl hdX3_holds ⟨Nat.le_of_ble_eq_true rfl, Nat.le_of_ble_eq_true rfl⟩) dX3_load_2 hP hD hS [0] [1, 2, 3, 4, 5] ⟨rfl, trivial⟩ ⟨rfl, rfl, rfl, rfl, rfl, trivial⟩ (by decide +kernel) (by decide +kernel) (by decide +kernel) 3 rfl rfl rfl hl rfl (Nat.le_of_ble_eq_true rfl) ⟨Nat.le_of_ble_eq_true rfl, Nat.le_of_ble_eq_true rfl⟩ (fun r_2 _ H locs hw_2 hP hD hS => ?_)
  have hP : va_P D vwCl [(a0, .inl (cI, N, .inl f0)), (a1, .inl (cI, N, .inl f1)), (a2, .inl (cI, N, .inl f2)), (a3, .inl (cI, N, .inl f3)), (io, .inr (2, [.int x0, .int x1, .int x2, .int x3])), (ro, .inr (3, [.int (nI N), .ref a0, .ref a1, .ref a2, .ref a3, .int (nI k)]))] H := hP
  have hD : va_D A [(a0, .inl (cI, N, .inl f0)), (a1, .inl (cI, N, .inl f1)), (a2, .inl (cI, N, .inl f2)), (a3, .inl (cI, N, .inl f3)), (io, .inr (2, [.int x0, .int x1, .int x2, .int x3])), (ro, .inr (3, [.int (nI N), .ref a0, .ref a1, .ref a2, .ref a3, .int (nI k)]))] := hD
  obtain rfl : r_2 = 1 := hw_2
  refine lv_if_eq (tgt := 36) hx hb dX3_load_5 (by decide) (fun c_5 => absurd c_5 (by decide)) (fun c_5 => ?_)
  refine lv_aload_n hx hb dX3_load_8 rfl (lv_at hl 2 rfl) ?_
  refine lv_aload_n hx hb dX3_load_9 rfl (lv_at hl 0 rfl) ?_
  refine zk_get X hE sX3_load_10 hP 5 rfl rfl ?_
  refine lv_iload_n hx hb dX3_load_13 rfl (lv_at hl 1 rfl) ?_
  refine zk_ald hx hb hE hP 0 j rfl rfl (by omega) hN dX3_load_14 ?_
  refine lv_aload_n hx hb dX3_load_15 rfl (lv_at hl 0 rfl) ?_
  refine zk_get X hE sX3_load_16 hP 5 rfl rfl ?_
  refine lv_iload_n hx hb dX3_load_19 rfl (lv_at hl 1 rfl) ?_
  refine zk_ald hx hb hE hP 1 j rfl rfl (by omega) hN dX3_load_20 ?_
  refine lv_aload_n hx hb dX3_load_21 rfl (lv_at hl 0 rfl) ?_
  refine zk_get X hE sX3_load_22 hP 5 rfl rfl ?_
  refine lv_iload_n hx hb dX3_load_25 rfl (lv_at hl 1 rfl) ?_
  refine zk_ald hx hb hE hP 2 j rfl rfl (by omega) hN dX3_load_26 ?_
  refine lv_aload_n hx hb dX3_load_27 rfl (lv_at hl 0 rfl) ?_
  refine zk_get X hE sX3_load_28 hP 5 rfl rfl ?_
  refine lv_iload_n hx hb dX3_load_31 rfl (lv_at hl 1 rfl) ?_
  refine zk_ald hx hb hE hP 3 j rfl rfl (by omega) hN dX3_load_32 ?_
  refine zk_cVv (rest := []) (wr := [(a0, .inl (cI, N, .inl f0)), (a1, .inl (cI, N, .inl f1)), (a2, .inl (cI, N, .inl f2)), (a3, .inl (cI, N, .inl f3)), (ro, .inr (3, [.int (nI N), .ref a0, .ref a1, .ref a2, .ref a3, .int (nI k)]))]) X hE hA (c_X2_put l D cI cZ ts io x0 x1 x2 x3 (f0 j) (f1 j) (f2 j) (f3 j)) (cwV 4 hts gX3_load_X2_put rfl rfl rfl hdX2_put ⟨Nat.le_of_ble_eq_true rfl, Nat.le_of_ble_eq_true rfl⟩) dX3_load_33 hP hD hS [4] [0, 1, 2, 3, 5] ⟨rfl, trivial⟩ ⟨rfl, rfl, rfl, rfl, rfl, trivial⟩ (by decide +kernel) (by decide +kernel) (by decide +kernel) 2 rfl rfl rfl hl rfl (Nat.le_of_ble_eq_true rfl) ⟨Nat.le_of_ble_eq_true rfl, Nat.le_of_ble_eq_true rfl⟩ (fun _ H locs hw_33 hP hD hS => ?_)
  have hP : va_P D vwCl [(a0, .inl (cI, N, .inl f0)), (a1, .inl (cI, N, .inl f1)), (a2, .inl (cI, N, .inl f2)), (a3, .inl (cI, N, .inl f3)), (ro, .inr (3, [.int (nI N), .ref a0, .ref a1, .ref a2, .ref a3, .int (nI k)])), (io, .inr (2, [.int (f0 j), .int (f1 j), .int (f2 j), .int (f3 j)]))] H := hP
  have hD : va_D A [(a0, .inl (cI, N, .inl f0)), (a1, .inl (cI, N, .inl f1)), (a2, .inl (cI, N, .inl f2)), (a3, .inl (cI, N, .inl f3)), (ro, .inr (3, [.int (nI N), .ref a0, .ref a1, .ref a2, .ref a3, .int (nI k)])), (io, .inr (2, [.int (f0 j), .int (f1 j), .int (f2 j), .int (f3 j)]))] := hD
  exact hret  () H locs 36 ls trivial (zk_subP hP [4, 0, 1, 2, 3, 5] ⟨rfl, rfl, rfl, rfl, rfl, rfl, trivial⟩) (zk_subD hD [4, 0, 1, 2, 3, 5] (by decide +kernel) ⟨rfl, rfl, rfl, rfl, rfl, rfl, trivial⟩) hS dX3_load_36
set_option maxHeartbeats 4000000 in
set_option maxRecDepth 100000 in
theorem c_X3_append (l : Launch) (D : va_G) (cI cZ : ClassId) (ts : Nat → Nat) (ro : Nat) (a0 : Nat) (a1 : Nat) (a2 : Nat) (a3 : Nat) (N : Nat) (k : Nat) (io : Nat) (f0 : Nat → Int32) (f1 : Nat → Int32) (f2 : Nat → Int32) (f3 : Nat → Int32) (x0 : Int32) (x1 : Int32) (x2 : Int32) (x3 : Int32) (hk : k < N) (hN : N < 2 ^ 31) : zk_Mv l yX3_append wsX3_append ({ frames := 0, cells := 0, slots := 0, locals := 0 } : Room) D cI cZ ts [.ref ro, .ref io] [(ro, .inr (3, [.int (nI N), .ref a0, .ref a1, .ref a2, .ref a3, .int (nI k)])), (a0, .inl (cI, N, .inl f0)), (a1, .inl (cI, N, .inl f1)), (a2, .inl (cI, N, .inl f2)), (a3, .inl (cI, N, .inl f3)), (io, .inr (2, [.int x0, .int x1, .int x2, .int x3]))] (fun (_ : Unit) => True) (fun (_ : Unit) => [(ro, .inr (3, [.int (nI N), .ref a0, .ref a1, .ref a2, .ref a3, .int (nI (k + 1))])), (a0, .inl (cI, N, .inl (upd f0 k x0))), (a1, .inl (cI, N, .inl (upd f1 k x1))), (a2, .inl (cI, N, .inl (upd f2 k x2))), (a3, .inl (cI, N, .inl (upd f3 k x3))), (io, .inr (2, [.int x0, .int x1, .int x2, .int x3]))]) 0 0 := by
  refine zk_Mv.of (cc := cX3_append) (maxL := 2) RX3 (by decide) rfl (Nat.le_of_ble_eq_true rfl) rfl ?_
  intro p e s m below meth c A Q H locs ls X hE hA hin hP hD hS hret hl
  obtain ⟨hx, hb, hml, hown, hts⟩ := id X
  have hl : lv_has ls 2 [(0, .ref ro), (1, .ref io)] := hl
  refine lv_aload_n hx hb dX3_append_0 rfl (lv_at hl 0 rfl) ?_
  refine zk_get X hE sX3_append_1 hP 0 rfl rfl ?_
  refine lv_if_lt (tgt := 18) hx hb dX3_append_4 (by decide) (fun c_4 => absurd c_4 (nI_pos (by omega))) (fun c_4 => ?_)
  refine lv_aload_n hx hb dX3_append_7 rfl (lv_at hl 0 rfl) ?_
  refine zk_get X hE sX3_append_8 hP 0 rfl rfl ?_
  refine lv_aload_n hx hb dX3_append_11 rfl (lv_at hl 0 rfl) ?_
  refine zk_get X hE sX3_append_12 hP 0 rfl rfl ?_
  refine lv_icmp_lt (tgt := 19) hx hb dX3_append_15 (by decide) (fun c_15 => ?_) (fun c_15 => absurd (nI_lt hk hN) c_15)
  refine lv_aload_n hx hb dX3_append_19 rfl (lv_at hl 0 rfl) ?_
  refine zk_get X hE sX3_append_20 hP 0 rfl rfl ?_
  refine lv_aload_n hx hb dX3_append_23 rfl (lv_at hl 0 rfl) ?_
  refine zk_get X hE sX3_append_24 hP 0 rfl rfl ?_
  refine lv_aload_n hx hb dX3_append_27 rfl (lv_at hl 1 rfl) ?_
  refine zk_get X hE sX3_append_28 hP 5 rfl rfl ?_
  refine zk_ast (ws' := [(ro, .inr (3, [.int (nI N), .ref a0, .ref a1, .ref a2, .ref a3, .int (nI k)])), (a0, .inl (cI, N, .inl (upd f0 k x0))), (a1, .inl (cI, N, .inl f1)), (a2, .inl (cI, N, .inl f2)), (a3, .inl (cI, N, .inl f3)), (io, .inr (2, [.int x0, .int x1, .int x2, .int x3]))]) hx hb hE hP hD hS 1 k rfl rfl (by omega) hN dX3_append_31 rfl (fun H locs hP hD hS => ?_)
  refine lv_aload_n hx hb dX3_append_32 rfl (lv_at hl 0 rfl) ?_
  refine zk_get X hE sX3_append_33 hP 0 rfl rfl ?_
  refine lv_aload_n hx hb dX3_append_36 rfl (lv_at hl 0 rfl) ?_
  refine zk_get X hE sX3_append_37 hP 0 rfl rfl ?_
  refine lv_aload_n hx hb dX3_append_40 rfl (lv_at hl 1 rfl) ?_
  refine zk_get X hE sX3_append_41 hP 5 rfl rfl ?_
  refine zk_ast (ws' := [(ro, .inr (3, [.int (nI N), .ref a0, .ref a1, .ref a2, .ref a3, .int (nI k)])), (a0, .inl (cI, N, .inl (upd f0 k x0))), (a1, .inl (cI, N, .inl (upd f1 k x1))), (a2, .inl (cI, N, .inl f2)), (a3, .inl (cI, N, .inl f3)), (io, .inr (2, [.int x0, .int x1, .int x2, .int x3]))]) hx hb hE hP hD hS 2 k rfl rfl (by omega) hN dX3_append_44 rfl (fun H locs hP hD hS => ?_)
  refine lv_aload_n hx hb dX3_append_45 rfl (lv_at hl 0 rfl) ?_
  refine zk_get X hE sX3_append_46 hP 0 rfl rfl ?_
  refine lv_aload_n hx hb dX3_append_49 rfl (lv_at hl 0 rfl) ?_
  refine zk_get X hE sX3_append_50 hP 0 rfl rfl ?_
  refine lv_aload_n hx hb dX3_append_53 rfl (lv_at hl 1 rfl) ?_
  refine zk_get X hE sX3_append_54 hP 5 rfl rfl ?_
  refine zk_ast (ws' := [(ro, .inr (3, [.int (nI N), .ref a0, .ref a1, .ref a2, .ref a3, .int (nI k)])), (a0, .inl (cI, N, .inl (upd f0 k x0))), (a1, .inl (cI, N, .inl (upd f1 k x1))), (a2, .inl (cI, N, .inl (upd f2 k x2))), (a3, .inl (cI, N, .inl f3)), (io, .inr (2, [.int x0, .int x1, .int x2, .int x3]))]) hx hb hE hP hD hS 3 k rfl rfl (by omega) hN dX3_append_57 rfl (fun H locs hP hD hS => ?_)
  refine lv_aload_n hx hb dX3_append_58 rfl (lv_at hl 0 rfl) ?_
  refine zk_get X hE sX3_append_59 hP 0 rfl rfl ?_
  refine lv_aload_n hx hb dX3_append_62 rfl (lv_at hl 0 rfl) ?_
  refine zk_get X hE sX3_append_63 hP 0 rfl rfl ?_
  refine lv_aload_n hx hb dX3_append_66 rfl (lv_at hl 1 rfl) ?_
  refine zk_get X hE sX3_append_67 hP 5 rfl rfl ?_
  refine zk_ast (ws' := [(ro, .inr (3, [.int (nI N), .ref a0, .ref a1, .ref a2, .ref a3, .int (nI k)])), (a0, .inl (cI, N, .inl (upd f0 k x0))), (a1, .inl (cI, N, .inl (upd f1 k x1))), (a2, .inl (cI, N, .inl (upd f2 k x2))), (a3, .inl (cI, N, .inl (upd f3 k x3))), (io, .inr (2, [.int x0, .int x1, .int x2, .int x3]))]) hx hb hE hP hD hS 4 k rfl rfl (by omega) hN dX3_append_70 rfl (fun H locs hP hD hS => ?_)
  refine lv_aload_n hx hb dX3_append_71 rfl (lv_at hl 0 rfl) ?_
  refine lv_dup hx hb dX3_append_72 rfl ?_
  refine zk_get X hE sX3_append_73 hP 0 rfl rfl ?_
  refine lv_iconst (v := 1) hx hb dX3_append_76 (by decide) ?_
  refine lv_iadd hx hb dX3_append_77 ?_
  refine zk_top (show ((nI k) + 1 : Int32) = nI (k + 1) from nI_1 k) ?_
  refine zk_put (ws' := [(ro, .inr (3, [.int (nI N), .ref a0, .ref a1, .ref a2, .ref a3, .int (nI (k + 1))])), (a0, .inl (cI, N, .inl (upd f0 k x0))), (a1, .inl (cI, N, .inl (upd f1 k x1))), (a2, .inl (cI, N, .inl (upd f2 k x2))), (a3, .inl (cI, N, .inl (upd f3 k x3))), (io, .inr (2, [.int x0, .int x1, .int x2, .int x3]))]) X hE sX3_append_78 hP hD hS 0 rfl (Nat.le_of_ble_eq_true rfl) rfl (fun H locs hP hD hS => ?_)
  exact hret  () H locs 81 ls trivial hP hD hS dX3_append_81
set_option maxHeartbeats 4000000 in
set_option maxRecDepth 100000 in
theorem c_X3_move (l : Launch) (D : va_G) (cI cZ : ClassId) (ts : Nat → Nat) (ro : Nat) (a0 : Nat) (a1 : Nat) (a2 : Nat) (a3 : Nat) (N : Nat) (k : Nat) (i : Nat) (j : Nat) (f0 : Nat → Int32) (f1 : Nat → Int32) (f2 : Nat → Int32) (f3 : Nat → Int32) (hi : i < k) (hj : j < k) (hk : k ≤ N) (hN : N < 2 ^ 31) : zk_Mv l yX3_move wsX3_move ({ frames := 1, cells := 0, slots := 0, locals := 21 } : Room) D cI cZ ts [.ref ro, .int (nI i), .int (nI j)] [(ro, .inr (3, [.int (nI N), .ref a0, .ref a1, .ref a2, .ref a3, .int (nI k)])), (a0, .inl (cI, N, .inl f0)), (a1, .inl (cI, N, .inl f1)), (a2, .inl (cI, N, .inl f2)), (a3, .inl (cI, N, .inl f3))] (fun (_ : Unit) => True) (fun (_ : Unit) => [(ro, .inr (3, [.int (nI N), .ref a0, .ref a1, .ref a2, .ref a3, .int (nI k)])), (a0, .inl (cI, N, .inl (upd f0 j (f0 i)))), (a1, .inl (cI, N, .inl (upd f1 j (f1 i)))), (a2, .inl (cI, N, .inl (upd f2 j (f2 i)))), (a3, .inl (cI, N, .inl (upd f3 j (f3 i))))]) 0 0 := by
  refine zk_Mv.of (cc := cX3_move) (maxL := 3) RX3 (by decide) rfl (Nat.le_of_ble_eq_true rfl) rfl ?_
  intro p e s m below meth c A Q H locs ls X hE hA hin hP hD hS hret hl
  obtain ⟨hx, hb, hml, hown, hts⟩ := id X
  have hl : lv_has ls 3 [(0, .ref ro), (1, .int (nI i)), (2, .int (nI j))] := hl
  refine lv_aload_n hx hb dX3_move_0 rfl (lv_at hl 0 rfl) ?_
  refine lv_iload_n hx hb dX3_move_1 rfl (lv_at hl 1 rfl) ?_
  refine zk_cVi (rest := []) (wr := [(a0, .inl (cI, N, .inl f0)), (a1, .inl (cI, N, .inl f1)), (a2, .inl (cI, N, .inl f2)), (a3, .inl (cI, N, .inl f3))]) X hE hA (c_X3_holds l D cI cZ ts ro a0 a1 a2 a3 N k i (by first | assumption | omega) (by first | assumption | omega) (by first | assumption | omega)) (cwV 1 hts gX3_move_X3_holds rfl rfl rfl hdX3_holds ⟨Nat.le_of_ble_eq_true rfl, Nat.le_of_ble_eq_true rfl⟩) dX3_move_2 hP hD hS [0] [1, 2, 3, 4] ⟨rfl, trivial⟩ ⟨rfl, rfl, rfl, rfl, trivial⟩ (by decide +kernel) (by decide +kernel) (by decide +kernel) 3 rfl rfl rfl hl rfl (Nat.le_of_ble_eq_true rfl) ⟨Nat.le_of_ble_eq_true rfl, Nat.le_of_ble_eq_true rfl⟩ (fun r_2 _ H locs hw_2 hP hD hS => ?_)
  have hP : va_P D vwCl [(a0, .inl (cI, N, .inl f0)), (a1, .inl (cI, N, .inl f1)), (a2, .inl (cI, N, .inl f2)), (a3, .inl (cI, N, .inl f3)), (ro, .inr (3, [.int (nI N), .ref a0, .ref a1, .ref a2, .ref a3, .int (nI k)]))] H := hP
  have hD : va_D A [(a0, .inl (cI, N, .inl f0)), (a1, .inl (cI, N, .inl f1)), (a2, .inl (cI, N, .inl f2)), (a3, .inl (cI, N, .inl f3)), (ro, .inr (3, [.int (nI N), .ref a0, .ref a1, .ref a2, .ref a3, .int (nI k)]))] := hD
  obtain rfl : r_2 = 1 := hw_2
  refine lv_if_eq (tgt := 64) hx hb dX3_move_5 (by decide) (fun c_5 => absurd c_5 (by decide)) (fun c_5 => ?_)
  refine lv_aload_n hx hb dX3_move_8 rfl (lv_at hl 0 rfl) ?_
  refine lv_iload_n hx hb dX3_move_9 rfl (lv_at hl 2 rfl) ?_
  refine zk_cVi (rest := []) (wr := [(a0, .inl (cI, N, .inl f0)), (a1, .inl (cI, N, .inl f1)), (a2, .inl (cI, N, .inl f2)), (a3, .inl (cI, N, .inl f3))]) X hE hA (c_X3_holds l D cI cZ ts ro a0 a1 a2 a3 N k j (by first | assumption | omega) (by first | assumption | omega) (by first | assumption | omega)) (cwV 1 hts gX3_move_X3_holds rfl rfl rfl hdX3_holds ⟨Nat.le_of_ble_eq_true rfl, Nat.le_of_ble_eq_true rfl⟩) dX3_move_10 hP hD hS [4] [0, 1, 2, 3] ⟨rfl, trivial⟩ ⟨rfl, rfl, rfl, rfl, trivial⟩ (by decide +kernel) (by decide +kernel) (by decide +kernel) 3 rfl rfl rfl hl rfl (Nat.le_of_ble_eq_true rfl) ⟨Nat.le_of_ble_eq_true rfl, Nat.le_of_ble_eq_true rfl⟩ (fun r_10 _ H locs hw_10 hP hD hS => ?_)
  have hP : va_P D vwCl [(a0, .inl (cI, N, .inl f0)), (a1, .inl (cI, N, .inl f1)), (a2, .inl (cI, N, .inl f2)), (a3, .inl (cI, N, .inl f3)), (ro, .inr (3, [.int (nI N), .ref a0, .ref a1, .ref a2, .ref a3, .int (nI k)]))] H := hP
  have hD : va_D A [(a0, .inl (cI, N, .inl f0)), (a1, .inl (cI, N, .inl f1)), (a2, .inl (cI, N, .inl f2)), (a3, .inl (cI, N, .inl f3)), (ro, .inr (3, [.int (nI N), .ref a0, .ref a1, .ref a2, .ref a3, .int (nI k)]))] := hD
  obtain rfl : r_10 = 1 := hw_10
  refine lv_if_eq (tgt := 64) hx hb dX3_move_13 (by decide) (fun c_13 => absurd c_13 (by decide)) (fun c_13 => ?_)
  refine lv_aload_n hx hb dX3_move_16 rfl (lv_at hl 0 rfl) ?_
  refine zk_get X hE sX3_move_17 hP 4 rfl rfl ?_
  refine lv_iload_n hx hb dX3_move_20 rfl (lv_at hl 2 rfl) ?_
  refine lv_aload_n hx hb dX3_move_21 rfl (lv_at hl 0 rfl) ?_
  refine zk_get X hE sX3_move_22 hP 4 rfl rfl ?_
  refine lv_iload_n hx hb dX3_move_25 rfl (lv_at hl 1 rfl) ?_
  refine zk_ald hx hb hE hP 0 i rfl rfl (by omega) hN dX3_move_26 ?_
  refine zk_ast (ws' := [(a0, .inl (cI, N, .inl (upd f0 j (f0 i)))), (a1, .inl (cI, N, .inl f1)), (a2, .inl (cI, N, .inl f2)), (a3, .inl (cI, N, .inl f3)), (ro, .inr (3, [.int (nI N), .ref a0, .ref a1, .ref a2, .ref a3, .int (nI k)]))]) hx hb hE hP hD hS 0 j rfl rfl (by omega) hN dX3_move_27 rfl (fun H locs hP hD hS => ?_)
  refine lv_aload_n hx hb dX3_move_28 rfl (lv_at hl 0 rfl) ?_
  refine zk_get X hE sX3_move_29 hP 4 rfl rfl ?_
  refine lv_iload_n hx hb dX3_move_32 rfl (lv_at hl 2 rfl) ?_
  refine lv_aload_n hx hb dX3_move_33 rfl (lv_at hl 0 rfl) ?_
  refine zk_get X hE sX3_move_34 hP 4 rfl rfl ?_
  refine lv_iload_n hx hb dX3_move_37 rfl (lv_at hl 1 rfl) ?_
  refine zk_ald hx hb hE hP 1 i rfl rfl (by omega) hN dX3_move_38 ?_
  refine zk_ast (ws' := [(a0, .inl (cI, N, .inl (upd f0 j (f0 i)))), (a1, .inl (cI, N, .inl (upd f1 j (f1 i)))), (a2, .inl (cI, N, .inl f2)), (a3, .inl (cI, N, .inl f3)), (ro, .inr (3, [.int (nI N), .ref a0, .ref a1, .ref a2, .ref a3, .int (nI k)]))]) hx hb hE hP hD hS 1 j rfl rfl (by omega) hN dX3_move_39 rfl (fun H locs hP hD hS => ?_)
  refine lv_aload_n hx hb dX3_move_40 rfl (lv_at hl 0 rfl) ?_
  refine zk_get X hE sX3_move_41 hP 4 rfl rfl ?_
  refine lv_iload_n hx hb dX3_move_44 rfl (lv_at hl 2 rfl) ?_
  refine lv_aload_n hx hb dX3_move_45 rfl (lv_at hl 0 rfl) ?_
  refine zk_get X hE sX3_move_46 hP 4 rfl rfl ?_
  refine lv_iload_n hx hb dX3_move_49 rfl (lv_at hl 1 rfl) ?_
  refine zk_ald hx hb hE hP 2 i rfl rfl (by omega) hN dX3_move_50 ?_
  refine zk_ast (ws' := [(a0, .inl (cI, N, .inl (upd f0 j (f0 i)))), (a1, .inl (cI, N, .inl (upd f1 j (f1 i)))), (a2, .inl (cI, N, .inl (upd f2 j (f2 i)))), (a3, .inl (cI, N, .inl f3)), (ro, .inr (3, [.int (nI N), .ref a0, .ref a1, .ref a2, .ref a3, .int (nI k)]))]) hx hb hE hP hD hS 2 j rfl rfl (by omega) hN dX3_move_51 rfl (fun H locs hP hD hS => ?_)
  refine lv_aload_n hx hb dX3_move_52 rfl (lv_at hl 0 rfl) ?_
  refine zk_get X hE sX3_move_53 hP 4 rfl rfl ?_
  refine lv_iload_n hx hb dX3_move_56 rfl (lv_at hl 2 rfl) ?_
  refine lv_aload_n hx hb dX3_move_57 rfl (lv_at hl 0 rfl) ?_
  refine zk_get X hE sX3_move_58 hP 4 rfl rfl ?_
  refine lv_iload_n hx hb dX3_move_61 rfl (lv_at hl 1 rfl) ?_
  refine zk_ald hx hb hE hP 3 i rfl rfl (by omega) hN dX3_move_62 ?_
  refine zk_ast (ws' := [(a0, .inl (cI, N, .inl (upd f0 j (f0 i)))), (a1, .inl (cI, N, .inl (upd f1 j (f1 i)))), (a2, .inl (cI, N, .inl (upd f2 j (f2 i)))), (a3, .inl (cI, N, .inl (upd f3 j (f3 i)))), (ro, .inr (3, [.int (nI N), .ref a0, .ref a1, .ref a2, .ref a3, .int (nI k)]))]) hx hb hE hP hD hS 3 j rfl rfl (by omega) hN dX3_move_63 rfl (fun H locs hP hD hS => ?_)
  exact hret  () H locs 64 ls trivial (zk_subP hP [4, 0, 1, 2, 3] ⟨rfl, rfl, rfl, rfl, rfl, trivial⟩) (zk_subD hD [4, 0, 1, 2, 3] (by decide +kernel) ⟨rfl, rfl, rfl, rfl, rfl, trivial⟩) hS dX3_move_64
set_option maxHeartbeats 4000000 in
set_option maxRecDepth 100000 in
theorem c_X3_dropEldest (l : Launch) (D : va_G) (cI cZ : ClassId) (ts : Nat → Nat) (ro : Nat) (a0 : Nat) (a1 : Nat) (a2 : Nat) (a3 : Nat) (N : Nat) (k : Nat) (f0 : Nat → Int32) (f1 : Nat → Int32) (f2 : Nat → Int32) (f3 : Nat → Int32) (hk1 : 1 ≤ k) (hk : k ≤ N) (hN : N < 2 ^ 31) : zk_Mv l yX3_dropEldest wsX3_dropEldest ({ frames := 2, cells := 0, slots := 0, locals := 43 } : Room) D cI cZ ts [.ref ro] [(ro, .inr (3, [.int (nI N), .ref a0, .ref a1, .ref a2, .ref a3, .int (nI k)])), (a0, .inl (cI, N, .inl f0)), (a1, .inl (cI, N, .inl f1)), (a2, .inl (cI, N, .inl f2)), (a3, .inl (cI, N, .inl f3))] (fun (u : (Nat → Int32) × (Nat → Int32) × (Nat → Int32) × (Nat → Int32)) => zds f0 u.1 k ∧ zds f1 u.2.1 k ∧ zds f2 u.2.2.1 k ∧ zds f3 u.2.2.2 k) (fun (u : (Nat → Int32) × (Nat → Int32) × (Nat → Int32) × (Nat → Int32)) => [(ro, .inr (3, [.int (nI N), .ref a0, .ref a1, .ref a2, .ref a3, .int (nI (k - 1))])), (a0, .inl (cI, N, .inl u.1)), (a1, .inl (cI, N, .inl u.2.1)), (a2, .inl (cI, N, .inl u.2.2.1)), (a3, .inl (cI, N, .inl u.2.2.2))]) 0 0 := by
  refine zk_Mv.of (cc := cX3_dropEldest) (maxL := 2) RX3 (by decide) rfl (Nat.le_of_ble_eq_true rfl) rfl ?_
  intro p e s m below meth c A Q H locs ls X hE hA hin hP hD hS hret hl
  obtain ⟨hx, hb, hml, hown, hts⟩ := id X
  have hl : lv_has ls 2 [(0, .ref ro)] := hl
  refine lv_iconst (v := 1) hx hb dX3_dropEldest_0 (by decide) ?_
  refine lv_istore_n (lv' := [(1, .int 1), (0, .ref ro)]) hx hb dX3_dropEldest_1 rfl hl (by decide) rfl (fun ls hl => ?_)
  have L_2 : ∀ (n : Nat) (i : Nat) (g0 : Nat → Int32) (g1 : Nat → Int32) (g2 : Nat → Int32) (g3 : Nat → Int32) (H : Heap) (locs : List Loc) (ls : Array Slot), (1 ≤ i) → (i ≤ k) → (zds f0 g0 i) → (zds f1 g1 i) → (zds f2 g2 i) → (zds f3 g3 i) → k - i < n → va_P D vwCl [(ro, .inr (3, [.int (nI N), .ref a0, .ref a1, .ref a2, .ref a3, .int (nI k)])), (a0, .inl (cI, N, .inl g0)), (a1, .inl (cI, N, .inl g1)), (a2, .inl (cI, N, .inl g2)), (a3, .inl (cI, N, .inl g3))] H → va_D A [(ro, .inr (3, [.int (nI N), .ref a0, .ref a1, .ref a2, .ref a3, .int (nI k)])), (a0, .inl (cI, N, .inl g0)), (a1, .inl (cI, N, .inl g1)), (a2, .inl (cI, N, .inl g2)), (a3, .inl (cI, N, .inl g3))] → va_S A s.heap H locs → lv_has ls 2 [(0, .ref ro), (1, .int (nI i))] → W p l e ({ frames := 2, cells := 0, slots := 0, locals := 43 } : Room) s m ([.ref ro] : List Value).toArray below meth c H locs 0 0 Q (F0 m 2 ls []) := by
    intro n
    induction n with
    | zero =>
      intro i g0 g1 g2 g3 H locs ls hi1 hi d0 d1 d2 d3 hlt hP hD hS hl
      exact absurd hlt (Nat.not_lt_zero _)
    | succ n ih_2 =>
      intro i g0 g1 g2 g3 H locs ls hi1 hi d0 d1 d2 d3 hlt hP hD hS hl
      refine lv_iload_n hx hb dX3_dropEldest_2 rfl (lv_at hl 1 rfl) ?_
      refine lv_aload_n hx hb dX3_dropEldest_3 rfl (lv_at hl 0 rfl) ?_
      refine zk_get X hE sX3_dropEldest_4 hP 0 rfl rfl ?_
      refine lv_icmp_ge (tgt := 32) hx hb dX3_dropEldest_7 (by decide) (fun c_7 => ?_) (fun c_7 => ?_)
      · have e_i : k = i := by have := zn_le c_7 (by omega) (by omega); omega
        subst e_i
        refine lv_aload_n hx hb dX3_dropEldest_32 rfl (lv_at hl 0 rfl) ?_
        refine lv_aload_n hx hb dX3_dropEldest_33 rfl (lv_at hl 0 rfl) ?_
        refine zk_get X hE sX3_dropEldest_34 hP 0 rfl rfl ?_
        refine lv_iconst (v := 1) hx hb dX3_dropEldest_37 (by decide) ?_
        refine lv_isub hx hb dX3_dropEldest_38 ?_
        refine lv_iconst (v := 0) hx hb dX3_dropEldest_39 (by decide) ?_
        refine va_mmax hx hb (hml.trans hl.1.symm) hown (hts (.methodLink RX3 15 Lib.Math.max.name) (by decide +kernel)) (hts (.static Lib.Math.max.name) (by decide +kernel)) (hts (.initialized "java/lang/Math") (by decide +kernel)) (hts _ (List.mem_of_getElem? (i := 6) rfl)) (Nat.le_of_ble_eq_true rfl) (Nat.le_of_ble_eq_true rfl) (Nat.le_of_ble_eq_true rfl) (Nat.le_of_ble_eq_true rfl) dX3_dropEldest_40 ?_
        refine zk_top (show (if ((nI k) - 1) < 0 then 0 else ((nI k) - 1) : Int32) = nI (k - 1) from (by rw [zn_sub1 hk1]; exact zn_max0 (by omega))) ?_
        refine zk_put (ws' := [(ro, .inr (3, [.int (nI N), .ref a0, .ref a1, .ref a2, .ref a3, .int (nI (k - 1))])), (a0, .inl (cI, N, .inl g0)), (a1, .inl (cI, N, .inl g1)), (a2, .inl (cI, N, .inl g2)), (a3, .inl (cI, N, .inl g3))]) X hE sX3_dropEldest_43 hP hD hS 0 rfl (Nat.le_of_ble_eq_true rfl) rfl (fun H locs hP hD hS => ?_)
        have hq := hret  (g0, g1, g2, g3) H locs 46 ls
        dsimp only at hq
        exact hq (⟨d0, d1, d2, d3⟩) hP hD hS dX3_dropEldest_46
      · have hik : i < k := zn_nle c_7 (by omega)
        refine lv_iload_n hx hb dX3_dropEldest_10 rfl (lv_at hl 1 rfl) ?_
        refine lv_aload_n hx hb dX3_dropEldest_11 rfl (lv_at hl 0 rfl) ?_
        refine zk_get X hE sX3_dropEldest_12 hP 0 rfl rfl ?_
        refine lv_icmp_ge (tgt := 32) hx hb dX3_dropEldest_15 (by decide) (fun c_15 => absurd c_15 (nI_ge (show i < N by omega) hN)) (fun c_15 => ?_)
        refine lv_aload_n hx hb dX3_dropEldest_18 rfl (lv_at hl 0 rfl) ?_
        refine lv_iload_n hx hb dX3_dropEldest_19 rfl (lv_at hl 1 rfl) ?_
        refine lv_iload_n hx hb dX3_dropEldest_20 rfl (lv_at hl 1 rfl) ?_
        refine lv_iconst (v := 1) hx hb dX3_dropEldest_21 (by decide) ?_
        refine lv_isub hx hb dX3_dropEldest_22 ?_
        refine zk_top (show ((nI i) - 1 : Int32) = nI (i - 1) from zn_sub1 hi1) ?_
        refine zk_cVv (rest := []) (wr := []) X hE hA (c_X3_move l D cI cZ ts ro a0 a1 a2 a3 N k i (i - 1) g0 g1 g2 g3 (by first | assumption | omega) (by first | assumption | omega) (by first | assumption | omega) (by first | assumption | omega)) (cwV 2 hts gX3_dropEldest_X3_move rfl rfl rfl hdX3_move ⟨Nat.le_of_ble_eq_true rfl, Nat.le_of_ble_eq_true rfl⟩) dX3_dropEldest_23 hP hD hS [0, 1, 2, 3, 4] [] ⟨rfl, rfl, rfl, rfl, rfl, trivial⟩ trivial (by decide +kernel) (by decide +kernel) (by decide +kernel) 3 rfl rfl rfl hl rfl (Nat.le_of_ble_eq_true rfl) ⟨Nat.le_of_ble_eq_true rfl, Nat.le_of_ble_eq_true rfl⟩ (fun _ H locs hw_23 hP hD hS => ?_)
        have hP : va_P D vwCl [(ro, .inr (3, [.int (nI N), .ref a0, .ref a1, .ref a2, .ref a3, .int (nI k)])), (a0, .inl (cI, N, .inl (upd g0 (i - 1) (g0 i)))), (a1, .inl (cI, N, .inl (upd g1 (i - 1) (g1 i)))), (a2, .inl (cI, N, .inl (upd g2 (i - 1) (g2 i)))), (a3, .inl (cI, N, .inl (upd g3 (i - 1) (g3 i))))] H := hP
        have hD : va_D A [(ro, .inr (3, [.int (nI N), .ref a0, .ref a1, .ref a2, .ref a3, .int (nI k)])), (a0, .inl (cI, N, .inl (upd g0 (i - 1) (g0 i)))), (a1, .inl (cI, N, .inl (upd g1 (i - 1) (g1 i)))), (a2, .inl (cI, N, .inl (upd g2 (i - 1) (g2 i)))), (a3, .inl (cI, N, .inl (upd g3 (i - 1) (g3 i))))] := hD
        refine lv_iinc (v := nI (i + 1)) (lv' := [(1, .int (nI (i + 1))), (0, .ref ro)]) hx hb dX3_dropEldest_26 hl (k := 1) rfl (zk_inc i) (by decide) rfl (fun ls hl => ?_)
        refine lv_goto (tgt := 2) hx hb dX3_dropEldest_29 (by decide) ?_
        exact ih_2 (i + 1) (upd g0 (i - 1) (g0 i)) (upd g1 (i - 1) (g1 i)) (upd g2 (i - 1) (g2 i)) (upd g3 (i - 1) (g3 i)) H locs ls (by omega) (by omega) (zds_s hi1 d0) (zds_s hi1 d1) (zds_s hi1 d2) (zds_s hi1 d3) (by omega) hP hD hS (lv_sub hl [1, 0] rfl)
  exact L_2 _ 1 f0 f1 f2 f3 H locs ls (Nat.le_refl 1) hk1 (zds_0 f0) (zds_0 f1) (zds_0 f2) (zds_0 f3) (Nat.lt_succ_self _) hP hD hS (lv_sub hl [1, 0] rfl)
set_option maxHeartbeats 4000000 in
set_option maxRecDepth 100000 in
theorem c_X3_appendAsNewest_lt (l : Launch) (D : va_G) (cI cZ : ClassId) (ts : Nat → Nat) (ro : Nat) (a0 : Nat) (a1 : Nat) (a2 : Nat) (a3 : Nat) (N : Nat) (k : Nat) (io : Nat) (f0 : Nat → Int32) (f1 : Nat → Int32) (f2 : Nat → Int32) (f3 : Nat → Int32) (x0 : Int32) (x1 : Int32) (x2 : Int32) (x3 : Int32) (hk : k < N) (hN : N < 2 ^ 31) : zk_Mv l yX3_appendAsNewest wsX3_appendAsNewest ({ frames := 1, cells := 0, slots := 0, locals := 21 } : Room) D cI cZ ts [.ref ro, .ref io] [(ro, .inr (3, [.int (nI N), .ref a0, .ref a1, .ref a2, .ref a3, .int (nI k)])), (a0, .inl (cI, N, .inl f0)), (a1, .inl (cI, N, .inl f1)), (a2, .inl (cI, N, .inl f2)), (a3, .inl (cI, N, .inl f3)), (io, .inr (2, [.int x0, .int x1, .int x2, .int x3]))] (fun (_ : Unit) => True) (fun (_ : Unit) => [(ro, .inr (3, [.int (nI N), .ref a0, .ref a1, .ref a2, .ref a3, .int (nI (k + 1))])), (a0, .inl (cI, N, .inl (upd f0 k x0))), (a1, .inl (cI, N, .inl (upd f1 k x1))), (a2, .inl (cI, N, .inl (upd f2 k x2))), (a3, .inl (cI, N, .inl (upd f3 k x3))), (io, .inr (2, [.int x0, .int x1, .int x2, .int x3]))]) 0 0 := by
  refine zk_Mv.of (cc := cX3_appendAsNewest) (maxL := 2) RX3 (by decide) rfl (Nat.le_of_ble_eq_true rfl) rfl ?_
  intro p e s m below meth c A Q H locs ls X hE hA hin hP hD hS hret hl
  obtain ⟨hx, hb, hml, hown, hts⟩ := id X
  have hl : lv_has ls 2 [(0, .ref ro), (1, .ref io)] := hl
  refine lv_aload_n hx hb dX3_appendAsNewest_0 rfl (lv_at hl 0 rfl) ?_
  refine zk_get X hE sX3_appendAsNewest_1 hP 0 rfl rfl ?_
  refine lv_aload_n hx hb dX3_appendAsNewest_4 rfl (lv_at hl 0 rfl) ?_
  refine zk_get X hE sX3_appendAsNewest_5 hP 0 rfl rfl ?_
  refine lv_icmp_lt (tgt := 15) hx hb dX3_appendAsNewest_8 (by decide) (fun c_8 => ?_) (fun c_8 => absurd (nI_lt hk hN) c_8)
  refine lv_aload_n hx hb dX3_appendAsNewest_15 rfl (lv_at hl 0 rfl) ?_
  refine lv_aload_n hx hb dX3_appendAsNewest_16 rfl (lv_at hl 1 rfl) ?_
  refine zk_cVv (rest := []) (wr := []) X hE hA (c_X3_append l D cI cZ ts ro a0 a1 a2 a3 N k io f0 f1 f2 f3 x0 x1 x2 x3 (by first | assumption | omega) (by first | assumption | omega)) (cwV 1 hts gX3_appendAsNewest_X3_append rfl rfl rfl hdX3_append ⟨Nat.le_of_ble_eq_true rfl, Nat.le_of_ble_eq_true rfl⟩) dX3_appendAsNewest_17 hP hD hS [0, 1, 2, 3, 4, 5] [] ⟨rfl, rfl, rfl, rfl, rfl, rfl, trivial⟩ trivial (by decide +kernel) (by decide +kernel) (by decide +kernel) 3 rfl rfl rfl hl rfl (Nat.le_of_ble_eq_true rfl) ⟨Nat.le_of_ble_eq_true rfl, Nat.le_of_ble_eq_true rfl⟩ (fun _ H locs hw_17 hP hD hS => ?_)
  have hP : va_P D vwCl [(ro, .inr (3, [.int (nI N), .ref a0, .ref a1, .ref a2, .ref a3, .int (nI (k + 1))])), (a0, .inl (cI, N, .inl (upd f0 k x0))), (a1, .inl (cI, N, .inl (upd f1 k x1))), (a2, .inl (cI, N, .inl (upd f2 k x2))), (a3, .inl (cI, N, .inl (upd f3 k x3))), (io, .inr (2, [.int x0, .int x1, .int x2, .int x3]))] H := hP
  have hD : va_D A [(ro, .inr (3, [.int (nI N), .ref a0, .ref a1, .ref a2, .ref a3, .int (nI (k + 1))])), (a0, .inl (cI, N, .inl (upd f0 k x0))), (a1, .inl (cI, N, .inl (upd f1 k x1))), (a2, .inl (cI, N, .inl (upd f2 k x2))), (a3, .inl (cI, N, .inl (upd f3 k x3))), (io, .inr (2, [.int x0, .int x1, .int x2, .int x3]))] := hD
  exact hret  () H locs 20 ls trivial hP hD hS dX3_appendAsNewest_20
set_option maxHeartbeats 4000000 in
set_option maxRecDepth 100000 in
theorem c_X3_appendAsNewest_full (l : Launch) (D : va_G) (cI cZ : ClassId) (ts : Nat → Nat) (ro : Nat) (a0 : Nat) (a1 : Nat) (a2 : Nat) (a3 : Nat) (N : Nat) (io : Nat) (f0 : Nat → Int32) (f1 : Nat → Int32) (f2 : Nat → Int32) (f3 : Nat → Int32) (x0 : Int32) (x1 : Int32) (x2 : Int32) (x3 : Int32) (h1 : 1 ≤ N) (hN : N < 2 ^ 31) : zk_Mv l yX3_appendAsNewest wsX3_appendAsNewest ({ frames := 3, cells := 0, slots := 0, locals := 64 } : Room) D cI cZ ts [.ref ro, .ref io] [(ro, .inr (3, [.int (nI N), .ref a0, .ref a1, .ref a2, .ref a3, .int (nI N)])), (a0, .inl (cI, N, .inl f0)), (a1, .inl (cI, N, .inl f1)), (a2, .inl (cI, N, .inl f2)), (a3, .inl (cI, N, .inl f3)), (io, .inr (2, [.int x0, .int x1, .int x2, .int x3]))] (fun (u : (Nat → Int32) × (Nat → Int32) × (Nat → Int32) × (Nat → Int32)) => zds f0 u.1 N ∧ zds f1 u.2.1 N ∧ zds f2 u.2.2.1 N ∧ zds f3 u.2.2.2 N) (fun (u : (Nat → Int32) × (Nat → Int32) × (Nat → Int32) × (Nat → Int32)) => [(ro, .inr (3, [.int (nI N), .ref a0, .ref a1, .ref a2, .ref a3, .int (nI (N - 1 + 1))])), (a0, .inl (cI, N, .inl (upd u.1 (N - 1) x0))), (a1, .inl (cI, N, .inl (upd u.2.1 (N - 1) x1))), (a2, .inl (cI, N, .inl (upd u.2.2.1 (N - 1) x2))), (a3, .inl (cI, N, .inl (upd u.2.2.2 (N - 1) x3))), (io, .inr (2, [.int x0, .int x1, .int x2, .int x3]))]) 0 0 := by
  refine zk_Mv.of (cc := cX3_appendAsNewest) (maxL := 2) RX3 (by decide) rfl (Nat.le_of_ble_eq_true rfl) rfl ?_
  intro p e s m below meth c A Q H locs ls X hE hA hin hP hD hS hret hl
  obtain ⟨hx, hb, hml, hown, hts⟩ := id X
  have hl : lv_has ls 2 [(0, .ref ro), (1, .ref io)] := hl
  refine lv_aload_n hx hb dX3_appendAsNewest_0 rfl (lv_at hl 0 rfl) ?_
  refine zk_get X hE sX3_appendAsNewest_1 hP 0 rfl rfl ?_
  refine lv_aload_n hx hb dX3_appendAsNewest_4 rfl (lv_at hl 0 rfl) ?_
  refine zk_get X hE sX3_appendAsNewest_5 hP 0 rfl rfl ?_
  refine lv_icmp_lt (tgt := 15) hx hb dX3_appendAsNewest_8 (by decide) (fun c_8 => absurd c_8 (nI_nlt (Nat.le_refl _) hN)) (fun c_8 => ?_)
  refine lv_aload_n hx hb dX3_appendAsNewest_11 rfl (lv_at hl 0 rfl) ?_
  refine zk_cVv (rest := []) (wr := [(io, .inr (2, [.int x0, .int x1, .int x2, .int x3]))]) X hE hA (c_X3_dropEldest l D cI cZ ts ro a0 a1 a2 a3 N N f0 f1 f2 f3 (by first | assumption | omega) (by first | assumption | omega) (by first | assumption | omega)) (cwV 0 hts gX3_appendAsNewest_X3_dropEldest rfl rfl rfl hdX3_dropEldest ⟨Nat.le_of_ble_eq_true rfl, Nat.le_of_ble_eq_true rfl⟩) dX3_appendAsNewest_12 hP hD hS [0, 1, 2, 3, 4] [5] ⟨rfl, rfl, rfl, rfl, rfl, trivial⟩ ⟨rfl, trivial⟩ (by decide +kernel) (by decide +kernel) (by decide +kernel) 3 rfl rfl rfl hl rfl (Nat.le_of_ble_eq_true rfl) ⟨Nat.le_of_ble_eq_true rfl, Nat.le_of_ble_eq_true rfl⟩ (fun u_12 H locs hw_12 hP hD hS => ?_)
  obtain ⟨g0_1, g1_2, g2_3, g3_4⟩ := u_12
  have hP : va_P D vwCl [(io, .inr (2, [.int x0, .int x1, .int x2, .int x3])), (ro, .inr (3, [.int (nI N), .ref a0, .ref a1, .ref a2, .ref a3, .int (nI (N - 1))])), (a0, .inl (cI, N, .inl g0_1)), (a1, .inl (cI, N, .inl g1_2)), (a2, .inl (cI, N, .inl g2_3)), (a3, .inl (cI, N, .inl g3_4))] H := hP
  have hD : va_D A [(io, .inr (2, [.int x0, .int x1, .int x2, .int x3])), (ro, .inr (3, [.int (nI N), .ref a0, .ref a1, .ref a2, .ref a3, .int (nI (N - 1))])), (a0, .inl (cI, N, .inl g0_1)), (a1, .inl (cI, N, .inl g1_2)), (a2, .inl (cI, N, .inl g2_3)), (a3, .inl (cI, N, .inl g3_4))] := hD
  have hw_12 : zds f0 g0_1 N ∧ zds f1 g1_2 N ∧ zds f2 g2_3 N ∧ zds f3 g3_4 N := hw_12
  refine lv_aload_n hx hb dX3_appendAsNewest_15 rfl (lv_at hl 0 rfl) ?_
  refine lv_aload_n hx hb dX3_appendAsNewest_16 rfl (lv_at hl 1 rfl) ?_
  refine zk_cVv (rest := []) (wr := []) X hE hA (c_X3_append l D cI cZ ts ro a0 a1 a2 a3 N (N - 1) io g0_1 g1_2 g2_3 g3_4 x0 x1 x2 x3 (by first | assumption | omega) (by first | assumption | omega)) (cwV 1 hts gX3_appendAsNewest_X3_append rfl rfl rfl hdX3_append ⟨Nat.le_of_ble_eq_true rfl, Nat.le_of_ble_eq_true rfl⟩) dX3_appendAsNewest_17 hP hD hS [1, 2, 3, 4, 5, 0] [] ⟨rfl, rfl, rfl, rfl, rfl, rfl, trivial⟩ trivial (by decide +kernel) (by decide +kernel) (by decide +kernel) 3 rfl rfl rfl hl rfl (Nat.le_of_ble_eq_true rfl) ⟨Nat.le_of_ble_eq_true rfl, Nat.le_of_ble_eq_true rfl⟩ (fun _ H locs hw_17 hP hD hS => ?_)
  have hP : va_P D vwCl [(ro, .inr (3, [.int (nI N), .ref a0, .ref a1, .ref a2, .ref a3, .int (nI ((N - 1) + 1))])), (a0, .inl (cI, N, .inl (upd g0_1 (N - 1) x0))), (a1, .inl (cI, N, .inl (upd g1_2 (N - 1) x1))), (a2, .inl (cI, N, .inl (upd g2_3 (N - 1) x2))), (a3, .inl (cI, N, .inl (upd g3_4 (N - 1) x3))), (io, .inr (2, [.int x0, .int x1, .int x2, .int x3]))] H := hP
  have hD : va_D A [(ro, .inr (3, [.int (nI N), .ref a0, .ref a1, .ref a2, .ref a3, .int (nI ((N - 1) + 1))])), (a0, .inl (cI, N, .inl (upd g0_1 (N - 1) x0))), (a1, .inl (cI, N, .inl (upd g1_2 (N - 1) x1))), (a2, .inl (cI, N, .inl (upd g2_3 (N - 1) x2))), (a3, .inl (cI, N, .inl (upd g3_4 (N - 1) x3))), (io, .inr (2, [.int x0, .int x1, .int x2, .int x3]))] := hD
  have hq := hret  (g0_1, g1_2, g2_3, g3_4) H locs 20 ls
  dsimp only at hq
  exact hq hw_12 hP hD hS dX3_appendAsNewest_20
set_option maxHeartbeats 4000000 in
set_option maxRecDepth 100000 in
theorem c_X3_dropBelow (l : Launch) (D : va_G) (cI cZ : ClassId) (ts : Nat → Nat) (ro : Nat) (a0 : Nat) (a1 : Nat) (a2 : Nat) (a3 : Nat) (N : Nat) (k : Nat) (io : Nat) (f0 : Nat → Int32) (f1 : Nat → Int32) (f2 : Nat → Int32) (f3 : Nat → Int32) (x0 : Int32) (x1 : Int32) (x2 : Int32) (x3 : Int32) (v : Int32) (hk : k ≤ N) (hN : N < 2 ^ 31) : zk_Mv l yX3_dropBelow wsX3_dropBelow ({ frames := 2, cells := 0, slots := 0, locals := 46 } : Room) D cI cZ ts [.ref ro, .int v, .ref io] [(ro, .inr (3, [.int (nI N), .ref a0, .ref a1, .ref a2, .ref a3, .int (nI k)])), (a0, .inl (cI, N, .inl f0)), (a1, .inl (cI, N, .inl f1)), (a2, .inl (cI, N, .inl f2)), (a3, .inl (cI, N, .inl f3)), (io, .inr (2, [.int x0, .int x1, .int x2, .int x3]))] (fun (u : (Nat → Int32) × (Nat → Int32) × (Nat → Int32) × (Nat → Int32) × Int32 × Int32 × Int32 × Int32) => zdb (zab v f0 f1) f0 u.1 k ∧ zdb (zab v f0 f1) f1 u.2.1 k ∧ zdb (zab v f0 f1) f2 u.2.2.1 k ∧ zdb (zab v f0 f1) f3 u.2.2.2.1 k) (fun (u : (Nat → Int32) × (Nat → Int32) × (Nat → Int32) × (Nat → Int32) × Int32 × Int32 × Int32 × Int32) => [(ro, .inr (3, [.int (nI N), .ref a0, .ref a1, .ref a2, .ref a3, .int (nI (zc (zab v f0 f1) k))])), (a0, .inl (cI, N, .inl u.1)), (a1, .inl (cI, N, .inl u.2.1)), (a2, .inl (cI, N, .inl u.2.2.1)), (a3, .inl (cI, N, .inl u.2.2.2.1)), (io, .inr (2, [.int u.2.2.2.2.1, .int u.2.2.2.2.2.1, .int u.2.2.2.2.2.2.1, .int u.2.2.2.2.2.2.2]))]) 0 0 := by
  refine zk_Mv.of (cc := cX3_dropBelow) (maxL := 5) RX3 (by decide) rfl (Nat.le_of_ble_eq_true rfl) rfl ?_
  intro p e s m below meth c A Q H locs ls X hE hA hin hP hD hS hret hl
  obtain ⟨hx, hb, hml, hown, hts⟩ := id X
  have hl : lv_has ls 5 [(0, .ref ro), (1, .int v), (2, .ref io)] := hl
  refine lv_iconst (v := 0) hx hb dX3_dropBelow_0 (by decide) ?_
  refine lv_istore_n (lv' := [(3, .int 0), (0, .ref ro), (1, .int v), (2, .ref io)]) hx hb dX3_dropBelow_1 rfl hl (by decide) rfl (fun ls hl => ?_)
  refine lv_iconst (v := 0) hx hb dX3_dropBelow_2 (by decide) ?_
  refine lv_istore (lv' := [(4, .int 0), (3, .int 0), (0, .ref ro), (1, .int v), (2, .ref io)]) hx hb dX3_dropBelow_3 hl (by decide) rfl (fun ls hl => ?_)
  have L_5 : ∀ (n : Nat) (i : Nat) (g0 : Nat → Int32) (g1 : Nat → Int32) (g2 : Nat → Int32) (g3 : Nat → Int32) (s0 : Int32) (s1 : Int32) (s2 : Int32) (s3 : Int32) (H : Heap) (locs : List Loc) (ls : Array Slot), (i ≤ k) → (zdb (zab v f0 f1) f0 g0 i) → (zdb (zab v f0 f1) f1 g1 i) → (zdb (zab v f0 f1) f2 g2 i) → (zdb (zab v f0 f1) f3 g3 i) → k - i < n → va_P D vwCl [(ro, .inr (3, [.int (nI N), .ref a0, .ref a1, .ref a2, .ref a3, .int (nI k)])), (a0, .inl (cI, N, .inl g0)), (a1, .inl (cI, N, .inl g1)), (a2, .inl (cI, N, .inl g2)), (a3, .inl (cI, N, .inl g3)), (io, .inr (2, [.int s0, .int s1, .int s2, .int s3]))] H → va_D A [(ro, .inr (3, [.int (nI N), .ref a0, .ref a1, .ref a2, .ref a3, .int (nI k)])), (a0, .inl (cI, N, .inl g0)), (a1, .inl (cI, N, .inl g1)), (a2, .inl (cI, N, .inl g2)), (a3, .inl (cI, N, .inl g3)), (io, .inr (2, [.int s0, .int s1, .int s2, .int s3]))] → va_S A s.heap H locs → lv_has ls 5 [(0, .ref ro), (1, .int v), (2, .ref io), (3, .int (nI (zc (zab v f0 f1) i))), (4, .int (nI i))] → W p l e ({ frames := 2, cells := 0, slots := 0, locals := 46 } : Room) s m ([.ref ro, .int v, .ref io] : List Value).toArray below meth c H locs 0 0 Q (F0 m 5 ls []) := by
    intro n
    induction n with
    | zero =>
      intro i g0 g1 g2 g3 s0 s1 s2 s3 H locs ls hi d0 d1 d2 d3 hlt hP hD hS hl
      exact absurd hlt (Nat.not_lt_zero _)
    | succ n ih_5 =>
      intro i g0 g1 g2 g3 s0 s1 s2 s3 H locs ls hi d0 d1 d2 d3 hlt hP hD hS hl
      refine lv_iload hx hb dX3_dropBelow_5 (lv_at hl 4 rfl) ?_
      refine lv_aload_n hx hb dX3_dropBelow_7 rfl (lv_at hl 0 rfl) ?_
      refine zk_get X hE sX3_dropBelow_8 hP 0 rfl rfl ?_
      refine lv_icmp_ge (tgt := 46) hx hb dX3_dropBelow_11 (by decide) (fun c_11 => ?_) (fun c_11 => ?_)
      · have e_i : k = i := by have := zn_le c_11 (by omega) (by omega); omega
        subst e_i
        refine lv_aload_n hx hb dX3_dropBelow_46 rfl (lv_at hl 0 rfl) ?_
        refine lv_iload_n hx hb dX3_dropBelow_47 rfl (lv_at hl 3 rfl) ?_
        refine zk_put (ws' := [(ro, .inr (3, [.int (nI N), .ref a0, .ref a1, .ref a2, .ref a3, .int (nI (zc (zab v f0 f1) k))])), (a0, .inl (cI, N, .inl g0)), (a1, .inl (cI, N, .inl g1)), (a2, .inl (cI, N, .inl g2)), (a3, .inl (cI, N, .inl g3)), (io, .inr (2, [.int s0, .int s1, .int s2, .int s3]))]) X hE sX3_dropBelow_48 hP hD hS 0 rfl (Nat.le_of_ble_eq_true rfl) rfl (fun H locs hP hD hS => ?_)
        have hq := hret  (g0, g1, g2, g3, s0, s1, s2, s3) H locs 51 ls
        dsimp only at hq
        exact hq (⟨d0, d1, d2, d3⟩) hP hD hS dX3_dropBelow_51
      · have hik : i < k := zn_nle c_11 (by omega)
        refine lv_aload_n hx hb dX3_dropBelow_14 rfl (lv_at hl 0 rfl) ?_
        refine lv_iload hx hb dX3_dropBelow_15 (lv_at hl 4 rfl) ?_
        refine lv_aload_n hx hb dX3_dropBelow_17 rfl (lv_at hl 2 rfl) ?_
        refine zk_cVv (rest := []) (wr := []) X hE hA (c_X3_load l D cI cZ ts ro a0 a1 a2 a3 N k i io g0 g1 g2 g3 s0 s1 s2 s3 (by first | assumption | omega) (by first | assumption | omega) (by first | assumption | omega)) (cwV 2 hts gX3_dropBelow_X3_load rfl rfl rfl hdX3_load ⟨Nat.le_of_ble_eq_true rfl, Nat.le_of_ble_eq_true rfl⟩) dX3_dropBelow_18 hP hD hS [0, 1, 2, 3, 4, 5] [] ⟨rfl, rfl, rfl, rfl, rfl, rfl, trivial⟩ trivial (by decide +kernel) (by decide +kernel) (by decide +kernel) 3 rfl rfl rfl hl rfl (Nat.le_of_ble_eq_true rfl) ⟨Nat.le_of_ble_eq_true rfl, Nat.le_of_ble_eq_true rfl⟩ (fun _ H locs hw_18 hP hD hS => ?_)
        have hP : va_P D vwCl [(ro, .inr (3, [.int (nI N), .ref a0, .ref a1, .ref a2, .ref a3, .int (nI k)])), (a0, .inl (cI, N, .inl g0)), (a1, .inl (cI, N, .inl g1)), (a2, .inl (cI, N, .inl g2)), (a3, .inl (cI, N, .inl g3)), (io, .inr (2, [.int (g0 i), .int (g1 i), .int (g2 i), .int (g3 i)]))] H := hP
        have hD : va_D A [(ro, .inr (3, [.int (nI N), .ref a0, .ref a1, .ref a2, .ref a3, .int (nI k)])), (a0, .inl (cI, N, .inl g0)), (a1, .inl (cI, N, .inl g1)), (a2, .inl (cI, N, .inl g2)), (a3, .inl (cI, N, .inl g3)), (io, .inr (2, [.int (g0 i), .int (g1 i), .int (g2 i), .int (g3 i)]))] := hD
        refine lv_aload_n hx hb dX3_dropBelow_21 rfl (lv_at hl 2 rfl) ?_
        refine lv_iconst (v := 4) hx hb dX3_dropBelow_22 (by decide) ?_
        refine zk_cVi (rest := []) (wr := [(ro, .inr (3, [.int (nI N), .ref a0, .ref a1, .ref a2, .ref a3, .int (nI k)])), (a0, .inl (cI, N, .inl g0)), (a1, .inl (cI, N, .inl g1)), (a2, .inl (cI, N, .inl g2)), (a3, .inl (cI, N, .inl g3))]) X hE hA (c_X2_tell l D cI cZ ts io (g0 i) (g1 i) (g2 i) (g3 i) 4) (cwV 1 hts gX3_dropBelow_X2_tell rfl rfl rfl hdX2_tell ⟨Nat.le_of_ble_eq_true rfl, Nat.le_of_ble_eq_true rfl⟩) dX3_dropBelow_23 hP hD hS [5] [0, 1, 2, 3, 4] ⟨rfl, trivial⟩ ⟨rfl, rfl, rfl, rfl, rfl, trivial⟩ (by decide +kernel) (by decide +kernel) (by decide +kernel) 2 rfl rfl rfl hl rfl (Nat.le_of_ble_eq_true rfl) ⟨Nat.le_of_ble_eq_true rfl, Nat.le_of_ble_eq_true rfl⟩ (fun r_23 _ H locs hw_23 hP hD hS => ?_)
        have hP : va_P D vwCl [(ro, .inr (3, [.int (nI N), .ref a0, .ref a1, .ref a2, .ref a3, .int (nI k)])), (a0, .inl (cI, N, .inl g0)), (a1, .inl (cI, N, .inl g1)), (a2, .inl (cI, N, .inl g2)), (a3, .inl (cI, N, .inl g3)), (io, .inr (2, [.int (g0 i), .int (g1 i), .int (g2 i), .int (g3 i)]))] H := hP
        have hD : va_D A [(ro, .inr (3, [.int (nI N), .ref a0, .ref a1, .ref a2, .ref a3, .int (nI k)])), (a0, .inl (cI, N, .inl g0)), (a1, .inl (cI, N, .inl g1)), (a2, .inl (cI, N, .inl g2)), (a3, .inl (cI, N, .inl g3)), (io, .inr (2, [.int (g0 i), .int (g1 i), .int (g2 i), .int (g3 i)]))] := hD
        obtain rfl : r_23 = (zt 4 (g0 i) (g1 i) (g2 i) (g3 i)) := hw_23
        refine lv_iload_n hx hb dX3_dropBelow_26 rfl (lv_at hl 1 rfl) ?_
        refine lv_icmp_lt (tgt := 40) hx hb dX3_dropBelow_27 (by decide) (fun c_27 => ?_) (fun c_27 => ?_)
        · have hp : ¬ zab v f0 f1 i = true := by rw [zt4, d0.2 i (Nat.le_refl _), d1.2 i (Nat.le_refl _)] at c_27; unfold zab; simpa using zi_nle c_27
          rw [← zc_f hp] at hl
          refine lv_iinc (v := nI (i + 1)) (lv' := [(4, .int (nI (i + 1))), (0, .ref ro), (1, .int v), (2, .ref io), (3, .int (nI (zc (zab v f0 f1) (i + 1))))]) hx hb dX3_dropBelow_40 hl (k := 4) rfl (zk_inc i) (by decide) rfl (fun ls hl => ?_)
          refine lv_goto (tgt := 5) hx hb dX3_dropBelow_43 (by decide) ?_
          exact ih_5 (i + 1) g0 g1 g2 g3 (g0 i) (g1 i) (g2 i) (g3 i) H locs ls (by omega) (by first | exact zdb_t d0 hp | exact zdb_f d0 hp) (by first | exact zdb_t d1 hp | exact zdb_f d1 hp) (by first | exact zdb_t d2 hp | exact zdb_f d2 hp) (by first | exact zdb_t d3 hp | exact zdb_f d3 hp) (by omega) hP hD hS (lv_sub hl [1, 2, 3, 4, 0] rfl)
        · have hp : zab v f0 f1 i = true := by rw [zt4, d0.2 i (Nat.le_refl _), d1.2 i (Nat.le_refl _)] at c_27; unfold zab; simpa using zi_le c_27
          have hzc := zc_le (zab v f0 f1) i
          refine lv_aload_n hx hb dX3_dropBelow_30 rfl (lv_at hl 0 rfl) ?_
          refine lv_iload hx hb dX3_dropBelow_31 (lv_at hl 4 rfl) ?_
          refine lv_iload_n hx hb dX3_dropBelow_33 rfl (lv_at hl 3 rfl) ?_
          refine zk_cVv (rest := []) (wr := [(io, .inr (2, [.int (g0 i), .int (g1 i), .int (g2 i), .int (g3 i)]))]) X hE hA (c_X3_move l D cI cZ ts ro a0 a1 a2 a3 N k i (zc (zab v f0 f1) i) g0 g1 g2 g3 (by first | assumption | omega) (by omega) (by first | assumption | omega) (by first | assumption | omega)) (cwV 2 hts gX3_dropBelow_X3_move rfl rfl rfl hdX3_move ⟨Nat.le_of_ble_eq_true rfl, Nat.le_of_ble_eq_true rfl⟩) dX3_dropBelow_34 hP hD hS [0, 1, 2, 3, 4] [5] ⟨rfl, rfl, rfl, rfl, rfl, trivial⟩ ⟨rfl, trivial⟩ (by decide +kernel) (by decide +kernel) (by decide +kernel) 3 rfl rfl rfl hl rfl (Nat.le_of_ble_eq_true rfl) ⟨Nat.le_of_ble_eq_true rfl, Nat.le_of_ble_eq_true rfl⟩ (fun _ H locs hw_34 hP hD hS => ?_)
          have hP : va_P D vwCl [(io, .inr (2, [.int (g0 i), .int (g1 i), .int (g2 i), .int (g3 i)])), (ro, .inr (3, [.int (nI N), .ref a0, .ref a1, .ref a2, .ref a3, .int (nI k)])), (a0, .inl (cI, N, .inl (upd g0 (zc (zab v f0 f1) i) (g0 i)))), (a1, .inl (cI, N, .inl (upd g1 (zc (zab v f0 f1) i) (g1 i)))), (a2, .inl (cI, N, .inl (upd g2 (zc (zab v f0 f1) i) (g2 i)))), (a3, .inl (cI, N, .inl (upd g3 (zc (zab v f0 f1) i) (g3 i))))] H := hP
          have hD : va_D A [(io, .inr (2, [.int (g0 i), .int (g1 i), .int (g2 i), .int (g3 i)])), (ro, .inr (3, [.int (nI N), .ref a0, .ref a1, .ref a2, .ref a3, .int (nI k)])), (a0, .inl (cI, N, .inl (upd g0 (zc (zab v f0 f1) i) (g0 i)))), (a1, .inl (cI, N, .inl (upd g1 (zc (zab v f0 f1) i) (g1 i)))), (a2, .inl (cI, N, .inl (upd g2 (zc (zab v f0 f1) i) (g2 i)))), (a3, .inl (cI, N, .inl (upd g3 (zc (zab v f0 f1) i) (g3 i))))] := hD
          refine lv_iinc (v := nI (zc (zab v f0 f1) (i + 1))) (lv' := [(3, .int (nI (zc (zab v f0 f1) (i + 1)))), (0, .ref ro), (1, .int v), (2, .ref io), (4, .int (nI i))]) hx hb dX3_dropBelow_37 hl (k := 3) rfl (by rw [zc_t hp]; exact zk_inc _) (by decide) rfl (fun ls hl => ?_)
          refine lv_iinc (v := nI (i + 1)) (lv' := [(4, .int (nI (i + 1))), (3, .int (nI (zc (zab v f0 f1) (i + 1)))), (0, .ref ro), (1, .int v), (2, .ref io)]) hx hb dX3_dropBelow_40 hl (k := 4) rfl (zk_inc i) (by decide) rfl (fun ls hl => ?_)
          refine lv_goto (tgt := 5) hx hb dX3_dropBelow_43 (by decide) ?_
          exact ih_5 (i + 1) (upd g0 (zc (zab v f0 f1) i) (g0 i)) (upd g1 (zc (zab v f0 f1) i) (g1 i)) (upd g2 (zc (zab v f0 f1) i) (g2 i)) (upd g3 (zc (zab v f0 f1) i) (g3 i)) (g0 i) (g1 i) (g2 i) (g3 i) H locs ls (by omega) (by first | exact zdb_t d0 hp | exact zdb_f d0 hp) (by first | exact zdb_t d1 hp | exact zdb_f d1 hp) (by first | exact zdb_t d2 hp | exact zdb_f d2 hp) (by first | exact zdb_t d3 hp | exact zdb_f d3 hp) (by omega) (zk_subP hP [1, 2, 3, 4, 5, 0] ⟨rfl, rfl, rfl, rfl, rfl, rfl, trivial⟩) (zk_subD hD [1, 2, 3, 4, 5, 0] (by decide +kernel) ⟨rfl, rfl, rfl, rfl, rfl, rfl, trivial⟩) hS (lv_sub hl [2, 3, 4, 1, 0] rfl)
  exact L_5 _ 0 f0 f1 f2 f3 x0 x1 x2 x3 H locs ls (Nat.zero_le _) (zdb_0 _ f0) (zdb_0 _ f1) (zdb_0 _ f2) (zdb_0 _ f3) (Nat.lt_succ_self _) hP hD hS (lv_sub hl [2, 3, 4, 1, 0] rfl)
set_option maxHeartbeats 4000000 in
set_option maxRecDepth 100000 in
theorem c_X3_find (l : Launch) (D : va_G) (cI cZ : ClassId) (ts : Nat → Nat) (ro : Nat) (a0 : Nat) (a1 : Nat) (a2 : Nat) (a3 : Nat) (N : Nat) (k : Nat) (io : Nat) (f0 : Nat → Int32) (f1 : Nat → Int32) (f2 : Nat → Int32) (f3 : Nat → Int32) (x0 : Int32) (x1 : Int32) (x2 : Int32) (x3 : Int32) (hk : k ≤ N) (hN : N < 2 ^ 31) : zk_Mi l yX3_find wsX3_find ({ frames := 0, cells := 0, slots := 0, locals := 0 } : Room) D cI cZ ts [.ref ro, .ref io] [(ro, .inr (3, [.int (nI N), .ref a0, .ref a1, .ref a2, .ref a3, .int (nI k)])), (a0, .inl (cI, N, .inl f0)), (a1, .inl (cI, N, .inl f1)), (a2, .inl (cI, N, .inl f2)), (a3, .inl (cI, N, .inl f3)), (io, .inr (2, [.int x0, .int x1, .int x2, .int x3]))] (fun (r : Int32) (_ : Unit) => ((∃ j9, j9 < k ∧ r = nI j9 ∧ zeq f0 f1 f2 f3 j9 x0 x1 x2 x3 ∧ ∀ d9, d9 < j9 → ¬ zeq f0 f1 f2 f3 d9 x0 x1 x2 x3) ∨ (r = (-1) ∧ ∀ d9, d9 < k → ¬ zeq f0 f1 f2 f3 d9 x0 x1 x2 x3))) (fun (_ : Unit) => [(ro, .inr (3, [.int (nI N), .ref a0, .ref a1, .ref a2, .ref a3, .int (nI k)])), (a0, .inl (cI, N, .inl f0)), (a1, .inl (cI, N, .inl f1)), (a2, .inl (cI, N, .inl f2)), (a3, .inl (cI, N, .inl f3)), (io, .inr (2, [.int x0, .int x1, .int x2, .int x3]))]) 0 0 := by
  refine zk_Mi.of (cc := cX3_find) (maxL := 3) RX3 (by decide) rfl (Nat.le_of_ble_eq_true rfl) rfl ?_
  intro p e s m below meth c A Q H locs ls X hE hA hP hD hS hret hl
  obtain ⟨hx, hb, hml, hown, hts⟩ := id X
  have hl : lv_has ls 3 [(0, .ref ro), (1, .ref io)] := hl
  refine lv_iconst (v := 0) hx hb dX3_find_0 (by decide) ?_
  refine lv_istore_n (lv' := [(2, .int 0), (0, .ref ro), (1, .ref io)]) hx hb dX3_find_1 rfl hl (by decide) rfl (fun ls hl => ?_)
  have L_2 : ∀ (n : Nat) (i : Nat) (H : Heap) (locs : List Loc) (ls : Array Slot), (i ≤ k) → (∀ j, j < i → ¬ zeq f0 f1 f2 f3 j x0 x1 x2 x3) → k - i < n → va_P D vwCl [(ro, .inr (3, [.int (nI N), .ref a0, .ref a1, .ref a2, .ref a3, .int (nI k)])), (a0, .inl (cI, N, .inl f0)), (a1, .inl (cI, N, .inl f1)), (a2, .inl (cI, N, .inl f2)), (a3, .inl (cI, N, .inl f3)), (io, .inr (2, [.int x0, .int x1, .int x2, .int x3]))] H → va_D A [(ro, .inr (3, [.int (nI N), .ref a0, .ref a1, .ref a2, .ref a3, .int (nI k)])), (a0, .inl (cI, N, .inl f0)), (a1, .inl (cI, N, .inl f1)), (a2, .inl (cI, N, .inl f2)), (a3, .inl (cI, N, .inl f3)), (io, .inr (2, [.int x0, .int x1, .int x2, .int x3]))] → va_S A s.heap H locs → lv_has ls 3 [(0, .ref ro), (1, .ref io), (2, .int (nI i))] → W p l e ({ frames := 0, cells := 0, slots := 0, locals := 0 } : Room) s m ([.ref ro, .ref io] : List Value).toArray below meth c H locs 0 0 Q (F0 m 2 ls []) := by
    intro n
    induction n with
    | zero =>
      intro i H locs ls hi hz hlt hP hD hS hl
      exact absurd hlt (Nat.not_lt_zero _)
    | succ n ih_2 =>
      intro i H locs ls hi hz hlt hP hD hS hl
      refine lv_iload_n hx hb dX3_find_2 rfl (lv_at hl 2 rfl) ?_
      refine lv_aload_n hx hb dX3_find_3 rfl (lv_at hl 0 rfl) ?_
      refine zk_get X hE sX3_find_4 hP 0 rfl rfl ?_
      refine lv_icmp_ge (tgt := 78) hx hb dX3_find_7 (by decide) (fun c_7 => ?_) (fun c_7 => ?_)
      · have e_i : k = i := by have := zn_le c_7 (by omega) (by omega); omega
        subst e_i
        refine lv_iconst (v := (-1)) hx hb dX3_find_78 (by decide) ?_
        exact hret (-1) () H locs 79 ls (Or.inr ⟨rfl, hz⟩) hP hD hS dX3_find_79
      · have hik : i < k := zn_nle c_7 (by omega)
        refine lv_iload_n hx hb dX3_find_10 rfl (lv_at hl 2 rfl) ?_
        refine lv_aload_n hx hb dX3_find_11 rfl (lv_at hl 0 rfl) ?_
        refine zk_get X hE sX3_find_12 hP 0 rfl rfl ?_
        refine lv_icmp_ge (tgt := 78) hx hb dX3_find_15 (by decide) (fun c_15 => absurd c_15 (nI_ge (show i < N by omega) hN)) (fun c_15 => ?_)
        refine lv_aload_n hx hb dX3_find_18 rfl (lv_at hl 0 rfl) ?_
        refine zk_get X hE sX3_find_19 hP 0 rfl rfl ?_
        refine lv_iload_n hx hb dX3_find_22 rfl (lv_at hl 2 rfl) ?_
        refine zk_ald hx hb hE hP 2 i rfl rfl (by omega) hN dX3_find_23 ?_
        refine lv_aload_n hx hb dX3_find_24 rfl (lv_at hl 1 rfl) ?_
        refine zk_get X hE sX3_find_25 hP 5 rfl rfl ?_
        refine lv_icmp_ne (tgt := 72) hx hb dX3_find_28 (by decide) (fun c_28 => ?_) (fun c_28 => ?_)
        · refine lv_iinc (v := nI (i + 1)) (lv' := [(2, .int (nI (i + 1))), (0, .ref ro), (1, .ref io)]) hx hb dX3_find_72 hl (k := 2) rfl (zk_inc i) (by decide) rfl (fun ls hl => ?_)
          refine lv_goto (tgt := 2) hx hb dX3_find_75 (by decide) ?_
          exact ih_2 (i + 1) H locs ls (by omega) (lt_s hz (fun q => by first | exact c_28 q.2.1 | exact c_41 q.2.2.2 | exact c_54 q.2.2.1 | exact c_67 q.1)) (by omega) hP hD hS (lv_sub hl [1, 2, 0] rfl)
        · refine lv_aload_n hx hb dX3_find_31 rfl (lv_at hl 0 rfl) ?_
          refine zk_get X hE sX3_find_32 hP 0 rfl rfl ?_
          refine lv_iload_n hx hb dX3_find_35 rfl (lv_at hl 2 rfl) ?_
          refine zk_ald hx hb hE hP 4 i rfl rfl (by omega) hN dX3_find_36 ?_
          refine lv_aload_n hx hb dX3_find_37 rfl (lv_at hl 1 rfl) ?_
          refine zk_get X hE sX3_find_38 hP 5 rfl rfl ?_
          refine lv_icmp_ne (tgt := 72) hx hb dX3_find_41 (by decide) (fun c_41 => ?_) (fun c_41 => ?_)
          · refine lv_iinc (v := nI (i + 1)) (lv' := [(2, .int (nI (i + 1))), (0, .ref ro), (1, .ref io)]) hx hb dX3_find_72 hl (k := 2) rfl (zk_inc i) (by decide) rfl (fun ls hl => ?_)
            refine lv_goto (tgt := 2) hx hb dX3_find_75 (by decide) ?_
            exact ih_2 (i + 1) H locs ls (by omega) (lt_s hz (fun q => by first | exact c_28 q.2.1 | exact c_41 q.2.2.2 | exact c_54 q.2.2.1 | exact c_67 q.1)) (by omega) hP hD hS (lv_sub hl [1, 2, 0] rfl)
          · refine lv_aload_n hx hb dX3_find_44 rfl (lv_at hl 0 rfl) ?_
            refine zk_get X hE sX3_find_45 hP 0 rfl rfl ?_
            refine lv_iload_n hx hb dX3_find_48 rfl (lv_at hl 2 rfl) ?_
            refine zk_ald hx hb hE hP 3 i rfl rfl (by omega) hN dX3_find_49 ?_
            refine lv_aload_n hx hb dX3_find_50 rfl (lv_at hl 1 rfl) ?_
            refine zk_get X hE sX3_find_51 hP 5 rfl rfl ?_
            refine lv_icmp_ne (tgt := 72) hx hb dX3_find_54 (by decide) (fun c_54 => ?_) (fun c_54 => ?_)
            · refine lv_iinc (v := nI (i + 1)) (lv' := [(2, .int (nI (i + 1))), (0, .ref ro), (1, .ref io)]) hx hb dX3_find_72 hl (k := 2) rfl (zk_inc i) (by decide) rfl (fun ls hl => ?_)
              refine lv_goto (tgt := 2) hx hb dX3_find_75 (by decide) ?_
              exact ih_2 (i + 1) H locs ls (by omega) (lt_s hz (fun q => by first | exact c_28 q.2.1 | exact c_41 q.2.2.2 | exact c_54 q.2.2.1 | exact c_67 q.1)) (by omega) hP hD hS (lv_sub hl [1, 2, 0] rfl)
            · refine lv_aload_n hx hb dX3_find_57 rfl (lv_at hl 0 rfl) ?_
              refine zk_get X hE sX3_find_58 hP 0 rfl rfl ?_
              refine lv_iload_n hx hb dX3_find_61 rfl (lv_at hl 2 rfl) ?_
              refine zk_ald hx hb hE hP 1 i rfl rfl (by omega) hN dX3_find_62 ?_
              refine lv_aload_n hx hb dX3_find_63 rfl (lv_at hl 1 rfl) ?_
              refine zk_get X hE sX3_find_64 hP 5 rfl rfl ?_
              refine lv_icmp_ne (tgt := 72) hx hb dX3_find_67 (by decide) (fun c_67 => ?_) (fun c_67 => ?_)
              · refine lv_iinc (v := nI (i + 1)) (lv' := [(2, .int (nI (i + 1))), (0, .ref ro), (1, .ref io)]) hx hb dX3_find_72 hl (k := 2) rfl (zk_inc i) (by decide) rfl (fun ls hl => ?_)
                refine lv_goto (tgt := 2) hx hb dX3_find_75 (by decide) ?_
                exact ih_2 (i + 1) H locs ls (by omega) (lt_s hz (fun q => by first | exact c_28 q.2.1 | exact c_41 q.2.2.2 | exact c_54 q.2.2.1 | exact c_67 q.1)) (by omega) hP hD hS (lv_sub hl [1, 2, 0] rfl)
              · refine lv_iload_n hx hb dX3_find_70 rfl (lv_at hl 2 rfl) ?_
                exact hret (nI i) () H locs 71 ls (Or.inl ⟨i, hik, rfl, ⟨c_67, c_28, c_54, c_41⟩, hz⟩) hP hD hS dX3_find_71
  exact L_2 _ 0 H locs ls (Nat.zero_le _) (fun j h => absurd h (Nat.not_lt_zero _)) (Nat.lt_succ_self _) hP hD hS (lv_sub hl [1, 2, 0] rfl)
