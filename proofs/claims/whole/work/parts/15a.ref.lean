set_option maxHeartbeats 4000000 in
set_option maxRecDepth 100000 in
theorem c_X7_in (l : Launch) (D : va_G) (cI cZ : ClassId) (ts : Nat → Nat) (v : Int32) (lo : Int32) (hi : Int32)  : zk_Mi l yX7_in wsX7_in ({ frames := 0, cells := 0, slots := 0, locals := 0 } : Room) D cI cZ ts [.int v, .int lo, .int hi] [] (fun (r : Int32) (_ : Unit) => r = (if lo ≤ v ∧ v ≤ hi then 1 else 0)) (fun (_ : Unit) => []) 0 0 := by
  refine zk_Mi.ofZ (cc := cX7_in) (maxL := 3) RX7 (by decide) rfl (Nat.le_of_ble_eq_true rfl) rfl ?_
  intro p e s m below meth c A Q H locs ls X hE hA hP hD hS hret hl
  obtain ⟨hx, hb, hml, hown, hts⟩ := id X
  have hl : lv_has ls 3 [(0, .int v), (1, .int lo), (2, .int hi)] := hl
  refine lv_iload_n hx hb dX7_in_0 rfl (lv_at hl 0 rfl) ?_
  refine lv_iload_n hx hb dX7_in_1 rfl (lv_at hl 1 rfl) ?_
  refine lv_icmp_lt (tgt := 14) hx hb dX7_in_2 (by decide) (fun c_2 => ?_) (fun c_2 => ?_)
  · refine lv_iconst (v := 0) hx hb dX7_in_14 (by decide) ?_
    exact hret 0 () H locs 15 ls (by first | rfl | decide) (by first | exact zin_lo c_2 | exact zin_hi c_7 | exact zin_ok c_2 c_7) hP hD hS dX7_in_15
  · refine lv_iload_n hx hb dX7_in_5 rfl (lv_at hl 0 rfl) ?_
    refine lv_iload_n hx hb dX7_in_6 rfl (lv_at hl 2 rfl) ?_
    refine lv_icmp_gt (tgt := 14) hx hb dX7_in_7 (by decide) (fun c_7 => ?_) (fun c_7 => ?_)
    · refine lv_iconst (v := 0) hx hb dX7_in_14 (by decide) ?_
      exact hret 0 () H locs 15 ls (by first | rfl | decide) (by first | exact zin_lo c_2 | exact zin_hi c_7 | exact zin_ok c_2 c_7) hP hD hS dX7_in_15
    · refine lv_iconst (v := 1) hx hb dX7_in_10 (by decide) ?_
      refine lv_goto (tgt := 15) hx hb dX7_in_11 (by decide) ?_
      exact hret 1 () H locs 15 ls (by first | rfl | decide) (by first | exact zin_lo c_2 | exact zin_hi c_7 | exact zin_ok c_2 c_7) hP hD hS dX7_in_15
set_option maxHeartbeats 4000000 in
set_option maxRecDepth 100000 in
theorem c_X7_strengthOf (l : Launch) (D : va_G) (cI cZ : ClassId) (ts : Nat → Nat) (a : Int32) (b : Int32) (ha : ¬ a < 0) : zk_Mi l yX7_strengthOf wsX7_strengthOf ({ frames := 0, cells := 0, slots := 0, locals := 0 } : Room) D cI cZ ts [.int a, .int b] [] (fun (r : Int32) (_ : Unit) => r = (zq b a)) (fun (_ : Unit) => []) 0 0 := by
  refine zk_Mi.of (cc := cX7_strengthOf) (maxL := 2) RX7 (by decide) rfl (Nat.le_of_ble_eq_true rfl) rfl ?_
  intro p e s m below meth c A Q H locs ls X hE hA hP hD hS hret hl
  obtain ⟨hx, hb, hml, hown, hts⟩ := id X
  have hl : lv_has ls 2 [(0, .int a), (1, .int b)] := hl
  refine lv_iload_n hx hb dX7_strengthOf_0 rfl (lv_at hl 0 rfl) ?_
  refine lv_if_ne (tgt := 8) hx hb dX7_strengthOf_1 (by decide) (fun c_1 => ?_) (fun c_1 => ?_)
  · refine lv_iload_n hx hb dX7_strengthOf_8 rfl (lv_at hl 1 rfl) ?_
    refine lv_iload_n hx hb dX7_strengthOf_9 rfl (lv_at hl 0 rfl) ?_
    refine lv_idiv hx hb dX7_strengthOf_10 c_1 ?_
    exact hret (b / a) () H locs 11 ls (by first | exact zsr_q ha c_1 | exact zq_ne ha c_1) hP hD hS dX7_strengthOf_11
  · refine lv_iconst (v := 0) hx hb dX7_strengthOf_4 (by decide) ?_
    refine lv_goto (tgt := 11) hx hb dX7_strengthOf_5 (by decide) ?_
    exact hret 0 () H locs 11 ls (by first | exact zsr_q ha c_1 | exact zq_ne ha c_1) hP hD hS dX7_strengthOf_11
set_option maxHeartbeats 4000000 in
set_option maxRecDepth 100000 in
theorem c_X7_ofLiquid (l : Launch) (D : va_G) (cI cZ : ClassId) (ts : Nat → Nat) (w : Int32) (x0 : Int32) (x1 : Int32) (x2 : Int32) (x3 : Int32) (ha : ¬ x0 < 0) : zk_Mi l yX7_ofLiquid wsX7_ofLiquid ({ frames := 1, cells := 0, slots := 0, locals := 21 } : Room) D cI cZ ts [.int w, .int x0, .int x1, .int x2, .int x3] [] (fun (r : Int32) (_ : Unit) => r = (zt w x0 x1 x2 x3)) (fun (_ : Unit) => []) 0 0 := by
  refine zk_Mi.of (cc := cX7_ofLiquid) (maxL := 5) RX7 (by decide) rfl (Nat.le_of_ble_eq_true rfl) rfl ?_
  intro p e s m below meth c A Q H locs ls X hE hA hP hD hS hret hl
  obtain ⟨hx, hb, hml, hown, hts⟩ := id X
  have hl : lv_has ls 5 [(0, .int w), (1, .int x0), (2, .int x1), (3, .int x2), (4, .int x3)] := hl
  refine lv_iload_n hx hb dX7_ofLiquid_0 rfl (lv_at hl 0 rfl) ?_
  by_cases h_1_0 : w = 0
  · refine zk_top h_1_0 ?_
    refine lv_tableIn (tgt := 36) hx hb dX7_ofLiquid_1 (by decide) (by decide) rfl (by decide) ?_
    refine lv_iload_n hx hb dX7_ofLiquid_36 rfl (lv_at hl 1 rfl) ?_
    exact hret x0 () H locs 37 ls (by simp [zt, h_1_0]) hP hD hS dX7_ofLiquid_37
  by_cases h_1_1 : w = 1
  · refine zk_top h_1_1 ?_
    refine lv_tableIn (tgt := 38) hx hb dX7_ofLiquid_1 (by decide) (by decide) rfl (by decide) ?_
    refine lv_iload_n hx hb dX7_ofLiquid_38 rfl (lv_at hl 2 rfl) ?_
    exact hret x1 () H locs 39 ls (by simp [zt, h_1_0, h_1_1]) hP hD hS dX7_ofLiquid_39
  by_cases h_1_2 : w = 2
  · refine zk_top h_1_2 ?_
    refine lv_tableIn (tgt := 40) hx hb dX7_ofLiquid_1 (by decide) (by decide) rfl (by decide) ?_
    refine lv_iload_n hx hb dX7_ofLiquid_40 rfl (lv_at hl 3 rfl) ?_
    exact hret x2 () H locs 41 ls (by simp [zt, h_1_0, h_1_1, h_1_2]) hP hD hS dX7_ofLiquid_41
  by_cases h_1_3 : w = 3
  · refine zk_top h_1_3 ?_
    refine lv_tableIn (tgt := 42) hx hb dX7_ofLiquid_1 (by decide) (by decide) rfl (by decide) ?_
    refine lv_iload hx hb dX7_ofLiquid_42 (lv_at hl 4 rfl) ?_
    exact hret x3 () H locs 44 ls (by simp [zt, h_1_0, h_1_1, h_1_2, h_1_3]) hP hD hS dX7_ofLiquid_44
  by_cases h_1_4 : w = 4
  · refine zk_top h_1_4 ?_
    refine lv_tableIn (tgt := 45) hx hb dX7_ofLiquid_1 (by decide) (by decide) rfl (by decide) ?_
    refine lv_iload_n hx hb dX7_ofLiquid_45 rfl (lv_at hl 1 rfl) ?_
    refine lv_iload_n hx hb dX7_ofLiquid_46 rfl (lv_at hl 2 rfl) ?_
    refine zk_cSi (rest := []) X hE hA (c_X7_strengthOf l D cI cZ ts x0 x1 (by first | assumption | omega)) (cwS 2 hts gX7_ofLiquid_X7_strengthOf rfl rfl rfl hdX7_strengthOf ⟨Nat.le_of_ble_eq_true rfl, Nat.le_of_ble_eq_true rfl⟩) dX7_ofLiquid_47 hP hD hS rfl hl rfl (Nat.le_of_ble_eq_true rfl) ⟨Nat.le_of_ble_eq_true rfl, Nat.le_of_ble_eq_true rfl⟩ (fun r_47 _ H locs hw_47 hP hD hS => ?_)
    obtain rfl : r_47 = (zq x1 x0) := hw_47
    exact hret (zq x1 x0) () H locs 50 ls (by simp [zt, h_1_0, h_1_1, h_1_2, h_1_3, h_1_4]) hP hD hS dX7_ofLiquid_50
  refine lv_tableOut (tgt := 51) hx hb dX7_ofLiquid_1 (by have z0 := lv_neT (a := 0) h_1_0 (by decide); have z1 := lv_neT (a := 1) h_1_1 (by decide); have z2 := lv_neT (a := 2) h_1_2 (by decide); have z3 := lv_neT (a := 3) h_1_3 (by decide); have z4 := lv_neT (a := 4) h_1_4 (by decide); omega) (by decide) ?_
  refine lv_iload_n hx hb dX7_ofLiquid_51 rfl (lv_at hl 1 rfl) ?_
  refine lv_iload_n hx hb dX7_ofLiquid_52 rfl (lv_at hl 3 rfl) ?_
  refine lv_iload hx hb dX7_ofLiquid_53 (lv_at hl 4 rfl) ?_
  refine lv_iadd hx hb dX7_ofLiquid_55 ?_
  refine zk_cSi (rest := []) X hE hA (c_X7_strengthOf l D cI cZ ts x0 (x2 + x3) (by first | assumption | omega)) (cwS 2 hts gX7_ofLiquid_X7_strengthOf rfl rfl rfl hdX7_strengthOf ⟨Nat.le_of_ble_eq_true rfl, Nat.le_of_ble_eq_true rfl⟩) dX7_ofLiquid_56 hP hD hS rfl hl rfl (Nat.le_of_ble_eq_true rfl) ⟨Nat.le_of_ble_eq_true rfl, Nat.le_of_ble_eq_true rfl⟩ (fun r_56 _ H locs hw_56 hP hD hS => ?_)
  obtain rfl : r_56 = (zq (x2 + x3) x0) := hw_56
  exact hret (zq (x2 + x3) x0) () H locs 59 ls (by simp [zt, h_1_0, h_1_1, h_1_2, h_1_3, h_1_4]) hP hD hS dX7_ofLiquid_59
set_option maxHeartbeats 4000000 in
set_option maxRecDepth 100000 in
theorem c_X7_ofSum (l : Launch) (D : va_G) (cI cZ : ClassId) (ts : Nat → Nat) (mo : Nat) (st : Nat) (im : Nat) (iz : Nat) (go : Nat) (pt : Nat) (ch : Nat) (su : Nat) (kp : Nat) (hr : Nat) (li : Int32) (bf : Int32) (bc : Int32) (bs : Int32) (bt : Int32) (gd : Int32) (fs : Nat → Int32) (w : Int32) (ha : ¬ fs 0 < 0) : zk_Mi l yX7_ofSum wsX7_ofSum ({ frames := 2, cells := 0, slots := 0, locals := 45 } : Room) D cI cZ ts [.ref mo, .int w] [(mo, .inr (7, [.ref st, .ref im, .ref iz, .ref go, .int li, .ref pt, .ref ch, .ref su, .ref kp, .ref hr, .int bf, .int bc, .int bs, .int bt, .int gd])), (su, .inl (cI, 4, .inl fs))] (fun (r : Int32) (_ : Unit) => r = (zl4 w fs)) (fun (_ : Unit) => [(mo, .inr (7, [.ref st, .ref im, .ref iz, .ref go, .int li, .ref pt, .ref ch, .ref su, .ref kp, .ref hr, .int bf, .int bc, .int bs, .int bt, .int gd])), (su, .inl (cI, 4, .inl fs))]) 0 0 := by
  refine zk_Mi.of (cc := cX7_ofSum) (maxL := 2) RX7 (by decide) rfl (Nat.le_of_ble_eq_true rfl) rfl ?_
  intro p e s m below meth c A Q H locs ls X hE hA hP hD hS hret hl
  obtain ⟨hx, hb, hml, hown, hts⟩ := id X
  have hl : lv_has ls 2 [(0, .ref mo), (1, .int w)] := hl
  refine lv_iload_n hx hb dX7_ofSum_0 rfl (lv_at hl 1 rfl) ?_
  refine lv_aload_n hx hb dX7_ofSum_1 rfl (lv_at hl 0 rfl) ?_
  refine zk_get X hE sX7_ofSum_2 hP 0 rfl rfl ?_
  refine lv_iconst (v := 0) hx hb dX7_ofSum_5 (by decide) ?_
  refine zk_ald hx hb hE hP 1 0 rfl rfl (Nat.le_of_ble_eq_true rfl) (Nat.le_of_ble_eq_true rfl) dX7_ofSum_6 ?_
  refine lv_aload_n hx hb dX7_ofSum_7 rfl (lv_at hl 0 rfl) ?_
  refine zk_get X hE sX7_ofSum_8 hP 0 rfl rfl ?_
  refine lv_iconst (v := 1) hx hb dX7_ofSum_11 (by decide) ?_
  refine zk_ald hx hb hE hP 1 1 rfl rfl (Nat.le_of_ble_eq_true rfl) (Nat.le_of_ble_eq_true rfl) dX7_ofSum_12 ?_
  refine lv_aload_n hx hb dX7_ofSum_13 rfl (lv_at hl 0 rfl) ?_
  refine zk_get X hE sX7_ofSum_14 hP 0 rfl rfl ?_
  refine lv_iconst (v := 2) hx hb dX7_ofSum_17 (by decide) ?_
  refine zk_ald hx hb hE hP 1 2 rfl rfl (Nat.le_of_ble_eq_true rfl) (Nat.le_of_ble_eq_true rfl) dX7_ofSum_18 ?_
  refine lv_aload_n hx hb dX7_ofSum_19 rfl (lv_at hl 0 rfl) ?_
  refine zk_get X hE sX7_ofSum_20 hP 0 rfl rfl ?_
  refine lv_iconst (v := 3) hx hb dX7_ofSum_23 (by decide) ?_
  refine zk_ald hx hb hE hP 1 3 rfl rfl (Nat.le_of_ble_eq_true rfl) (Nat.le_of_ble_eq_true rfl) dX7_ofSum_24 ?_
  refine zk_cSi (rest := []) X hE hA (c_X7_ofLiquid l D cI cZ ts w (fs 0) (fs 1) (fs 2) (fs 3) (by first | assumption | omega)) (cwS 5 hts gX7_ofSum_X7_ofLiquid rfl rfl rfl hdX7_ofLiquid ⟨Nat.le_of_ble_eq_true rfl, Nat.le_of_ble_eq_true rfl⟩) dX7_ofSum_25 hP hD hS rfl hl rfl (Nat.le_of_ble_eq_true rfl) ⟨Nat.le_of_ble_eq_true rfl, Nat.le_of_ble_eq_true rfl⟩ (fun r_25 _ H locs hw_25 hP hD hS => ?_)
  obtain rfl : r_25 = (zt w (fs 0) (fs 1) (fs 2) (fs 3)) := hw_25
  exact hret (zt w (fs 0) (fs 1) (fs 2) (fs 3)) () H locs 28 ls rfl hP hD hS dX7_ofSum_28
set_option maxHeartbeats 4000000 in
set_option maxRecDepth 100000 in
theorem c_X7_ofCell (l : Launch) (D : va_G) (cI cZ : ClassId) (ts : Nat → Nat) (mo : Nat) (st : Nat) (im : Nat) (iz : Nat) (go : Nat) (pt : Nat) (ch : Nat) (su : Nat) (kp : Nat) (hr : Nat) (li : Int32) (bf : Int32) (bc : Int32) (bs : Int32) (bt : Int32) (gd : Int32) (sg : Nat → Int32) (j : Nat) (w : Int32) (hj : j + 3 < 75) (ha : ¬ sg j < 0) : zk_Mi l yX7_ofCell wsX7_ofCell ({ frames := 2, cells := 0, slots := 0, locals := 45 } : Room) D cI cZ ts [.ref mo, .int (nI j), .int w] [(mo, .inr (7, [.ref st, .ref im, .ref iz, .ref go, .int li, .ref pt, .ref ch, .ref su, .ref kp, .ref hr, .int bf, .int bc, .int bs, .int bt, .int gd])), (st, .inl (cI, 75, .inl sg))] (fun (r : Int32) (_ : Unit) => r = (zt w (sg j) (sg (j + 1)) (sg (j + 2)) (sg (j + 3)))) (fun (_ : Unit) => [(mo, .inr (7, [.ref st, .ref im, .ref iz, .ref go, .int li, .ref pt, .ref ch, .ref su, .ref kp, .ref hr, .int bf, .int bc, .int bs, .int bt, .int gd])), (st, .inl (cI, 75, .inl sg))]) 0 0 := by
  refine zk_Mi.of (cc := cX7_ofCell) (maxL := 3) RX7 (by decide) rfl (Nat.le_of_ble_eq_true rfl) rfl ?_
  intro p e s m below meth c A Q H locs ls X hE hA hP hD hS hret hl
  obtain ⟨hx, hb, hml, hown, hts⟩ := id X
  have hl : lv_has ls 3 [(0, .ref mo), (1, .int (nI j)), (2, .int w)] := hl
  refine lv_iload_n hx hb dX7_ofCell_0 rfl (lv_at hl 2 rfl) ?_
  refine lv_aload_n hx hb dX7_ofCell_1 rfl (lv_at hl 0 rfl) ?_
  refine zk_get X hE sX7_ofCell_2 hP 0 rfl rfl ?_
  refine lv_iload_n hx hb dX7_ofCell_5 rfl (lv_at hl 1 rfl) ?_
  refine zk_ald hx hb hE hP 1 j rfl rfl (by omega) (Nat.le_of_ble_eq_true rfl) dX7_ofCell_6 ?_
  refine lv_aload_n hx hb dX7_ofCell_7 rfl (lv_at hl 0 rfl) ?_
  refine zk_get X hE sX7_ofCell_8 hP 0 rfl rfl ?_
  refine lv_iload_n hx hb dX7_ofCell_11 rfl (lv_at hl 1 rfl) ?_
  refine lv_iconst (v := 1) hx hb dX7_ofCell_12 (by decide) ?_
  refine lv_iadd hx hb dX7_ofCell_13 ?_
  refine zk_top (show ((nI j) + 1 : Int32) = nI (j + 1) from nI_add j 1) ?_
  refine zk_ald hx hb hE hP 1 (j + 1) rfl rfl (by omega) (Nat.le_of_ble_eq_true rfl) dX7_ofCell_14 ?_
  refine lv_aload_n hx hb dX7_ofCell_15 rfl (lv_at hl 0 rfl) ?_
  refine zk_get X hE sX7_ofCell_16 hP 0 rfl rfl ?_
  refine lv_iload_n hx hb dX7_ofCell_19 rfl (lv_at hl 1 rfl) ?_
  refine lv_iconst (v := 2) hx hb dX7_ofCell_20 (by decide) ?_
  refine lv_iadd hx hb dX7_ofCell_21 ?_
  refine zk_top (show ((nI j) + 2 : Int32) = nI (j + 2) from nI_add j 2) ?_
  refine zk_ald hx hb hE hP 1 (j + 2) rfl rfl (by omega) (Nat.le_of_ble_eq_true rfl) dX7_ofCell_22 ?_
  refine lv_aload_n hx hb dX7_ofCell_23 rfl (lv_at hl 0 rfl) ?_
  refine zk_get X hE sX7_ofCell_24 hP 0 rfl rfl ?_
  refine lv_iload_n hx hb dX7_ofCell_27 rfl (lv_at hl 1 rfl) ?_
  refine lv_iconst (v := 3) hx hb dX7_ofCell_28 (by decide) ?_
  refine lv_iadd hx hb dX7_ofCell_29 ?_
  refine zk_top (show ((nI j) + 3 : Int32) = nI (j + 3) from nI_add j 3) ?_
  refine zk_ald hx hb hE hP 1 (j + 3) rfl rfl (by omega) (Nat.le_of_ble_eq_true rfl) dX7_ofCell_30 ?_
  refine zk_cSi (rest := []) X hE hA (c_X7_ofLiquid l D cI cZ ts w (sg j) (sg (j + 1)) (sg (j + 2)) (sg (j + 3)) (by first | assumption | omega)) (cwS 5 hts gX7_ofCell_X7_ofLiquid rfl rfl rfl hdX7_ofLiquid ⟨Nat.le_of_ble_eq_true rfl, Nat.le_of_ble_eq_true rfl⟩) dX7_ofCell_31 hP hD hS rfl hl rfl (Nat.le_of_ble_eq_true rfl) ⟨Nat.le_of_ble_eq_true rfl, Nat.le_of_ble_eq_true rfl⟩ (fun r_31 _ H locs hw_31 hP hD hS => ?_)
  obtain rfl : r_31 = (zt w (sg j) (sg (j + 1)) (sg (j + 2)) (sg (j + 3))) := hw_31
  exact hret (zt w (sg j) (sg (j + 1)) (sg (j + 2)) (sg (j + 3))) () H locs 34 ls rfl hP hD hS dX7_ofCell_34
set_option maxHeartbeats 4000000 in
set_option maxRecDepth 100000 in
theorem c_X7_overOf (l : Launch) (D : va_G) (cI cZ : ClassId) (ts : Nat → Nat) (mo : Nat) (st : Nat) (im : Nat) (iz : Nat) (go : Nat) (pt : Nat) (ch : Nat) (su : Nat) (kp : Nat) (hr : Nat) (li : Int32) (bf : Int32) (bc : Int32) (bs : Int32) (bt : Int32) (gd : Int32) (sg : Nat → Int32) (q : Nat) (hq : q ≤ 1000) : zk_Mi l yX7_overOf wsX7_overOf ({ frames := 0, cells := 0, slots := 0, locals := 0 } : Room) D cI cZ ts [.ref mo, .int (nI q)] [(mo, .inr (7, [.ref st, .ref im, .ref iz, .ref go, .int li, .ref pt, .ref ch, .ref su, .ref kp, .ref hr, .int bf, .int bc, .int bs, .int bt, .int gd])), (st, .inl (cI, 75, .inl sg))] (fun (r : Int32) (_ : Unit) => r = (zov (zpl sg) q)) (fun (_ : Unit) => [(mo, .inr (7, [.ref st, .ref im, .ref iz, .ref go, .int li, .ref pt, .ref ch, .ref su, .ref kp, .ref hr, .int bf, .int bc, .int bs, .int bt, .int gd])), (st, .inl (cI, 75, .inl sg))]) 0 0 := by
  refine zk_Mi.of (cc := cX7_overOf) (maxL := 4) RX7 (by decide) rfl (Nat.le_of_ble_eq_true rfl) rfl ?_
  intro p e s m below meth c A Q H locs ls X hE hA hP hD hS hret hl
  obtain ⟨hx, hb, hml, hown, hts⟩ := id X
  have hl : lv_has ls 4 [(0, .ref mo), (1, .int (nI q))] := hl
  refine lv_iload_n hx hb dX7_overOf_0 rfl (lv_at hl 1 rfl) ?_
  refine lv_bipush (v := 100) hx hb dX7_overOf_1 (by decide) ?_
  refine lv_idiv hx hb dX7_overOf_3 (by decide) ?_
  refine zk_top (show ((nI q) / 100 : Int32) = nI (q / 100) from pk_div (d := 100) (by omega) (by decide) (by decide)) ?_
  refine lv_istore_n (lv' := [(2, .int (nI (q / 100))), (0, .ref mo), (1, .int (nI q))]) hx hb dX7_overOf_4 rfl hl (by decide) rfl (fun ls hl => ?_)
  refine lv_aload_n hx hb dX7_overOf_5 rfl (lv_at hl 1 rfl) ?_
  refine zk_get X hE sX7_overOf_6 hP 0 rfl rfl ?_
  refine lv_iconst (v := 4) hx hb dX7_overOf_9 (by decide) ?_
  refine lv_iload_n hx hb dX7_overOf_10 rfl (lv_at hl 0 rfl) ?_
  refine lv_iadd hx hb dX7_overOf_11 ?_
  refine zk_top (show (4 + (nI (q / 100)) : Int32) = nI (4 + (q / 100)) from nI_add 4 (q / 100)) ?_
  refine zk_ald hx hb hE hP 1 (4 + (q / 100)) rfl rfl (by omega) (Nat.le_of_ble_eq_true rfl) dX7_overOf_12 ?_
  refine lv_istore_n (lv' := [(3, .int (sg (4 + (q / 100)))), (2, .int (nI (q / 100))), (0, .ref mo), (1, .int (nI q))]) hx hb dX7_overOf_13 rfl hl (by decide) rfl (fun ls hl => ?_)
  refine lv_iload_n hx hb dX7_overOf_14 rfl (lv_at hl 1 rfl) ?_
  refine lv_bipush (v := 10) hx hb dX7_overOf_15 (by decide) ?_
  refine lv_icmp_ne (tgt := 24) hx hb dX7_overOf_17 (by decide) (fun c_17 => ?_) (fun c_17 => ?_)
  · have hq10 : q / 100 < 10 := by
      rcases Nat.lt_or_ge (q / 100) 10 with h | h
      · exact h
      · exact absurd (show nI (q / 100) = 10 from congrArg nI (show q / 100 = 10 by omega)) c_17
    refine lv_iload_n hx hb dX7_overOf_24 rfl (lv_at hl 0 rfl) ?_
    refine lv_aload_n hx hb dX7_overOf_25 rfl (lv_at hl 2 rfl) ?_
    refine zk_get X hE sX7_overOf_26 hP 0 rfl rfl ?_
    refine lv_iconst (v := 4) hx hb dX7_overOf_29 (by decide) ?_
    refine lv_iload_n hx hb dX7_overOf_30 rfl (lv_at hl 1 rfl) ?_
    refine lv_iadd hx hb dX7_overOf_31 ?_
    refine zk_top (show (4 + (nI (q / 100)) : Int32) = nI (4 + (q / 100)) from nI_add 4 (q / 100)) ?_
    refine lv_iconst (v := 1) hx hb dX7_overOf_32 (by decide) ?_
    refine lv_iadd hx hb dX7_overOf_33 ?_
    refine zk_top (show ((nI (4 + (q / 100))) + 1 : Int32) = nI ((4 + (q / 100)) + 1) from nI_add (4 + (q / 100)) 1) ?_
    refine zk_ald hx hb hE hP 1 ((4 + (q / 100)) + 1) rfl rfl (by omega) (Nat.le_of_ble_eq_true rfl) dX7_overOf_34 ?_
    refine lv_iload_n hx hb dX7_overOf_35 rfl (lv_at hl 0 rfl) ?_
    refine lv_isub hx hb dX7_overOf_36 ?_
    refine lv_iload_n hx hb dX7_overOf_37 rfl (lv_at hl 3 rfl) ?_
    refine lv_bipush (v := 100) hx hb dX7_overOf_38 (by decide) ?_
    refine lv_irem hx hb dX7_overOf_40 (by decide) ?_
    refine zk_top (show ((nI q) - (nI q) / 100 * 100 : Int32) = nI (q % 100) from pk_rem (d := 100) (by omega) (by decide) (by decide)) ?_
    refine lv_imul hx hb dX7_overOf_41 ?_
    refine lv_bipush (v := 100) hx hb dX7_overOf_42 (by decide) ?_
    refine lv_idiv hx hb dX7_overOf_44 (by decide) ?_
    refine lv_iadd hx hb dX7_overOf_45 ?_
    exact hret ((sg (4 + (q / 100))) + ((((sg ((4 + (q / 100)) + 1)) - (sg (4 + (q / 100)))) * (nI (q % 100))) / 100)) () H locs 46 ls (by unfold zov; first | (rw [if_pos hq10]; rfl) | (rw [if_neg (by omega), hq10]; rfl)) hP hD hS dX7_overOf_46
  · have hq10 : q / 100 = 10 := (nI_eq (b := 10) (by omega) (by decide)).mp c_17
    refine lv_iload_n hx hb dX7_overOf_20 rfl (lv_at hl 0 rfl) ?_
    refine lv_goto (tgt := 46) hx hb dX7_overOf_21 (by decide) ?_
    exact hret (sg (4 + (q / 100))) () H locs 46 ls (by unfold zov; first | (rw [if_pos hq10]; rfl) | (rw [if_neg (by omega), hq10]; rfl)) hP hD hS dX7_overOf_46
set_option maxHeartbeats 4000000 in
set_option maxRecDepth 100000 in
theorem c_X7_goOver (l : Launch) (D : va_G) (cI cZ : ClassId) (ts : Nat → Nat) (mo : Nat) (st : Nat) (im : Nat) (iz : Nat) (go : Nat) (pt : Nat) (ch : Nat) (su : Nat) (kp : Nat) (hr : Nat) (bf : Int32) (bc : Int32) (bs : Int32) (bt : Int32) (gd : Int32) (sg : Nat → Int32) (fg : Nat → Int32) (fp : Nat → Int32) (k : Nat) (y : Int32) (hk : k < 40) (hsl : 1 ≤ sg 19 ∧ sg 19 ≤ 99) : zk_Mv l yX7_goOver wsX7_goOver ({ frames := 0, cells := 0, slots := 0, locals := 0 } : Room) D cI cZ ts [.ref mo, .int y] [(mo, .inr (7, [.ref st, .ref im, .ref iz, .ref go, .int (nI k), .ref pt, .ref ch, .ref su, .ref kp, .ref hr, .int bf, .int bc, .int bs, .int bt, .int gd])), (st, .inl (cI, 75, .inl sg)), (go, .inl (cI, 160, .inl fg)), (pt, .inl (cI, 4, .inl fp))] (fun (_ : Unit) => True) (fun (_ : Unit) => [(mo, .inr (7, [.ref st, .ref im, .ref iz, .ref go, .int (nI (k + 1)), .ref pt, .ref ch, .ref su, .ref kp, .ref hr, .int bf, .int bc, .int bs, .int bt, .int gd])), (st, .inl (cI, 75, .inl sg)), (go, .inl (cI, 160, .inl (upd (upd (upd (upd fg (4 * k) y) ((4 * k) + 1) (zl1 y (fp 1))) ((4 * k) + 2) (zl2 (fp 2) (sg 18))) ((4 * k) + 3) (((fp 3) * (1000 - y)) / (1000 * (sg 19)))))), (pt, .inl (cI, 4, .inl (upd (upd (upd (upd fp 0 ((fp 0) - 1)) 1 ((fp 1) - (zl1 y (fp 1)))) 2 ((fp 2) - (zl2 (fp 2) (sg 18)))) 3 ((fp 3) - (((fp 3) * (1000 - y)) / (1000 * (sg 19)))))))]) 0 0 := by
  refine zk_Mv.of (cc := cX7_goOver) (maxL := 5) RX7 (by decide) rfl (Nat.le_of_ble_eq_true rfl) rfl ?_
  intro p e s m below meth c A Q H locs ls X hE hA hin hP hD hS hret hl
  obtain ⟨hx, hb, hml, hown, hts⟩ := id X
  have hl : lv_has ls 5 [(0, .ref mo), (1, .int y)] := hl
  refine lv_iload_n hx hb dX7_goOver_0 rfl (lv_at hl 1 rfl) ?_
  refine lv_aload_n hx hb dX7_goOver_1 rfl (lv_at hl 0 rfl) ?_
  refine zk_get X hE sX7_goOver_2 hP 0 rfl rfl ?_
  refine lv_iconst (v := 1) hx hb dX7_goOver_5 (by decide) ?_
  refine zk_ald hx hb hE hP 3 1 rfl rfl (Nat.le_of_ble_eq_true rfl) (Nat.le_of_ble_eq_true rfl) dX7_goOver_6 ?_
  have M_20 : ∀ (v_20 : Int32) (H : Heap) (locs : List Loc), v_20 = (if (fp 1) ≤ y then fp 1 else y) → va_P D vwCl [(mo, .inr (7, [.ref st, .ref im, .ref iz, .ref go, .int (nI k), .ref pt, .ref ch, .ref su, .ref kp, .ref hr, .int bf, .int bc, .int bs, .int bt, .int gd])), (st, .inl (cI, 75, .inl sg)), (go, .inl (cI, 160, .inl fg)), (pt, .inl (cI, 4, .inl fp))] H → va_D A [(mo, .inr (7, [.ref st, .ref im, .ref iz, .ref go, .int (nI k), .ref pt, .ref ch, .ref su, .ref kp, .ref hr, .int bf, .int bc, .int bs, .int bt, .int gd])), (st, .inl (cI, 75, .inl sg)), (go, .inl (cI, 160, .inl fg)), (pt, .inl (cI, 4, .inl fp))] → va_S A s.heap H locs → W p l e ({ frames := 0, cells := 0, slots := 0, locals := 0 } : Room) s m ([.ref mo, .int y] : List Value).toArray below meth c H locs 0 0 Q (F0 m 20 ls [.int v_20]) := by
    intro v_20 H locs e_20 hP hD hS
    refine zk_top (show (v_20 : Int32) = zl1 y (fp 1) from (e_20.trans (zl1_ge _ _))) ?_
    refine lv_istore_n (lv' := [(2, .int (zl1 y (fp 1))), (0, .ref mo), (1, .int y)]) hx hb dX7_goOver_20 rfl hl (by decide) rfl (fun ls hl => ?_)
    refine lv_aload_n hx hb dX7_goOver_21 rfl (lv_at hl 1 rfl) ?_
    refine zk_get X hE sX7_goOver_22 hP 0 rfl rfl ?_
    refine lv_iconst (v := 2) hx hb dX7_goOver_25 (by decide) ?_
    refine zk_ald hx hb hE hP 3 2 rfl rfl (Nat.le_of_ble_eq_true rfl) (Nat.le_of_ble_eq_true rfl) dX7_goOver_26 ?_
    refine lv_aload_n hx hb dX7_goOver_27 rfl (lv_at hl 1 rfl) ?_
    refine zk_get X hE sX7_goOver_28 hP 0 rfl rfl ?_
    refine lv_bipush (v := 18) hx hb dX7_goOver_31 (by decide) ?_
    refine zk_ald hx hb hE hP 1 18 rfl rfl (Nat.le_of_ble_eq_true rfl) (Nat.le_of_ble_eq_true rfl) dX7_goOver_33 ?_
    refine lv_imul hx hb dX7_goOver_34 ?_
    refine lv_bipush (v := 10) hx hb dX7_goOver_35 (by decide) ?_
    refine lv_idiv hx hb dX7_goOver_37 (by decide) ?_
    refine lv_iconst (v := 1) hx hb dX7_goOver_38 (by decide) ?_
    refine lv_iadd hx hb dX7_goOver_39 ?_
    refine lv_istore_n (lv' := [(3, .int ((((fp 2) * (sg 18)) / 10) + 1)), (2, .int (zl1 y (fp 1))), (0, .ref mo), (1, .int y)]) hx hb dX7_goOver_40 rfl hl (by decide) rfl (fun ls hl => ?_)
    refine lv_iload_n hx hb dX7_goOver_41 rfl (lv_at hl 0 rfl) ?_
    refine lv_aload_n hx hb dX7_goOver_42 rfl (lv_at hl 2 rfl) ?_
    refine zk_get X hE sX7_goOver_43 hP 0 rfl rfl ?_
    refine lv_iconst (v := 2) hx hb dX7_goOver_46 (by decide) ?_
    refine zk_ald hx hb hE hP 3 2 rfl rfl (Nat.le_of_ble_eq_true rfl) (Nat.le_of_ble_eq_true rfl) dX7_goOver_47 ?_
    have M_61 : ∀ (v_61 : Int32) (H : Heap) (locs : List Loc), v_61 = (if (fp 2) ≤ ((((fp 2) * (sg 18)) / 10) + 1) then fp 2 else (((fp 2) * (sg 18)) / 10) + 1) → va_P D vwCl [(mo, .inr (7, [.ref st, .ref im, .ref iz, .ref go, .int (nI k), .ref pt, .ref ch, .ref su, .ref kp, .ref hr, .int bf, .int bc, .int bs, .int bt, .int gd])), (st, .inl (cI, 75, .inl sg)), (go, .inl (cI, 160, .inl fg)), (pt, .inl (cI, 4, .inl fp))] H → va_D A [(mo, .inr (7, [.ref st, .ref im, .ref iz, .ref go, .int (nI k), .ref pt, .ref ch, .ref su, .ref kp, .ref hr, .int bf, .int bc, .int bs, .int bt, .int gd])), (st, .inl (cI, 75, .inl sg)), (go, .inl (cI, 160, .inl fg)), (pt, .inl (cI, 4, .inl fp))] → va_S A s.heap H locs → W p l e ({ frames := 0, cells := 0, slots := 0, locals := 0 } : Room) s m ([.ref mo, .int y] : List Value).toArray below meth c H locs 0 0 Q (F0 m 61 ls [.int v_61]) := by
      intro v_61 H locs e_61 hP hD hS
      refine zk_top (show (v_61 : Int32) = zl2 (fp 2) (sg 18) from (e_61.trans (zl2_ge _ _))) ?_
      refine lv_istore_n (lv' := [(3, .int (zl2 (fp 2) (sg 18))), (2, .int (zl1 y (fp 1))), (0, .ref mo), (1, .int y)]) hx hb dX7_goOver_61 rfl hl (by decide) rfl (fun ls hl => ?_)
      refine lv_aload_n hx hb dX7_goOver_62 rfl (lv_at hl 2 rfl) ?_
      refine zk_get X hE sX7_goOver_63 hP 0 rfl rfl ?_
      refine lv_iconst (v := 3) hx hb dX7_goOver_66 (by decide) ?_
      refine zk_ald hx hb hE hP 3 3 rfl rfl (Nat.le_of_ble_eq_true rfl) (Nat.le_of_ble_eq_true rfl) dX7_goOver_67 ?_
      refine lv_sipush (v := 1000) hx hb dX7_goOver_68 (by decide) ?_
      refine lv_iload_n hx hb dX7_goOver_71 rfl (lv_at hl 3 rfl) ?_
      refine lv_isub hx hb dX7_goOver_72 ?_
      refine lv_imul hx hb dX7_goOver_73 ?_
      refine lv_sipush (v := 1000) hx hb dX7_goOver_74 (by decide) ?_
      refine lv_aload_n hx hb dX7_goOver_77 rfl (lv_at hl 2 rfl) ?_
      refine zk_get X hE sX7_goOver_78 hP 0 rfl rfl ?_
      refine lv_bipush (v := 19) hx hb dX7_goOver_81 (by decide) ?_
      refine zk_ald hx hb hE hP 1 19 rfl rfl (Nat.le_of_ble_eq_true rfl) (Nat.le_of_ble_eq_true rfl) dX7_goOver_83 ?_
      refine lv_imul hx hb dX7_goOver_84 ?_
      refine lv_idiv hx hb dX7_goOver_85 ((zsl_pos hsl).2) ?_
      refine lv_istore (lv' := [(4, .int (((fp 3) * (1000 - y)) / (1000 * (sg 19)))), (3, .int (zl2 (fp 2) (sg 18))), (2, .int (zl1 y (fp 1))), (0, .ref mo), (1, .int y)]) hx hb dX7_goOver_86 hl (by decide) rfl (fun ls hl => ?_)
      refine lv_aload_n hx hb dX7_goOver_88 rfl (lv_at hl 3 rfl) ?_
      refine zk_get X hE sX7_goOver_89 hP 0 rfl rfl ?_
      refine lv_iconst (v := 4) hx hb dX7_goOver_92 (by decide) ?_
      refine lv_aload_n hx hb dX7_goOver_93 rfl (lv_at hl 3 rfl) ?_
      refine zk_get X hE sX7_goOver_94 hP 0 rfl rfl ?_
      refine lv_imul hx hb dX7_goOver_97 ?_
      refine zk_top (show (4 * (nI k) : Int32) = nI (4 * k) from pk_mul 4 k) ?_
      refine lv_iload_n hx hb dX7_goOver_98 rfl (lv_at hl 4 rfl) ?_
      refine zk_ast (ws' := [(mo, .inr (7, [.ref st, .ref im, .ref iz, .ref go, .int (nI k), .ref pt, .ref ch, .ref su, .ref kp, .ref hr, .int bf, .int bc, .int bs, .int bt, .int gd])), (st, .inl (cI, 75, .inl sg)), (go, .inl (cI, 160, .inl (upd fg (4 * k) y))), (pt, .inl (cI, 4, .inl fp))]) hx hb hE hP hD hS 2 (4 * k) rfl rfl (by omega) (Nat.le_of_ble_eq_true rfl) dX7_goOver_99 rfl (fun H locs hP hD hS => ?_)
      refine lv_aload_n hx hb dX7_goOver_100 rfl (lv_at hl 3 rfl) ?_
      refine zk_get X hE sX7_goOver_101 hP 0 rfl rfl ?_
      refine lv_iconst (v := 4) hx hb dX7_goOver_104 (by decide) ?_
      refine lv_aload_n hx hb dX7_goOver_105 rfl (lv_at hl 3 rfl) ?_
      refine zk_get X hE sX7_goOver_106 hP 0 rfl rfl ?_
      refine lv_imul hx hb dX7_goOver_109 ?_
      refine zk_top (show (4 * (nI k) : Int32) = nI (4 * k) from pk_mul 4 k) ?_
      refine lv_iconst (v := 1) hx hb dX7_goOver_110 (by decide) ?_
      refine lv_iadd hx hb dX7_goOver_111 ?_
      refine zk_top (show ((nI (4 * k)) + 1 : Int32) = nI ((4 * k) + 1) from nI_add (4 * k) 1) ?_
      refine lv_iload_n hx hb dX7_goOver_112 rfl (lv_at hl 2 rfl) ?_
      refine zk_ast (ws' := [(mo, .inr (7, [.ref st, .ref im, .ref iz, .ref go, .int (nI k), .ref pt, .ref ch, .ref su, .ref kp, .ref hr, .int bf, .int bc, .int bs, .int bt, .int gd])), (st, .inl (cI, 75, .inl sg)), (go, .inl (cI, 160, .inl (upd (upd fg (4 * k) y) ((4 * k) + 1) (zl1 y (fp 1))))), (pt, .inl (cI, 4, .inl fp))]) hx hb hE hP hD hS 2 ((4 * k) + 1) rfl rfl (by omega) (Nat.le_of_ble_eq_true rfl) dX7_goOver_113 rfl (fun H locs hP hD hS => ?_)
      refine lv_aload_n hx hb dX7_goOver_114 rfl (lv_at hl 3 rfl) ?_
      refine zk_get X hE sX7_goOver_115 hP 0 rfl rfl ?_
      refine lv_iconst (v := 4) hx hb dX7_goOver_118 (by decide) ?_
      refine lv_aload_n hx hb dX7_goOver_119 rfl (lv_at hl 3 rfl) ?_
      refine zk_get X hE sX7_goOver_120 hP 0 rfl rfl ?_
      refine lv_imul hx hb dX7_goOver_123 ?_
      refine zk_top (show (4 * (nI k) : Int32) = nI (4 * k) from pk_mul 4 k) ?_
      refine lv_iconst (v := 2) hx hb dX7_goOver_124 (by decide) ?_
      refine lv_iadd hx hb dX7_goOver_125 ?_
      refine zk_top (show ((nI (4 * k)) + 2 : Int32) = nI ((4 * k) + 2) from nI_add (4 * k) 2) ?_
      refine lv_iload_n hx hb dX7_goOver_126 rfl (lv_at hl 1 rfl) ?_
      refine zk_ast (ws' := [(mo, .inr (7, [.ref st, .ref im, .ref iz, .ref go, .int (nI k), .ref pt, .ref ch, .ref su, .ref kp, .ref hr, .int bf, .int bc, .int bs, .int bt, .int gd])), (st, .inl (cI, 75, .inl sg)), (go, .inl (cI, 160, .inl (upd (upd (upd fg (4 * k) y) ((4 * k) + 1) (zl1 y (fp 1))) ((4 * k) + 2) (zl2 (fp 2) (sg 18))))), (pt, .inl (cI, 4, .inl fp))]) hx hb hE hP hD hS 2 ((4 * k) + 2) rfl rfl (by omega) (Nat.le_of_ble_eq_true rfl) dX7_goOver_127 rfl (fun H locs hP hD hS => ?_)
      refine lv_aload_n hx hb dX7_goOver_128 rfl (lv_at hl 3 rfl) ?_
      refine zk_get X hE sX7_goOver_129 hP 0 rfl rfl ?_
      refine lv_iconst (v := 4) hx hb dX7_goOver_132 (by decide) ?_
      refine lv_aload_n hx hb dX7_goOver_133 rfl (lv_at hl 3 rfl) ?_
      refine zk_get X hE sX7_goOver_134 hP 0 rfl rfl ?_
      refine lv_imul hx hb dX7_goOver_137 ?_
      refine zk_top (show (4 * (nI k) : Int32) = nI (4 * k) from pk_mul 4 k) ?_
      refine lv_iconst (v := 3) hx hb dX7_goOver_138 (by decide) ?_
      refine lv_iadd hx hb dX7_goOver_139 ?_
      refine zk_top (show ((nI (4 * k)) + 3 : Int32) = nI ((4 * k) + 3) from nI_add (4 * k) 3) ?_
      refine lv_iload hx hb dX7_goOver_140 (lv_at hl 0 rfl) ?_
      refine zk_ast (ws' := [(mo, .inr (7, [.ref st, .ref im, .ref iz, .ref go, .int (nI k), .ref pt, .ref ch, .ref su, .ref kp, .ref hr, .int bf, .int bc, .int bs, .int bt, .int gd])), (st, .inl (cI, 75, .inl sg)), (go, .inl (cI, 160, .inl (upd (upd (upd (upd fg (4 * k) y) ((4 * k) + 1) (zl1 y (fp 1))) ((4 * k) + 2) (zl2 (fp 2) (sg 18))) ((4 * k) + 3) (((fp 3) * (1000 - y)) / (1000 * (sg 19)))))), (pt, .inl (cI, 4, .inl fp))]) hx hb hE hP hD hS 2 ((4 * k) + 3) rfl rfl (by omega) (Nat.le_of_ble_eq_true rfl) dX7_goOver_142 rfl (fun H locs hP hD hS => ?_)
      refine lv_aload_n hx hb dX7_goOver_143 rfl (lv_at hl 3 rfl) ?_
      refine zk_get X hE sX7_goOver_144 hP 0 rfl rfl ?_
      refine lv_iconst (v := 0) hx hb dX7_goOver_147 (by decide) ?_
      refine lv_dup2_11 hx hb dX7_goOver_148 rfl rfl ?_
      refine zk_ald hx hb hE hP 3 0 rfl rfl (Nat.le_of_ble_eq_true rfl) (Nat.le_of_ble_eq_true rfl) dX7_goOver_149 ?_
      refine lv_iconst (v := 1) hx hb dX7_goOver_150 (by decide) ?_
      refine lv_isub hx hb dX7_goOver_151 ?_
      refine zk_ast (ws' := [(mo, .inr (7, [.ref st, .ref im, .ref iz, .ref go, .int (nI k), .ref pt, .ref ch, .ref su, .ref kp, .ref hr, .int bf, .int bc, .int bs, .int bt, .int gd])), (st, .inl (cI, 75, .inl sg)), (go, .inl (cI, 160, .inl (upd (upd (upd (upd fg (4 * k) y) ((4 * k) + 1) (zl1 y (fp 1))) ((4 * k) + 2) (zl2 (fp 2) (sg 18))) ((4 * k) + 3) (((fp 3) * (1000 - y)) / (1000 * (sg 19)))))), (pt, .inl (cI, 4, .inl (upd fp 0 ((fp 0) - 1))))]) hx hb hE hP hD hS 3 0 rfl rfl (Nat.le_of_ble_eq_true rfl) (Nat.le_of_ble_eq_true rfl) dX7_goOver_152 rfl (fun H locs hP hD hS => ?_)
      refine lv_aload_n hx hb dX7_goOver_153 rfl (lv_at hl 3 rfl) ?_
      refine zk_get X hE sX7_goOver_154 hP 0 rfl rfl ?_
      refine lv_iconst (v := 1) hx hb dX7_goOver_157 (by decide) ?_
      refine lv_dup2_11 hx hb dX7_goOver_158 rfl rfl ?_
      refine zk_ald hx hb hE hP 3 1 rfl rfl (Nat.le_of_ble_eq_true rfl) (Nat.le_of_ble_eq_true rfl) dX7_goOver_159 ?_
      refine zk_top (show (upd fp 0 ((fp 0) - 1)) 1 = fp 1 from rfl) ?_
      refine lv_iload_n hx hb dX7_goOver_160 rfl (lv_at hl 2 rfl) ?_
      refine lv_isub hx hb dX7_goOver_161 ?_
      refine zk_ast (ws' := [(mo, .inr (7, [.ref st, .ref im, .ref iz, .ref go, .int (nI k), .ref pt, .ref ch, .ref su, .ref kp, .ref hr, .int bf, .int bc, .int bs, .int bt, .int gd])), (st, .inl (cI, 75, .inl sg)), (go, .inl (cI, 160, .inl (upd (upd (upd (upd fg (4 * k) y) ((4 * k) + 1) (zl1 y (fp 1))) ((4 * k) + 2) (zl2 (fp 2) (sg 18))) ((4 * k) + 3) (((fp 3) * (1000 - y)) / (1000 * (sg 19)))))), (pt, .inl (cI, 4, .inl (upd (upd fp 0 ((fp 0) - 1)) 1 ((fp 1) - (zl1 y (fp 1))))))]) hx hb hE hP hD hS 3 1 rfl rfl (Nat.le_of_ble_eq_true rfl) (Nat.le_of_ble_eq_true rfl) dX7_goOver_162 rfl (fun H locs hP hD hS => ?_)
      refine lv_aload_n hx hb dX7_goOver_163 rfl (lv_at hl 3 rfl) ?_
      refine zk_get X hE sX7_goOver_164 hP 0 rfl rfl ?_
      refine lv_iconst (v := 2) hx hb dX7_goOver_167 (by decide) ?_
      refine lv_dup2_11 hx hb dX7_goOver_168 rfl rfl ?_
      refine zk_ald hx hb hE hP 3 2 rfl rfl (Nat.le_of_ble_eq_true rfl) (Nat.le_of_ble_eq_true rfl) dX7_goOver_169 ?_
      refine zk_top (show (upd (upd fp 0 ((fp 0) - 1)) 1 ((fp 1) - (zl1 y (fp 1)))) 2 = fp 2 from rfl) ?_
      refine lv_iload_n hx hb dX7_goOver_170 rfl (lv_at hl 1 rfl) ?_
      refine lv_isub hx hb dX7_goOver_171 ?_
      refine zk_ast (ws' := [(mo, .inr (7, [.ref st, .ref im, .ref iz, .ref go, .int (nI k), .ref pt, .ref ch, .ref su, .ref kp, .ref hr, .int bf, .int bc, .int bs, .int bt, .int gd])), (st, .inl (cI, 75, .inl sg)), (go, .inl (cI, 160, .inl (upd (upd (upd (upd fg (4 * k) y) ((4 * k) + 1) (zl1 y (fp 1))) ((4 * k) + 2) (zl2 (fp 2) (sg 18))) ((4 * k) + 3) (((fp 3) * (1000 - y)) / (1000 * (sg 19)))))), (pt, .inl (cI, 4, .inl (upd (upd (upd fp 0 ((fp 0) - 1)) 1 ((fp 1) - (zl1 y (fp 1)))) 2 ((fp 2) - (zl2 (fp 2) (sg 18))))))]) hx hb hE hP hD hS 3 2 rfl rfl (Nat.le_of_ble_eq_true rfl) (Nat.le_of_ble_eq_true rfl) dX7_goOver_172 rfl (fun H locs hP hD hS => ?_)
      refine lv_aload_n hx hb dX7_goOver_173 rfl (lv_at hl 3 rfl) ?_
      refine zk_get X hE sX7_goOver_174 hP 0 rfl rfl ?_
      refine lv_iconst (v := 3) hx hb dX7_goOver_177 (by decide) ?_
      refine lv_dup2_11 hx hb dX7_goOver_178 rfl rfl ?_
      refine zk_ald hx hb hE hP 3 3 rfl rfl (Nat.le_of_ble_eq_true rfl) (Nat.le_of_ble_eq_true rfl) dX7_goOver_179 ?_
      refine zk_top (show (upd (upd (upd fp 0 ((fp 0) - 1)) 1 ((fp 1) - (zl1 y (fp 1)))) 2 ((fp 2) - (zl2 (fp 2) (sg 18)))) 3 = fp 3 from rfl) ?_
      refine lv_iload hx hb dX7_goOver_180 (lv_at hl 0 rfl) ?_
      refine lv_isub hx hb dX7_goOver_182 ?_
      refine zk_ast (ws' := [(mo, .inr (7, [.ref st, .ref im, .ref iz, .ref go, .int (nI k), .ref pt, .ref ch, .ref su, .ref kp, .ref hr, .int bf, .int bc, .int bs, .int bt, .int gd])), (st, .inl (cI, 75, .inl sg)), (go, .inl (cI, 160, .inl (upd (upd (upd (upd fg (4 * k) y) ((4 * k) + 1) (zl1 y (fp 1))) ((4 * k) + 2) (zl2 (fp 2) (sg 18))) ((4 * k) + 3) (((fp 3) * (1000 - y)) / (1000 * (sg 19)))))), (pt, .inl (cI, 4, .inl (upd (upd (upd (upd fp 0 ((fp 0) - 1)) 1 ((fp 1) - (zl1 y (fp 1)))) 2 ((fp 2) - (zl2 (fp 2) (sg 18)))) 3 ((fp 3) - (((fp 3) * (1000 - y)) / (1000 * (sg 19)))))))]) hx hb hE hP hD hS 3 3 rfl rfl (Nat.le_of_ble_eq_true rfl) (Nat.le_of_ble_eq_true rfl) dX7_goOver_183 rfl (fun H locs hP hD hS => ?_)
      refine lv_aload_n hx hb dX7_goOver_184 rfl (lv_at hl 3 rfl) ?_
      refine lv_dup hx hb dX7_goOver_185 rfl ?_
      refine zk_get X hE sX7_goOver_186 hP 0 rfl rfl ?_
      refine lv_iconst (v := 1) hx hb dX7_goOver_189 (by decide) ?_
      refine lv_iadd hx hb dX7_goOver_190 ?_
      refine zk_top (show ((nI k) + 1 : Int32) = nI (k + 1) from nI_add k 1) ?_
      refine zk_put (ws' := [(mo, .inr (7, [.ref st, .ref im, .ref iz, .ref go, .int (nI (k + 1)), .ref pt, .ref ch, .ref su, .ref kp, .ref hr, .int bf, .int bc, .int bs, .int bt, .int gd])), (st, .inl (cI, 75, .inl sg)), (go, .inl (cI, 160, .inl (upd (upd (upd (upd fg (4 * k) y) ((4 * k) + 1) (zl1 y (fp 1))) ((4 * k) + 2) (zl2 (fp 2) (sg 18))) ((4 * k) + 3) (((fp 3) * (1000 - y)) / (1000 * (sg 19)))))), (pt, .inl (cI, 4, .inl (upd (upd (upd (upd fp 0 ((fp 0) - 1)) 1 ((fp 1) - (zl1 y (fp 1)))) 2 ((fp 2) - (zl2 (fp 2) (sg 18)))) 3 ((fp 3) - (((fp 3) * (1000 - y)) / (1000 * (sg 19)))))))]) X hE sX7_goOver_191 hP hD hS 0 rfl (Nat.le_of_ble_eq_true rfl) rfl (fun H locs hP hD hS => ?_)
      exact hret  () H locs 194 ls trivial hP hD hS dX7_goOver_194
    refine lv_icmp_ge (tgt := 55) hx hb dX7_goOver_48 (by decide) (fun c_48 => ?_) (fun c_48 => ?_)
    · refine lv_aload_n hx hb dX7_goOver_55 rfl (lv_at hl 2 rfl) ?_
      refine zk_get X hE sX7_goOver_56 hP 0 rfl rfl ?_
      refine lv_iconst (v := 2) hx hb dX7_goOver_59 (by decide) ?_
      refine zk_ald hx hb hE hP 3 2 rfl rfl (Nat.le_of_ble_eq_true rfl) (Nat.le_of_ble_eq_true rfl) dX7_goOver_60 ?_
      exact M_61 _ H locs (if_pos c_48).symm hP hD hS
    · refine lv_iload_n hx hb dX7_goOver_51 rfl (lv_at hl 0 rfl) ?_
      refine lv_goto (tgt := 61) hx hb dX7_goOver_52 (by decide) ?_
      exact M_61 _ H locs (if_neg c_48).symm hP hD hS
  refine lv_icmp_ge (tgt := 14) hx hb dX7_goOver_7 (by decide) (fun c_7 => ?_) (fun c_7 => ?_)
  · refine lv_aload_n hx hb dX7_goOver_14 rfl (lv_at hl 0 rfl) ?_
    refine zk_get X hE sX7_goOver_15 hP 0 rfl rfl ?_
    refine lv_iconst (v := 1) hx hb dX7_goOver_18 (by decide) ?_
    refine zk_ald hx hb hE hP 3 1 rfl rfl (Nat.le_of_ble_eq_true rfl) (Nat.le_of_ble_eq_true rfl) dX7_goOver_19 ?_
    exact M_20 _ H locs (if_pos c_7).symm hP hD hS
  · refine lv_iload_n hx hb dX7_goOver_10 rfl (lv_at hl 1 rfl) ?_
    refine lv_goto (tgt := 20) hx hb dX7_goOver_11 (by decide) ?_
    exact M_20 _ H locs (if_neg c_7).symm hP hD hS
set_option maxHeartbeats 4000000 in
set_option maxRecDepth 100000 in
theorem c_X7_goRun (l : Launch) (D : va_G) (cI cZ : ClassId) (ts : Nat → Nat) (mo : Nat) (st : Nat) (im : Nat) (iz : Nat) (go : Nat) (pt : Nat) (ch : Nat) (su : Nat) (kp : Nat) (hr : Nat) (li : Int32) (bf : Int32) (bc : Int32) (bs : Int32) (bt : Int32) (gd : Int32) (sg : Nat → Int32) (fg : Nat → Int32) (fp : Nat → Int32) (fc : Nat → Int32) (kf : Nat → Int32) (hsl : 1 ≤ sg 19 ∧ sg 19 ≤ 99) (hsp : ∀ i, ¬ zP (zpl sg) (zru sg) (zch sg kf) i 1 < 0) : zk_Mv l yX7_goRun wsX7_goRun ({ frames := 1, cells := 0, slots := 0, locals := 24 } : Room) D cI cZ ts [.ref mo, .int (kf 0), .int (kf 1), .int (kf 2), .int (kf 3)] [(mo, .inr (7, [.ref st, .ref im, .ref iz, .ref go, .int li, .ref pt, .ref ch, .ref su, .ref kp, .ref hr, .int bf, .int bc, .int bs, .int bt, .int gd])), (st, .inl (cI, 75, .inl sg)), (go, .inl (cI, 160, .inl fg)), (pt, .inl (cI, 4, .inl fp)), (ch, .inl (cI, 4, .inl fc))] (fun (u : Nat × (Nat → Int32) × (Nat → Int32) × (Nat → Int32)) => u.1 = zN (zpl sg) (zru sg) (zch sg kf) ∧ zgn (zpl sg) (zru sg) (zch sg kf) u.2.1 u.1 ∧ zar u.2.2.1 (zP (zpl sg) (zru sg) (zch sg kf) u.1) 4 ∧ zar u.2.2.2 (zch sg kf) 4) (fun (u : Nat × (Nat → Int32) × (Nat → Int32) × (Nat → Int32)) => [(mo, .inr (7, [.ref st, .ref im, .ref iz, .ref go, .int (nI u.1), .ref pt, .ref ch, .ref su, .ref kp, .ref hr, .int bf, .int bc, .int bs, .int bt, .int gd])), (st, .inl (cI, 75, .inl sg)), (go, .inl (cI, 160, .inl u.2.1)), (pt, .inl (cI, 4, .inl u.2.2.1)), (ch, .inl (cI, 4, .inl u.2.2.2))]) 0 0 := by
  refine zk_Mv.of (cc := cX7_goRun) (maxL := 8) RX7 (by decide) rfl (Nat.le_of_ble_eq_true rfl) rfl ?_
  intro p e s m below meth c A Q H locs ls X hE hA hin hP hD hS hret hl
  obtain ⟨hx, hb, hml, hown, hts⟩ := id X
  have hl : lv_has ls 8 [(0, .ref mo), (1, .int (kf 0)), (2, .int (kf 1)), (3, .int (kf 2)), (4, .int (kf 3))] := hl
  refine lv_aload_n hx hb dX7_goRun_0 rfl (lv_at hl 0 rfl) ?_
  refine zk_get X hE sX7_goRun_1 hP 0 rfl rfl ?_
  refine lv_iconst (v := 0) hx hb dX7_goRun_4 (by decide) ?_
  refine lv_aload_n hx hb dX7_goRun_5 rfl (lv_at hl 0 rfl) ?_
  refine zk_get X hE sX7_goRun_6 hP 0 rfl rfl ?_
  refine lv_iconst (v := 0) hx hb dX7_goRun_9 (by decide) ?_
  refine zk_ald hx hb hE hP 1 0 rfl rfl (Nat.le_of_ble_eq_true rfl) (Nat.le_of_ble_eq_true rfl) dX7_goRun_10 ?_
  refine lv_iload_n hx hb dX7_goRun_11 rfl (lv_at hl 1 rfl) ?_
  refine lv_iadd hx hb dX7_goRun_12 ?_
  refine zk_ast (ws' := [(mo, .inr (7, [.ref st, .ref im, .ref iz, .ref go, .int li, .ref pt, .ref ch, .ref su, .ref kp, .ref hr, .int bf, .int bc, .int bs, .int bt, .int gd])), (st, .inl (cI, 75, .inl sg)), (go, .inl (cI, 160, .inl fg)), (pt, .inl (cI, 4, .inl fp)), (ch, .inl (cI, 4, .inl (upd fc 0 ((sg 0) + (kf 0)))))]) hx hb hE hP hD hS 4 0 rfl rfl (Nat.le_of_ble_eq_true rfl) (Nat.le_of_ble_eq_true rfl) dX7_goRun_13 rfl (fun H locs hP hD hS => ?_)
  refine lv_aload_n hx hb dX7_goRun_14 rfl (lv_at hl 0 rfl) ?_
  refine zk_get X hE sX7_goRun_15 hP 0 rfl rfl ?_
  refine lv_iconst (v := 1) hx hb dX7_goRun_18 (by decide) ?_
  refine lv_aload_n hx hb dX7_goRun_19 rfl (lv_at hl 0 rfl) ?_
  refine zk_get X hE sX7_goRun_20 hP 0 rfl rfl ?_
  refine lv_iconst (v := 0) hx hb dX7_goRun_23 (by decide) ?_
  refine zk_ald hx hb hE hP 1 0 rfl rfl (Nat.le_of_ble_eq_true rfl) (Nat.le_of_ble_eq_true rfl) dX7_goRun_24 ?_
  refine lv_aload_n hx hb dX7_goRun_25 rfl (lv_at hl 0 rfl) ?_
  refine zk_get X hE sX7_goRun_26 hP 0 rfl rfl ?_
  refine lv_iconst (v := 1) hx hb dX7_goRun_29 (by decide) ?_
  refine zk_ald hx hb hE hP 1 1 rfl rfl (Nat.le_of_ble_eq_true rfl) (Nat.le_of_ble_eq_true rfl) dX7_goRun_30 ?_
  refine lv_imul hx hb dX7_goRun_31 ?_
  refine lv_iload_n hx hb dX7_goRun_32 rfl (lv_at hl 2 rfl) ?_
  refine lv_iadd hx hb dX7_goRun_33 ?_
  refine zk_ast (ws' := [(mo, .inr (7, [.ref st, .ref im, .ref iz, .ref go, .int li, .ref pt, .ref ch, .ref su, .ref kp, .ref hr, .int bf, .int bc, .int bs, .int bt, .int gd])), (st, .inl (cI, 75, .inl sg)), (go, .inl (cI, 160, .inl fg)), (pt, .inl (cI, 4, .inl fp)), (ch, .inl (cI, 4, .inl (upd (upd fc 0 ((sg 0) + (kf 0))) 1 (((sg 0) * (sg 1)) + (kf 1)))))]) hx hb hE hP hD hS 4 1 rfl rfl (Nat.le_of_ble_eq_true rfl) (Nat.le_of_ble_eq_true rfl) dX7_goRun_34 rfl (fun H locs hP hD hS => ?_)
  refine lv_aload_n hx hb dX7_goRun_35 rfl (lv_at hl 0 rfl) ?_
  refine zk_get X hE sX7_goRun_36 hP 0 rfl rfl ?_
  refine lv_iconst (v := 2) hx hb dX7_goRun_39 (by decide) ?_
  refine lv_aload_n hx hb dX7_goRun_40 rfl (lv_at hl 0 rfl) ?_
  refine zk_get X hE sX7_goRun_41 hP 0 rfl rfl ?_
  refine lv_iconst (v := 2) hx hb dX7_goRun_44 (by decide) ?_
  refine zk_ald hx hb hE hP 1 2 rfl rfl (Nat.le_of_ble_eq_true rfl) (Nat.le_of_ble_eq_true rfl) dX7_goRun_45 ?_
  refine lv_iload_n hx hb dX7_goRun_46 rfl (lv_at hl 3 rfl) ?_
  refine lv_iadd hx hb dX7_goRun_47 ?_
  refine zk_ast (ws' := [(mo, .inr (7, [.ref st, .ref im, .ref iz, .ref go, .int li, .ref pt, .ref ch, .ref su, .ref kp, .ref hr, .int bf, .int bc, .int bs, .int bt, .int gd])), (st, .inl (cI, 75, .inl sg)), (go, .inl (cI, 160, .inl fg)), (pt, .inl (cI, 4, .inl fp)), (ch, .inl (cI, 4, .inl (upd (upd (upd fc 0 ((sg 0) + (kf 0))) 1 (((sg 0) * (sg 1)) + (kf 1))) 2 ((sg 2) + (kf 2)))))]) hx hb hE hP hD hS 4 2 rfl rfl (Nat.le_of_ble_eq_true rfl) (Nat.le_of_ble_eq_true rfl) dX7_goRun_48 rfl (fun H locs hP hD hS => ?_)
  refine lv_aload_n hx hb dX7_goRun_49 rfl (lv_at hl 0 rfl) ?_
  refine zk_get X hE sX7_goRun_50 hP 0 rfl rfl ?_
  refine lv_iconst (v := 3) hx hb dX7_goRun_53 (by decide) ?_
  refine lv_aload_n hx hb dX7_goRun_54 rfl (lv_at hl 0 rfl) ?_
  refine zk_get X hE sX7_goRun_55 hP 0 rfl rfl ?_
  refine lv_iconst (v := 3) hx hb dX7_goRun_58 (by decide) ?_
  refine zk_ald hx hb hE hP 1 3 rfl rfl (Nat.le_of_ble_eq_true rfl) (Nat.le_of_ble_eq_true rfl) dX7_goRun_59 ?_
  refine lv_iload hx hb dX7_goRun_60 (lv_at hl 4 rfl) ?_
  refine lv_iadd hx hb dX7_goRun_62 ?_
  refine zk_ast (ws' := [(mo, .inr (7, [.ref st, .ref im, .ref iz, .ref go, .int li, .ref pt, .ref ch, .ref su, .ref kp, .ref hr, .int bf, .int bc, .int bs, .int bt, .int gd])), (st, .inl (cI, 75, .inl sg)), (go, .inl (cI, 160, .inl fg)), (pt, .inl (cI, 4, .inl fp)), (ch, .inl (cI, 4, .inl (upd (upd (upd (upd fc 0 ((sg 0) + (kf 0))) 1 (((sg 0) * (sg 1)) + (kf 1))) 2 ((sg 2) + (kf 2))) 3 ((sg 3) + (kf 3)))))]) hx hb hE hP hD hS 4 3 rfl rfl (Nat.le_of_ble_eq_true rfl) (Nat.le_of_ble_eq_true rfl) dX7_goRun_63 rfl (fun H locs hP hD hS => ?_)
  refine lv_iconst (v := 0) hx hb dX7_goRun_64 (by decide) ?_
  refine lv_istore (lv' := [(5, .int 0), (0, .ref mo), (1, .int (kf 0)), (2, .int (kf 1)), (3, .int (kf 2)), (4, .int (kf 3))]) hx hb dX7_goRun_65 hl (by decide) rfl (fun ls hl => ?_)
  refine lv_iload hx hb dX7_goRun_67 (lv_at hl 0 rfl) ?_
  refine lv_iconst (v := 4) hx hb dX7_goRun_69 (by decide) ?_
  refine lv_icmp_ge (tgt := 93) hx hb dX7_goRun_70 (by decide) (fun c_70 => absurd c_70 (by decide)) (fun c_70 => ?_)
  refine lv_aload_n hx hb dX7_goRun_73 rfl (lv_at hl 1 rfl) ?_
  refine zk_get X hE sX7_goRun_74 hP 0 rfl rfl ?_
  refine lv_iload hx hb dX7_goRun_77 (lv_at hl 0 rfl) ?_
  refine lv_aload_n hx hb dX7_goRun_79 rfl (lv_at hl 1 rfl) ?_
  refine zk_get X hE sX7_goRun_80 hP 0 rfl rfl ?_
  refine lv_iload hx hb dX7_goRun_83 (lv_at hl 0 rfl) ?_
  refine zk_ald hx hb hE hP 4 0 rfl rfl (Nat.le_of_ble_eq_true rfl) (Nat.le_of_ble_eq_true rfl) dX7_goRun_85 ?_
  refine zk_top (show (upd (upd (upd (upd fc 0 ((sg 0) + (kf 0))) 1 (((sg 0) * (sg 1)) + (kf 1))) 2 ((sg 2) + (kf 2))) 3 ((sg 3) + (kf 3))) 0 = (sg 0) + (kf 0) from rfl) ?_
  refine zk_ast (ws' := [(mo, .inr (7, [.ref st, .ref im, .ref iz, .ref go, .int li, .ref pt, .ref ch, .ref su, .ref kp, .ref hr, .int bf, .int bc, .int bs, .int bt, .int gd])), (st, .inl (cI, 75, .inl sg)), (go, .inl (cI, 160, .inl fg)), (pt, .inl (cI, 4, .inl (upd fp 0 ((sg 0) + (kf 0))))), (ch, .inl (cI, 4, .inl (upd (upd (upd (upd fc 0 ((sg 0) + (kf 0))) 1 (((sg 0) * (sg 1)) + (kf 1))) 2 ((sg 2) + (kf 2))) 3 ((sg 3) + (kf 3)))))]) hx hb hE hP hD hS 3 0 rfl rfl (Nat.le_of_ble_eq_true rfl) (Nat.le_of_ble_eq_true rfl) dX7_goRun_86 rfl (fun H locs hP hD hS => ?_)
  refine lv_iinc (v := 1) (lv' := [(5, .int 1), (0, .ref mo), (1, .int (kf 0)), (2, .int (kf 1)), (3, .int (kf 2)), (4, .int (kf 3))]) hx hb dX7_goRun_87 hl (k := 0) rfl (by decide) (by decide) rfl (fun ls hl => ?_)
  refine lv_goto (tgt := 67) hx hb dX7_goRun_90 (by decide) ?_
  refine lv_iload hx hb dX7_goRun_67 (lv_at hl 0 rfl) ?_
  refine lv_iconst (v := 4) hx hb dX7_goRun_69 (by decide) ?_
  refine lv_icmp_ge (tgt := 93) hx hb dX7_goRun_70 (by decide) (fun c_70 => absurd c_70 (by decide)) (fun c_70 => ?_)
  refine lv_aload_n hx hb dX7_goRun_73 rfl (lv_at hl 1 rfl) ?_
  refine zk_get X hE sX7_goRun_74 hP 0 rfl rfl ?_
  refine lv_iload hx hb dX7_goRun_77 (lv_at hl 0 rfl) ?_
  refine lv_aload_n hx hb dX7_goRun_79 rfl (lv_at hl 1 rfl) ?_
  refine zk_get X hE sX7_goRun_80 hP 0 rfl rfl ?_
  refine lv_iload hx hb dX7_goRun_83 (lv_at hl 0 rfl) ?_
  refine zk_ald hx hb hE hP 4 1 rfl rfl (Nat.le_of_ble_eq_true rfl) (Nat.le_of_ble_eq_true rfl) dX7_goRun_85 ?_
  refine zk_top (show (upd (upd (upd (upd fc 0 ((sg 0) + (kf 0))) 1 (((sg 0) * (sg 1)) + (kf 1))) 2 ((sg 2) + (kf 2))) 3 ((sg 3) + (kf 3))) 1 = ((sg 0) * (sg 1)) + (kf 1) from rfl) ?_
  refine zk_ast (ws' := [(mo, .inr (7, [.ref st, .ref im, .ref iz, .ref go, .int li, .ref pt, .ref ch, .ref su, .ref kp, .ref hr, .int bf, .int bc, .int bs, .int bt, .int gd])), (st, .inl (cI, 75, .inl sg)), (go, .inl (cI, 160, .inl fg)), (pt, .inl (cI, 4, .inl (upd (upd fp 0 ((sg 0) + (kf 0))) 1 (((sg 0) * (sg 1)) + (kf 1))))), (ch, .inl (cI, 4, .inl (upd (upd (upd (upd fc 0 ((sg 0) + (kf 0))) 1 (((sg 0) * (sg 1)) + (kf 1))) 2 ((sg 2) + (kf 2))) 3 ((sg 3) + (kf 3)))))]) hx hb hE hP hD hS 3 1 rfl rfl (Nat.le_of_ble_eq_true rfl) (Nat.le_of_ble_eq_true rfl) dX7_goRun_86 rfl (fun H locs hP hD hS => ?_)
  refine lv_iinc (v := 2) (lv' := [(5, .int 2), (0, .ref mo), (1, .int (kf 0)), (2, .int (kf 1)), (3, .int (kf 2)), (4, .int (kf 3))]) hx hb dX7_goRun_87 hl (k := 0) rfl (by decide) (by decide) rfl (fun ls hl => ?_)
  refine lv_goto (tgt := 67) hx hb dX7_goRun_90 (by decide) ?_
  refine lv_iload hx hb dX7_goRun_67 (lv_at hl 0 rfl) ?_
  refine lv_iconst (v := 4) hx hb dX7_goRun_69 (by decide) ?_
  refine lv_icmp_ge (tgt := 93) hx hb dX7_goRun_70 (by decide) (fun c_70 => absurd c_70 (by decide)) (fun c_70 => ?_)
  refine lv_aload_n hx hb dX7_goRun_73 rfl (lv_at hl 1 rfl) ?_
  refine zk_get X hE sX7_goRun_74 hP 0 rfl rfl ?_
  refine lv_iload hx hb dX7_goRun_77 (lv_at hl 0 rfl) ?_
  refine lv_aload_n hx hb dX7_goRun_79 rfl (lv_at hl 1 rfl) ?_
  refine zk_get X hE sX7_goRun_80 hP 0 rfl rfl ?_
  refine lv_iload hx hb dX7_goRun_83 (lv_at hl 0 rfl) ?_
  refine zk_ald hx hb hE hP 4 2 rfl rfl (Nat.le_of_ble_eq_true rfl) (Nat.le_of_ble_eq_true rfl) dX7_goRun_85 ?_
  refine zk_top (show (upd (upd (upd (upd fc 0 ((sg 0) + (kf 0))) 1 (((sg 0) * (sg 1)) + (kf 1))) 2 ((sg 2) + (kf 2))) 3 ((sg 3) + (kf 3))) 2 = (sg 2) + (kf 2) from rfl) ?_
  refine zk_ast (ws' := [(mo, .inr (7, [.ref st, .ref im, .ref iz, .ref go, .int li, .ref pt, .ref ch, .ref su, .ref kp, .ref hr, .int bf, .int bc, .int bs, .int bt, .int gd])), (st, .inl (cI, 75, .inl sg)), (go, .inl (cI, 160, .inl fg)), (pt, .inl (cI, 4, .inl (upd (upd (upd fp 0 ((sg 0) + (kf 0))) 1 (((sg 0) * (sg 1)) + (kf 1))) 2 ((sg 2) + (kf 2))))), (ch, .inl (cI, 4, .inl (upd (upd (upd (upd fc 0 ((sg 0) + (kf 0))) 1 (((sg 0) * (sg 1)) + (kf 1))) 2 ((sg 2) + (kf 2))) 3 ((sg 3) + (kf 3)))))]) hx hb hE hP hD hS 3 2 rfl rfl (Nat.le_of_ble_eq_true rfl) (Nat.le_of_ble_eq_true rfl) dX7_goRun_86 rfl (fun H locs hP hD hS => ?_)
  refine lv_iinc (v := 3) (lv' := [(5, .int 3), (0, .ref mo), (1, .int (kf 0)), (2, .int (kf 1)), (3, .int (kf 2)), (4, .int (kf 3))]) hx hb dX7_goRun_87 hl (k := 0) rfl (by decide) (by decide) rfl (fun ls hl => ?_)
  refine lv_goto (tgt := 67) hx hb dX7_goRun_90 (by decide) ?_
  refine lv_iload hx hb dX7_goRun_67 (lv_at hl 0 rfl) ?_
  refine lv_iconst (v := 4) hx hb dX7_goRun_69 (by decide) ?_
  refine lv_icmp_ge (tgt := 93) hx hb dX7_goRun_70 (by decide) (fun c_70 => absurd c_70 (by decide)) (fun c_70 => ?_)
  refine lv_aload_n hx hb dX7_goRun_73 rfl (lv_at hl 1 rfl) ?_
  refine zk_get X hE sX7_goRun_74 hP 0 rfl rfl ?_
  refine lv_iload hx hb dX7_goRun_77 (lv_at hl 0 rfl) ?_
  refine lv_aload_n hx hb dX7_goRun_79 rfl (lv_at hl 1 rfl) ?_
  refine zk_get X hE sX7_goRun_80 hP 0 rfl rfl ?_
  refine lv_iload hx hb dX7_goRun_83 (lv_at hl 0 rfl) ?_
  refine zk_ald hx hb hE hP 4 3 rfl rfl (Nat.le_of_ble_eq_true rfl) (Nat.le_of_ble_eq_true rfl) dX7_goRun_85 ?_
  refine zk_top (show (upd (upd (upd (upd fc 0 ((sg 0) + (kf 0))) 1 (((sg 0) * (sg 1)) + (kf 1))) 2 ((sg 2) + (kf 2))) 3 ((sg 3) + (kf 3))) 3 = (sg 3) + (kf 3) from rfl) ?_
  refine zk_ast (ws' := [(mo, .inr (7, [.ref st, .ref im, .ref iz, .ref go, .int li, .ref pt, .ref ch, .ref su, .ref kp, .ref hr, .int bf, .int bc, .int bs, .int bt, .int gd])), (st, .inl (cI, 75, .inl sg)), (go, .inl (cI, 160, .inl fg)), (pt, .inl (cI, 4, .inl (upd (upd (upd (upd fp 0 ((sg 0) + (kf 0))) 1 (((sg 0) * (sg 1)) + (kf 1))) 2 ((sg 2) + (kf 2))) 3 ((sg 3) + (kf 3))))), (ch, .inl (cI, 4, .inl (upd (upd (upd (upd fc 0 ((sg 0) + (kf 0))) 1 (((sg 0) * (sg 1)) + (kf 1))) 2 ((sg 2) + (kf 2))) 3 ((sg 3) + (kf 3)))))]) hx hb hE hP hD hS 3 3 rfl rfl (Nat.le_of_ble_eq_true rfl) (Nat.le_of_ble_eq_true rfl) dX7_goRun_86 rfl (fun H locs hP hD hS => ?_)
  refine lv_iinc (v := 4) (lv' := [(5, .int 4), (0, .ref mo), (1, .int (kf 0)), (2, .int (kf 1)), (3, .int (kf 2)), (4, .int (kf 3))]) hx hb dX7_goRun_87 hl (k := 0) rfl (by decide) (by decide) rfl (fun ls hl => ?_)
  refine lv_goto (tgt := 67) hx hb dX7_goRun_90 (by decide) ?_
  refine lv_iload hx hb dX7_goRun_67 (lv_at hl 0 rfl) ?_
  refine lv_iconst (v := 4) hx hb dX7_goRun_69 (by decide) ?_
  refine lv_icmp_ge (tgt := 93) hx hb dX7_goRun_70 (by decide) (fun c_70 => ?_) (fun c_70 => absurd c_70 (by decide))
  refine lv_aload_n hx hb dX7_goRun_93 rfl (lv_at hl 1 rfl) ?_
  refine lv_iconst (v := 0) hx hb dX7_goRun_94 (by decide) ?_
  refine zk_put (ws' := [(mo, .inr (7, [.ref st, .ref im, .ref iz, .ref go, .int 0, .ref pt, .ref ch, .ref su, .ref kp, .ref hr, .int bf, .int bc, .int bs, .int bt, .int gd])), (st, .inl (cI, 75, .inl sg)), (go, .inl (cI, 160, .inl fg)), (pt, .inl (cI, 4, .inl (upd (upd (upd (upd fp 0 ((sg 0) + (kf 0))) 1 (((sg 0) * (sg 1)) + (kf 1))) 2 ((sg 2) + (kf 2))) 3 ((sg 3) + (kf 3))))), (ch, .inl (cI, 4, .inl (upd (upd (upd (upd fc 0 ((sg 0) + (kf 0))) 1 (((sg 0) * (sg 1)) + (kf 1))) 2 ((sg 2) + (kf 2))) 3 ((sg 3) + (kf 3)))))]) X hE sX7_goRun_95 hP hD hS 0 rfl (Nat.le_of_ble_eq_true rfl) rfl (fun H locs hP hD hS => ?_)
  refine lv_iconst (v := 1) hx hb dX7_goRun_98 (by decide) ?_
  refine lv_istore (lv' := [(5, .int 1), (0, .ref mo), (1, .int (kf 0)), (2, .int (kf 1)), (3, .int (kf 2)), (4, .int (kf 3))]) hx hb dX7_goRun_99 hl (by decide) rfl (fun ls hl => ?_)
  refine lv_iload hx hb dX7_goRun_101 (lv_at hl 0 rfl) ?_
  refine lv_if_eq (tgt := 197) hx hb dX7_goRun_103 (by decide) (fun c_103 => absurd c_103 (by decide)) (fun c_103 => ?_)
  have L_106 : ∀ (n : Nat) (i : Nat) (gg : Nat → Int32) (gp : Nat → Int32) (H : Heap) (locs : List Loc) (ls : Array Slot), (i ≤ 40) → (∀ j, j < i → zgo (zpl sg) (zru sg) (zP (zpl sg) (zru sg) (zch sg kf) j)) → (zgn (zpl sg) (zru sg) (zch sg kf) gg i) → (zar gp (zP (zpl sg) (zru sg) (zch sg kf) i) 4) → 40 - i < n → va_P D vwCl [(mo, .inr (7, [.ref st, .ref im, .ref iz, .ref go, .int (nI i), .ref pt, .ref ch, .ref su, .ref kp, .ref hr, .int bf, .int bc, .int bs, .int bt, .int gd])), (st, .inl (cI, 75, .inl sg)), (go, .inl (cI, 160, .inl gg)), (pt, .inl (cI, 4, .inl gp)), (ch, .inl (cI, 4, .inl (upd (upd (upd (upd fc 0 (sg 0 + kf 0)) 1 (sg 0 * sg 1 + kf 1)) 2 (sg 2 + kf 2)) 3 (sg 3 + kf 3))))] H → va_D A [(mo, .inr (7, [.ref st, .ref im, .ref iz, .ref go, .int (nI i), .ref pt, .ref ch, .ref su, .ref kp, .ref hr, .int bf, .int bc, .int bs, .int bt, .int gd])), (st, .inl (cI, 75, .inl sg)), (go, .inl (cI, 160, .inl gg)), (pt, .inl (cI, 4, .inl gp)), (ch, .inl (cI, 4, .inl (upd (upd (upd (upd fc 0 (sg 0 + kf 0)) 1 (sg 0 * sg 1 + kf 1)) 2 (sg 2 + kf 2)) 3 (sg 3 + kf 3))))] → va_S A s.heap H locs → lv_has ls 8 [(0, .ref mo), (1, .int (kf 0)), (2, .int (kf 1)), (3, .int (kf 2)), (4, .int (kf 3)), (5, .int 1)] → W p l e ({ frames := 1, cells := 0, slots := 0, locals := 24 } : Room) s m ([.ref mo, .int (kf 0), .int (kf 1), .int (kf 2), .int (kf 3)] : List Value).toArray below meth c H locs 0 0 Q (F0 m 106 ls []) := by
    intro n
    induction n with
    | zero =>
      intro i gg gp H locs ls hi hgo dg dp hlt hP hD hS hl
      exact absurd hlt (Nat.not_lt_zero _)
    | succ n ih_106 =>
      intro i gg gp H locs ls hi hgo dg dp hlt hP hD hS hl
      have dp0 := dp 0 (by decide)
      have dp1 := dp 1 (by decide)
      refine lv_aload_n hx hb dX7_goRun_106 rfl (lv_at hl 0 rfl) ?_
      refine zk_get X hE sX7_goRun_107 hP 0 rfl rfl ?_
      refine lv_iconst (v := 0) hx hb dX7_goRun_110 (by decide) ?_
      refine zk_ald hx hb hE hP 3 0 rfl rfl (Nat.le_of_ble_eq_true rfl) (Nat.le_of_ble_eq_true rfl) dX7_goRun_111 ?_
      refine lv_iconst (v := 1) hx hb dX7_goRun_112 (by decide) ?_
      refine lv_icmp_le (tgt := 197) hx hb dX7_goRun_113 (by decide) (fun c_113 => ?_) (fun c_113 => ?_)
      · have hxg : ¬ zgo (zpl sg) (zru sg) (zP (zpl sg) (zru sg) (zch sg kf) i) := fun q => q.1 (by rw [← dp0]; exact c_113)
        have hq := hret  (i, gg, gp, upd (upd (upd (upd fc 0 (sg 0 + kf 0)) 1 (sg 0 * sg 1 + kf 1)) 2 (sg 2 + kf 2)) 3 (sg 3 + kf 3)) H locs 197 ls
        dsimp only at hq
        exact hq (by (try dsimp only); first | exact ⟨zN_at hi hgo (Or.inr hxg), dg, dp, zar_4 rfl rfl rfl rfl⟩ | exact ⟨zN_at hi hgo (Or.inl (by omega)), dg, dp, zar_4 rfl rfl rfl rfl⟩) hP hD hS dX7_goRun_197
      · have hp0 : ¬ gp 0 < 0 := zi_nlt (Int32.le_trans (by decide) (Int32.le_of_lt (zi_lt c_113)))
        refine lv_aload_n hx hb dX7_goRun_116 rfl (lv_at hl 0 rfl) ?_
        refine zk_get X hE sX7_goRun_117 hP 0 rfl rfl ?_
        refine lv_bipush (v := 40) hx hb dX7_goRun_120 (by decide) ?_
        refine lv_icmp_ge (tgt := 197) hx hb dX7_goRun_122 (by decide) (fun c_122 => ?_) (fun c_122 => ?_)
        · have e40 : 40 ≤ i := zn_le (a := 40) c_122 (by decide) (by omega)
          have hq := hret  (i, gg, gp, upd (upd (upd (upd fc 0 (sg 0 + kf 0)) 1 (sg 0 * sg 1 + kf 1)) 2 (sg 2 + kf 2)) 3 (sg 3 + kf 3)) H locs 197 ls
          dsimp only at hq
          exact hq (by (try dsimp only); first | exact ⟨zN_at hi hgo (Or.inr hxg), dg, dp, zar_4 rfl rfl rfl rfl⟩ | exact ⟨zN_at hi hgo (Or.inl (by omega)), dg, dp, zar_4 rfl rfl rfl rfl⟩) hP hD hS dX7_goRun_197
        · have h40 : i < 40 := zn_nle (a := 40) c_122 (by omega)
          refine lv_aload_n hx hb dX7_goRun_125 rfl (lv_at hl 0 rfl) ?_
          refine zk_get X hE sX7_goRun_126 hP 0 rfl rfl ?_
          refine lv_iconst (v := 0) hx hb dX7_goRun_129 (by decide) ?_
          refine zk_ald hx hb hE hP 3 0 rfl rfl (Nat.le_of_ble_eq_true rfl) (Nat.le_of_ble_eq_true rfl) dX7_goRun_130 ?_
          refine lv_aload_n hx hb dX7_goRun_131 rfl (lv_at hl 0 rfl) ?_
          refine zk_get X hE sX7_goRun_132 hP 0 rfl rfl ?_
          refine lv_iconst (v := 1) hx hb dX7_goRun_135 (by decide) ?_
          refine zk_ald hx hb hE hP 3 1 rfl rfl (Nat.le_of_ble_eq_true rfl) (Nat.le_of_ble_eq_true rfl) dX7_goRun_136 ?_
          refine zk_cSi (rest := []) X hE hA (c_X7_strengthOf l D cI cZ ts (gp 0) (gp 1) hp0) (cwS 2 hts gX7_goRun_X7_strengthOf rfl rfl rfl hdX7_strengthOf ⟨Nat.le_of_ble_eq_true rfl, Nat.le_of_ble_eq_true rfl⟩) dX7_goRun_137 hP hD hS rfl hl rfl (Nat.le_of_ble_eq_true rfl) ⟨Nat.le_of_ble_eq_true rfl, Nat.le_of_ble_eq_true rfl⟩ (fun r_137 _ H locs hw_137 hP hD hS => ?_)
          obtain rfl : r_137 = (zq (gp 1) (gp 0)) := hw_137
          refine lv_istore (lv' := [(6, .int (zq (gp 1) (gp 0))), (0, .ref mo), (1, .int (kf 0)), (2, .int (kf 1)), (3, .int (kf 2)), (4, .int (kf 3)), (5, .int 1)]) hx hb dX7_goRun_140 hl (by decide) rfl (fun ls hl => ?_)
          refine lv_aload_n hx hb dX7_goRun_142 rfl (lv_at hl 1 rfl) ?_
          refine lv_iload hx hb dX7_goRun_143 (lv_at hl 0 rfl) ?_
          refine lv_sipush (v := 1000) hx hb dX7_goRun_145 (by decide) ?_
          have M_159 : ∀ (v_159 : Int32) (H : Heap) (locs : List Loc), v_159 = (if (zq (gp 1) (gp 0)) ≤ 1000 then zq (gp 1) (gp 0) else 1000) → va_P D vwCl [(mo, .inr (7, [.ref st, .ref im, .ref iz, .ref go, .int (nI i), .ref pt, .ref ch, .ref su, .ref kp, .ref hr, .int bf, .int bc, .int bs, .int bt, .int gd])), (st, .inl (cI, 75, .inl sg)), (go, .inl (cI, 160, .inl gg)), (pt, .inl (cI, 4, .inl gp)), (ch, .inl (cI, 4, .inl (upd (upd (upd (upd fc 0 (sg 0 + kf 0)) 1 (sg 0 * sg 1 + kf 1)) 2 (sg 2 + kf 2)) 3 (sg 3 + kf 3))))] H → va_D A [(mo, .inr (7, [.ref st, .ref im, .ref iz, .ref go, .int (nI i), .ref pt, .ref ch, .ref su, .ref kp, .ref hr, .int bf, .int bc, .int bs, .int bt, .int gd])), (st, .inl (cI, 75, .inl sg)), (go, .inl (cI, 160, .inl gg)), (pt, .inl (cI, 4, .inl gp)), (ch, .inl (cI, 4, .inl (upd (upd (upd (upd fc 0 (sg 0 + kf 0)) 1 (sg 0 * sg 1 + kf 1)) 2 (sg 2 + kf 2)) 3 (sg 3 + kf 3))))] → va_S A s.heap H locs → W p l e ({ frames := 1, cells := 0, slots := 0, locals := 24 } : Room) s m ([.ref mo, .int (kf 0), .int (kf 1), .int (kf 2), .int (kf 3)] : List Value).toArray below meth c H locs 0 0 Q (F0 m 159 ls [.int v_159, .ref mo]) := by
            intro v_159 H locs e_159 hP hD hS
            refine zk_top (show (v_159 : Int32) = nI (zcl (zq (gp 1) (gp 0))) from (e_159.trans (zcl_pos (zq_pos (by rw [dp1]; exact hsp i) hp0)))) ?_
            refine zk_cVi (rest := []) (wr := [(go, .inl (cI, 160, .inl gg)), (pt, .inl (cI, 4, .inl gp)), (ch, .inl (cI, 4, .inl (upd (upd (upd (upd fc 0 (sg 0 + kf 0)) 1 (sg 0 * sg 1 + kf 1)) 2 (sg 2 + kf 2)) 3 (sg 3 + kf 3))))]) X hE hA (c_X7_overOf l D cI cZ ts mo st im iz go pt ch su kp hr (nI i) bf bc bs bt gd sg (zcl (zq (gp 1) (gp 0))) (zcl_le _)) (cwV 1 hts gX7_goRun_X7_overOf rfl rfl rfl hdX7_overOf ⟨Nat.le_of_ble_eq_true rfl, Nat.le_of_ble_eq_true rfl⟩) dX7_goRun_159 hP hD hS [0, 1] [2, 3, 4] ⟨rfl, rfl, trivial⟩ ⟨rfl, rfl, rfl, trivial⟩ (by decide +kernel) (by decide +kernel) (by decide +kernel) 7 rfl rfl rfl hl rfl (Nat.le_of_ble_eq_true rfl) ⟨Nat.le_of_ble_eq_true rfl, Nat.le_of_ble_eq_true rfl⟩ (fun r_159 _ H locs hw_159 hP hD hS => ?_)
            have hP : va_P D vwCl [(go, .inl (cI, 160, .inl gg)), (pt, .inl (cI, 4, .inl gp)), (ch, .inl (cI, 4, .inl (upd (upd (upd (upd fc 0 (sg 0 + kf 0)) 1 (sg 0 * sg 1 + kf 1)) 2 (sg 2 + kf 2)) 3 (sg 3 + kf 3)))), (mo, .inr (7, [.ref st, .ref im, .ref iz, .ref go, .int (nI i), .ref pt, .ref ch, .ref su, .ref kp, .ref hr, .int bf, .int bc, .int bs, .int bt, .int gd])), (st, .inl (cI, 75, .inl sg))] H := hP
            have hD : va_D A [(go, .inl (cI, 160, .inl gg)), (pt, .inl (cI, 4, .inl gp)), (ch, .inl (cI, 4, .inl (upd (upd (upd (upd fc 0 (sg 0 + kf 0)) 1 (sg 0 * sg 1 + kf 1)) 2 (sg 2 + kf 2)) 3 (sg 3 + kf 3)))), (mo, .inr (7, [.ref st, .ref im, .ref iz, .ref go, .int (nI i), .ref pt, .ref ch, .ref su, .ref kp, .ref hr, .int bf, .int bc, .int bs, .int bt, .int gd])), (st, .inl (cI, 75, .inl sg))] := hD
            obtain rfl : r_159 = (zov (zpl sg) (zcl (zq (gp 1) (gp 0)))) := hw_159
            refine zk_top (show (zov (zpl sg) (zcl (zq (gp 1) (gp 0))) : Int32) = zy (zpl sg) (zP (zpl sg) (zru sg) (zch sg kf) i) from (by rw [dp0, dp1]; rfl)) ?_
            refine lv_istore (lv' := [(7, .int (zy (zpl sg) (zP (zpl sg) (zru sg) (zch sg kf) i))), (6, .int (zq (gp 1) (gp 0))), (0, .ref mo), (1, .int (kf 0)), (2, .int (kf 1)), (3, .int (kf 2)), (4, .int (kf 3)), (5, .int 1)]) hx hb dX7_goRun_162 hl (by decide) rfl (fun ls hl => ?_)
            refine lv_iload hx hb dX7_goRun_164 (lv_at hl 0 rfl) ?_
            refine lv_aload_n hx hb dX7_goRun_166 rfl (lv_at hl 2 rfl) ?_
            refine zk_get X hE sX7_goRun_167 hP 3 rfl rfl ?_
            refine lv_bipush (v := 17) hx hb dX7_goRun_170 (by decide) ?_
            refine zk_ald hx hb hE hP 4 17 rfl rfl (Nat.le_of_ble_eq_true rfl) (Nat.le_of_ble_eq_true rfl) dX7_goRun_172 ?_
            refine lv_icmp_lt (tgt := 180) hx hb dX7_goRun_173 (by decide) (fun c_173 => ?_) (fun c_173 => ?_)
            · have hxg : ¬ zgo (zpl sg) (zru sg) (zP (zpl sg) (zru sg) (zch sg kf) i) := fun q => zi_nle c_173 q.2
              refine lv_iconst (v := 0) hx hb dX7_goRun_180 (by decide) ?_
              refine lv_istore (lv' := [(5, .int 0), (7, .int (zy (zpl sg) (zP (zpl sg) (zru sg) (zch sg kf) i))), (6, .int (zq (gp 1) (gp 0))), (0, .ref mo), (1, .int (kf 0)), (2, .int (kf 1)), (3, .int (kf 2)), (4, .int (kf 3))]) hx hb dX7_goRun_181 hl (by decide) rfl (fun ls hl => ?_)
              refine lv_iload hx hb dX7_goRun_183 (lv_at hl 0 rfl) ?_
              refine lv_if_eq (tgt := 194) hx hb dX7_goRun_185 (by decide) (fun c_185 => ?_) (fun c_185 => absurd c_185 (by decide))
              refine lv_goto (tgt := 101) hx hb dX7_goRun_194 (by decide) ?_
              refine lv_iload hx hb dX7_goRun_101 (lv_at hl 0 rfl) ?_
              refine lv_if_eq (tgt := 197) hx hb dX7_goRun_103 (by decide) (fun c_103 => ?_) (fun c_103 => absurd c_103 (by decide))
              have hq := hret  (i, gg, gp, upd (upd (upd (upd fc 0 (sg 0 + kf 0)) 1 (sg 0 * sg 1 + kf 1)) 2 (sg 2 + kf 2)) 3 (sg 3 + kf 3)) H locs 197 ls
              dsimp only at hq
              exact hq (by (try dsimp only); first | exact ⟨zN_at hi hgo (Or.inr hxg), dg, dp, zar_4 rfl rfl rfl rfl⟩ | exact ⟨zN_at hi hgo (Or.inl (by omega)), dg, dp, zar_4 rfl rfl rfl rfl⟩) (zk_subP hP [3, 4, 0, 1, 2] ⟨rfl, rfl, rfl, rfl, rfl, trivial⟩) (zk_subD hD [3, 4, 0, 1, 2] (by decide +kernel) ⟨rfl, rfl, rfl, rfl, rfl, trivial⟩) hS dX7_goRun_197
            · refine lv_iconst (v := 1) hx hb dX7_goRun_176 (by decide) ?_
              refine lv_goto (tgt := 181) hx hb dX7_goRun_177 (by decide) ?_
              refine lv_istore (lv' := [(5, .int 1), (7, .int (zy (zpl sg) (zP (zpl sg) (zru sg) (zch sg kf) i))), (6, .int (zq (gp 1) (gp 0))), (0, .ref mo), (1, .int (kf 0)), (2, .int (kf 1)), (3, .int (kf 2)), (4, .int (kf 3))]) hx hb dX7_goRun_181 hl (by decide) rfl (fun ls hl => ?_)
              refine lv_iload hx hb dX7_goRun_183 (lv_at hl 0 rfl) ?_
              refine lv_if_eq (tgt := 194) hx hb dX7_goRun_185 (by decide) (fun c_185 => absurd c_185 (by decide)) (fun c_185 => ?_)
              refine lv_aload_n hx hb dX7_goRun_188 rfl (lv_at hl 3 rfl) ?_
              refine lv_iload hx hb dX7_goRun_189 (lv_at hl 1 rfl) ?_
              refine zk_cVv (rest := []) (wr := [(ch, .inl (cI, 4, .inl (upd (upd (upd (upd fc 0 (sg 0 + kf 0)) 1 (sg 0 * sg 1 + kf 1)) 2 (sg 2 + kf 2)) 3 (sg 3 + kf 3))))]) X hE hA (c_X7_goOver l D cI cZ ts mo st im iz go pt ch su kp hr bf bc bs bt gd sg gg gp i (zy (zpl sg) (zP (zpl sg) (zru sg) (zch sg kf) i)) (by first | assumption | omega) (by first | assumption | omega)) (cwV 1 hts gX7_goRun_X7_goOver rfl rfl rfl hdX7_goOver ⟨Nat.le_of_ble_eq_true rfl, Nat.le_of_ble_eq_true rfl⟩) dX7_goRun_191 hP hD hS [3, 4, 0, 1] [2] ⟨rfl, rfl, rfl, rfl, trivial⟩ ⟨rfl, trivial⟩ (by decide +kernel) (by decide +kernel) (by decide +kernel) 7 rfl rfl rfl hl rfl (Nat.le_of_ble_eq_true rfl) ⟨Nat.le_of_ble_eq_true rfl, Nat.le_of_ble_eq_true rfl⟩ (fun _ H locs hw_191 hP hD hS => ?_)
              have hP : va_P D vwCl [(ch, .inl (cI, 4, .inl (upd (upd (upd (upd fc 0 (sg 0 + kf 0)) 1 (sg 0 * sg 1 + kf 1)) 2 (sg 2 + kf 2)) 3 (sg 3 + kf 3)))), (mo, .inr (7, [.ref st, .ref im, .ref iz, .ref go, .int (nI (i + 1)), .ref pt, .ref ch, .ref su, .ref kp, .ref hr, .int bf, .int bc, .int bs, .int bt, .int gd])), (st, .inl (cI, 75, .inl sg)), (go, .inl (cI, 160, .inl (upd (upd (upd (upd gg (4 * i) (zy (zpl sg) (zP (zpl sg) (zru sg) (zch sg kf) i))) ((4 * i) + 1) (zl1 (zy (zpl sg) (zP (zpl sg) (zru sg) (zch sg kf) i)) (gp 1))) ((4 * i) + 2) (zl2 (gp 2) (sg 18))) ((4 * i) + 3) (((gp 3) * (1000 - (zy (zpl sg) (zP (zpl sg) (zru sg) (zch sg kf) i)))) / (1000 * (sg 19)))))), (pt, .inl (cI, 4, .inl (upd (upd (upd (upd gp 0 ((gp 0) - 1)) 1 ((gp 1) - (zl1 (zy (zpl sg) (zP (zpl sg) (zru sg) (zch sg kf) i)) (gp 1)))) 2 ((gp 2) - (zl2 (gp 2) (sg 18)))) 3 ((gp 3) - (((gp 3) * (1000 - (zy (zpl sg) (zP (zpl sg) (zru sg) (zch sg kf) i)))) / (1000 * (sg 19)))))))] H := hP
              have hD : va_D A [(ch, .inl (cI, 4, .inl (upd (upd (upd (upd fc 0 (sg 0 + kf 0)) 1 (sg 0 * sg 1 + kf 1)) 2 (sg 2 + kf 2)) 3 (sg 3 + kf 3)))), (mo, .inr (7, [.ref st, .ref im, .ref iz, .ref go, .int (nI (i + 1)), .ref pt, .ref ch, .ref su, .ref kp, .ref hr, .int bf, .int bc, .int bs, .int bt, .int gd])), (st, .inl (cI, 75, .inl sg)), (go, .inl (cI, 160, .inl (upd (upd (upd (upd gg (4 * i) (zy (zpl sg) (zP (zpl sg) (zru sg) (zch sg kf) i))) ((4 * i) + 1) (zl1 (zy (zpl sg) (zP (zpl sg) (zru sg) (zch sg kf) i)) (gp 1))) ((4 * i) + 2) (zl2 (gp 2) (sg 18))) ((4 * i) + 3) (((gp 3) * (1000 - (zy (zpl sg) (zP (zpl sg) (zru sg) (zch sg kf) i)))) / (1000 * (sg 19)))))), (pt, .inl (cI, 4, .inl (upd (upd (upd (upd gp 0 ((gp 0) - 1)) 1 ((gp 1) - (zl1 (zy (zpl sg) (zP (zpl sg) (zru sg) (zch sg kf) i)) (gp 1)))) 2 ((gp 2) - (zl2 (gp 2) (sg 18)))) 3 ((gp 3) - (((gp 3) * (1000 - (zy (zpl sg) (zP (zpl sg) (zru sg) (zch sg kf) i)))) / (1000 * (sg 19)))))))] := hD
              refine lv_goto (tgt := 101) hx hb dX7_goRun_194 (by decide) ?_
              refine lv_iload hx hb dX7_goRun_101 (lv_at hl 0 rfl) ?_
              refine lv_if_eq (tgt := 197) hx hb dX7_goRun_103 (by decide) (fun c_103 => absurd c_103 (by decide)) (fun c_103 => ?_)
              exact ih_106 (i + 1) (upd (upd (upd (upd gg (4 * i) (zy (zpl sg) (zP (zpl sg) (zru sg) (zch sg kf) i))) ((4 * i) + 1) (zl1 (zy (zpl sg) (zP (zpl sg) (zru sg) (zch sg kf) i)) (gp 1))) ((4 * i) + 2) (zl2 (gp 2) (sg 18))) ((4 * i) + 3) (((gp 3) * (1000 - (zy (zpl sg) (zP (zpl sg) (zru sg) (zch sg kf) i)))) / (1000 * (sg 19)))) (upd (upd (upd (upd gp 0 ((gp 0) - 1)) 1 ((gp 1) - (zl1 (zy (zpl sg) (zP (zpl sg) (zru sg) (zch sg kf) i)) (gp 1)))) 2 ((gp 2) - (zl2 (gp 2) (sg 18)))) 3 ((gp 3) - (((gp 3) * (1000 - (zy (zpl sg) (zP (zpl sg) (zru sg) (zch sg kf) i)))) / (1000 * (sg 19))))) H locs ls (by omega) (lt_s hgo ⟨fun q => c_113 (by rw [dp0]; exact q), zi_le c_173⟩) (zgn_s dg rfl (by rw [dp1]; rfl) (by rw [dp 2 (by decide)]; rfl) (by rw [← zl3_eq hsl, dp 3 (by decide)]; rfl)) (zar_pot (ru := zru sg) dp rfl (zl3_eq hsl)) (by omega) (zk_subP hP [1, 2, 3, 4, 0] ⟨rfl, rfl, rfl, rfl, rfl, trivial⟩) (zk_subD hD [1, 2, 3, 4, 0] (by decide +kernel) ⟨rfl, rfl, rfl, rfl, rfl, trivial⟩) hS (lv_sub hl [3, 4, 5, 6, 7, 0] rfl)
          refine lv_icmp_le (tgt := 157) hx hb dX7_goRun_148 (by decide) (fun c_148 => ?_) (fun c_148 => ?_)
          · refine lv_iload hx hb dX7_goRun_157 (lv_at hl 0 rfl) ?_
            exact M_159 _ H locs (if_pos c_148).symm hP hD hS
          · refine lv_sipush (v := 1000) hx hb dX7_goRun_151 (by decide) ?_
            refine lv_goto (tgt := 159) hx hb dX7_goRun_154 (by decide) ?_
            exact M_159 _ H locs (if_neg c_148).symm hP hD hS
  exact L_106 _ 0 fg (upd (upd (upd (upd fp 0 ((sg 0) + (kf 0))) 1 (((sg 0) * (sg 1)) + (kf 1))) 2 ((sg 2) + (kf 2))) 3 ((sg 3) + (kf 3))) H locs ls (Nat.zero_le _) (fun j h => absurd h (Nat.not_lt_zero _)) (fun j h => absurd h (Nat.not_lt_zero _)) (zar_4 rfl rfl rfl rfl) (Nat.lt_succ_self _) hP hD hS (lv_sub hl [1, 2, 3, 4, 5, 0] rfl)
set_option maxHeartbeats 4000000 in
set_option maxRecDepth 100000 in
theorem c_X7_goNext (l : Launch) (D : va_G) (cI cZ : ClassId) (ts : Nat → Nat) (mo : Nat) (st : Nat) (im : Nat) (iz : Nat) (go : Nat) (pt : Nat) (ch : Nat) (su : Nat) (kp : Nat) (hr : Nat) (li : Int32) (bf : Int32) (bc : Int32) (bs : Int32) (bt : Int32) (gd : Int32) (sg : Nat → Int32) (fg : Nat → Int32) (fp : Nat → Int32) (fc : Nat → Int32) (hsl : 1 ≤ sg 19 ∧ sg 19 ≤ 99) (hsp : ∀ i, ¬ zP (zpl sg) (zru sg) (zch sg (zkk sg)) i 1 < 0) : zk_Mv l yX7_goNext wsX7_goNext ({ frames := 2, cells := 0, slots := 0, locals := 51 } : Room) D cI cZ ts [.ref mo] [(mo, .inr (7, [.ref st, .ref im, .ref iz, .ref go, .int li, .ref pt, .ref ch, .ref su, .ref kp, .ref hr, .int bf, .int bc, .int bs, .int bt, .int gd])), (st, .inl (cI, 75, .inl sg)), (go, .inl (cI, 160, .inl fg)), (pt, .inl (cI, 4, .inl fp)), (ch, .inl (cI, 4, .inl fc))] (fun (u : Nat × (Nat → Int32) × (Nat → Int32) × (Nat → Int32)) => u.1 = zN (zpl sg) (zru sg) (zch sg (zkk sg)) ∧ zgn (zpl sg) (zru sg) (zch sg (zkk sg)) u.2.1 u.1 ∧ zar u.2.2.1 (zP (zpl sg) (zru sg) (zch sg (zkk sg)) u.1) 4 ∧ zar u.2.2.2 (zch sg (zkk sg)) 4) (fun (u : Nat × (Nat → Int32) × (Nat → Int32) × (Nat → Int32)) => [(mo, .inr (7, [.ref st, .ref im, .ref iz, .ref go, .int (nI u.1), .ref pt, .ref ch, .ref su, .ref kp, .ref hr, .int bf, .int bc, .int bs, .int bt, .int gd])), (st, .inl (cI, 75, .inl sg)), (go, .inl (cI, 160, .inl u.2.1)), (pt, .inl (cI, 4, .inl u.2.2.1)), (ch, .inl (cI, 4, .inl u.2.2.2))]) 0 0 := by
  refine zk_Mv.of (cc := cX7_goNext) (maxL := 1) RX7 (by decide) rfl (Nat.le_of_ble_eq_true rfl) rfl ?_
  intro p e s m below meth c A Q H locs ls X hE hA hin hP hD hS hret hl
  obtain ⟨hx, hb, hml, hown, hts⟩ := id X
  have hl : lv_has ls 1 [(0, .ref mo)] := hl
  refine lv_aload_n hx hb dX7_goNext_0 rfl (lv_at hl 0 rfl) ?_
  refine lv_aload_n hx hb dX7_goNext_1 rfl (lv_at hl 0 rfl) ?_
  refine zk_get X hE sX7_goNext_2 hP 0 rfl rfl ?_
  refine lv_bipush (v := 21) hx hb dX7_goNext_5 (by decide) ?_
  refine zk_ald hx hb hE hP 1 21 rfl rfl (Nat.le_of_ble_eq_true rfl) (Nat.le_of_ble_eq_true rfl) dX7_goNext_7 ?_
  refine lv_aload_n hx hb dX7_goNext_8 rfl (lv_at hl 0 rfl) ?_
  refine zk_get X hE sX7_goNext_9 hP 0 rfl rfl ?_
  refine lv_bipush (v := 22) hx hb dX7_goNext_12 (by decide) ?_
  refine zk_ald hx hb hE hP 1 22 rfl rfl (Nat.le_of_ble_eq_true rfl) (Nat.le_of_ble_eq_true rfl) dX7_goNext_14 ?_
  refine lv_aload_n hx hb dX7_goNext_15 rfl (lv_at hl 0 rfl) ?_
  refine zk_get X hE sX7_goNext_16 hP 0 rfl rfl ?_
  refine lv_bipush (v := 23) hx hb dX7_goNext_19 (by decide) ?_
  refine zk_ald hx hb hE hP 1 23 rfl rfl (Nat.le_of_ble_eq_true rfl) (Nat.le_of_ble_eq_true rfl) dX7_goNext_21 ?_
  refine lv_aload_n hx hb dX7_goNext_22 rfl (lv_at hl 0 rfl) ?_
  refine zk_get X hE sX7_goNext_23 hP 0 rfl rfl ?_
  refine lv_bipush (v := 24) hx hb dX7_goNext_26 (by decide) ?_
  refine zk_ald hx hb hE hP 1 24 rfl rfl (Nat.le_of_ble_eq_true rfl) (Nat.le_of_ble_eq_true rfl) dX7_goNext_28 ?_
  refine zk_cVv (rest := []) (wr := []) X hE hA (c_X7_goRun l D cI cZ ts mo st im iz go pt ch su kp hr li bf bc bs bt gd sg fg fp fc (zkk sg) (by first | assumption | omega) (by first | assumption | omega)) (cwV 4 hts gX7_goNext_X7_goRun rfl rfl rfl hdX7_goRun ⟨Nat.le_of_ble_eq_true rfl, Nat.le_of_ble_eq_true rfl⟩) dX7_goNext_29 hP hD hS [0, 1, 2, 3, 4] [] ⟨rfl, rfl, rfl, rfl, rfl, trivial⟩ trivial (by decide +kernel) (by decide +kernel) (by decide +kernel) 7 rfl rfl rfl hl rfl (Nat.le_of_ble_eq_true rfl) ⟨Nat.le_of_ble_eq_true rfl, Nat.le_of_ble_eq_true rfl⟩ (fun u_29 H locs hw_29 hP hD hS => ?_)
  obtain ⟨nn_1, gg_2, gp_3, gc_4⟩ := u_29
  have hP : va_P D vwCl [(mo, .inr (7, [.ref st, .ref im, .ref iz, .ref go, .int (nI nn_1), .ref pt, .ref ch, .ref su, .ref kp, .ref hr, .int bf, .int bc, .int bs, .int bt, .int gd])), (st, .inl (cI, 75, .inl sg)), (go, .inl (cI, 160, .inl gg_2)), (pt, .inl (cI, 4, .inl gp_3)), (ch, .inl (cI, 4, .inl gc_4))] H := hP
  have hD : va_D A [(mo, .inr (7, [.ref st, .ref im, .ref iz, .ref go, .int (nI nn_1), .ref pt, .ref ch, .ref su, .ref kp, .ref hr, .int bf, .int bc, .int bs, .int bt, .int gd])), (st, .inl (cI, 75, .inl sg)), (go, .inl (cI, 160, .inl gg_2)), (pt, .inl (cI, 4, .inl gp_3)), (ch, .inl (cI, 4, .inl gc_4))] := hD
  obtain ⟨rfl, hw_29⟩ : nn_1 = (zN (zpl sg) (zru sg) (zch sg (zkk sg))) ∧ zgn (zpl sg) (zru sg) (zch sg (zkk sg)) gg_2 nn_1 ∧ zar gp_3 (zP (zpl sg) (zru sg) (zch sg (zkk sg)) nn_1) 4 ∧ zar gc_4 (zch sg (zkk sg)) 4 := hw_29
  have hq := hret  (zN (zpl sg) (zru sg) (zch sg (zkk sg)), gg_2, gp_3, gc_4) H locs 32 ls
  dsimp only at hq
  exact hq (⟨rfl, hw_29⟩) hP hD hS dX7_goNext_32
set_option maxHeartbeats 4000000 in
set_option maxRecDepth 100000 in
theorem c_X7_tailsFrom (l : Launch) (D : va_G) (cI cZ : ClassId) (ts : Nat → Nat) (mo : Nat) (st : Nat) (im : Nat) (iz : Nat) (go : Nat) (pt : Nat) (ch : Nat) (su : Nat) (kp : Nat) (hr : Nat) (bf : Int32) (bc : Int32) (bs : Int32) (bt : Int32) (gd : Int32) (fg : Nat → Int32) (k : Nat) (fo : Nat) (cu : Int32) (hk : k ≤ 40) (hfo : fo < 2 ^ 31) : zk_Mi l yX7_tailsFrom wsX7_tailsFrom ({ frames := 0, cells := 0, slots := 0, locals := 0 } : Room) D cI cZ ts [.ref mo, .int (nI fo), .int cu] [(mo, .inr (7, [.ref st, .ref im, .ref iz, .ref go, .int (nI k), .ref pt, .ref ch, .ref su, .ref kp, .ref hr, .int bf, .int bc, .int bs, .int bt, .int gd])), (go, .inl (cI, 160, .inl fg))] (fun (r : Int32) (_ : Unit) => r = (nI (max fo (zT (fun j => fg (4 * j)) k fo cu)))) (fun (_ : Unit) => [(mo, .inr (7, [.ref st, .ref im, .ref iz, .ref go, .int (nI k), .ref pt, .ref ch, .ref su, .ref kp, .ref hr, .int bf, .int bc, .int bs, .int bt, .int gd])), (go, .inl (cI, 160, .inl fg))]) 0 0 := by
  refine zk_Mi.of (cc := cX7_tailsFrom) (maxL := 4) RX7 (by decide) rfl (Nat.le_of_ble_eq_true rfl) rfl ?_
  intro p e s m below meth c A Q H locs ls X hE hA hP hD hS hret hl
  obtain ⟨hx, hb, hml, hown, hts⟩ := id X
  have hl : lv_has ls 4 [(0, .ref mo), (1, .int (nI fo)), (2, .int cu)] := hl
  refine lv_iload_n hx hb dX7_tailsFrom_0 rfl (lv_at hl 1 rfl) ?_
  refine lv_istore_n (lv' := [(3, .int (nI fo)), (0, .ref mo), (1, .int (nI fo)), (2, .int cu)]) hx hb dX7_tailsFrom_1 rfl hl (by decide) rfl (fun ls hl => ?_)
  have L_2 : ∀ (n : Nat) (i : Nat) (H : Heap) (locs : List Loc) (ls : Array Slot), (fo ≤ i) → (i ≤ k ∨ i = fo) → (∀ j, fo ≤ j → j < i → ¬ fg (4 * j) < cu) → k - i < n → va_P D vwCl [(mo, .inr (7, [.ref st, .ref im, .ref iz, .ref go, .int (nI k), .ref pt, .ref ch, .ref su, .ref kp, .ref hr, .int bf, .int bc, .int bs, .int bt, .int gd])), (go, .inl (cI, 160, .inl fg))] H → va_D A [(mo, .inr (7, [.ref st, .ref im, .ref iz, .ref go, .int (nI k), .ref pt, .ref ch, .ref su, .ref kp, .ref hr, .int bf, .int bc, .int bs, .int bt, .int gd])), (go, .inl (cI, 160, .inl fg))] → va_S A s.heap H locs → lv_has ls 4 [(0, .ref mo), (1, .int (nI fo)), (2, .int cu), (3, .int (nI i))] → W p l e ({ frames := 0, cells := 0, slots := 0, locals := 0 } : Room) s m ([.ref mo, .int (nI fo), .int cu] : List Value).toArray below meth c H locs 0 0 Q (F0 m 2 ls []) := by
    intro n
    induction n with
    | zero =>
      intro i H locs ls h1 h2 hg hlt hP hD hS hl
      exact absurd hlt (Nat.not_lt_zero _)
    | succ n ih_2 =>
      intro i H locs ls h1 h2 hg hlt hP hD hS hl
      refine lv_iload_n hx hb dX7_tailsFrom_2 rfl (lv_at hl 3 rfl) ?_
      refine lv_aload_n hx hb dX7_tailsFrom_3 rfl (lv_at hl 0 rfl) ?_
      refine zk_get X hE sX7_tailsFrom_4 hP 0 rfl rfl ?_
      refine lv_icmp_ge (tgt := 28) hx hb dX7_tailsFrom_7 (by decide) (fun c_7 => ?_) (fun c_7 => ?_)
      · have hge := zn_le c_7 (by omega) (by omega)
        have ei : i = max fo (zT (fun j => fg (4 * j)) k fo cu) := zTr_at h1 h2 hg (Or.inl hge)
        refine lv_iload_n hx hb dX7_tailsFrom_28 rfl (lv_at hl 3 rfl) ?_
        exact hret (nI i) () H locs 29 ls (congrArg nI ei) hP hD hS dX7_tailsFrom_29
      · have hik : i < k := zn_nle c_7 (by omega)
        refine lv_aload_n hx hb dX7_tailsFrom_10 rfl (lv_at hl 0 rfl) ?_
        refine zk_get X hE sX7_tailsFrom_11 hP 0 rfl rfl ?_
        refine lv_iconst (v := 4) hx hb dX7_tailsFrom_14 (by decide) ?_
        refine lv_iload_n hx hb dX7_tailsFrom_15 rfl (lv_at hl 3 rfl) ?_
        refine lv_imul hx hb dX7_tailsFrom_16 ?_
        refine zk_top (show (4 * (nI i) : Int32) = nI (4 * i) from pk_mul 4 i) ?_
        refine zk_ald hx hb hE hP 1 (4 * i) rfl rfl (by omega) (Nat.le_of_ble_eq_true rfl) dX7_tailsFrom_17 ?_
        refine lv_iload_n hx hb dX7_tailsFrom_18 rfl (lv_at hl 2 rfl) ?_
        refine lv_icmp_lt (tgt := 28) hx hb dX7_tailsFrom_19 (by decide) (fun c_19 => ?_) (fun c_19 => ?_)
        · have ei : i = max fo (zT (fun j => fg (4 * j)) k fo cu) := zTr_at h1 h2 hg (Or.inr c_19)
          refine lv_iload_n hx hb dX7_tailsFrom_28 rfl (lv_at hl 3 rfl) ?_
          exact hret (nI i) () H locs 29 ls (congrArg nI ei) hP hD hS dX7_tailsFrom_29
        · refine lv_iinc (v := nI (i + 1)) (lv' := [(3, .int (nI (i + 1))), (0, .ref mo), (1, .int (nI fo)), (2, .int cu)]) hx hb dX7_tailsFrom_22 hl (k := 3) rfl (zk_inc i) (by decide) rfl (fun ls hl => ?_)
          refine lv_goto (tgt := 2) hx hb dX7_tailsFrom_25 (by decide) ?_
          exact ih_2 (i + 1) H locs ls (by omega) (Or.inl (by omega)) (fun j a b => if e : j = i then e ▸ c_19 else hg j a (by omega)) (by omega) hP hD hS (lv_sub hl [1, 2, 3, 0] rfl)
  exact L_2 _ fo H locs ls (Nat.le_refl _) (Or.inr rfl) (fun j a b => absurd b (by omega)) (Nat.lt_succ_self _) hP hD hS (lv_sub hl [1, 2, 3, 0] rfl)
set_option maxHeartbeats 4000000 in
set_option maxRecDepth 100000 in
theorem c_X7_beginSum (l : Launch) (D : va_G) (cI cZ : ClassId) (ts : Nat → Nat) (mo : Nat) (st : Nat) (im : Nat) (iz : Nat) (go : Nat) (pt : Nat) (ch : Nat) (su : Nat) (kp : Nat) (hr : Nat) (li : Int32) (bf : Int32) (bc : Int32) (bs : Int32) (bt : Int32) (gd : Int32) (fs : Nat → Int32)  : zk_Mv l yX7_beginSum wsX7_beginSum ({ frames := 0, cells := 0, slots := 0, locals := 0 } : Room) D cI cZ ts [.ref mo] [(mo, .inr (7, [.ref st, .ref im, .ref iz, .ref go, .int li, .ref pt, .ref ch, .ref su, .ref kp, .ref hr, .int bf, .int bc, .int bs, .int bt, .int gd])), (su, .inl (cI, 4, .inl fs))] (fun (_ : Unit) => True) (fun (_ : Unit) => [(mo, .inr (7, [.ref st, .ref im, .ref iz, .ref go, .int li, .ref pt, .ref ch, .ref su, .ref kp, .ref hr, .int bf, .int bc, .int bs, .int bt, .int gd])), (su, .inl (cI, 4, .inl (upd (upd (upd (upd fs 0 0) 1 0) 2 0) 3 0)))]) 0 0 := by
  refine zk_Mv.of (cc := cX7_beginSum) (maxL := 2) RX7 (by decide) rfl (Nat.le_of_ble_eq_true rfl) rfl ?_
  intro p e s m below meth c A Q H locs ls X hE hA hin hP hD hS hret hl
  obtain ⟨hx, hb, hml, hown, hts⟩ := id X
  have hl : lv_has ls 2 [(0, .ref mo)] := hl
  refine lv_iconst (v := 0) hx hb dX7_beginSum_0 (by decide) ?_
  refine lv_istore_n (lv' := [(1, .int 0), (0, .ref mo)]) hx hb dX7_beginSum_1 rfl hl (by decide) rfl (fun ls hl => ?_)
  refine lv_iload_n hx hb dX7_beginSum_2 rfl (lv_at hl 0 rfl) ?_
  refine lv_iconst (v := 4) hx hb dX7_beginSum_3 (by decide) ?_
  refine lv_icmp_ge (tgt := 20) hx hb dX7_beginSum_4 (by decide) (fun c_4 => absurd c_4 (by decide)) (fun c_4 => ?_)
  refine lv_aload_n hx hb dX7_beginSum_7 rfl (lv_at hl 1 rfl) ?_
  refine zk_get X hE sX7_beginSum_8 hP 0 rfl rfl ?_
  refine lv_iload_n hx hb dX7_beginSum_11 rfl (lv_at hl 0 rfl) ?_
  refine lv_iconst (v := 0) hx hb dX7_beginSum_12 (by decide) ?_
  refine zk_ast (ws' := [(mo, .inr (7, [.ref st, .ref im, .ref iz, .ref go, .int li, .ref pt, .ref ch, .ref su, .ref kp, .ref hr, .int bf, .int bc, .int bs, .int bt, .int gd])), (su, .inl (cI, 4, .inl (upd fs 0 0)))]) hx hb hE hP hD hS 1 0 rfl rfl (Nat.le_of_ble_eq_true rfl) (Nat.le_of_ble_eq_true rfl) dX7_beginSum_13 rfl (fun H locs hP hD hS => ?_)
  refine lv_iinc (v := 1) (lv' := [(1, .int 1), (0, .ref mo)]) hx hb dX7_beginSum_14 hl (k := 0) rfl (by decide) (by decide) rfl (fun ls hl => ?_)
  refine lv_goto (tgt := 2) hx hb dX7_beginSum_17 (by decide) ?_
  refine lv_iload_n hx hb dX7_beginSum_2 rfl (lv_at hl 0 rfl) ?_
  refine lv_iconst (v := 4) hx hb dX7_beginSum_3 (by decide) ?_
  refine lv_icmp_ge (tgt := 20) hx hb dX7_beginSum_4 (by decide) (fun c_4 => absurd c_4 (by decide)) (fun c_4 => ?_)
  refine lv_aload_n hx hb dX7_beginSum_7 rfl (lv_at hl 1 rfl) ?_
  refine zk_get X hE sX7_beginSum_8 hP 0 rfl rfl ?_
  refine lv_iload_n hx hb dX7_beginSum_11 rfl (lv_at hl 0 rfl) ?_
  refine lv_iconst (v := 0) hx hb dX7_beginSum_12 (by decide) ?_
  refine zk_ast (ws' := [(mo, .inr (7, [.ref st, .ref im, .ref iz, .ref go, .int li, .ref pt, .ref ch, .ref su, .ref kp, .ref hr, .int bf, .int bc, .int bs, .int bt, .int gd])), (su, .inl (cI, 4, .inl (upd (upd fs 0 0) 1 0)))]) hx hb hE hP hD hS 1 1 rfl rfl (Nat.le_of_ble_eq_true rfl) (Nat.le_of_ble_eq_true rfl) dX7_beginSum_13 rfl (fun H locs hP hD hS => ?_)
  refine lv_iinc (v := 2) (lv' := [(1, .int 2), (0, .ref mo)]) hx hb dX7_beginSum_14 hl (k := 0) rfl (by decide) (by decide) rfl (fun ls hl => ?_)
  refine lv_goto (tgt := 2) hx hb dX7_beginSum_17 (by decide) ?_
  refine lv_iload_n hx hb dX7_beginSum_2 rfl (lv_at hl 0 rfl) ?_
  refine lv_iconst (v := 4) hx hb dX7_beginSum_3 (by decide) ?_
  refine lv_icmp_ge (tgt := 20) hx hb dX7_beginSum_4 (by decide) (fun c_4 => absurd c_4 (by decide)) (fun c_4 => ?_)
  refine lv_aload_n hx hb dX7_beginSum_7 rfl (lv_at hl 1 rfl) ?_
  refine zk_get X hE sX7_beginSum_8 hP 0 rfl rfl ?_
  refine lv_iload_n hx hb dX7_beginSum_11 rfl (lv_at hl 0 rfl) ?_
  refine lv_iconst (v := 0) hx hb dX7_beginSum_12 (by decide) ?_
  refine zk_ast (ws' := [(mo, .inr (7, [.ref st, .ref im, .ref iz, .ref go, .int li, .ref pt, .ref ch, .ref su, .ref kp, .ref hr, .int bf, .int bc, .int bs, .int bt, .int gd])), (su, .inl (cI, 4, .inl (upd (upd (upd fs 0 0) 1 0) 2 0)))]) hx hb hE hP hD hS 1 2 rfl rfl (Nat.le_of_ble_eq_true rfl) (Nat.le_of_ble_eq_true rfl) dX7_beginSum_13 rfl (fun H locs hP hD hS => ?_)
  refine lv_iinc (v := 3) (lv' := [(1, .int 3), (0, .ref mo)]) hx hb dX7_beginSum_14 hl (k := 0) rfl (by decide) (by decide) rfl (fun ls hl => ?_)
  refine lv_goto (tgt := 2) hx hb dX7_beginSum_17 (by decide) ?_
  refine lv_iload_n hx hb dX7_beginSum_2 rfl (lv_at hl 0 rfl) ?_
  refine lv_iconst (v := 4) hx hb dX7_beginSum_3 (by decide) ?_
  refine lv_icmp_ge (tgt := 20) hx hb dX7_beginSum_4 (by decide) (fun c_4 => absurd c_4 (by decide)) (fun c_4 => ?_)
  refine lv_aload_n hx hb dX7_beginSum_7 rfl (lv_at hl 1 rfl) ?_
  refine zk_get X hE sX7_beginSum_8 hP 0 rfl rfl ?_
  refine lv_iload_n hx hb dX7_beginSum_11 rfl (lv_at hl 0 rfl) ?_
  refine lv_iconst (v := 0) hx hb dX7_beginSum_12 (by decide) ?_
  refine zk_ast (ws' := [(mo, .inr (7, [.ref st, .ref im, .ref iz, .ref go, .int li, .ref pt, .ref ch, .ref su, .ref kp, .ref hr, .int bf, .int bc, .int bs, .int bt, .int gd])), (su, .inl (cI, 4, .inl (upd (upd (upd (upd fs 0 0) 1 0) 2 0) 3 0)))]) hx hb hE hP hD hS 1 3 rfl rfl (Nat.le_of_ble_eq_true rfl) (Nat.le_of_ble_eq_true rfl) dX7_beginSum_13 rfl (fun H locs hP hD hS => ?_)
  refine lv_iinc (v := 4) (lv' := [(1, .int 4), (0, .ref mo)]) hx hb dX7_beginSum_14 hl (k := 0) rfl (by decide) (by decide) rfl (fun ls hl => ?_)
  refine lv_goto (tgt := 2) hx hb dX7_beginSum_17 (by decide) ?_
  refine lv_iload_n hx hb dX7_beginSum_2 rfl (lv_at hl 0 rfl) ?_
  refine lv_iconst (v := 4) hx hb dX7_beginSum_3 (by decide) ?_
  refine lv_icmp_ge (tgt := 20) hx hb dX7_beginSum_4 (by decide) (fun c_4 => ?_) (fun c_4 => absurd c_4 (by decide))
  exact hret  () H locs 20 ls trivial hP hD hS dX7_beginSum_20
set_option maxHeartbeats 4000000 in
set_option maxRecDepth 100000 in
theorem c_X7_addLitres (l : Launch) (D : va_G) (cI cZ : ClassId) (ts : Nat → Nat) (mo : Nat) (st : Nat) (im : Nat) (iz : Nat) (go : Nat) (pt : Nat) (ch : Nat) (su : Nat) (kp : Nat) (hr : Nat) (bf : Int32) (bc : Int32) (bs : Int32) (bt : Int32) (gd : Int32) (fg : Nat → Int32) (fs : Nat → Int32) (k : Nat) (aa : Nat) (bb : Nat) (hk : k ≤ 40) (haa : aa < 2 ^ 31) (hbb : bb < 2 ^ 31) : zk_Mv l yX7_addLitres wsX7_addLitres ({ frames := 0, cells := 0, slots := 0, locals := 0 } : Room) D cI cZ ts [.ref mo, .int (nI aa), .int (nI bb)] [(mo, .inr (7, [.ref st, .ref im, .ref iz, .ref go, .int (nI k), .ref pt, .ref ch, .ref su, .ref kp, .ref hr, .int bf, .int bc, .int bs, .int bt, .int gd])), (go, .inl (cI, 160, .inl fg)), (su, .inl (cI, 4, .inl fs))] (fun (u : (Nat → Int32)) => zar u (zsum fs fg aa (max aa (min bb k))) 4) (fun (u : (Nat → Int32)) => [(mo, .inr (7, [.ref st, .ref im, .ref iz, .ref go, .int (nI k), .ref pt, .ref ch, .ref su, .ref kp, .ref hr, .int bf, .int bc, .int bs, .int bt, .int gd])), (go, .inl (cI, 160, .inl fg)), (su, .inl (cI, 4, .inl u))]) 0 0 := by
  refine zk_Mv.of (cc := cX7_addLitres) (maxL := 4) RX7 (by decide) rfl (Nat.le_of_ble_eq_true rfl) rfl ?_
  intro p e s m below meth c A Q H locs ls X hE hA hin hP hD hS hret hl
  obtain ⟨hx, hb, hml, hown, hts⟩ := id X
  have hl : lv_has ls 4 [(0, .ref mo), (1, .int (nI aa)), (2, .int (nI bb))] := hl
  refine lv_iload_n hx hb dX7_addLitres_0 rfl (lv_at hl 1 rfl) ?_
  refine lv_istore_n (lv' := [(3, .int (nI aa)), (0, .ref mo), (1, .int (nI aa)), (2, .int (nI bb))]) hx hb dX7_addLitres_1 rfl hl (by decide) rfl (fun ls hl => ?_)
  have L_2 : ∀ (n : Nat) (i : Nat) (ft : Nat → Int32) (H : Heap) (locs : List Loc) (ls : Array Slot), (aa ≤ i) → (i ≤ max aa (min bb k)) → (zar ft (zsum fs fg aa i) 4) → max aa (min bb k) - i < n → va_P D vwCl [(mo, .inr (7, [.ref st, .ref im, .ref iz, .ref go, .int (nI k), .ref pt, .ref ch, .ref su, .ref kp, .ref hr, .int bf, .int bc, .int bs, .int bt, .int gd])), (go, .inl (cI, 160, .inl fg)), (su, .inl (cI, 4, .inl ft))] H → va_D A [(mo, .inr (7, [.ref st, .ref im, .ref iz, .ref go, .int (nI k), .ref pt, .ref ch, .ref su, .ref kp, .ref hr, .int bf, .int bc, .int bs, .int bt, .int gd])), (go, .inl (cI, 160, .inl fg)), (su, .inl (cI, 4, .inl ft))] → va_S A s.heap H locs → lv_has ls 4 [(0, .ref mo), (1, .int (nI aa)), (2, .int (nI bb)), (3, .int (nI i))] → W p l e ({ frames := 0, cells := 0, slots := 0, locals := 0 } : Room) s m ([.ref mo, .int (nI aa), .int (nI bb)] : List Value).toArray below meth c H locs 0 0 Q (F0 m 2 ls []) := by
    intro n
    induction n with
    | zero =>
      intro i ft H locs ls h1 h2 hs hlt hP hD hS hl
      exact absurd hlt (Nat.not_lt_zero _)
    | succ n ih_2 =>
      intro i ft H locs ls h1 h2 hs hlt hP hD hS hl
      refine lv_iload_n hx hb dX7_addLitres_2 rfl (lv_at hl 3 rfl) ?_
      refine lv_iload_n hx hb dX7_addLitres_3 rfl (lv_at hl 2 rfl) ?_
      refine lv_icmp_ge (tgt := 88) hx hb dX7_addLitres_4 (by decide) (fun c_4 => ?_) (fun c_4 => ?_)
      · have hge := zn_le c_4 (by omega) (by omega)
        have ei : i = max aa (min bb k) := by omega
        have hq := hret  ft H locs 88 ls
        exact hq (by (try dsimp only); rw [← ei]; exact hs) hP hD hS dX7_addLitres_88
      · have hib : i < bb := zn_nle c_4 (by omega)
        refine lv_iload_n hx hb dX7_addLitres_7 rfl (lv_at hl 3 rfl) ?_
        refine lv_aload_n hx hb dX7_addLitres_8 rfl (lv_at hl 0 rfl) ?_
        refine zk_get X hE sX7_addLitres_9 hP 0 rfl rfl ?_
        refine lv_icmp_ge (tgt := 88) hx hb dX7_addLitres_12 (by decide) (fun c_12 => ?_) (fun c_12 => ?_)
        · have hge := zn_le c_12 (by omega) (by omega)
          have ei : i = max aa (min bb k) := by omega
          have hq := hret  ft H locs 88 ls
          exact hq (by (try dsimp only); rw [← ei]; exact hs) hP hD hS dX7_addLitres_88
        · have hik : i < k := zn_nle c_12 (by omega)
          refine lv_aload_n hx hb dX7_addLitres_15 rfl (lv_at hl 0 rfl) ?_
          refine zk_get X hE sX7_addLitres_16 hP 0 rfl rfl ?_
          refine lv_iconst (v := 0) hx hb dX7_addLitres_19 (by decide) ?_
          refine lv_dup2_11 hx hb dX7_addLitres_20 rfl rfl ?_
          refine zk_ald hx hb hE hP 2 0 rfl rfl (Nat.le_of_ble_eq_true rfl) (Nat.le_of_ble_eq_true rfl) dX7_addLitres_21 ?_
          refine lv_iconst (v := 1) hx hb dX7_addLitres_22 (by decide) ?_
          refine lv_iadd hx hb dX7_addLitres_23 ?_
          refine zk_ast (ws' := [(mo, .inr (7, [.ref st, .ref im, .ref iz, .ref go, .int (nI k), .ref pt, .ref ch, .ref su, .ref kp, .ref hr, .int bf, .int bc, .int bs, .int bt, .int gd])), (go, .inl (cI, 160, .inl fg)), (su, .inl (cI, 4, .inl (upd ft 0 ((ft 0) + 1))))]) hx hb hE hP hD hS 2 0 rfl rfl (Nat.le_of_ble_eq_true rfl) (Nat.le_of_ble_eq_true rfl) dX7_addLitres_24 rfl (fun H locs hP hD hS => ?_)
          refine lv_aload_n hx hb dX7_addLitres_25 rfl (lv_at hl 0 rfl) ?_
          refine zk_get X hE sX7_addLitres_26 hP 0 rfl rfl ?_
          refine lv_iconst (v := 1) hx hb dX7_addLitres_29 (by decide) ?_
          refine lv_dup2_11 hx hb dX7_addLitres_30 rfl rfl ?_
          refine zk_ald hx hb hE hP 2 1 rfl rfl (Nat.le_of_ble_eq_true rfl) (Nat.le_of_ble_eq_true rfl) dX7_addLitres_31 ?_
          refine zk_top (show (upd ft 0 ((ft 0) + 1)) 1 = ft 1 from rfl) ?_
          refine lv_aload_n hx hb dX7_addLitres_32 rfl (lv_at hl 0 rfl) ?_
          refine zk_get X hE sX7_addLitres_33 hP 0 rfl rfl ?_
          refine lv_iconst (v := 4) hx hb dX7_addLitres_36 (by decide) ?_
          refine lv_iload_n hx hb dX7_addLitres_37 rfl (lv_at hl 3 rfl) ?_
          refine lv_imul hx hb dX7_addLitres_38 ?_
          refine zk_top (show (4 * (nI i) : Int32) = nI (4 * i) from pk_mul 4 i) ?_
          refine lv_iconst (v := 1) hx hb dX7_addLitres_39 (by decide) ?_
          refine lv_iadd hx hb dX7_addLitres_40 ?_
          refine zk_top (show ((nI (4 * i)) + 1 : Int32) = nI ((4 * i) + 1) from nI_add (4 * i) 1) ?_
          refine zk_ald hx hb hE hP 1 ((4 * i) + 1) rfl rfl (by omega) (Nat.le_of_ble_eq_true rfl) dX7_addLitres_41 ?_
          refine lv_iadd hx hb dX7_addLitres_42 ?_
          refine zk_ast (ws' := [(mo, .inr (7, [.ref st, .ref im, .ref iz, .ref go, .int (nI k), .ref pt, .ref ch, .ref su, .ref kp, .ref hr, .int bf, .int bc, .int bs, .int bt, .int gd])), (go, .inl (cI, 160, .inl fg)), (su, .inl (cI, 4, .inl (upd (upd ft 0 ((ft 0) + 1)) 1 ((ft 1) + (fg ((4 * i) + 1))))))]) hx hb hE hP hD hS 2 1 rfl rfl (Nat.le_of_ble_eq_true rfl) (Nat.le_of_ble_eq_true rfl) dX7_addLitres_43 rfl (fun H locs hP hD hS => ?_)
          refine lv_aload_n hx hb dX7_addLitres_44 rfl (lv_at hl 0 rfl) ?_
          refine zk_get X hE sX7_addLitres_45 hP 0 rfl rfl ?_
          refine lv_iconst (v := 2) hx hb dX7_addLitres_48 (by decide) ?_
          refine lv_dup2_11 hx hb dX7_addLitres_49 rfl rfl ?_
          refine zk_ald hx hb hE hP 2 2 rfl rfl (Nat.le_of_ble_eq_true rfl) (Nat.le_of_ble_eq_true rfl) dX7_addLitres_50 ?_
          refine zk_top (show (upd (upd ft 0 ((ft 0) + 1)) 1 ((ft 1) + (fg ((4 * i) + 1)))) 2 = ft 2 from rfl) ?_
          refine lv_aload_n hx hb dX7_addLitres_51 rfl (lv_at hl 0 rfl) ?_
          refine zk_get X hE sX7_addLitres_52 hP 0 rfl rfl ?_
          refine lv_iconst (v := 4) hx hb dX7_addLitres_55 (by decide) ?_
          refine lv_iload_n hx hb dX7_addLitres_56 rfl (lv_at hl 3 rfl) ?_
          refine lv_imul hx hb dX7_addLitres_57 ?_
          refine zk_top (show (4 * (nI i) : Int32) = nI (4 * i) from pk_mul 4 i) ?_
          refine lv_iconst (v := 2) hx hb dX7_addLitres_58 (by decide) ?_
          refine lv_iadd hx hb dX7_addLitres_59 ?_
          refine zk_top (show ((nI (4 * i)) + 2 : Int32) = nI ((4 * i) + 2) from nI_add (4 * i) 2) ?_
          refine zk_ald hx hb hE hP 1 ((4 * i) + 2) rfl rfl (by omega) (Nat.le_of_ble_eq_true rfl) dX7_addLitres_60 ?_
          refine lv_iadd hx hb dX7_addLitres_61 ?_
          refine zk_ast (ws' := [(mo, .inr (7, [.ref st, .ref im, .ref iz, .ref go, .int (nI k), .ref pt, .ref ch, .ref su, .ref kp, .ref hr, .int bf, .int bc, .int bs, .int bt, .int gd])), (go, .inl (cI, 160, .inl fg)), (su, .inl (cI, 4, .inl (upd (upd (upd ft 0 ((ft 0) + 1)) 1 ((ft 1) + (fg ((4 * i) + 1)))) 2 ((ft 2) + (fg ((4 * i) + 2))))))]) hx hb hE hP hD hS 2 2 rfl rfl (Nat.le_of_ble_eq_true rfl) (Nat.le_of_ble_eq_true rfl) dX7_addLitres_62 rfl (fun H locs hP hD hS => ?_)
          refine lv_aload_n hx hb dX7_addLitres_63 rfl (lv_at hl 0 rfl) ?_
          refine zk_get X hE sX7_addLitres_64 hP 0 rfl rfl ?_
          refine lv_iconst (v := 3) hx hb dX7_addLitres_67 (by decide) ?_
          refine lv_dup2_11 hx hb dX7_addLitres_68 rfl rfl ?_
          refine zk_ald hx hb hE hP 2 3 rfl rfl (Nat.le_of_ble_eq_true rfl) (Nat.le_of_ble_eq_true rfl) dX7_addLitres_69 ?_
          refine zk_top (show (upd (upd (upd ft 0 ((ft 0) + 1)) 1 ((ft 1) + (fg ((4 * i) + 1)))) 2 ((ft 2) + (fg ((4 * i) + 2)))) 3 = ft 3 from rfl) ?_
          refine lv_aload_n hx hb dX7_addLitres_70 rfl (lv_at hl 0 rfl) ?_
          refine zk_get X hE sX7_addLitres_71 hP 0 rfl rfl ?_
          refine lv_iconst (v := 4) hx hb dX7_addLitres_74 (by decide) ?_
          refine lv_iload_n hx hb dX7_addLitres_75 rfl (lv_at hl 3 rfl) ?_
          refine lv_imul hx hb dX7_addLitres_76 ?_
          refine zk_top (show (4 * (nI i) : Int32) = nI (4 * i) from pk_mul 4 i) ?_
          refine lv_iconst (v := 3) hx hb dX7_addLitres_77 (by decide) ?_
          refine lv_iadd hx hb dX7_addLitres_78 ?_
          refine zk_top (show ((nI (4 * i)) + 3 : Int32) = nI ((4 * i) + 3) from nI_add (4 * i) 3) ?_
          refine zk_ald hx hb hE hP 1 ((4 * i) + 3) rfl rfl (by omega) (Nat.le_of_ble_eq_true rfl) dX7_addLitres_79 ?_
          refine lv_iadd hx hb dX7_addLitres_80 ?_
          refine zk_ast (ws' := [(mo, .inr (7, [.ref st, .ref im, .ref iz, .ref go, .int (nI k), .ref pt, .ref ch, .ref su, .ref kp, .ref hr, .int bf, .int bc, .int bs, .int bt, .int gd])), (go, .inl (cI, 160, .inl fg)), (su, .inl (cI, 4, .inl (upd (upd (upd (upd ft 0 ((ft 0) + 1)) 1 ((ft 1) + (fg ((4 * i) + 1)))) 2 ((ft 2) + (fg ((4 * i) + 2)))) 3 ((ft 3) + (fg ((4 * i) + 3))))))]) hx hb hE hP hD hS 2 3 rfl rfl (Nat.le_of_ble_eq_true rfl) (Nat.le_of_ble_eq_true rfl) dX7_addLitres_81 rfl (fun H locs hP hD hS => ?_)
          refine lv_iinc (v := nI (i + 1)) (lv' := [(3, .int (nI (i + 1))), (0, .ref mo), (1, .int (nI aa)), (2, .int (nI bb))]) hx hb dX7_addLitres_82 hl (k := 3) rfl (zk_inc i) (by decide) rfl (fun ls hl => ?_)
          refine lv_goto (tgt := 2) hx hb dX7_addLitres_85 (by decide) ?_
          exact ih_2 (i + 1) (upd (upd (upd (upd ft 0 ((ft 0) + 1)) 1 ((ft 1) + (fg ((4 * i) + 1)))) 2 ((ft 2) + (fg ((4 * i) + 2)))) 3 ((ft 3) + (fg ((4 * i) + 3)))) H locs ls (by omega) (by omega) (zsum_s hs) (by omega) hP hD hS (lv_sub hl [1, 2, 3, 0] rfl)
  exact L_2 _ aa fs H locs ls (Nat.le_refl _) (by omega) (zsum_0 _ _ _) (Nat.lt_succ_self _) hP hD hS (lv_sub hl [1, 2, 3, 0] rfl)
set_option maxHeartbeats 4000000 in
set_option maxRecDepth 100000 in
theorem c_X7_sumHeart (l : Launch) (D : va_G) (cI cZ : ClassId) (ts : Nat → Nat) (mo : Nat) (st : Nat) (im : Nat) (iz : Nat) (go : Nat) (pt : Nat) (ch : Nat) (su : Nat) (kp : Nat) (hr : Nat) (bf : Int32) (bc : Int32) (bs : Int32) (bt : Int32) (gd : Int32) (fg : Nat → Int32) (fs : Nat → Int32) (k : Nat) (fo : Nat) (cu : Int32) (hk : k ≤ 40) (hfo : fo < 2 ^ 31) : zk_Mv l yX7_sumHeart wsX7_sumHeart ({ frames := 1, cells := 0, slots := 0, locals := 23 } : Room) D cI cZ ts [.ref mo, .int (nI fo), .int cu] [(mo, .inr (7, [.ref st, .ref im, .ref iz, .ref go, .int (nI k), .ref pt, .ref ch, .ref su, .ref kp, .ref hr, .int bf, .int bc, .int bs, .int bt, .int gd])), (go, .inl (cI, 160, .inl fg)), (su, .inl (cI, 4, .inl fs))] (fun (u : (Nat → Int32)) => zar u (fun t => zG (zcm fg t) (min fo k) (zT (fun j => fg (4 * j)) k fo cu)) 4) (fun (u : (Nat → Int32)) => [(mo, .inr (7, [.ref st, .ref im, .ref iz, .ref go, .int (nI k), .ref pt, .ref ch, .ref su, .ref kp, .ref hr, .int bf, .int bc, .int bs, .int bt, .int gd])), (go, .inl (cI, 160, .inl fg)), (su, .inl (cI, 4, .inl u))]) 0 0 := by
  refine zk_Mv.of (cc := cX7_sumHeart) (maxL := 3) RX7 (by decide) rfl (Nat.le_of_ble_eq_true rfl) rfl ?_
  intro p e s m below meth c A Q H locs ls X hE hA hin hP hD hS hret hl
  obtain ⟨hx, hb, hml, hown, hts⟩ := id X
  have hl : lv_has ls 3 [(0, .ref mo), (1, .int (nI fo)), (2, .int cu)] := hl
  refine lv_aload_n hx hb dX7_sumHeart_0 rfl (lv_at hl 0 rfl) ?_
  refine zk_cVv (rest := []) (wr := [(go, .inl (cI, 160, .inl fg))]) X hE hA (c_X7_beginSum l D cI cZ ts mo st im iz go pt ch su kp hr (nI k) bf bc bs bt gd fs) (cwV 0 hts gX7_sumHeart_X7_beginSum rfl rfl rfl hdX7_beginSum ⟨Nat.le_of_ble_eq_true rfl, Nat.le_of_ble_eq_true rfl⟩) dX7_sumHeart_1 hP hD hS [0, 2] [1] ⟨rfl, rfl, trivial⟩ ⟨rfl, trivial⟩ (by decide +kernel) (by decide +kernel) (by decide +kernel) 7 rfl rfl rfl hl rfl (Nat.le_of_ble_eq_true rfl) ⟨Nat.le_of_ble_eq_true rfl, Nat.le_of_ble_eq_true rfl⟩ (fun _ H locs hw_1 hP hD hS => ?_)
  have hP : va_P D vwCl [(go, .inl (cI, 160, .inl fg)), (mo, .inr (7, [.ref st, .ref im, .ref iz, .ref go, .int (nI k), .ref pt, .ref ch, .ref su, .ref kp, .ref hr, .int bf, .int bc, .int bs, .int bt, .int gd])), (su, .inl (cI, 4, .inl (upd (upd (upd (upd fs 0 0) 1 0) 2 0) 3 0)))] H := hP
  have hD : va_D A [(go, .inl (cI, 160, .inl fg)), (mo, .inr (7, [.ref st, .ref im, .ref iz, .ref go, .int (nI k), .ref pt, .ref ch, .ref su, .ref kp, .ref hr, .int bf, .int bc, .int bs, .int bt, .int gd])), (su, .inl (cI, 4, .inl (upd (upd (upd (upd fs 0 0) 1 0) 2 0) 3 0)))] := hD
  refine lv_aload_n hx hb dX7_sumHeart_4 rfl (lv_at hl 0 rfl) ?_
  refine lv_iload_n hx hb dX7_sumHeart_5 rfl (lv_at hl 1 rfl) ?_
  refine lv_aload_n hx hb dX7_sumHeart_6 rfl (lv_at hl 0 rfl) ?_
  refine lv_iload_n hx hb dX7_sumHeart_7 rfl (lv_at hl 1 rfl) ?_
  refine lv_iload_n hx hb dX7_sumHeart_8 rfl (lv_at hl 2 rfl) ?_
  refine zk_cVi (rest := [.int (nI fo), .ref mo]) (wr := [(su, .inl (cI, 4, .inl (upd (upd (upd (upd fs 0 0) 1 0) 2 0) 3 0)))]) X hE hA (c_X7_tailsFrom l D cI cZ ts mo st im iz go pt ch su kp hr bf bc bs bt gd fg k fo cu (by first | assumption | omega) (by first | assumption | omega)) (cwV 2 hts gX7_sumHeart_X7_tailsFrom rfl rfl rfl hdX7_tailsFrom ⟨Nat.le_of_ble_eq_true rfl, Nat.le_of_ble_eq_true rfl⟩) dX7_sumHeart_9 hP hD hS [1, 0] [2] ⟨rfl, rfl, trivial⟩ ⟨rfl, trivial⟩ (by decide +kernel) (by decide +kernel) (by decide +kernel) 7 rfl rfl rfl hl rfl (Nat.le_of_ble_eq_true rfl) ⟨Nat.le_of_ble_eq_true rfl, Nat.le_of_ble_eq_true rfl⟩ (fun r_9 _ H locs hw_9 hP hD hS => ?_)
  have hP : va_P D vwCl [(su, .inl (cI, 4, .inl (upd (upd (upd (upd fs 0 0) 1 0) 2 0) 3 0))), (mo, .inr (7, [.ref st, .ref im, .ref iz, .ref go, .int (nI k), .ref pt, .ref ch, .ref su, .ref kp, .ref hr, .int bf, .int bc, .int bs, .int bt, .int gd])), (go, .inl (cI, 160, .inl fg))] H := hP
  have hD : va_D A [(su, .inl (cI, 4, .inl (upd (upd (upd (upd fs 0 0) 1 0) 2 0) 3 0))), (mo, .inr (7, [.ref st, .ref im, .ref iz, .ref go, .int (nI k), .ref pt, .ref ch, .ref su, .ref kp, .ref hr, .int bf, .int bc, .int bs, .int bt, .int gd])), (go, .inl (cI, 160, .inl fg))] := hD
  obtain rfl : r_9 = (nI (max fo (zT (fun j => fg (4 * j)) k fo cu))) := hw_9
  have hTi := zT_in (fun j => fg (4 * j)) k fo cu
  refine zk_cVv (rest := []) (wr := []) X hE hA (c_X7_addLitres l D cI cZ ts mo st im iz go pt ch su kp hr bf bc bs bt gd fg (upd (upd (upd (upd fs 0 0) 1 0) 2 0) 3 0) k fo (max fo (zT (fun j => fg (4 * j)) k fo cu)) (by first | assumption | omega) (by first | assumption | omega) (by first | assumption | omega)) (cwV 2 hts gX7_sumHeart_X7_addLitres rfl rfl rfl hdX7_addLitres ⟨Nat.le_of_ble_eq_true rfl, Nat.le_of_ble_eq_true rfl⟩) dX7_sumHeart_12 hP hD hS [1, 2, 0] [] ⟨rfl, rfl, rfl, trivial⟩ trivial (by decide +kernel) (by decide +kernel) (by decide +kernel) 7 rfl rfl rfl hl rfl (Nat.le_of_ble_eq_true rfl) ⟨Nat.le_of_ble_eq_true rfl, Nat.le_of_ble_eq_true rfl⟩ (fun u_12 H locs hw_12 hP hD hS => ?_)
  obtain ⟨ft_1, rfl⟩ : ∃ z, z = u_12 := ⟨_, rfl⟩
  have hP : va_P D vwCl [(mo, .inr (7, [.ref st, .ref im, .ref iz, .ref go, .int (nI k), .ref pt, .ref ch, .ref su, .ref kp, .ref hr, .int bf, .int bc, .int bs, .int bt, .int gd])), (go, .inl (cI, 160, .inl fg)), (su, .inl (cI, 4, .inl ft_1))] H := hP
  have hD : va_D A [(mo, .inr (7, [.ref st, .ref im, .ref iz, .ref go, .int (nI k), .ref pt, .ref ch, .ref su, .ref kp, .ref hr, .int bf, .int bc, .int bs, .int bt, .int gd])), (go, .inl (cI, 160, .inl fg)), (su, .inl (cI, 4, .inl ft_1))] := hD
  have hw_12 : zar ft_1 (zsum (upd (upd (upd (upd fs 0 0) 1 0) 2 0) 3 0) fg fo (max fo (min (max fo (zT (fun j => fg (4 * j)) k fo cu)) k))) 4 := hw_12
  have hq := hret  ft_1 H locs 15 ls
  exact hq (fun t ht => (hw_12 t ht).trans (zheart (zar_4 (g := upd (upd (upd (upd fs 0 0) 1 0) 2 0) 3 0) (F := fun _ => 0) rfl rfl rfl rfl t ht))) hP hD hS dX7_sumHeart_15
set_option maxHeartbeats 4000000 in
set_option maxRecDepth 100000 in
theorem c_X7_sumKept (l : Launch) (D : va_G) (cI cZ : ClassId) (ts : Nat → Nat) (mo : Nat) (st : Nat) (im : Nat) (iz : Nat) (go : Nat) (pt : Nat) (ch : Nat) (su : Nat) (kp : Nat) (hr : Nat) (bf : Int32) (bc : Int32) (bs : Int32) (bt : Int32) (gd : Int32) (sg : Nat → Int32) (fg : Nat → Int32) (fs : Nat → Int32) (k : Nat) (fo : Nat) (hk : k ≤ 40) (hf : sg 15 = nI fo) (hfo : fo < 2 ^ 31) : zk_Mv l yX7_sumKept wsX7_sumKept ({ frames := 1, cells := 0, slots := 0, locals := 23 } : Room) D cI cZ ts [.ref mo] [(mo, .inr (7, [.ref st, .ref im, .ref iz, .ref go, .int (nI k), .ref pt, .ref ch, .ref su, .ref kp, .ref hr, .int bf, .int bc, .int bs, .int bt, .int gd])), (st, .inl (cI, 75, .inl sg)), (go, .inl (cI, 160, .inl fg)), (su, .inl (cI, 4, .inl fs))] (fun (u : (Nat → Int32)) => zar u (fun t => zG (zcm fg t) 0 (min fo k) + zG (zcm fg t) (zT (fun j => fg (4 * j)) k fo (sg 16)) k) 4) (fun (u : (Nat → Int32)) => [(mo, .inr (7, [.ref st, .ref im, .ref iz, .ref go, .int (nI k), .ref pt, .ref ch, .ref su, .ref kp, .ref hr, .int bf, .int bc, .int bs, .int bt, .int gd])), (st, .inl (cI, 75, .inl sg)), (go, .inl (cI, 160, .inl fg)), (su, .inl (cI, 4, .inl u))]) 0 0 := by
  refine zk_Mv.of (cc := cX7_sumKept) (maxL := 1) RX7 (by decide) rfl (Nat.le_of_ble_eq_true rfl) rfl ?_
  intro p e s m below meth c A Q H locs ls X hE hA hin hP hD hS hret hl
  obtain ⟨hx, hb, hml, hown, hts⟩ := id X
  have hl : lv_has ls 1 [(0, .ref mo)] := hl
  refine lv_aload_n hx hb dX7_sumKept_0 rfl (lv_at hl 0 rfl) ?_
  refine zk_cVv (rest := []) (wr := [(st, .inl (cI, 75, .inl sg)), (go, .inl (cI, 160, .inl fg))]) X hE hA (c_X7_beginSum l D cI cZ ts mo st im iz go pt ch su kp hr (nI k) bf bc bs bt gd fs) (cwV 0 hts gX7_sumKept_X7_beginSum rfl rfl rfl hdX7_beginSum ⟨Nat.le_of_ble_eq_true rfl, Nat.le_of_ble_eq_true rfl⟩) dX7_sumKept_1 hP hD hS [0, 3] [1, 2] ⟨rfl, rfl, trivial⟩ ⟨rfl, rfl, trivial⟩ (by decide +kernel) (by decide +kernel) (by decide +kernel) 7 rfl rfl rfl hl rfl (Nat.le_of_ble_eq_true rfl) ⟨Nat.le_of_ble_eq_true rfl, Nat.le_of_ble_eq_true rfl⟩ (fun _ H locs hw_1 hP hD hS => ?_)
  have hP : va_P D vwCl [(st, .inl (cI, 75, .inl sg)), (go, .inl (cI, 160, .inl fg)), (mo, .inr (7, [.ref st, .ref im, .ref iz, .ref go, .int (nI k), .ref pt, .ref ch, .ref su, .ref kp, .ref hr, .int bf, .int bc, .int bs, .int bt, .int gd])), (su, .inl (cI, 4, .inl (upd (upd (upd (upd fs 0 0) 1 0) 2 0) 3 0)))] H := hP
  have hD : va_D A [(st, .inl (cI, 75, .inl sg)), (go, .inl (cI, 160, .inl fg)), (mo, .inr (7, [.ref st, .ref im, .ref iz, .ref go, .int (nI k), .ref pt, .ref ch, .ref su, .ref kp, .ref hr, .int bf, .int bc, .int bs, .int bt, .int gd])), (su, .inl (cI, 4, .inl (upd (upd (upd (upd fs 0 0) 1 0) 2 0) 3 0)))] := hD
  refine lv_aload_n hx hb dX7_sumKept_4 rfl (lv_at hl 0 rfl) ?_
  refine lv_iconst (v := 0) hx hb dX7_sumKept_5 (by decide) ?_
  refine lv_aload_n hx hb dX7_sumKept_6 rfl (lv_at hl 0 rfl) ?_
  refine zk_get X hE sX7_sumKept_7 hP 2 rfl rfl ?_
  refine lv_bipush (v := 15) hx hb dX7_sumKept_10 (by decide) ?_
  refine zk_ald hx hb hE hP 0 15 rfl rfl (Nat.le_of_ble_eq_true rfl) (Nat.le_of_ble_eq_true rfl) dX7_sumKept_12 ?_
  refine zk_top (show (sg 15 : Int32) = nI fo from hf) ?_
  refine zk_cVv (rest := []) (wr := [(st, .inl (cI, 75, .inl sg))]) X hE hA (c_X7_addLitres l D cI cZ ts mo st im iz go pt ch su kp hr bf bc bs bt gd fg (upd (upd (upd (upd fs 0 0) 1 0) 2 0) 3 0) k 0 fo (by first | assumption | omega) (by first | assumption | omega) (by first | assumption | omega)) (cwV 2 hts gX7_sumKept_X7_addLitres rfl rfl rfl hdX7_addLitres ⟨Nat.le_of_ble_eq_true rfl, Nat.le_of_ble_eq_true rfl⟩) dX7_sumKept_13 hP hD hS [2, 1, 3] [0] ⟨rfl, rfl, rfl, trivial⟩ ⟨rfl, trivial⟩ (by decide +kernel) (by decide +kernel) (by decide +kernel) 7 rfl rfl rfl hl rfl (Nat.le_of_ble_eq_true rfl) ⟨Nat.le_of_ble_eq_true rfl, Nat.le_of_ble_eq_true rfl⟩ (fun u_13 H locs hw_13 hP hD hS => ?_)
  obtain ⟨ft_1, rfl⟩ : ∃ z, z = u_13 := ⟨_, rfl⟩
  have hP : va_P D vwCl [(st, .inl (cI, 75, .inl sg)), (mo, .inr (7, [.ref st, .ref im, .ref iz, .ref go, .int (nI k), .ref pt, .ref ch, .ref su, .ref kp, .ref hr, .int bf, .int bc, .int bs, .int bt, .int gd])), (go, .inl (cI, 160, .inl fg)), (su, .inl (cI, 4, .inl ft_1))] H := hP
  have hD : va_D A [(st, .inl (cI, 75, .inl sg)), (mo, .inr (7, [.ref st, .ref im, .ref iz, .ref go, .int (nI k), .ref pt, .ref ch, .ref su, .ref kp, .ref hr, .int bf, .int bc, .int bs, .int bt, .int gd])), (go, .inl (cI, 160, .inl fg)), (su, .inl (cI, 4, .inl ft_1))] := hD
  have hw_13 : zar ft_1 (zsum (upd (upd (upd (upd fs 0 0) 1 0) 2 0) 3 0) fg 0 (max 0 (min fo k))) 4 := hw_13
  refine lv_aload_n hx hb dX7_sumKept_16 rfl (lv_at hl 0 rfl) ?_
  refine lv_aload_n hx hb dX7_sumKept_17 rfl (lv_at hl 0 rfl) ?_
  refine lv_aload_n hx hb dX7_sumKept_18 rfl (lv_at hl 0 rfl) ?_
  refine zk_get X hE sX7_sumKept_19 hP 1 rfl rfl ?_
  refine lv_bipush (v := 15) hx hb dX7_sumKept_22 (by decide) ?_
  refine zk_ald hx hb hE hP 0 15 rfl rfl (Nat.le_of_ble_eq_true rfl) (Nat.le_of_ble_eq_true rfl) dX7_sumKept_24 ?_
  refine zk_top (show (sg 15 : Int32) = nI fo from hf) ?_
  refine lv_aload_n hx hb dX7_sumKept_25 rfl (lv_at hl 0 rfl) ?_
  refine zk_get X hE sX7_sumKept_26 hP 1 rfl rfl ?_
  refine lv_bipush (v := 16) hx hb dX7_sumKept_29 (by decide) ?_
  refine zk_ald hx hb hE hP 0 16 rfl rfl (Nat.le_of_ble_eq_true rfl) (Nat.le_of_ble_eq_true rfl) dX7_sumKept_31 ?_
  refine zk_cVi (rest := [.ref mo]) (wr := [(st, .inl (cI, 75, .inl sg)), (su, .inl (cI, 4, .inl ft_1))]) X hE hA (c_X7_tailsFrom l D cI cZ ts mo st im iz go pt ch su kp hr bf bc bs bt gd fg k fo (sg 16) (by first | assumption | omega) (by first | assumption | omega)) (cwV 2 hts gX7_sumKept_X7_tailsFrom rfl rfl rfl hdX7_tailsFrom ⟨Nat.le_of_ble_eq_true rfl, Nat.le_of_ble_eq_true rfl⟩) dX7_sumKept_32 hP hD hS [1, 2] [0, 3] ⟨rfl, rfl, trivial⟩ ⟨rfl, rfl, trivial⟩ (by decide +kernel) (by decide +kernel) (by decide +kernel) 7 rfl rfl rfl hl rfl (Nat.le_of_ble_eq_true rfl) ⟨Nat.le_of_ble_eq_true rfl, Nat.le_of_ble_eq_true rfl⟩ (fun r_32 _ H locs hw_32 hP hD hS => ?_)
  have hP : va_P D vwCl [(st, .inl (cI, 75, .inl sg)), (su, .inl (cI, 4, .inl ft_1)), (mo, .inr (7, [.ref st, .ref im, .ref iz, .ref go, .int (nI k), .ref pt, .ref ch, .ref su, .ref kp, .ref hr, .int bf, .int bc, .int bs, .int bt, .int gd])), (go, .inl (cI, 160, .inl fg))] H := hP
  have hD : va_D A [(st, .inl (cI, 75, .inl sg)), (su, .inl (cI, 4, .inl ft_1)), (mo, .inr (7, [.ref st, .ref im, .ref iz, .ref go, .int (nI k), .ref pt, .ref ch, .ref su, .ref kp, .ref hr, .int bf, .int bc, .int bs, .int bt, .int gd])), (go, .inl (cI, 160, .inl fg))] := hD
  obtain rfl : r_32 = (nI (max fo (zT (fun j => fg (4 * j)) k fo (sg 16)))) := hw_32
  refine lv_bipush (v := 40) hx hb dX7_sumKept_35 (by decide) ?_
  have hTi := zT_in (fun j => fg (4 * j)) k fo (sg 16)
  refine zk_cVv (rest := []) (wr := [(st, .inl (cI, 75, .inl sg))]) X hE hA (c_X7_addLitres l D cI cZ ts mo st im iz go pt ch su kp hr bf bc bs bt gd fg ft_1 k (max fo (zT (fun j => fg (4 * j)) k fo (sg 16))) 40 (by first | assumption | omega) (by first | assumption | omega) (by first | assumption | omega)) (cwV 2 hts gX7_sumKept_X7_addLitres rfl rfl rfl hdX7_addLitres ⟨Nat.le_of_ble_eq_true rfl, Nat.le_of_ble_eq_true rfl⟩) dX7_sumKept_37 hP hD hS [2, 3, 1] [0] ⟨rfl, rfl, rfl, trivial⟩ ⟨rfl, trivial⟩ (by decide +kernel) (by decide +kernel) (by decide +kernel) 7 rfl rfl rfl hl rfl (Nat.le_of_ble_eq_true rfl) ⟨Nat.le_of_ble_eq_true rfl, Nat.le_of_ble_eq_true rfl⟩ (fun u_37 H locs hw_37 hP hD hS => ?_)
  obtain ⟨ft_2, rfl⟩ : ∃ z, z = u_37 := ⟨_, rfl⟩
  have hP : va_P D vwCl [(st, .inl (cI, 75, .inl sg)), (mo, .inr (7, [.ref st, .ref im, .ref iz, .ref go, .int (nI k), .ref pt, .ref ch, .ref su, .ref kp, .ref hr, .int bf, .int bc, .int bs, .int bt, .int gd])), (go, .inl (cI, 160, .inl fg)), (su, .inl (cI, 4, .inl ft_2))] H := hP
  have hD : va_D A [(st, .inl (cI, 75, .inl sg)), (mo, .inr (7, [.ref st, .ref im, .ref iz, .ref go, .int (nI k), .ref pt, .ref ch, .ref su, .ref kp, .ref hr, .int bf, .int bc, .int bs, .int bt, .int gd])), (go, .inl (cI, 160, .inl fg)), (su, .inl (cI, 4, .inl ft_2))] := hD
  have hw_37 : zar ft_2 (zsum ft_1 fg (max fo (zT (fun j => fg (4 * j)) k fo (sg 16))) (max (max fo (zT (fun j => fg (4 * j)) k fo (sg 16))) (min 40 k))) 4 := hw_37
  have hq := hret  ft_2 H locs 40 ls
  exact hq (fun t ht => (hw_37 t ht).trans (zkeep hk (zar_4 (g := upd (upd (upd (upd fs 0 0) 1 0) 2 0) 3 0) (F := fun _ => 0) rfl rfl rfl rfl t ht) (hw_13 t ht))) (zk_subP hP [1, 0, 2, 3] ⟨rfl, rfl, rfl, rfl, trivial⟩) (zk_subD hD [1, 0, 2, 3] (by decide +kernel) ⟨rfl, rfl, rfl, rfl, trivial⟩) hS dX7_sumKept_40
set_option maxHeartbeats 4000000 in
set_option maxRecDepth 100000 in
theorem c_X7_lay (l : Launch) (D : va_G) (cI cZ : ClassId) (ts : Nat → Nat) (mo : Nat) (st : Nat) (im : Nat) (iz : Nat) (go : Nat) (pt : Nat) (ch : Nat) (su : Nat) (kp : Nat) (hr : Nat) (li : Int32) (bf : Int32) (bc : Int32) (bs : Int32) (bt : Int32) (gd : Int32) (sg : Nat → Int32) (fs : Nat → Int32) (aa : Nat) (ha : aa + 3 < 75) : zk_Mv l yX7_lay wsX7_lay ({ frames := 0, cells := 0, slots := 0, locals := 0 } : Room) D cI cZ ts [.ref mo, .int (nI aa)] [(mo, .inr (7, [.ref st, .ref im, .ref iz, .ref go, .int li, .ref pt, .ref ch, .ref su, .ref kp, .ref hr, .int bf, .int bc, .int bs, .int bt, .int gd])), (st, .inl (cI, 75, .inl sg)), (su, .inl (cI, 4, .inl fs))] (fun (_ : Unit) => True) (fun (_ : Unit) => [(mo, .inr (7, [.ref st, .ref im, .ref iz, .ref go, .int li, .ref pt, .ref ch, .ref su, .ref kp, .ref hr, .int bf, .int bc, .int bs, .int bt, .int gd])), (st, .inl (cI, 75, .inl (upd (upd (upd (upd sg (aa + 0) (fs 0)) (aa + 1) (fs 1)) (aa + 2) (fs 2)) (aa + 3) (fs 3)))), (su, .inl (cI, 4, .inl fs))]) 0 0 := by
  refine zk_Mv.of (cc := cX7_lay) (maxL := 3) RX7 (by decide) rfl (Nat.le_of_ble_eq_true rfl) rfl ?_
  intro p e s m below meth c A Q H locs ls X hE hA hin hP hD hS hret hl
  obtain ⟨hx, hb, hml, hown, hts⟩ := id X
  have hl : lv_has ls 3 [(0, .ref mo), (1, .int (nI aa))] := hl
  refine lv_iconst (v := 0) hx hb dX7_lay_0 (by decide) ?_
  refine lv_istore_n (lv' := [(2, .int 0), (0, .ref mo), (1, .int (nI aa))]) hx hb dX7_lay_1 rfl hl (by decide) rfl (fun ls hl => ?_)
  refine lv_iload_n hx hb dX7_lay_2 rfl (lv_at hl 0 rfl) ?_
  refine lv_iconst (v := 4) hx hb dX7_lay_3 (by decide) ?_
  refine lv_icmp_ge (tgt := 27) hx hb dX7_lay_4 (by decide) (fun c_4 => absurd c_4 (by decide)) (fun c_4 => ?_)
  refine lv_aload_n hx hb dX7_lay_7 rfl (lv_at hl 1 rfl) ?_
  refine zk_get X hE sX7_lay_8 hP 0 rfl rfl ?_
  refine lv_iload_n hx hb dX7_lay_11 rfl (lv_at hl 2 rfl) ?_
  refine lv_iload_n hx hb dX7_lay_12 rfl (lv_at hl 0 rfl) ?_
  refine lv_iadd hx hb dX7_lay_13 ?_
  refine zk_top (show ((nI aa) + 0 : Int32) = nI (aa + 0) from nI_add aa 0) ?_
  refine lv_aload_n hx hb dX7_lay_14 rfl (lv_at hl 1 rfl) ?_
  refine zk_get X hE sX7_lay_15 hP 0 rfl rfl ?_
  refine lv_iload_n hx hb dX7_lay_18 rfl (lv_at hl 0 rfl) ?_
  refine zk_ald hx hb hE hP 2 0 rfl rfl (Nat.le_of_ble_eq_true rfl) (Nat.le_of_ble_eq_true rfl) dX7_lay_19 ?_
  refine zk_ast (ws' := [(mo, .inr (7, [.ref st, .ref im, .ref iz, .ref go, .int li, .ref pt, .ref ch, .ref su, .ref kp, .ref hr, .int bf, .int bc, .int bs, .int bt, .int gd])), (st, .inl (cI, 75, .inl (upd sg (aa + 0) (fs 0)))), (su, .inl (cI, 4, .inl fs))]) hx hb hE hP hD hS 1 (aa + 0) rfl rfl (by omega) (Nat.le_of_ble_eq_true rfl) dX7_lay_20 rfl (fun H locs hP hD hS => ?_)
  refine lv_iinc (v := 1) (lv' := [(2, .int 1), (0, .ref mo), (1, .int (nI aa))]) hx hb dX7_lay_21 hl (k := 0) rfl (by decide) (by decide) rfl (fun ls hl => ?_)
  refine lv_goto (tgt := 2) hx hb dX7_lay_24 (by decide) ?_
  refine lv_iload_n hx hb dX7_lay_2 rfl (lv_at hl 0 rfl) ?_
  refine lv_iconst (v := 4) hx hb dX7_lay_3 (by decide) ?_
  refine lv_icmp_ge (tgt := 27) hx hb dX7_lay_4 (by decide) (fun c_4 => absurd c_4 (by decide)) (fun c_4 => ?_)
  refine lv_aload_n hx hb dX7_lay_7 rfl (lv_at hl 1 rfl) ?_
  refine zk_get X hE sX7_lay_8 hP 0 rfl rfl ?_
  refine lv_iload_n hx hb dX7_lay_11 rfl (lv_at hl 2 rfl) ?_
  refine lv_iload_n hx hb dX7_lay_12 rfl (lv_at hl 0 rfl) ?_
  refine lv_iadd hx hb dX7_lay_13 ?_
  refine zk_top (show ((nI aa) + 1 : Int32) = nI (aa + 1) from nI_add aa 1) ?_
  refine lv_aload_n hx hb dX7_lay_14 rfl (lv_at hl 1 rfl) ?_
  refine zk_get X hE sX7_lay_15 hP 0 rfl rfl ?_
  refine lv_iload_n hx hb dX7_lay_18 rfl (lv_at hl 0 rfl) ?_
  refine zk_ald hx hb hE hP 2 1 rfl rfl (Nat.le_of_ble_eq_true rfl) (Nat.le_of_ble_eq_true rfl) dX7_lay_19 ?_
  refine zk_ast (ws' := [(mo, .inr (7, [.ref st, .ref im, .ref iz, .ref go, .int li, .ref pt, .ref ch, .ref su, .ref kp, .ref hr, .int bf, .int bc, .int bs, .int bt, .int gd])), (st, .inl (cI, 75, .inl (upd (upd sg (aa + 0) (fs 0)) (aa + 1) (fs 1)))), (su, .inl (cI, 4, .inl fs))]) hx hb hE hP hD hS 1 (aa + 1) rfl rfl (by omega) (Nat.le_of_ble_eq_true rfl) dX7_lay_20 rfl (fun H locs hP hD hS => ?_)
  refine lv_iinc (v := 2) (lv' := [(2, .int 2), (0, .ref mo), (1, .int (nI aa))]) hx hb dX7_lay_21 hl (k := 0) rfl (by decide) (by decide) rfl (fun ls hl => ?_)
  refine lv_goto (tgt := 2) hx hb dX7_lay_24 (by decide) ?_
  refine lv_iload_n hx hb dX7_lay_2 rfl (lv_at hl 0 rfl) ?_
  refine lv_iconst (v := 4) hx hb dX7_lay_3 (by decide) ?_
  refine lv_icmp_ge (tgt := 27) hx hb dX7_lay_4 (by decide) (fun c_4 => absurd c_4 (by decide)) (fun c_4 => ?_)
  refine lv_aload_n hx hb dX7_lay_7 rfl (lv_at hl 1 rfl) ?_
  refine zk_get X hE sX7_lay_8 hP 0 rfl rfl ?_
  refine lv_iload_n hx hb dX7_lay_11 rfl (lv_at hl 2 rfl) ?_
  refine lv_iload_n hx hb dX7_lay_12 rfl (lv_at hl 0 rfl) ?_
  refine lv_iadd hx hb dX7_lay_13 ?_
  refine zk_top (show ((nI aa) + 2 : Int32) = nI (aa + 2) from nI_add aa 2) ?_
  refine lv_aload_n hx hb dX7_lay_14 rfl (lv_at hl 1 rfl) ?_
  refine zk_get X hE sX7_lay_15 hP 0 rfl rfl ?_
  refine lv_iload_n hx hb dX7_lay_18 rfl (lv_at hl 0 rfl) ?_
  refine zk_ald hx hb hE hP 2 2 rfl rfl (Nat.le_of_ble_eq_true rfl) (Nat.le_of_ble_eq_true rfl) dX7_lay_19 ?_
  refine zk_ast (ws' := [(mo, .inr (7, [.ref st, .ref im, .ref iz, .ref go, .int li, .ref pt, .ref ch, .ref su, .ref kp, .ref hr, .int bf, .int bc, .int bs, .int bt, .int gd])), (st, .inl (cI, 75, .inl (upd (upd (upd sg (aa + 0) (fs 0)) (aa + 1) (fs 1)) (aa + 2) (fs 2)))), (su, .inl (cI, 4, .inl fs))]) hx hb hE hP hD hS 1 (aa + 2) rfl rfl (by omega) (Nat.le_of_ble_eq_true rfl) dX7_lay_20 rfl (fun H locs hP hD hS => ?_)
  refine lv_iinc (v := 3) (lv' := [(2, .int 3), (0, .ref mo), (1, .int (nI aa))]) hx hb dX7_lay_21 hl (k := 0) rfl (by decide) (by decide) rfl (fun ls hl => ?_)
  refine lv_goto (tgt := 2) hx hb dX7_lay_24 (by decide) ?_
  refine lv_iload_n hx hb dX7_lay_2 rfl (lv_at hl 0 rfl) ?_
  refine lv_iconst (v := 4) hx hb dX7_lay_3 (by decide) ?_
  refine lv_icmp_ge (tgt := 27) hx hb dX7_lay_4 (by decide) (fun c_4 => absurd c_4 (by decide)) (fun c_4 => ?_)
  refine lv_aload_n hx hb dX7_lay_7 rfl (lv_at hl 1 rfl) ?_
  refine zk_get X hE sX7_lay_8 hP 0 rfl rfl ?_
  refine lv_iload_n hx hb dX7_lay_11 rfl (lv_at hl 2 rfl) ?_
  refine lv_iload_n hx hb dX7_lay_12 rfl (lv_at hl 0 rfl) ?_
  refine lv_iadd hx hb dX7_lay_13 ?_
  refine zk_top (show ((nI aa) + 3 : Int32) = nI (aa + 3) from nI_add aa 3) ?_
  refine lv_aload_n hx hb dX7_lay_14 rfl (lv_at hl 1 rfl) ?_
  refine zk_get X hE sX7_lay_15 hP 0 rfl rfl ?_
  refine lv_iload_n hx hb dX7_lay_18 rfl (lv_at hl 0 rfl) ?_
  refine zk_ald hx hb hE hP 2 3 rfl rfl (Nat.le_of_ble_eq_true rfl) (Nat.le_of_ble_eq_true rfl) dX7_lay_19 ?_
  refine zk_ast (ws' := [(mo, .inr (7, [.ref st, .ref im, .ref iz, .ref go, .int li, .ref pt, .ref ch, .ref su, .ref kp, .ref hr, .int bf, .int bc, .int bs, .int bt, .int gd])), (st, .inl (cI, 75, .inl (upd (upd (upd (upd sg (aa + 0) (fs 0)) (aa + 1) (fs 1)) (aa + 2) (fs 2)) (aa + 3) (fs 3)))), (su, .inl (cI, 4, .inl fs))]) hx hb hE hP hD hS 1 (aa + 3) rfl rfl (by omega) (Nat.le_of_ble_eq_true rfl) dX7_lay_20 rfl (fun H locs hP hD hS => ?_)
  refine lv_iinc (v := 4) (lv' := [(2, .int 4), (0, .ref mo), (1, .int (nI aa))]) hx hb dX7_lay_21 hl (k := 0) rfl (by decide) (by decide) rfl (fun ls hl => ?_)
  refine lv_goto (tgt := 2) hx hb dX7_lay_24 (by decide) ?_
  refine lv_iload_n hx hb dX7_lay_2 rfl (lv_at hl 0 rfl) ?_
  refine lv_iconst (v := 4) hx hb dX7_lay_3 (by decide) ?_
  refine lv_icmp_ge (tgt := 27) hx hb dX7_lay_4 (by decide) (fun c_4 => ?_) (fun c_4 => absurd c_4 (by decide))
  exact hret  () H locs 27 ls trivial hP hD hS dX7_lay_27
set_option maxHeartbeats 4000000 in
set_option maxRecDepth 100000 in
theorem c_X7_dropPage (l : Launch) (D : va_G) (cI cZ : ClassId) (ts : Nat → Nat) (mo : Nat) (st : Nat) (im : Nat) (iz : Nat) (go : Nat) (pt : Nat) (ch : Nat) (su : Nat) (kp : Nat) (hr : Nat) (li : Int32) (bf : Int32) (bc : Int32) (bs : Int32) (bt : Int32) (gd : Int32) (sg : Nat → Int32) (q : Nat) (hq : q ≤ 11) : zk_Mv l yX7_dropPage wsX7_dropPage ({ frames := 0, cells := 0, slots := 0, locals := 0 } : Room) D cI cZ ts [.ref mo, .int (nI q)] [(mo, .inr (7, [.ref st, .ref im, .ref iz, .ref go, .int li, .ref pt, .ref ch, .ref su, .ref kp, .ref hr, .int bf, .int bc, .int bs, .int bt, .int gd])), (st, .inl (cI, 75, .inl sg))] (fun (u : (Nat → Int32)) => u = upd (zdp sg (27 + 4 * q) 71) 26 (sg 26 - 1)) (fun (u : (Nat → Int32)) => [(mo, .inr (7, [.ref st, .ref im, .ref iz, .ref go, .int li, .ref pt, .ref ch, .ref su, .ref kp, .ref hr, .int bf, .int bc, .int bs, .int bt, .int gd])), (st, .inl (cI, 75, .inl u))]) 0 0 := by
  refine zk_Mv.of (cc := cX7_dropPage) (maxL := 3) RX7 (by decide) rfl (Nat.le_of_ble_eq_true rfl) rfl ?_
  intro p e s m below meth c A Q H locs ls X hE hA hin hP hD hS hret hl
  obtain ⟨hx, hb, hml, hown, hts⟩ := id X
  have hl : lv_has ls 3 [(0, .ref mo), (1, .int (nI q))] := hl
  refine lv_bipush (v := 27) hx hb dX7_dropPage_0 (by decide) ?_
  refine lv_iconst (v := 4) hx hb dX7_dropPage_2 (by decide) ?_
  refine lv_iload_n hx hb dX7_dropPage_3 rfl (lv_at hl 1 rfl) ?_
  refine lv_imul hx hb dX7_dropPage_4 ?_
  refine zk_top (show (4 * (nI q) : Int32) = nI (4 * q) from pk_mul 4 q) ?_
  refine lv_iadd hx hb dX7_dropPage_5 ?_
  refine zk_top (show (27 + (nI (4 * q)) : Int32) = nI (27 + (4 * q)) from nI_add 27 (4 * q)) ?_
  refine lv_istore_n (lv' := [(2, .int (nI (27 + (4 * q)))), (0, .ref mo), (1, .int (nI q))]) hx hb dX7_dropPage_6 rfl hl (by decide) rfl (fun ls hl => ?_)
  have L_7 : ∀ (n : Nat) (i : Nat) (ft : Nat → Int32) (H : Heap) (locs : List Loc) (ls : Array Slot), (27 + 4 * q ≤ i) → (i ≤ 71) → (ft = zdp sg (27 + 4 * q) i) → 71 - i < n → va_P D vwCl [(mo, .inr (7, [.ref st, .ref im, .ref iz, .ref go, .int li, .ref pt, .ref ch, .ref su, .ref kp, .ref hr, .int bf, .int bc, .int bs, .int bt, .int gd])), (st, .inl (cI, 75, .inl ft))] H → va_D A [(mo, .inr (7, [.ref st, .ref im, .ref iz, .ref go, .int li, .ref pt, .ref ch, .ref su, .ref kp, .ref hr, .int bf, .int bc, .int bs, .int bt, .int gd])), (st, .inl (cI, 75, .inl ft))] → va_S A s.heap H locs → lv_has ls 3 [(0, .ref mo), (1, .int (nI q)), (2, .int (nI i))] → W p l e ({ frames := 0, cells := 0, slots := 0, locals := 0 } : Room) s m ([.ref mo, .int (nI q)] : List Value).toArray below meth c H locs 0 0 Q (F0 m 7 ls []) := by
    intro n
    induction n with
    | zero =>
      intro i ft H locs ls h1 h2 hs hlt hP hD hS hl
      exact absurd hlt (Nat.not_lt_zero _)
    | succ n ih_7 =>
      intro i ft H locs ls h1 h2 hs hlt hP hD hS hl
      refine lv_iload_n hx hb dX7_dropPage_7 rfl (lv_at hl 2 rfl) ?_
      refine lv_iconst (v := 4) hx hb dX7_dropPage_8 (by decide) ?_
      refine lv_iadd hx hb dX7_dropPage_9 ?_
      refine zk_top (show ((nI i) + 4 : Int32) = nI (i + 4) from nI_add i 4) ?_
      refine lv_bipush (v := 75) hx hb dX7_dropPage_10 (by decide) ?_
      refine lv_icmp_ge (tgt := 35) hx hb dX7_dropPage_12 (by decide) (fun c_12 => ?_) (fun c_12 => ?_)
      · have hge := zn_le (a := 75) c_12 (by decide) (by omega)
        have ei : i = 71 := by omega
        subst ei
        refine lv_aload_n hx hb dX7_dropPage_35 rfl (lv_at hl 0 rfl) ?_
        refine zk_get X hE sX7_dropPage_36 hP 0 rfl rfl ?_
        refine lv_bipush (v := 26) hx hb dX7_dropPage_39 (by decide) ?_
        refine lv_dup2_11 hx hb dX7_dropPage_41 rfl rfl ?_
        refine zk_ald hx hb hE hP 1 26 rfl rfl (Nat.le_of_ble_eq_true rfl) (Nat.le_of_ble_eq_true rfl) dX7_dropPage_42 ?_
        refine lv_iconst (v := 1) hx hb dX7_dropPage_43 (by decide) ?_
        refine lv_isub hx hb dX7_dropPage_44 ?_
        refine zk_ast (ws' := [(mo, .inr (7, [.ref st, .ref im, .ref iz, .ref go, .int li, .ref pt, .ref ch, .ref su, .ref kp, .ref hr, .int bf, .int bc, .int bs, .int bt, .int gd])), (st, .inl (cI, 75, .inl (upd ft 26 ((ft 26) - 1))))]) hx hb hE hP hD hS 1 26 rfl rfl (Nat.le_of_ble_eq_true rfl) (Nat.le_of_ble_eq_true rfl) dX7_dropPage_45 rfl (fun H locs hP hD hS => ?_)
        have hq := hret  (upd ft 26 ((ft 26) - 1)) H locs 46 ls
        exact hq (by (try dsimp only); rw [hs, show zdp sg (27 + 4 * q) 71 26 = sg 26 from if_neg (by omega)]) hP hD hS dX7_dropPage_46
      · have hik := zn_nle (a := 75) c_12 (by omega)
        refine lv_aload_n hx hb dX7_dropPage_15 rfl (lv_at hl 0 rfl) ?_
        refine zk_get X hE sX7_dropPage_16 hP 0 rfl rfl ?_
        refine lv_iload_n hx hb dX7_dropPage_19 rfl (lv_at hl 2 rfl) ?_
        refine lv_aload_n hx hb dX7_dropPage_20 rfl (lv_at hl 0 rfl) ?_
        refine zk_get X hE sX7_dropPage_21 hP 0 rfl rfl ?_
        refine lv_iload_n hx hb dX7_dropPage_24 rfl (lv_at hl 2 rfl) ?_
        refine lv_iconst (v := 4) hx hb dX7_dropPage_25 (by decide) ?_
        refine lv_iadd hx hb dX7_dropPage_26 ?_
        refine zk_top (show ((nI i) + 4 : Int32) = nI (i + 4) from nI_add i 4) ?_
        refine zk_ald hx hb hE hP 1 (i + 4) rfl rfl (by omega) (Nat.le_of_ble_eq_true rfl) dX7_dropPage_27 ?_
        refine zk_ast (ws' := [(mo, .inr (7, [.ref st, .ref im, .ref iz, .ref go, .int li, .ref pt, .ref ch, .ref su, .ref kp, .ref hr, .int bf, .int bc, .int bs, .int bt, .int gd])), (st, .inl (cI, 75, .inl (upd ft i (ft (i + 4)))))]) hx hb hE hP hD hS 1 i rfl rfl (by omega) (Nat.le_of_ble_eq_true rfl) dX7_dropPage_28 rfl (fun H locs hP hD hS => ?_)
        refine lv_iinc (v := nI (i + 1)) (lv' := [(2, .int (nI (i + 1))), (0, .ref mo), (1, .int (nI q))]) hx hb dX7_dropPage_29 hl (k := 2) rfl (zk_inc i) (by decide) rfl (fun ls hl => ?_)
        refine lv_goto (tgt := 7) hx hb dX7_dropPage_32 (by decide) ?_
        exact ih_7 (i + 1) (upd ft i (ft (i + 4))) H locs ls (by omega) (by omega) (zdp_s h1 hs) (by omega) hP hD hS (lv_sub hl [1, 2, 0] rfl)
  exact L_7 _ (27 + (4 * q)) sg H locs ls (Nat.le_refl _) (by omega) (zdp_0 _ _) (Nat.lt_succ_self _) hP hD hS (lv_sub hl [1, 2, 0] rfl)
