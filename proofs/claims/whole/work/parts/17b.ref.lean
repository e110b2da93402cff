set_option maxHeartbeats 4000000 in
set_option maxRecDepth 100000 in
theorem c_X7_wash_y (l : Launch) (D : va_G) (cI cZ : ClassId) (ts : Nat → Nat) (mo : Nat) (st : Nat) (im : Nat) (iz : Nat) (go : Nat) (pt : Nat) (ch : Nat) (su : Nat) (kp : Nat) (hr : Nat) (li : Int32) (bf : Int32) (bc : Int32) (bs : Int32) (bt : Int32) (gd : Int32) (sg : Nat → Int32) (p0 : Int32) (p1 : Int32) (p2 : Int32) (p3 : Int32) (hC : zCw p0 p1 p2 p3) : zk_Mi l yX7_wash wsX7_wash ({ frames := 1, cells := 0, slots := 0, locals := 22 } : Room) D cI cZ ts [.ref mo, .int p0, .int p1, .int p2, .int p3] [(mo, .inr (7, [.ref st, .ref im, .ref iz, .ref go, .int li, .ref pt, .ref ch, .ref su, .ref kp, .ref hr, .int bf, .int bc, .int bs, .int bt, .int gd])), (st, .inl (cI, 75, .inl sg))] (fun (r : Int32) (_ : Unit) => r = (sg 0)) (fun (_ : Unit) => [(mo, .inr (7, [.ref st, .ref im, .ref iz, .ref go, .int li, .ref pt, .ref ch, .ref su, .ref kp, .ref hr, .int bf, .int bc, .int bs, .int bt, .int gd])), (st, .inl (cI, 75, .inl (upd (upd (upd (upd sg 0 p0) 1 p1) 2 p2) 3 p3)))]) 0 0 := by
  refine zk_Mi.of (cc := cX7_wash) (maxL := 6) RX7 (by decide) rfl (Nat.le_of_ble_eq_true rfl) rfl ?_
  intro p e s m below meth c A Q H locs ls X hE hA hP hD hS hret hl
  obtain ⟨hx, hb, hml, hown, hts⟩ := id X
  have hl : lv_has ls 6 [(0, .ref mo), (1, .int p0), (2, .int p1), (3, .int p2), (4, .int p3)] := hl
  refine lv_iload_n hx hb dX7_wash_0 rfl (lv_at hl 1 rfl) ?_
  refine lv_iconst (v := 1) hx hb dX7_wash_1 (by decide) ?_
  refine lv_bipush (v := 30) hx hb dX7_wash_2 (by decide) ?_
  refine zk_cSi (rest := []) X hE hA (c_X7_in l D cI cZ ts p0 1 30) (cwS 3 hts gX7_wash_X7_in rfl rfl rfl hdX7_in ⟨Nat.le_of_ble_eq_true rfl, Nat.le_of_ble_eq_true rfl⟩) dX7_wash_4 hP hD hS rfl hl rfl (Nat.le_of_ble_eq_true rfl) ⟨Nat.le_of_ble_eq_true rfl, Nat.le_of_ble_eq_true rfl⟩ (fun r_4 _ H locs hw_4 hP hD hS => ?_)
  obtain rfl : r_4 = (if 1 ≤ p0 ∧ p0 ≤ 30 then 1 else 0) := hw_4
  refine lv_if_eq (tgt := 42) hx hb dX7_wash_7 (by decide) (fun c_7 => absurd c_7 (by rw [if_pos hC.1]; decide)) (fun c_7 => ?_)
  have c_7 : 1 ≤ p0 ∧ p0 ≤ 30 := zk_ite1 c_7
  refine lv_iload_n hx hb dX7_wash_10 rfl (lv_at hl 2 rfl) ?_
  refine lv_iconst (v := 0) hx hb dX7_wash_11 (by decide) ?_
  refine lv_sipush (v := 300) hx hb dX7_wash_12 (by decide) ?_
  refine zk_cSi (rest := []) X hE hA (c_X7_in l D cI cZ ts p1 0 300) (cwS 3 hts gX7_wash_X7_in rfl rfl rfl hdX7_in ⟨Nat.le_of_ble_eq_true rfl, Nat.le_of_ble_eq_true rfl⟩) dX7_wash_15 hP hD hS rfl hl rfl (Nat.le_of_ble_eq_true rfl) ⟨Nat.le_of_ble_eq_true rfl, Nat.le_of_ble_eq_true rfl⟩ (fun r_15 _ H locs hw_15 hP hD hS => ?_)
  obtain rfl : r_15 = (if 0 ≤ p1 ∧ p1 ≤ 300 then 1 else 0) := hw_15
  refine lv_if_eq (tgt := 42) hx hb dX7_wash_18 (by decide) (fun c_18 => absurd c_18 (by rw [if_pos hC.2.1]; decide)) (fun c_18 => ?_)
  have c_18 : 0 ≤ p1 ∧ p1 ≤ 300 := zk_ite1 c_18
  refine lv_iload_n hx hb dX7_wash_21 rfl (lv_at hl 3 rfl) ?_
  refine lv_iconst (v := 0) hx hb dX7_wash_22 (by decide) ?_
  refine lv_bipush (v := 99) hx hb dX7_wash_23 (by decide) ?_
  refine zk_cSi (rest := []) X hE hA (c_X7_in l D cI cZ ts p2 0 99) (cwS 3 hts gX7_wash_X7_in rfl rfl rfl hdX7_in ⟨Nat.le_of_ble_eq_true rfl, Nat.le_of_ble_eq_true rfl⟩) dX7_wash_25 hP hD hS rfl hl rfl (Nat.le_of_ble_eq_true rfl) ⟨Nat.le_of_ble_eq_true rfl, Nat.le_of_ble_eq_true rfl⟩ (fun r_25 _ H locs hw_25 hP hD hS => ?_)
  obtain rfl : r_25 = (if 0 ≤ p2 ∧ p2 ≤ 99 then 1 else 0) := hw_25
  refine lv_if_eq (tgt := 42) hx hb dX7_wash_28 (by decide) (fun c_28 => absurd c_28 (by rw [if_pos hC.2.2.1]; decide)) (fun c_28 => ?_)
  have c_28 : 0 ≤ p2 ∧ p2 ≤ 99 := zk_ite1 c_28
  refine lv_iload hx hb dX7_wash_31 (lv_at hl 4 rfl) ?_
  refine lv_iconst (v := 0) hx hb dX7_wash_33 (by decide) ?_
  refine lv_bipush (v := 99) hx hb dX7_wash_34 (by decide) ?_
  refine zk_cSi (rest := []) X hE hA (c_X7_in l D cI cZ ts p3 0 99) (cwS 3 hts gX7_wash_X7_in rfl rfl rfl hdX7_in ⟨Nat.le_of_ble_eq_true rfl, Nat.le_of_ble_eq_true rfl⟩) dX7_wash_36 hP hD hS rfl hl rfl (Nat.le_of_ble_eq_true rfl) ⟨Nat.le_of_ble_eq_true rfl, Nat.le_of_ble_eq_true rfl⟩ (fun r_36 _ H locs hw_36 hP hD hS => ?_)
  obtain rfl : r_36 = (if 0 ≤ p3 ∧ p3 ≤ 99 then 1 else 0) := hw_36
  refine lv_if_ne (tgt := 45) hx hb dX7_wash_39 (by decide) (fun c_39 => ?_) (fun c_39 => absurd c_39 (by rw [if_pos hC.2.2.2]; decide))
  have c_39 : 0 ≤ p3 ∧ p3 ≤ 99 := zk_ite1 c_39
  refine lv_aload_n hx hb dX7_wash_45 rfl (lv_at hl 0 rfl) ?_
  refine zk_get X hE sX7_wash_46 hP 0 rfl rfl ?_
  refine lv_iconst (v := 0) hx hb dX7_wash_49 (by decide) ?_
  refine zk_ald hx hb hE hP 1 0 rfl rfl (Nat.le_of_ble_eq_true rfl) (Nat.le_of_ble_eq_true rfl) dX7_wash_50 ?_
  refine lv_istore (lv' := [(5, .int (sg 0)), (0, .ref mo), (1, .int p0), (2, .int p1), (3, .int p2), (4, .int p3)]) hx hb dX7_wash_51 hl (by decide) rfl (fun ls hl => ?_)
  refine lv_aload_n hx hb dX7_wash_53 rfl (lv_at hl 1 rfl) ?_
  refine zk_get X hE sX7_wash_54 hP 0 rfl rfl ?_
  refine lv_iconst (v := 0) hx hb dX7_wash_57 (by decide) ?_
  refine lv_iload_n hx hb dX7_wash_58 rfl (lv_at hl 2 rfl) ?_
  refine zk_ast (ws' := [(mo, .inr (7, [.ref st, .ref im, .ref iz, .ref go, .int li, .ref pt, .ref ch, .ref su, .ref kp, .ref hr, .int bf, .int bc, .int bs, .int bt, .int gd])), (st, .inl (cI, 75, .inl (upd sg 0 p0)))]) hx hb hE hP hD hS 1 0 rfl rfl (Nat.le_of_ble_eq_true rfl) (Nat.le_of_ble_eq_true rfl) dX7_wash_59 rfl (fun H locs hP hD hS => ?_)
  refine lv_aload_n hx hb dX7_wash_60 rfl (lv_at hl 1 rfl) ?_
  refine zk_get X hE sX7_wash_61 hP 0 rfl rfl ?_
  refine lv_iconst (v := 1) hx hb dX7_wash_64 (by decide) ?_
  refine lv_iload_n hx hb dX7_wash_65 rfl (lv_at hl 3 rfl) ?_
  refine zk_ast (ws' := [(mo, .inr (7, [.ref st, .ref im, .ref iz, .ref go, .int li, .ref pt, .ref ch, .ref su, .ref kp, .ref hr, .int bf, .int bc, .int bs, .int bt, .int gd])), (st, .inl (cI, 75, .inl (upd (upd sg 0 p0) 1 p1)))]) hx hb hE hP hD hS 1 1 rfl rfl (Nat.le_of_ble_eq_true rfl) (Nat.le_of_ble_eq_true rfl) dX7_wash_66 rfl (fun H locs hP hD hS => ?_)
  refine lv_aload_n hx hb dX7_wash_67 rfl (lv_at hl 1 rfl) ?_
  refine zk_get X hE sX7_wash_68 hP 0 rfl rfl ?_
  refine lv_iconst (v := 2) hx hb dX7_wash_71 (by decide) ?_
  refine lv_iload_n hx hb dX7_wash_72 rfl (lv_at hl 4 rfl) ?_
  refine zk_ast (ws' := [(mo, .inr (7, [.ref st, .ref im, .ref iz, .ref go, .int li, .ref pt, .ref ch, .ref su, .ref kp, .ref hr, .int bf, .int bc, .int bs, .int bt, .int gd])), (st, .inl (cI, 75, .inl (upd (upd (upd sg 0 p0) 1 p1) 2 p2)))]) hx hb hE hP hD hS 1 2 rfl rfl (Nat.le_of_ble_eq_true rfl) (Nat.le_of_ble_eq_true rfl) dX7_wash_73 rfl (fun H locs hP hD hS => ?_)
  refine lv_aload_n hx hb dX7_wash_74 rfl (lv_at hl 1 rfl) ?_
  refine zk_get X hE sX7_wash_75 hP 0 rfl rfl ?_
  refine lv_iconst (v := 3) hx hb dX7_wash_78 (by decide) ?_
  refine lv_iload hx hb dX7_wash_79 (lv_at hl 5 rfl) ?_
  refine zk_ast (ws' := [(mo, .inr (7, [.ref st, .ref im, .ref iz, .ref go, .int li, .ref pt, .ref ch, .ref su, .ref kp, .ref hr, .int bf, .int bc, .int bs, .int bt, .int gd])), (st, .inl (cI, 75, .inl (upd (upd (upd (upd sg 0 p0) 1 p1) 2 p2) 3 p3)))]) hx hb hE hP hD hS 1 3 rfl rfl (Nat.le_of_ble_eq_true rfl) (Nat.le_of_ble_eq_true rfl) dX7_wash_81 rfl (fun H locs hP hD hS => ?_)
  refine lv_iload hx hb dX7_wash_82 (lv_at hl 0 rfl) ?_
  exact hret (sg 0) () H locs 84 ls rfl hP hD hS dX7_wash_84
set_option maxHeartbeats 4000000 in
set_option maxRecDepth 100000 in
theorem c_X7_wash_n (l : Launch) (D : va_G) (cI cZ : ClassId) (ts : Nat → Nat) (mo : Nat) (st : Nat) (im : Nat) (iz : Nat) (go : Nat) (pt : Nat) (ch : Nat) (su : Nat) (kp : Nat) (hr : Nat) (li : Int32) (bf : Int32) (bc : Int32) (bs : Int32) (bt : Int32) (gd : Int32) (p0 : Int32) (p1 : Int32) (p2 : Int32) (p3 : Int32) (hC : ¬ zCw p0 p1 p2 p3) : zk_Mi l yX7_wash wsX7_wash ({ frames := 1, cells := 0, slots := 0, locals := 22 } : Room) D cI cZ ts [.ref mo, .int p0, .int p1, .int p2, .int p3] [(mo, .inr (7, [.ref st, .ref im, .ref iz, .ref go, .int li, .ref pt, .ref ch, .ref su, .ref kp, .ref hr, .int bf, .int bc, .int bs, .int bt, .int gd]))] (fun (r : Int32) (_ : Unit) => r = (-2)) (fun (_ : Unit) => [(mo, .inr (7, [.ref st, .ref im, .ref iz, .ref go, .int li, .ref pt, .ref ch, .ref su, .ref kp, .ref hr, .int bf, .int bc, .int bs, .int bt, .int gd]))]) 0 0 := by
  refine zk_Mi.of (cc := cX7_wash) (maxL := 6) RX7 (by decide) rfl (Nat.le_of_ble_eq_true rfl) rfl ?_
  intro p e s m below meth c A Q H locs ls X hE hA hP hD hS hret hl
  obtain ⟨hx, hb, hml, hown, hts⟩ := id X
  have hl : lv_has ls 6 [(0, .ref mo), (1, .int p0), (2, .int p1), (3, .int p2), (4, .int p3)] := hl
  refine lv_iload_n hx hb dX7_wash_0 rfl (lv_at hl 1 rfl) ?_
  refine lv_iconst (v := 1) hx hb dX7_wash_1 (by decide) ?_
  refine lv_bipush (v := 30) hx hb dX7_wash_2 (by decide) ?_
  refine zk_cSi (rest := []) X hE hA (c_X7_in l D cI cZ ts p0 1 30) (cwS 3 hts gX7_wash_X7_in rfl rfl rfl hdX7_in ⟨Nat.le_of_ble_eq_true rfl, Nat.le_of_ble_eq_true rfl⟩) dX7_wash_4 hP hD hS rfl hl rfl (Nat.le_of_ble_eq_true rfl) ⟨Nat.le_of_ble_eq_true rfl, Nat.le_of_ble_eq_true rfl⟩ (fun r_4 _ H locs hw_4 hP hD hS => ?_)
  obtain rfl : r_4 = (if 1 ≤ p0 ∧ p0 ≤ 30 then 1 else 0) := hw_4
  refine lv_if_eq (tgt := 42) hx hb dX7_wash_7 (by decide) (fun c_7 => ?_) (fun c_7 => ?_)
  · have c_7 : ¬ (1 ≤ p0 ∧ p0 ≤ 30) := zk_ite0 c_7
    refine lv_bipush (v := (-2)) hx hb dX7_wash_42 (by decide) ?_
    exact hret (-2) () H locs 44 ls rfl hP hD hS dX7_wash_44
  · have c_7 : 1 ≤ p0 ∧ p0 ≤ 30 := zk_ite1 c_7
    refine lv_iload_n hx hb dX7_wash_10 rfl (lv_at hl 2 rfl) ?_
    refine lv_iconst (v := 0) hx hb dX7_wash_11 (by decide) ?_
    refine lv_sipush (v := 300) hx hb dX7_wash_12 (by decide) ?_
    refine zk_cSi (rest := []) X hE hA (c_X7_in l D cI cZ ts p1 0 300) (cwS 3 hts gX7_wash_X7_in rfl rfl rfl hdX7_in ⟨Nat.le_of_ble_eq_true rfl, Nat.le_of_ble_eq_true rfl⟩) dX7_wash_15 hP hD hS rfl hl rfl (Nat.le_of_ble_eq_true rfl) ⟨Nat.le_of_ble_eq_true rfl, Nat.le_of_ble_eq_true rfl⟩ (fun r_15 _ H locs hw_15 hP hD hS => ?_)
    obtain rfl : r_15 = (if 0 ≤ p1 ∧ p1 ≤ 300 then 1 else 0) := hw_15
    refine lv_if_eq (tgt := 42) hx hb dX7_wash_18 (by decide) (fun c_18 => ?_) (fun c_18 => ?_)
    · have c_18 : ¬ (0 ≤ p1 ∧ p1 ≤ 300) := zk_ite0 c_18
      refine lv_bipush (v := (-2)) hx hb dX7_wash_42 (by decide) ?_
      exact hret (-2) () H locs 44 ls rfl hP hD hS dX7_wash_44
    · have c_18 : 0 ≤ p1 ∧ p1 ≤ 300 := zk_ite1 c_18
      refine lv_iload_n hx hb dX7_wash_21 rfl (lv_at hl 3 rfl) ?_
      refine lv_iconst (v := 0) hx hb dX7_wash_22 (by decide) ?_
      refine lv_bipush (v := 99) hx hb dX7_wash_23 (by decide) ?_
      refine zk_cSi (rest := []) X hE hA (c_X7_in l D cI cZ ts p2 0 99) (cwS 3 hts gX7_wash_X7_in rfl rfl rfl hdX7_in ⟨Nat.le_of_ble_eq_true rfl, Nat.le_of_ble_eq_true rfl⟩) dX7_wash_25 hP hD hS rfl hl rfl (Nat.le_of_ble_eq_true rfl) ⟨Nat.le_of_ble_eq_true rfl, Nat.le_of_ble_eq_true rfl⟩ (fun r_25 _ H locs hw_25 hP hD hS => ?_)
      obtain rfl : r_25 = (if 0 ≤ p2 ∧ p2 ≤ 99 then 1 else 0) := hw_25
      refine lv_if_eq (tgt := 42) hx hb dX7_wash_28 (by decide) (fun c_28 => ?_) (fun c_28 => ?_)
      · have c_28 : ¬ (0 ≤ p2 ∧ p2 ≤ 99) := zk_ite0 c_28
        refine lv_bipush (v := (-2)) hx hb dX7_wash_42 (by decide) ?_
        exact hret (-2) () H locs 44 ls rfl hP hD hS dX7_wash_44
      · have c_28 : 0 ≤ p2 ∧ p2 ≤ 99 := zk_ite1 c_28
        refine lv_iload hx hb dX7_wash_31 (lv_at hl 4 rfl) ?_
        refine lv_iconst (v := 0) hx hb dX7_wash_33 (by decide) ?_
        refine lv_bipush (v := 99) hx hb dX7_wash_34 (by decide) ?_
        refine zk_cSi (rest := []) X hE hA (c_X7_in l D cI cZ ts p3 0 99) (cwS 3 hts gX7_wash_X7_in rfl rfl rfl hdX7_in ⟨Nat.le_of_ble_eq_true rfl, Nat.le_of_ble_eq_true rfl⟩) dX7_wash_36 hP hD hS rfl hl rfl (Nat.le_of_ble_eq_true rfl) ⟨Nat.le_of_ble_eq_true rfl, Nat.le_of_ble_eq_true rfl⟩ (fun r_36 _ H locs hw_36 hP hD hS => ?_)
        obtain rfl : r_36 = (if 0 ≤ p3 ∧ p3 ≤ 99 then 1 else 0) := hw_36
        refine lv_if_ne (tgt := 45) hx hb dX7_wash_39 (by decide) (fun c_39 => absurd ⟨c_7, c_18, c_28, zk_ite1 c_39⟩ hC) (fun c_39 => ?_)
        have c_39 : ¬ (0 ≤ p3 ∧ p3 ≤ 99) := zk_ite0 c_39
        refine lv_bipush (v := (-2)) hx hb dX7_wash_42 (by decide) ?_
        exact hret (-2) () H locs 44 ls rfl hP hD hS dX7_wash_44
set_option maxHeartbeats 4000000 in
set_option maxRecDepth 100000 in
theorem c_X7_table_y (l : Launch) (D : va_G) (cI cZ : ClassId) (ts : Nat → Nat) (mo : Nat) (st : Nat) (im : Nat) (iz : Nat) (go : Nat) (pt : Nat) (ch : Nat) (su : Nat) (kp : Nat) (hr : Nat) (li : Int32) (bf : Int32) (bc : Int32) (bs : Int32) (bt : Int32) (gd : Int32) (sg : Nat → Int32) (p0 : Int32) (p1 : Int32) (h0 : 0 ≤ p0 ∧ p0 ≤ 10) (h1 : 0 ≤ p1 ∧ p1 ≤ 1000) : zk_Mi l yX7_table wsX7_table ({ frames := 1, cells := 0, slots := 0, locals := 22 } : Room) D cI cZ ts [.ref mo, .int p0, .int p1] [(mo, .inr (7, [.ref st, .ref im, .ref iz, .ref go, .int li, .ref pt, .ref ch, .ref su, .ref kp, .ref hr, .int bf, .int bc, .int bs, .int bt, .int gd])), (st, .inl (cI, 75, .inl sg))] (fun (r : Int32) (_ : Unit) => r = (sg (4 + p0.toNatClampNeg))) (fun (_ : Unit) => [(mo, .inr (7, [.ref st, .ref im, .ref iz, .ref go, .int li, .ref pt, .ref ch, .ref su, .ref kp, .ref hr, .int bf, .int bc, .int bs, .int bt, .int gd])), (st, .inl (cI, 75, .inl (upd sg (4 + p0.toNatClampNeg) p1)))]) 0 0 := by
  refine zk_Mi.of (cc := cX7_table) (maxL := 4) RX7 (by decide) rfl (Nat.le_of_ble_eq_true rfl) rfl ?_
  intro p e s m below meth c A Q H locs ls X hE hA hP hD hS hret hl
  obtain ⟨hx, hb, hml, hown, hts⟩ := id X
  have hl : lv_has ls 4 [(0, .ref mo), (1, .int p0), (2, .int p1)] := hl
  refine lv_iload_n hx hb dX7_table_0 rfl (lv_at hl 1 rfl) ?_
  refine lv_iconst (v := 0) hx hb dX7_table_1 (by decide) ?_
  refine lv_bipush (v := 10) hx hb dX7_table_2 (by decide) ?_
  refine zk_cSi (rest := []) X hE hA (c_X7_in l D cI cZ ts p0 0 10) (cwS 3 hts gX7_table_X7_in rfl rfl rfl hdX7_in ⟨Nat.le_of_ble_eq_true rfl, Nat.le_of_ble_eq_true rfl⟩) dX7_table_4 hP hD hS rfl hl rfl (Nat.le_of_ble_eq_true rfl) ⟨Nat.le_of_ble_eq_true rfl, Nat.le_of_ble_eq_true rfl⟩ (fun r_4 _ H locs hw_4 hP hD hS => ?_)
  obtain rfl : r_4 = (if 0 ≤ p0 ∧ p0 ≤ 10 then 1 else 0) := hw_4
  refine lv_if_ne (tgt := 12) hx hb dX7_table_7 (by decide) (fun c_7 => ?_) (fun c_7 => absurd c_7 (by rw [if_pos h0]; decide))
  have c_7 : 0 ≤ p0 ∧ p0 ≤ 10 := zk_ite1 c_7
  refine lv_iload_n hx hb dX7_table_12 rfl (lv_at hl 2 rfl) ?_
  refine lv_iconst (v := 0) hx hb dX7_table_13 (by decide) ?_
  refine lv_sipush (v := 1000) hx hb dX7_table_14 (by decide) ?_
  refine zk_cSi (rest := []) X hE hA (c_X7_in l D cI cZ ts p1 0 1000) (cwS 3 hts gX7_table_X7_in rfl rfl rfl hdX7_in ⟨Nat.le_of_ble_eq_true rfl, Nat.le_of_ble_eq_true rfl⟩) dX7_table_17 hP hD hS rfl hl rfl (Nat.le_of_ble_eq_true rfl) ⟨Nat.le_of_ble_eq_true rfl, Nat.le_of_ble_eq_true rfl⟩ (fun r_17 _ H locs hw_17 hP hD hS => ?_)
  obtain rfl : r_17 = (if 0 ≤ p1 ∧ p1 ≤ 1000 then 1 else 0) := hw_17
  refine lv_if_ne (tgt := 26) hx hb dX7_table_20 (by decide) (fun c_20 => ?_) (fun c_20 => absurd c_20 (by rw [if_pos h1]; decide))
  have c_20 : 0 ≤ p1 ∧ p1 ≤ 1000 := zk_ite1 c_20
  refine lv_aload_n hx hb dX7_table_26 rfl (lv_at hl 0 rfl) ?_
  refine zk_get X hE sX7_table_27 hP 0 rfl rfl ?_
  refine lv_iconst (v := 4) hx hb dX7_table_30 (by decide) ?_
  refine lv_iload_n hx hb dX7_table_31 rfl (lv_at hl 1 rfl) ?_
  refine lv_iadd hx hb dX7_table_32 ?_
  refine zk_ald hx hb hE hP 1 (4 + p0.toNatClampNeg) rfl (zj_add 4 (zj_of (M := 10) (n := 10) (by decide) h0).1) (by have := (zj_of (M := 10) (n := 10) (by decide) h0).2; omega) (Nat.le_of_ble_eq_true rfl) dX7_table_33 ?_
  refine lv_istore_n (lv' := [(3, .int (sg (4 + p0.toNatClampNeg))), (0, .ref mo), (1, .int p0), (2, .int p1)]) hx hb dX7_table_34 rfl hl (by decide) rfl (fun ls hl => ?_)
  refine lv_aload_n hx hb dX7_table_35 rfl (lv_at hl 1 rfl) ?_
  refine zk_get X hE sX7_table_36 hP 0 rfl rfl ?_
  refine lv_iconst (v := 4) hx hb dX7_table_39 (by decide) ?_
  refine lv_iload_n hx hb dX7_table_40 rfl (lv_at hl 2 rfl) ?_
  refine lv_iadd hx hb dX7_table_41 ?_
  refine lv_iload_n hx hb dX7_table_42 rfl (lv_at hl 3 rfl) ?_
  refine zk_ast (ws' := [(mo, .inr (7, [.ref st, .ref im, .ref iz, .ref go, .int li, .ref pt, .ref ch, .ref su, .ref kp, .ref hr, .int bf, .int bc, .int bs, .int bt, .int gd])), (st, .inl (cI, 75, .inl (upd sg (4 + p0.toNatClampNeg) p1)))]) hx hb hE hP hD hS 1 (4 + p0.toNatClampNeg) rfl (zj_add 4 (zj_of (M := 10) (n := 10) (by decide) h0).1) (by have := (zj_of (M := 10) (n := 10) (by decide) h0).2; omega) (Nat.le_of_ble_eq_true rfl) dX7_table_43 rfl (fun H locs hP hD hS => ?_)
  refine lv_iload_n hx hb dX7_table_44 rfl (lv_at hl 0 rfl) ?_
  exact hret (sg (4 + p0.toNatClampNeg)) () H locs 45 ls rfl hP hD hS dX7_table_45
set_option maxHeartbeats 4000000 in
set_option maxRecDepth 100000 in
theorem c_X7_table_u (l : Launch) (D : va_G) (cI cZ : ClassId) (ts : Nat → Nat) (mo : Nat) (st : Nat) (im : Nat) (iz : Nat) (go : Nat) (pt : Nat) (ch : Nat) (su : Nat) (kp : Nat) (hr : Nat) (li : Int32) (bf : Int32) (bc : Int32) (bs : Int32) (bt : Int32) (gd : Int32) (p0 : Int32) (p1 : Int32) (h0 : ¬ (0 ≤ p0 ∧ p0 ≤ 10)) : zk_Mi l yX7_table wsX7_table ({ frames := 1, cells := 0, slots := 0, locals := 22 } : Room) D cI cZ ts [.ref mo, .int p0, .int p1] [(mo, .inr (7, [.ref st, .ref im, .ref iz, .ref go, .int li, .ref pt, .ref ch, .ref su, .ref kp, .ref hr, .int bf, .int bc, .int bs, .int bt, .int gd]))] (fun (r : Int32) (_ : Unit) => r = (-1)) (fun (_ : Unit) => [(mo, .inr (7, [.ref st, .ref im, .ref iz, .ref go, .int li, .ref pt, .ref ch, .ref su, .ref kp, .ref hr, .int bf, .int bc, .int bs, .int bt, .int gd]))]) 0 0 := by
  refine zk_Mi.of (cc := cX7_table) (maxL := 4) RX7 (by decide) rfl (Nat.le_of_ble_eq_true rfl) rfl ?_
  intro p e s m below meth c A Q H locs ls X hE hA hP hD hS hret hl
  obtain ⟨hx, hb, hml, hown, hts⟩ := id X
  have hl : lv_has ls 4 [(0, .ref mo), (1, .int p0), (2, .int p1)] := hl
  refine lv_iload_n hx hb dX7_table_0 rfl (lv_at hl 1 rfl) ?_
  refine lv_iconst (v := 0) hx hb dX7_table_1 (by decide) ?_
  refine lv_bipush (v := 10) hx hb dX7_table_2 (by decide) ?_
  refine zk_cSi (rest := []) X hE hA (c_X7_in l D cI cZ ts p0 0 10) (cwS 3 hts gX7_table_X7_in rfl rfl rfl hdX7_in ⟨Nat.le_of_ble_eq_true rfl, Nat.le_of_ble_eq_true rfl⟩) dX7_table_4 hP hD hS rfl hl rfl (Nat.le_of_ble_eq_true rfl) ⟨Nat.le_of_ble_eq_true rfl, Nat.le_of_ble_eq_true rfl⟩ (fun r_4 _ H locs hw_4 hP hD hS => ?_)
  obtain rfl : r_4 = (if 0 ≤ p0 ∧ p0 ≤ 10 then 1 else 0) := hw_4
  refine lv_if_ne (tgt := 12) hx hb dX7_table_7 (by decide) (fun c_7 => absurd c_7 (fun q => q (if_neg h0))) (fun c_7 => ?_)
  have c_7 : ¬ (0 ≤ p0 ∧ p0 ≤ 10) := zk_ite0 c_7
  refine lv_iconst (v := (-1)) hx hb dX7_table_10 (by decide) ?_
  exact hret (-1) () H locs 11 ls rfl hP hD hS dX7_table_11
set_option maxHeartbeats 4000000 in
set_option maxRecDepth 100000 in
theorem c_X7_table_o (l : Launch) (D : va_G) (cI cZ : ClassId) (ts : Nat → Nat) (mo : Nat) (st : Nat) (im : Nat) (iz : Nat) (go : Nat) (pt : Nat) (ch : Nat) (su : Nat) (kp : Nat) (hr : Nat) (li : Int32) (bf : Int32) (bc : Int32) (bs : Int32) (bt : Int32) (gd : Int32) (p0 : Int32) (p1 : Int32) (h0 : 0 ≤ p0 ∧ p0 ≤ 10) (h1 : ¬ (0 ≤ p1 ∧ p1 ≤ 1000)) : zk_Mi l yX7_table wsX7_table ({ frames := 1, cells := 0, slots := 0, locals := 22 } : Room) D cI cZ ts [.ref mo, .int p0, .int p1] [(mo, .inr (7, [.ref st, .ref im, .ref iz, .ref go, .int li, .ref pt, .ref ch, .ref su, .ref kp, .ref hr, .int bf, .int bc, .int bs, .int bt, .int gd]))] (fun (r : Int32) (_ : Unit) => r = (-2)) (fun (_ : Unit) => [(mo, .inr (7, [.ref st, .ref im, .ref iz, .ref go, .int li, .ref pt, .ref ch, .ref su, .ref kp, .ref hr, .int bf, .int bc, .int bs, .int bt, .int gd]))]) 0 0 := by
  refine zk_Mi.of (cc := cX7_table) (maxL := 4) RX7 (by decide) rfl (Nat.le_of_ble_eq_true rfl) rfl ?_
  intro p e s m below meth c A Q H locs ls X hE hA hP hD hS hret hl
  obtain ⟨hx, hb, hml, hown, hts⟩ := id X
  have hl : lv_has ls 4 [(0, .ref mo), (1, .int p0), (2, .int p1)] := hl
  refine lv_iload_n hx hb dX7_table_0 rfl (lv_at hl 1 rfl) ?_
  refine lv_iconst (v := 0) hx hb dX7_table_1 (by decide) ?_
  refine lv_bipush (v := 10) hx hb dX7_table_2 (by decide) ?_
  refine zk_cSi (rest := []) X hE hA (c_X7_in l D cI cZ ts p0 0 10) (cwS 3 hts gX7_table_X7_in rfl rfl rfl hdX7_in ⟨Nat.le_of_ble_eq_true rfl, Nat.le_of_ble_eq_true rfl⟩) dX7_table_4 hP hD hS rfl hl rfl (Nat.le_of_ble_eq_true rfl) ⟨Nat.le_of_ble_eq_true rfl, Nat.le_of_ble_eq_true rfl⟩ (fun r_4 _ H locs hw_4 hP hD hS => ?_)
  obtain rfl : r_4 = (if 0 ≤ p0 ∧ p0 ≤ 10 then 1 else 0) := hw_4
  refine lv_if_ne (tgt := 12) hx hb dX7_table_7 (by decide) (fun c_7 => ?_) (fun c_7 => absurd c_7 (by rw [if_pos h0]; decide))
  have c_7 : 0 ≤ p0 ∧ p0 ≤ 10 := zk_ite1 c_7
  refine lv_iload_n hx hb dX7_table_12 rfl (lv_at hl 2 rfl) ?_
  refine lv_iconst (v := 0) hx hb dX7_table_13 (by decide) ?_
  refine lv_sipush (v := 1000) hx hb dX7_table_14 (by decide) ?_
  refine zk_cSi (rest := []) X hE hA (c_X7_in l D cI cZ ts p1 0 1000) (cwS 3 hts gX7_table_X7_in rfl rfl rfl hdX7_in ⟨Nat.le_of_ble_eq_true rfl, Nat.le_of_ble_eq_true rfl⟩) dX7_table_17 hP hD hS rfl hl rfl (Nat.le_of_ble_eq_true rfl) ⟨Nat.le_of_ble_eq_true rfl, Nat.le_of_ble_eq_true rfl⟩ (fun r_17 _ H locs hw_17 hP hD hS => ?_)
  obtain rfl : r_17 = (if 0 ≤ p1 ∧ p1 ≤ 1000 then 1 else 0) := hw_17
  refine lv_if_ne (tgt := 26) hx hb dX7_table_20 (by decide) (fun c_20 => absurd c_20 (fun q => q (if_neg h1))) (fun c_20 => ?_)
  have c_20 : ¬ (0 ≤ p1 ∧ p1 ≤ 1000) := zk_ite0 c_20
  refine lv_bipush (v := (-2)) hx hb dX7_table_23 (by decide) ?_
  exact hret (-2) () H locs 25 ls rfl hP hD hS dX7_table_25
set_option maxHeartbeats 4000000 in
set_option maxRecDepth 100000 in
theorem c_X7_leastOf (l : Launch) (D : va_G) (cI cZ : ClassId) (ts : Nat → Nat) (p0 : Int32) (h0 : 0 ≤ p0 ∧ p0 ≤ 5) : zk_Mi l yX7_leastOf wsX7_leastOf ({ frames := 0, cells := 0, slots := 0, locals := 0 } : Room) D cI cZ ts [.int p0] [] (fun (r : Int32) (_ : Unit) => r = (zk_lr p0.toNatClampNeg)) (fun (_ : Unit) => []) 0 0 := by
  refine zk_Mi.of (cc := cX7_leastOf) (maxL := 1) RX7 (by decide) rfl (Nat.le_of_ble_eq_true rfl) rfl ?_
  intro p e s m below meth c A Q H locs ls X hE hA hP hD hS hret hl
  obtain ⟨hx, hb, hml, hown, hts⟩ := id X
  have hl : lv_has ls 1 [(0, .int p0)] := hl
  rcases (show p0 = 0 ∨ p0 = 1 ∨ p0 = 2 ∨ p0 = 3 ∨ p0 = 4 ∨ p0 = 5 from zj_6 h0) with rfl | rfl | rfl | rfl | rfl | rfl
  · have hl := hl
    refine lv_iload_n hx hb dX7_leastOf_0 rfl (lv_at hl 0 rfl) ?_
    refine lv_iconst (v := 3) hx hb dX7_leastOf_1 (by decide) ?_
    refine lv_icmp_eq (tgt := 10) hx hb dX7_leastOf_2 (by decide) (fun c_2 => absurd c_2 (by decide)) (fun c_2 => ?_)
    refine lv_iload_n hx hb dX7_leastOf_5 rfl (lv_at hl 0 rfl) ?_
    refine lv_iconst (v := 4) hx hb dX7_leastOf_6 (by decide) ?_
    refine lv_icmp_ne (tgt := 14) hx hb dX7_leastOf_7 (by decide) (fun c_7 => ?_) (fun c_7 => absurd c_7 (by decide))
    refine lv_iconst (v := 0) hx hb dX7_leastOf_14 (by decide) ?_
    exact hret 0 () H locs 15 ls (by decide) hP hD hS dX7_leastOf_15
  · have hl := hl
    refine lv_iload_n hx hb dX7_leastOf_0 rfl (lv_at hl 0 rfl) ?_
    refine lv_iconst (v := 3) hx hb dX7_leastOf_1 (by decide) ?_
    refine lv_icmp_eq (tgt := 10) hx hb dX7_leastOf_2 (by decide) (fun c_2 => absurd c_2 (by decide)) (fun c_2 => ?_)
    refine lv_iload_n hx hb dX7_leastOf_5 rfl (lv_at hl 0 rfl) ?_
    refine lv_iconst (v := 4) hx hb dX7_leastOf_6 (by decide) ?_
    refine lv_icmp_ne (tgt := 14) hx hb dX7_leastOf_7 (by decide) (fun c_7 => ?_) (fun c_7 => absurd c_7 (by decide))
    refine lv_iconst (v := 0) hx hb dX7_leastOf_14 (by decide) ?_
    exact hret 0 () H locs 15 ls (by decide) hP hD hS dX7_leastOf_15
  · have hl := hl
    refine lv_iload_n hx hb dX7_leastOf_0 rfl (lv_at hl 0 rfl) ?_
    refine lv_iconst (v := 3) hx hb dX7_leastOf_1 (by decide) ?_
    refine lv_icmp_eq (tgt := 10) hx hb dX7_leastOf_2 (by decide) (fun c_2 => absurd c_2 (by decide)) (fun c_2 => ?_)
    refine lv_iload_n hx hb dX7_leastOf_5 rfl (lv_at hl 0 rfl) ?_
    refine lv_iconst (v := 4) hx hb dX7_leastOf_6 (by decide) ?_
    refine lv_icmp_ne (tgt := 14) hx hb dX7_leastOf_7 (by decide) (fun c_7 => ?_) (fun c_7 => absurd c_7 (by decide))
    refine lv_iconst (v := 0) hx hb dX7_leastOf_14 (by decide) ?_
    exact hret 0 () H locs 15 ls (by decide) hP hD hS dX7_leastOf_15
  · have hl := hl
    refine lv_iload_n hx hb dX7_leastOf_0 rfl (lv_at hl 0 rfl) ?_
    refine lv_iconst (v := 3) hx hb dX7_leastOf_1 (by decide) ?_
    refine lv_icmp_eq (tgt := 10) hx hb dX7_leastOf_2 (by decide) (fun c_2 => ?_) (fun c_2 => absurd c_2 (by decide))
    refine lv_iconst (v := 1) hx hb dX7_leastOf_10 (by decide) ?_
    refine lv_goto (tgt := 15) hx hb dX7_leastOf_11 (by decide) ?_
    exact hret 1 () H locs 15 ls (by decide) hP hD hS dX7_leastOf_15
  · have hl := hl
    refine lv_iload_n hx hb dX7_leastOf_0 rfl (lv_at hl 0 rfl) ?_
    refine lv_iconst (v := 3) hx hb dX7_leastOf_1 (by decide) ?_
    refine lv_icmp_eq (tgt := 10) hx hb dX7_leastOf_2 (by decide) (fun c_2 => absurd c_2 (by decide)) (fun c_2 => ?_)
    refine lv_iload_n hx hb dX7_leastOf_5 rfl (lv_at hl 0 rfl) ?_
    refine lv_iconst (v := 4) hx hb dX7_leastOf_6 (by decide) ?_
    refine lv_icmp_ne (tgt := 14) hx hb dX7_leastOf_7 (by decide) (fun c_7 => absurd c_7 (by decide)) (fun c_7 => ?_)
    refine lv_iconst (v := 1) hx hb dX7_leastOf_10 (by decide) ?_
    refine lv_goto (tgt := 15) hx hb dX7_leastOf_11 (by decide) ?_
    exact hret 1 () H locs 15 ls (by decide) hP hD hS dX7_leastOf_15
  · have hl := hl
    refine lv_iload_n hx hb dX7_leastOf_0 rfl (lv_at hl 0 rfl) ?_
    refine lv_iconst (v := 3) hx hb dX7_leastOf_1 (by decide) ?_
    refine lv_icmp_eq (tgt := 10) hx hb dX7_leastOf_2 (by decide) (fun c_2 => absurd c_2 (by decide)) (fun c_2 => ?_)
    refine lv_iload_n hx hb dX7_leastOf_5 rfl (lv_at hl 0 rfl) ?_
    refine lv_iconst (v := 4) hx hb dX7_leastOf_6 (by decide) ?_
    refine lv_icmp_ne (tgt := 14) hx hb dX7_leastOf_7 (by decide) (fun c_7 => ?_) (fun c_7 => absurd c_7 (by decide))
    refine lv_iconst (v := 0) hx hb dX7_leastOf_14 (by decide) ?_
    exact hret 0 () H locs 15 ls (by decide) hP hD hS dX7_leastOf_15
set_option maxHeartbeats 4000000 in
set_option maxRecDepth 100000 in
theorem c_X7_mostOf (l : Launch) (D : va_G) (cI cZ : ClassId) (ts : Nat → Nat) (p0 : Int32) (h0 : 0 ≤ p0 ∧ p0 ≤ 5) : zk_Mi l yX7_mostOf wsX7_mostOf ({ frames := 0, cells := 0, slots := 0, locals := 0 } : Room) D cI cZ ts [.int p0] [] (fun (r : Int32) (_ : Unit) => r = (zk_mr p0.toNatClampNeg)) (fun (_ : Unit) => []) 0 0 := by
  refine zk_Mi.of (cc := cX7_mostOf) (maxL := 1) RX7 (by decide) rfl (Nat.le_of_ble_eq_true rfl) rfl ?_
  intro p e s m below meth c A Q H locs ls X hE hA hP hD hS hret hl
  obtain ⟨hx, hb, hml, hown, hts⟩ := id X
  have hl : lv_has ls 1 [(0, .int p0)] := hl
  rcases (show p0 = 0 ∨ p0 = 1 ∨ p0 = 2 ∨ p0 = 3 ∨ p0 = 4 ∨ p0 = 5 from zj_6 h0) with rfl | rfl | rfl | rfl | rfl | rfl
  · have hl := hl
    refine lv_iload_n hx hb dX7_mostOf_0 rfl (lv_at hl 0 rfl) ?_
    refine lv_if_eq (tgt := 9) hx hb dX7_mostOf_1 (by decide) (fun c_1 => ?_) (fun c_1 => absurd c_1 (by decide))
    refine lv_bipush (v := 9) hx hb dX7_mostOf_9 (by decide) ?_
    refine lv_goto (tgt := 27) hx hb dX7_mostOf_11 (by decide) ?_
    exact hret 9 () H locs 27 ls (by decide) hP hD hS dX7_mostOf_27
  · have hl := hl
    refine lv_iload_n hx hb dX7_mostOf_0 rfl (lv_at hl 0 rfl) ?_
    refine lv_if_eq (tgt := 9) hx hb dX7_mostOf_1 (by decide) (fun c_1 => absurd c_1 (by decide)) (fun c_1 => ?_)
    refine lv_iload_n hx hb dX7_mostOf_4 rfl (lv_at hl 0 rfl) ?_
    refine lv_iconst (v := 3) hx hb dX7_mostOf_5 (by decide) ?_
    refine lv_icmp_ne (tgt := 14) hx hb dX7_mostOf_6 (by decide) (fun c_6 => ?_) (fun c_6 => absurd c_6 (by decide))
    refine lv_iload_n hx hb dX7_mostOf_14 rfl (lv_at hl 0 rfl) ?_
    refine lv_iconst (v := 3) hx hb dX7_mostOf_15 (by decide) ?_
    refine lv_icmp_ge (tgt := 25) hx hb dX7_mostOf_16 (by decide) (fun c_16 => absurd c_16 (by decide)) (fun c_16 => ?_)
    refine lv_sipush (v := 1000) hx hb dX7_mostOf_19 (by decide) ?_
    refine lv_goto (tgt := 27) hx hb dX7_mostOf_22 (by decide) ?_
    exact hret 1000 () H locs 27 ls (by decide) hP hD hS dX7_mostOf_27
  · have hl := hl
    refine lv_iload_n hx hb dX7_mostOf_0 rfl (lv_at hl 0 rfl) ?_
    refine lv_if_eq (tgt := 9) hx hb dX7_mostOf_1 (by decide) (fun c_1 => absurd c_1 (by decide)) (fun c_1 => ?_)
    refine lv_iload_n hx hb dX7_mostOf_4 rfl (lv_at hl 0 rfl) ?_
    refine lv_iconst (v := 3) hx hb dX7_mostOf_5 (by decide) ?_
    refine lv_icmp_ne (tgt := 14) hx hb dX7_mostOf_6 (by decide) (fun c_6 => ?_) (fun c_6 => absurd c_6 (by decide))
    refine lv_iload_n hx hb dX7_mostOf_14 rfl (lv_at hl 0 rfl) ?_
    refine lv_iconst (v := 3) hx hb dX7_mostOf_15 (by decide) ?_
    refine lv_icmp_ge (tgt := 25) hx hb dX7_mostOf_16 (by decide) (fun c_16 => absurd c_16 (by decide)) (fun c_16 => ?_)
    refine lv_sipush (v := 1000) hx hb dX7_mostOf_19 (by decide) ?_
    refine lv_goto (tgt := 27) hx hb dX7_mostOf_22 (by decide) ?_
    exact hret 1000 () H locs 27 ls (by decide) hP hD hS dX7_mostOf_27
  · have hl := hl
    refine lv_iload_n hx hb dX7_mostOf_0 rfl (lv_at hl 0 rfl) ?_
    refine lv_if_eq (tgt := 9) hx hb dX7_mostOf_1 (by decide) (fun c_1 => absurd c_1 (by decide)) (fun c_1 => ?_)
    refine lv_iload_n hx hb dX7_mostOf_4 rfl (lv_at hl 0 rfl) ?_
    refine lv_iconst (v := 3) hx hb dX7_mostOf_5 (by decide) ?_
    refine lv_icmp_ne (tgt := 14) hx hb dX7_mostOf_6 (by decide) (fun c_6 => absurd c_6 (by decide)) (fun c_6 => ?_)
    refine lv_bipush (v := 9) hx hb dX7_mostOf_9 (by decide) ?_
    refine lv_goto (tgt := 27) hx hb dX7_mostOf_11 (by decide) ?_
    exact hret 9 () H locs 27 ls (by decide) hP hD hS dX7_mostOf_27
  · have hl := hl
    refine lv_iload_n hx hb dX7_mostOf_0 rfl (lv_at hl 0 rfl) ?_
    refine lv_if_eq (tgt := 9) hx hb dX7_mostOf_1 (by decide) (fun c_1 => absurd c_1 (by decide)) (fun c_1 => ?_)
    refine lv_iload_n hx hb dX7_mostOf_4 rfl (lv_at hl 0 rfl) ?_
    refine lv_iconst (v := 3) hx hb dX7_mostOf_5 (by decide) ?_
    refine lv_icmp_ne (tgt := 14) hx hb dX7_mostOf_6 (by decide) (fun c_6 => ?_) (fun c_6 => absurd c_6 (by decide))
    refine lv_iload_n hx hb dX7_mostOf_14 rfl (lv_at hl 0 rfl) ?_
    refine lv_iconst (v := 3) hx hb dX7_mostOf_15 (by decide) ?_
    refine lv_icmp_ge (tgt := 25) hx hb dX7_mostOf_16 (by decide) (fun c_16 => ?_) (fun c_16 => absurd c_16 (by decide))
    refine lv_bipush (v := 99) hx hb dX7_mostOf_25 (by decide) ?_
    exact hret 99 () H locs 27 ls (by decide) hP hD hS dX7_mostOf_27
  · have hl := hl
    refine lv_iload_n hx hb dX7_mostOf_0 rfl (lv_at hl 0 rfl) ?_
    refine lv_if_eq (tgt := 9) hx hb dX7_mostOf_1 (by decide) (fun c_1 => absurd c_1 (by decide)) (fun c_1 => ?_)
    refine lv_iload_n hx hb dX7_mostOf_4 rfl (lv_at hl 0 rfl) ?_
    refine lv_iconst (v := 3) hx hb dX7_mostOf_5 (by decide) ?_
    refine lv_icmp_ne (tgt := 14) hx hb dX7_mostOf_6 (by decide) (fun c_6 => ?_) (fun c_6 => absurd c_6 (by decide))
    refine lv_iload_n hx hb dX7_mostOf_14 rfl (lv_at hl 0 rfl) ?_
    refine lv_iconst (v := 3) hx hb dX7_mostOf_15 (by decide) ?_
    refine lv_icmp_ge (tgt := 25) hx hb dX7_mostOf_16 (by decide) (fun c_16 => ?_) (fun c_16 => absurd c_16 (by decide))
    refine lv_bipush (v := 99) hx hb dX7_mostOf_25 (by decide) ?_
    exact hret 99 () H locs 27 ls (by decide) hP hD hS dX7_mostOf_27
set_option maxHeartbeats 4000000 in
set_option maxRecDepth 100000 in
theorem c_X7_rule_y (l : Launch) (D : va_G) (cI cZ : ClassId) (ts : Nat → Nat) (mo : Nat) (st : Nat) (im : Nat) (iz : Nat) (go : Nat) (pt : Nat) (ch : Nat) (su : Nat) (kp : Nat) (hr : Nat) (li : Int32) (bf : Int32) (bc : Int32) (bs : Int32) (bt : Int32) (gd : Int32) (sg : Nat → Int32) (p0 : Int32) (p1 : Int32) (h0 : 0 ≤ p0 ∧ p0 ≤ 5) (h1 : zk_lr p0.toNatClampNeg ≤ p1 ∧ p1 ≤ zk_mr p0.toNatClampNeg) : zk_Mi l yX7_rule wsX7_rule ({ frames := 1, cells := 0, slots := 0, locals := 22 } : Room) D cI cZ ts [.ref mo, .int p0, .int p1] [(mo, .inr (7, [.ref st, .ref im, .ref iz, .ref go, .int li, .ref pt, .ref ch, .ref su, .ref kp, .ref hr, .int bf, .int bc, .int bs, .int bt, .int gd])), (st, .inl (cI, 75, .inl sg))] (fun (r : Int32) (_ : Unit) => r = (sg (15 + p0.toNatClampNeg))) (fun (_ : Unit) => [(mo, .inr (7, [.ref st, .ref im, .ref iz, .ref go, .int li, .ref pt, .ref ch, .ref su, .ref kp, .ref hr, .int bf, .int bc, .int bs, .int bt, .int gd])), (st, .inl (cI, 75, .inl (upd sg (15 + p0.toNatClampNeg) p1)))]) 0 0 := by
  refine zk_Mi.of (cc := cX7_rule) (maxL := 4) RX7 (by decide) rfl (Nat.le_of_ble_eq_true rfl) rfl ?_
  intro p e s m below meth c A Q H locs ls X hE hA hP hD hS hret hl
  obtain ⟨hx, hb, hml, hown, hts⟩ := id X
  have hl : lv_has ls 4 [(0, .ref mo), (1, .int p0), (2, .int p1)] := hl
  refine lv_iload_n hx hb dX7_rule_0 rfl (lv_at hl 1 rfl) ?_
  refine lv_iconst (v := 0) hx hb dX7_rule_1 (by decide) ?_
  refine lv_iconst (v := 5) hx hb dX7_rule_2 (by decide) ?_
  refine zk_cSi (rest := []) X hE hA (c_X7_in l D cI cZ ts p0 0 5) (cwS 3 hts gX7_rule_X7_in rfl rfl rfl hdX7_in ⟨Nat.le_of_ble_eq_true rfl, Nat.le_of_ble_eq_true rfl⟩) dX7_rule_3 hP hD hS rfl hl rfl (Nat.le_of_ble_eq_true rfl) ⟨Nat.le_of_ble_eq_true rfl, Nat.le_of_ble_eq_true rfl⟩ (fun r_3 _ H locs hw_3 hP hD hS => ?_)
  obtain rfl : r_3 = (if 0 ≤ p0 ∧ p0 ≤ 5 then 1 else 0) := hw_3
  refine lv_if_eq (tgt := 24) hx hb dX7_rule_6 (by decide) (fun c_6 => absurd c_6 (by rw [if_pos h0]; decide)) (fun c_6 => ?_)
  have c_6 : 0 ≤ p0 ∧ p0 ≤ 5 := zk_ite1 c_6
  refine lv_iload_n hx hb dX7_rule_9 rfl (lv_at hl 2 rfl) ?_
  refine lv_iload_n hx hb dX7_rule_10 rfl (lv_at hl 1 rfl) ?_
  refine zk_cSi (rest := [.int p1]) X hE hA (c_X7_leastOf l D cI cZ ts p0 (by first | assumption | omega)) (cwS 1 hts gX7_rule_X7_leastOf rfl rfl rfl hdX7_leastOf ⟨Nat.le_of_ble_eq_true rfl, Nat.le_of_ble_eq_true rfl⟩) dX7_rule_11 hP hD hS rfl hl rfl (Nat.le_of_ble_eq_true rfl) ⟨Nat.le_of_ble_eq_true rfl, Nat.le_of_ble_eq_true rfl⟩ (fun r_11 _ H locs hw_11 hP hD hS => ?_)
  obtain rfl : r_11 = (zk_lr p0.toNatClampNeg) := hw_11
  refine lv_iload_n hx hb dX7_rule_14 rfl (lv_at hl 1 rfl) ?_
  refine zk_cSi (rest := [.int (zk_lr p0.toNatClampNeg), .int p1]) X hE hA (c_X7_mostOf l D cI cZ ts p0 (by first | assumption | omega)) (cwS 1 hts gX7_rule_X7_mostOf rfl rfl rfl hdX7_mostOf ⟨Nat.le_of_ble_eq_true rfl, Nat.le_of_ble_eq_true rfl⟩) dX7_rule_15 hP hD hS rfl hl rfl (Nat.le_of_ble_eq_true rfl) ⟨Nat.le_of_ble_eq_true rfl, Nat.le_of_ble_eq_true rfl⟩ (fun r_15 _ H locs hw_15 hP hD hS => ?_)
  obtain rfl : r_15 = (zk_mr p0.toNatClampNeg) := hw_15
  refine zk_cSi (rest := []) X hE hA (c_X7_in l D cI cZ ts p1 (zk_lr p0.toNatClampNeg) (zk_mr p0.toNatClampNeg)) (cwS 3 hts gX7_rule_X7_in rfl rfl rfl hdX7_in ⟨Nat.le_of_ble_eq_true rfl, Nat.le_of_ble_eq_true rfl⟩) dX7_rule_18 hP hD hS rfl hl rfl (Nat.le_of_ble_eq_true rfl) ⟨Nat.le_of_ble_eq_true rfl, Nat.le_of_ble_eq_true rfl⟩ (fun r_18 _ H locs hw_18 hP hD hS => ?_)
  obtain rfl : r_18 = (if (zk_lr p0.toNatClampNeg) ≤ p1 ∧ p1 ≤ (zk_mr p0.toNatClampNeg) then 1 else 0) := hw_18
  refine lv_if_ne (tgt := 27) hx hb dX7_rule_21 (by decide) (fun c_21 => ?_) (fun c_21 => absurd c_21 (by rw [if_pos h1]; decide))
  have c_21 : (zk_lr p0.toNatClampNeg) ≤ p1 ∧ p1 ≤ (zk_mr p0.toNatClampNeg) := zk_ite1 c_21
  refine lv_aload_n hx hb dX7_rule_27 rfl (lv_at hl 0 rfl) ?_
  refine zk_get X hE sX7_rule_28 hP 0 rfl rfl ?_
  refine lv_bipush (v := 15) hx hb dX7_rule_31 (by decide) ?_
  refine lv_iload_n hx hb dX7_rule_33 rfl (lv_at hl 1 rfl) ?_
  refine lv_iadd hx hb dX7_rule_34 ?_
  refine zk_ald hx hb hE hP 1 (15 + p0.toNatClampNeg) rfl (zj_add 15 (zj_of (M := 5) (n := 5) (by decide) h0).1) (by have := (zj_of (M := 5) (n := 5) (by decide) h0).2; omega) (Nat.le_of_ble_eq_true rfl) dX7_rule_35 ?_
  refine lv_istore_n (lv' := [(3, .int (sg (15 + p0.toNatClampNeg))), (0, .ref mo), (1, .int p0), (2, .int p1)]) hx hb dX7_rule_36 rfl hl (by decide) rfl (fun ls hl => ?_)
  refine lv_aload_n hx hb dX7_rule_37 rfl (lv_at hl 1 rfl) ?_
  refine zk_get X hE sX7_rule_38 hP 0 rfl rfl ?_
  refine lv_bipush (v := 15) hx hb dX7_rule_41 (by decide) ?_
  refine lv_iload_n hx hb dX7_rule_43 rfl (lv_at hl 2 rfl) ?_
  refine lv_iadd hx hb dX7_rule_44 ?_
  refine lv_iload_n hx hb dX7_rule_45 rfl (lv_at hl 3 rfl) ?_
  refine zk_ast (ws' := [(mo, .inr (7, [.ref st, .ref im, .ref iz, .ref go, .int li, .ref pt, .ref ch, .ref su, .ref kp, .ref hr, .int bf, .int bc, .int bs, .int bt, .int gd])), (st, .inl (cI, 75, .inl (upd sg (15 + p0.toNatClampNeg) p1)))]) hx hb hE hP hD hS 1 (15 + p0.toNatClampNeg) rfl (zj_add 15 (zj_of (M := 5) (n := 5) (by decide) h0).1) (by have := (zj_of (M := 5) (n := 5) (by decide) h0).2; omega) (Nat.le_of_ble_eq_true rfl) dX7_rule_46 rfl (fun H locs hP hD hS => ?_)
  refine lv_iload_n hx hb dX7_rule_47 rfl (lv_at hl 0 rfl) ?_
  exact hret (sg (15 + p0.toNatClampNeg)) () H locs 48 ls rfl hP hD hS dX7_rule_48
set_option maxHeartbeats 4000000 in
set_option maxRecDepth 100000 in
theorem c_X7_rule_n (l : Launch) (D : va_G) (cI cZ : ClassId) (ts : Nat → Nat) (mo : Nat) (st : Nat) (im : Nat) (iz : Nat) (go : Nat) (pt : Nat) (ch : Nat) (su : Nat) (kp : Nat) (hr : Nat) (li : Int32) (bf : Int32) (bc : Int32) (bs : Int32) (bt : Int32) (gd : Int32) (p0 : Int32) (p1 : Int32) (h0 : ¬ (0 ≤ p0 ∧ p0 ≤ 5)) : zk_Mi l yX7_rule wsX7_rule ({ frames := 1, cells := 0, slots := 0, locals := 22 } : Room) D cI cZ ts [.ref mo, .int p0, .int p1] [(mo, .inr (7, [.ref st, .ref im, .ref iz, .ref go, .int li, .ref pt, .ref ch, .ref su, .ref kp, .ref hr, .int bf, .int bc, .int bs, .int bt, .int gd]))] (fun (r : Int32) (_ : Unit) => r = (-2)) (fun (_ : Unit) => [(mo, .inr (7, [.ref st, .ref im, .ref iz, .ref go, .int li, .ref pt, .ref ch, .ref su, .ref kp, .ref hr, .int bf, .int bc, .int bs, .int bt, .int gd]))]) 0 0 := by
  refine zk_Mi.of (cc := cX7_rule) (maxL := 4) RX7 (by decide) rfl (Nat.le_of_ble_eq_true rfl) rfl ?_
  intro p e s m below meth c A Q H locs ls X hE hA hP hD hS hret hl
  obtain ⟨hx, hb, hml, hown, hts⟩ := id X
  have hl : lv_has ls 4 [(0, .ref mo), (1, .int p0), (2, .int p1)] := hl
  refine lv_iload_n hx hb dX7_rule_0 rfl (lv_at hl 1 rfl) ?_
  refine lv_iconst (v := 0) hx hb dX7_rule_1 (by decide) ?_
  refine lv_iconst (v := 5) hx hb dX7_rule_2 (by decide) ?_
  refine zk_cSi (rest := []) X hE hA (c_X7_in l D cI cZ ts p0 0 5) (cwS 3 hts gX7_rule_X7_in rfl rfl rfl hdX7_in ⟨Nat.le_of_ble_eq_true rfl, Nat.le_of_ble_eq_true rfl⟩) dX7_rule_3 hP hD hS rfl hl rfl (Nat.le_of_ble_eq_true rfl) ⟨Nat.le_of_ble_eq_true rfl, Nat.le_of_ble_eq_true rfl⟩ (fun r_3 _ H locs hw_3 hP hD hS => ?_)
  obtain rfl : r_3 = (if 0 ≤ p0 ∧ p0 ≤ 5 then 1 else 0) := hw_3
  refine lv_if_eq (tgt := 24) hx hb dX7_rule_6 (by decide) (fun c_6 => ?_) (fun c_6 => absurd c_6 (fun q => q (if_neg h0)))
  have c_6 : ¬ (0 ≤ p0 ∧ p0 ≤ 5) := zk_ite0 c_6
  refine lv_bipush (v := (-2)) hx hb dX7_rule_24 (by decide) ?_
  exact hret (-2) () H locs 26 ls rfl hP hD hS dX7_rule_26
set_option maxHeartbeats 4000000 in
set_option maxRecDepth 100000 in
theorem c_X7_rule_o (l : Launch) (D : va_G) (cI cZ : ClassId) (ts : Nat → Nat) (mo : Nat) (st : Nat) (im : Nat) (iz : Nat) (go : Nat) (pt : Nat) (ch : Nat) (su : Nat) (kp : Nat) (hr : Nat) (li : Int32) (bf : Int32) (bc : Int32) (bs : Int32) (bt : Int32) (gd : Int32) (p0 : Int32) (p1 : Int32) (h0 : 0 ≤ p0 ∧ p0 ≤ 5) (h1 : ¬ (zk_lr p0.toNatClampNeg ≤ p1 ∧ p1 ≤ zk_mr p0.toNatClampNeg)) : zk_Mi l yX7_rule wsX7_rule ({ frames := 1, cells := 0, slots := 0, locals := 22 } : Room) D cI cZ ts [.ref mo, .int p0, .int p1] [(mo, .inr (7, [.ref st, .ref im, .ref iz, .ref go, .int li, .ref pt, .ref ch, .ref su, .ref kp, .ref hr, .int bf, .int bc, .int bs, .int bt, .int gd]))] (fun (r : Int32) (_ : Unit) => r = (-2)) (fun (_ : Unit) => [(mo, .inr (7, [.ref st, .ref im, .ref iz, .ref go, .int li, .ref pt, .ref ch, .ref su, .ref kp, .ref hr, .int bf, .int bc, .int bs, .int bt, .int gd]))]) 0 0 := by
  refine zk_Mi.of (cc := cX7_rule) (maxL := 4) RX7 (by decide) rfl (Nat.le_of_ble_eq_true rfl) rfl ?_
  intro p e s m below meth c A Q H locs ls X hE hA hP hD hS hret hl
  obtain ⟨hx, hb, hml, hown, hts⟩ := id X
  have hl : lv_has ls 4 [(0, .ref mo), (1, .int p0), (2, .int p1)] := hl
  refine lv_iload_n hx hb dX7_rule_0 rfl (lv_at hl 1 rfl) ?_
  refine lv_iconst (v := 0) hx hb dX7_rule_1 (by decide) ?_
  refine lv_iconst (v := 5) hx hb dX7_rule_2 (by decide) ?_
  refine zk_cSi (rest := []) X hE hA (c_X7_in l D cI cZ ts p0 0 5) (cwS 3 hts gX7_rule_X7_in rfl rfl rfl hdX7_in ⟨Nat.le_of_ble_eq_true rfl, Nat.le_of_ble_eq_true rfl⟩) dX7_rule_3 hP hD hS rfl hl rfl (Nat.le_of_ble_eq_true rfl) ⟨Nat.le_of_ble_eq_true rfl, Nat.le_of_ble_eq_true rfl⟩ (fun r_3 _ H locs hw_3 hP hD hS => ?_)
  obtain rfl : r_3 = (if 0 ≤ p0 ∧ p0 ≤ 5 then 1 else 0) := hw_3
  refine lv_if_eq (tgt := 24) hx hb dX7_rule_6 (by decide) (fun c_6 => absurd c_6 (by rw [if_pos h0]; decide)) (fun c_6 => ?_)
  have c_6 : 0 ≤ p0 ∧ p0 ≤ 5 := zk_ite1 c_6
  refine lv_iload_n hx hb dX7_rule_9 rfl (lv_at hl 2 rfl) ?_
  refine lv_iload_n hx hb dX7_rule_10 rfl (lv_at hl 1 rfl) ?_
  refine zk_cSi (rest := [.int p1]) X hE hA (c_X7_leastOf l D cI cZ ts p0 (by first | assumption | omega)) (cwS 1 hts gX7_rule_X7_leastOf rfl rfl rfl hdX7_leastOf ⟨Nat.le_of_ble_eq_true rfl, Nat.le_of_ble_eq_true rfl⟩) dX7_rule_11 hP hD hS rfl hl rfl (Nat.le_of_ble_eq_true rfl) ⟨Nat.le_of_ble_eq_true rfl, Nat.le_of_ble_eq_true rfl⟩ (fun r_11 _ H locs hw_11 hP hD hS => ?_)
  obtain rfl : r_11 = (zk_lr p0.toNatClampNeg) := hw_11
  refine lv_iload_n hx hb dX7_rule_14 rfl (lv_at hl 1 rfl) ?_
  refine zk_cSi (rest := [.int (zk_lr p0.toNatClampNeg), .int p1]) X hE hA (c_X7_mostOf l D cI cZ ts p0 (by first | assumption | omega)) (cwS 1 hts gX7_rule_X7_mostOf rfl rfl rfl hdX7_mostOf ⟨Nat.le_of_ble_eq_true rfl, Nat.le_of_ble_eq_true rfl⟩) dX7_rule_15 hP hD hS rfl hl rfl (Nat.le_of_ble_eq_true rfl) ⟨Nat.le_of_ble_eq_true rfl, Nat.le_of_ble_eq_true rfl⟩ (fun r_15 _ H locs hw_15 hP hD hS => ?_)
  obtain rfl : r_15 = (zk_mr p0.toNatClampNeg) := hw_15
  refine zk_cSi (rest := []) X hE hA (c_X7_in l D cI cZ ts p1 (zk_lr p0.toNatClampNeg) (zk_mr p0.toNatClampNeg)) (cwS 3 hts gX7_rule_X7_in rfl rfl rfl hdX7_in ⟨Nat.le_of_ble_eq_true rfl, Nat.le_of_ble_eq_true rfl⟩) dX7_rule_18 hP hD hS rfl hl rfl (Nat.le_of_ble_eq_true rfl) ⟨Nat.le_of_ble_eq_true rfl, Nat.le_of_ble_eq_true rfl⟩ (fun r_18 _ H locs hw_18 hP hD hS => ?_)
  obtain rfl : r_18 = (if (zk_lr p0.toNatClampNeg) ≤ p1 ∧ p1 ≤ (zk_mr p0.toNatClampNeg) then 1 else 0) := hw_18
  refine lv_if_ne (tgt := 27) hx hb dX7_rule_21 (by decide) (fun c_21 => absurd c_21 (fun q => q (if_neg h1))) (fun c_21 => ?_)
  have c_21 : ¬ ((zk_lr p0.toNatClampNeg) ≤ p1 ∧ p1 ≤ (zk_mr p0.toNatClampNeg)) := zk_ite0 c_21
  refine lv_bipush (v := (-2)) hx hb dX7_rule_24 (by decide) ?_
  exact hret (-2) () H locs 26 ls rfl hP hD hS dX7_rule_26
set_option maxHeartbeats 4000000 in
set_option maxRecDepth 100000 in
theorem c_X7_over (l : Launch) (D : va_G) (cI cZ : ClassId) (ts : Nat → Nat) (mo : Nat) (st : Nat) (im : Nat) (iz : Nat) (go : Nat) (pt : Nat) (ch : Nat) (su : Nat) (kp : Nat) (hr : Nat) (li : Int32) (bf : Int32) (bc : Int32) (bs : Int32) (bt : Int32) (gd : Int32) (sg : Nat → Int32) (p0 : Int32)  : zk_Mi l yX7_over wsX7_over ({ frames := 1, cells := 0, slots := 0, locals := 23 } : Room) D cI cZ ts [.ref mo, .int p0] [(mo, .inr (7, [.ref st, .ref im, .ref iz, .ref go, .int li, .ref pt, .ref ch, .ref su, .ref kp, .ref hr, .int bf, .int bc, .int bs, .int bt, .int gd])), (st, .inl (cI, 75, .inl sg))] (fun (r : Int32) (_ : Unit) => r = (zover (zpl sg) p0)) (fun (_ : Unit) => [(mo, .inr (7, [.ref st, .ref im, .ref iz, .ref go, .int li, .ref pt, .ref ch, .ref su, .ref kp, .ref hr, .int bf, .int bc, .int bs, .int bt, .int gd])), (st, .inl (cI, 75, .inl sg))]) 0 0 := by
  refine zk_Mi.of (cc := cX7_over) (maxL := 2) RX7 (by decide) rfl (Nat.le_of_ble_eq_true rfl) rfl ?_
  intro p e s m below meth c A Q H locs ls X hE hA hP hD hS hret hl
  obtain ⟨hx, hb, hml, hown, hts⟩ := id X
  have hl : lv_has ls 2 [(0, .ref mo), (1, .int p0)] := hl
  refine lv_iload_n hx hb dX7_over_0 rfl (lv_at hl 1 rfl) ?_
  refine lv_iconst (v := 0) hx hb dX7_over_1 (by decide) ?_
  refine lv_sipush (v := 1000) hx hb dX7_over_2 (by decide) ?_
  refine zk_cSi (rest := []) X hE hA (c_X7_in l D cI cZ ts p0 0 1000) (cwS 3 hts gX7_over_X7_in rfl rfl rfl hdX7_in ⟨Nat.le_of_ble_eq_true rfl, Nat.le_of_ble_eq_true rfl⟩) dX7_over_5 hP hD hS rfl hl rfl (Nat.le_of_ble_eq_true rfl) ⟨Nat.le_of_ble_eq_true rfl, Nat.le_of_ble_eq_true rfl⟩ (fun r_5 _ H locs hw_5 hP hD hS => ?_)
  obtain rfl : r_5 = (if 0 ≤ p0 ∧ p0 ≤ 1000 then 1 else 0) := hw_5
  refine lv_if_eq (tgt := 19) hx hb dX7_over_8 (by decide) (fun c_8 => ?_) (fun c_8 => ?_)
  · have c_8 : ¬ (0 ≤ p0 ∧ p0 ≤ 1000) := zk_ite0 c_8
    refine lv_bipush (v := (-2)) hx hb dX7_over_19 (by decide) ?_
    exact hret (-2) () H locs 21 ls (by unfold zover; first | rw [if_pos c_8] | rw [if_neg c_8]) hP hD hS dX7_over_21
  · have c_8 : 0 ≤ p0 ∧ p0 ≤ 1000 := zk_ite1 c_8
    refine lv_aload_n hx hb dX7_over_11 rfl (lv_at hl 0 rfl) ?_
    refine lv_iload_n hx hb dX7_over_12 rfl (lv_at hl 1 rfl) ?_
    refine zk_top (show (p0 : Int32) = nI (zcl p0) from zcl_in c_8) ?_
    refine zk_cVi (rest := []) (wr := []) X hE hA (c_X7_overOf l D cI cZ ts mo st im iz go pt ch su kp hr li bf bc bs bt gd sg (zcl p0) (zcl_le _)) (cwV 1 hts gX7_over_X7_overOf rfl rfl rfl hdX7_overOf ⟨Nat.le_of_ble_eq_true rfl, Nat.le_of_ble_eq_true rfl⟩) dX7_over_13 hP hD hS [0, 1] [] ⟨rfl, rfl, trivial⟩ trivial (by decide +kernel) (by decide +kernel) (by decide +kernel) 7 rfl rfl rfl hl rfl (Nat.le_of_ble_eq_true rfl) ⟨Nat.le_of_ble_eq_true rfl, Nat.le_of_ble_eq_true rfl⟩ (fun r_13 _ H locs hw_13 hP hD hS => ?_)
    have hP : va_P D vwCl [(mo, .inr (7, [.ref st, .ref im, .ref iz, .ref go, .int li, .ref pt, .ref ch, .ref su, .ref kp, .ref hr, .int bf, .int bc, .int bs, .int bt, .int gd])), (st, .inl (cI, 75, .inl sg))] H := hP
    have hD : va_D A [(mo, .inr (7, [.ref st, .ref im, .ref iz, .ref go, .int li, .ref pt, .ref ch, .ref su, .ref kp, .ref hr, .int bf, .int bc, .int bs, .int bt, .int gd])), (st, .inl (cI, 75, .inl sg))] := hD
    obtain rfl : r_13 = (zov (zpl sg) (zcl p0)) := hw_13
    refine lv_goto (tgt := 21) hx hb dX7_over_16 (by decide) ?_
    exact hret (zov (zpl sg) (zcl p0)) () H locs 21 ls (by unfold zover; first | rw [if_pos c_8] | rw [if_neg c_8]) hP hD hS dX7_over_21
set_option maxHeartbeats 4000000 in
set_option maxRecDepth 100000 in
theorem c_X7_kept (l : Launch) (D : va_G) (cI cZ : ClassId) (ts : Nat → Nat) (mo : Nat) (st : Nat) (im : Nat) (iz : Nat) (go : Nat) (pt : Nat) (ch : Nat) (su : Nat) (kp : Nat) (hr : Nat) (li : Int32) (bf : Int32) (bc : Int32) (bs : Int32) (bt : Int32) (gd : Int32) (sg : Nat → Int32) (p0 : Int32) (hk0 : ¬ sg 21 < 0) : zk_Mi l yX7_kept wsX7_kept ({ frames := 3, cells := 0, slots := 0, locals := 67 } : Room) D cI cZ ts [.ref mo, .int p0] [(mo, .inr (7, [.ref st, .ref im, .ref iz, .ref go, .int li, .ref pt, .ref ch, .ref su, .ref kp, .ref hr, .int bf, .int bc, .int bs, .int bt, .int gd])), (st, .inl (cI, 75, .inl sg))] (fun (r : Int32) (_ : Unit) => r = (zkept (zkk sg) p0)) (fun (_ : Unit) => [(mo, .inr (7, [.ref st, .ref im, .ref iz, .ref go, .int li, .ref pt, .ref ch, .ref su, .ref kp, .ref hr, .int bf, .int bc, .int bs, .int bt, .int gd])), (st, .inl (cI, 75, .inl sg))]) 0 0 := by
  refine zk_Mi.of (cc := cX7_kept) (maxL := 2) RX7 (by decide) rfl (Nat.le_of_ble_eq_true rfl) rfl ?_
  intro p e s m below meth c A Q H locs ls X hE hA hP hD hS hret hl
  obtain ⟨hx, hb, hml, hown, hts⟩ := id X
  have hl : lv_has ls 2 [(0, .ref mo), (1, .int p0)] := hl
  refine lv_iload_n hx hb dX7_kept_0 rfl (lv_at hl 1 rfl) ?_
  refine lv_iconst (v := 0) hx hb dX7_kept_1 (by decide) ?_
  refine lv_iconst (v := 5) hx hb dX7_kept_2 (by decide) ?_
  refine zk_cSi (rest := []) X hE hA (c_X7_in l D cI cZ ts p0 0 5) (cwS 3 hts gX7_kept_X7_in rfl rfl rfl hdX7_in ⟨Nat.le_of_ble_eq_true rfl, Nat.le_of_ble_eq_true rfl⟩) dX7_kept_3 hP hD hS rfl hl rfl (Nat.le_of_ble_eq_true rfl) ⟨Nat.le_of_ble_eq_true rfl, Nat.le_of_ble_eq_true rfl⟩ (fun r_3 _ H locs hw_3 hP hD hS => ?_)
  obtain rfl : r_3 = (if 0 ≤ p0 ∧ p0 ≤ 5 then 1 else 0) := hw_3
  refine lv_if_eq (tgt := 19) hx hb dX7_kept_6 (by decide) (fun c_6 => ?_) (fun c_6 => ?_)
  · have c_6 : ¬ (0 ≤ p0 ∧ p0 ≤ 5) := zk_ite0 c_6
    refine lv_bipush (v := (-2)) hx hb dX7_kept_19 (by decide) ?_
    exact hret (-2) () H locs 21 ls (by unfold zkept zl4; first | exact (if_pos c_6).symm | exact (if_neg c_6).symm) hP hD hS dX7_kept_21
  · have c_6 : 0 ≤ p0 ∧ p0 ≤ 5 := zk_ite1 c_6
    refine lv_aload_n hx hb dX7_kept_9 rfl (lv_at hl 0 rfl) ?_
    refine lv_bipush (v := 21) hx hb dX7_kept_10 (by decide) ?_
    refine lv_iload_n hx hb dX7_kept_12 rfl (lv_at hl 1 rfl) ?_
    refine zk_cVi (rest := []) (wr := []) X hE hA (c_X7_ofCell l D cI cZ ts mo st im iz go pt ch su kp hr li bf bc bs bt gd sg 21 p0 (by decide) hk0) (cwV 2 hts gX7_kept_X7_ofCell rfl rfl rfl hdX7_ofCell ⟨Nat.le_of_ble_eq_true rfl, Nat.le_of_ble_eq_true rfl⟩) dX7_kept_13 hP hD hS [0, 1] [] ⟨rfl, rfl, trivial⟩ trivial (by decide +kernel) (by decide +kernel) (by decide +kernel) 7 rfl rfl rfl hl rfl (Nat.le_of_ble_eq_true rfl) ⟨Nat.le_of_ble_eq_true rfl, Nat.le_of_ble_eq_true rfl⟩ (fun r_13 _ H locs hw_13 hP hD hS => ?_)
    have hP : va_P D vwCl [(mo, .inr (7, [.ref st, .ref im, .ref iz, .ref go, .int li, .ref pt, .ref ch, .ref su, .ref kp, .ref hr, .int bf, .int bc, .int bs, .int bt, .int gd])), (st, .inl (cI, 75, .inl sg))] H := hP
    have hD : va_D A [(mo, .inr (7, [.ref st, .ref im, .ref iz, .ref go, .int li, .ref pt, .ref ch, .ref su, .ref kp, .ref hr, .int bf, .int bc, .int bs, .int bt, .int gd])), (st, .inl (cI, 75, .inl sg))] := hD
    obtain rfl : r_13 = (zt p0 (sg 21) (sg (21 + 1)) (sg (21 + 2)) (sg (21 + 3))) := hw_13
    refine lv_goto (tgt := 21) hx hb dX7_kept_16 (by decide) ?_
    exact hret (zt p0 (sg 21) (sg (21 + 1)) (sg (21 + 2)) (sg (21 + 3))) () H locs 21 ls (by unfold zkept zl4; first | exact (if_pos c_6).symm | exact (if_neg c_6).symm) hP hD hS dX7_kept_21
set_option maxHeartbeats 4000000 in
set_option maxRecDepth 100000 in
theorem c_X7_pour (l : Launch) (D : va_G) (cI cZ : ClassId) (ts : Nat → Nat) (mo : Nat) (st : Nat) (im : Nat) (iz : Nat) (go : Nat) (pt : Nat) (ch : Nat) (su : Nat) (kp : Nat) (hr : Nat) (li : Int32) (bf : Int32) (bc : Int32) (bs : Int32) (bt : Int32) (gd : Int32) (sg : Nat → Int32) (fs : Nat → Int32)  : zk_Mi l yX7_pour wsX7_pour ({ frames := 1, cells := 0, slots := 0, locals := 22 } : Room) D cI cZ ts [.ref mo] [(mo, .inr (7, [.ref st, .ref im, .ref iz, .ref go, .int li, .ref pt, .ref ch, .ref su, .ref kp, .ref hr, .int bf, .int bc, .int bs, .int bt, .int gd])), (st, .inl (cI, 75, .inl sg)), (su, .inl (cI, 4, .inl fs))] (fun (r : Int32) (_ : Unit) => r = (sg 21)) (fun (_ : Unit) => [(mo, .inr (7, [.ref st, .ref im, .ref iz, .ref go, .int li, .ref pt, .ref ch, .ref su, .ref kp, .ref hr, .int bf, .int bc, .int bs, .int bt, .int gd])), (st, .inl (cI, 75, .inl (upd (upd (upd (upd sg (21 + 0) ((upd (upd (upd (upd fs 0 0) 1 0) 2 0) 3 0) 0)) (21 + 1) ((upd (upd (upd (upd fs 0 0) 1 0) 2 0) 3 0) 1)) (21 + 2) ((upd (upd (upd (upd fs 0 0) 1 0) 2 0) 3 0) 2)) (21 + 3) ((upd (upd (upd (upd fs 0 0) 1 0) 2 0) 3 0) 3)))), (su, .inl (cI, 4, .inl (upd (upd (upd (upd fs 0 0) 1 0) 2 0) 3 0)))]) 0 0 := by
  refine zk_Mi.of (cc := cX7_pour) (maxL := 2) RX7 (by decide) rfl (Nat.le_of_ble_eq_true rfl) rfl ?_
  intro p e s m below meth c A Q H locs ls X hE hA hP hD hS hret hl
  obtain ⟨hx, hb, hml, hown, hts⟩ := id X
  have hl : lv_has ls 2 [(0, .ref mo)] := hl
  refine lv_aload_n hx hb dX7_pour_0 rfl (lv_at hl 0 rfl) ?_
  refine zk_get X hE sX7_pour_1 hP 0 rfl rfl ?_
  refine lv_bipush (v := 21) hx hb dX7_pour_4 (by decide) ?_
  refine zk_ald hx hb hE hP 1 21 rfl rfl (Nat.le_of_ble_eq_true rfl) (Nat.le_of_ble_eq_true rfl) dX7_pour_6 ?_
  refine lv_istore_n (lv' := [(1, .int (sg 21)), (0, .ref mo)]) hx hb dX7_pour_7 rfl hl (by decide) rfl (fun ls hl => ?_)
  refine lv_aload_n hx hb dX7_pour_8 rfl (lv_at hl 1 rfl) ?_
  refine zk_cVv (rest := []) (wr := [(st, .inl (cI, 75, .inl sg))]) X hE hA (c_X7_beginSum l D cI cZ ts mo st im iz go pt ch su kp hr li bf bc bs bt gd fs) (cwV 0 hts gX7_pour_X7_beginSum rfl rfl rfl hdX7_beginSum ⟨Nat.le_of_ble_eq_true rfl, Nat.le_of_ble_eq_true rfl⟩) dX7_pour_9 hP hD hS [0, 2] [1] ⟨rfl, rfl, trivial⟩ ⟨rfl, trivial⟩ (by decide +kernel) (by decide +kernel) (by decide +kernel) 7 rfl rfl rfl hl rfl (Nat.le_of_ble_eq_true rfl) ⟨Nat.le_of_ble_eq_true rfl, Nat.le_of_ble_eq_true rfl⟩ (fun _ H locs hw_9 hP hD hS => ?_)
  have hP : va_P D vwCl [(st, .inl (cI, 75, .inl sg)), (mo, .inr (7, [.ref st, .ref im, .ref iz, .ref go, .int li, .ref pt, .ref ch, .ref su, .ref kp, .ref hr, .int bf, .int bc, .int bs, .int bt, .int gd])), (su, .inl (cI, 4, .inl (upd (upd (upd (upd fs 0 0) 1 0) 2 0) 3 0)))] H := hP
  have hD : va_D A [(st, .inl (cI, 75, .inl sg)), (mo, .inr (7, [.ref st, .ref im, .ref iz, .ref go, .int li, .ref pt, .ref ch, .ref su, .ref kp, .ref hr, .int bf, .int bc, .int bs, .int bt, .int gd])), (su, .inl (cI, 4, .inl (upd (upd (upd (upd fs 0 0) 1 0) 2 0) 3 0)))] := hD
  refine lv_aload_n hx hb dX7_pour_12 rfl (lv_at hl 1 rfl) ?_
  refine lv_bipush (v := 21) hx hb dX7_pour_13 (by decide) ?_
  refine zk_cVv (rest := []) (wr := []) X hE hA (c_X7_lay l D cI cZ ts mo st im iz go pt ch su kp hr li bf bc bs bt gd sg (upd (upd (upd (upd fs 0 0) 1 0) 2 0) 3 0) 21 (by decide)) (cwV 1 hts gX7_pour_X7_lay rfl rfl rfl hdX7_lay ⟨Nat.le_of_ble_eq_true rfl, Nat.le_of_ble_eq_true rfl⟩) dX7_pour_15 hP hD hS [1, 0, 2] [] ⟨rfl, rfl, rfl, trivial⟩ trivial (by decide +kernel) (by decide +kernel) (by decide +kernel) 7 rfl rfl rfl hl rfl (Nat.le_of_ble_eq_true rfl) ⟨Nat.le_of_ble_eq_true rfl, Nat.le_of_ble_eq_true rfl⟩ (fun _ H locs hw_15 hP hD hS => ?_)
  have hP : va_P D vwCl [(mo, .inr (7, [.ref st, .ref im, .ref iz, .ref go, .int li, .ref pt, .ref ch, .ref su, .ref kp, .ref hr, .int bf, .int bc, .int bs, .int bt, .int gd])), (st, .inl (cI, 75, .inl (upd (upd (upd (upd sg (21 + 0) ((upd (upd (upd (upd fs 0 0) 1 0) 2 0) 3 0) 0)) (21 + 1) ((upd (upd (upd (upd fs 0 0) 1 0) 2 0) 3 0) 1)) (21 + 2) ((upd (upd (upd (upd fs 0 0) 1 0) 2 0) 3 0) 2)) (21 + 3) ((upd (upd (upd (upd fs 0 0) 1 0) 2 0) 3 0) 3)))), (su, .inl (cI, 4, .inl (upd (upd (upd (upd fs 0 0) 1 0) 2 0) 3 0)))] H := hP
  have hD : va_D A [(mo, .inr (7, [.ref st, .ref im, .ref iz, .ref go, .int li, .ref pt, .ref ch, .ref su, .ref kp, .ref hr, .int bf, .int bc, .int bs, .int bt, .int gd])), (st, .inl (cI, 75, .inl (upd (upd (upd (upd sg (21 + 0) ((upd (upd (upd (upd fs 0 0) 1 0) 2 0) 3 0) 0)) (21 + 1) ((upd (upd (upd (upd fs 0 0) 1 0) 2 0) 3 0) 1)) (21 + 2) ((upd (upd (upd (upd fs 0 0) 1 0) 2 0) 3 0) 2)) (21 + 3) ((upd (upd (upd (upd fs 0 0) 1 0) 2 0) 3 0) 3)))), (su, .inl (cI, 4, .inl (upd (upd (upd (upd fs 0 0) 1 0) 2 0) 3 0)))] := hD
  refine lv_iload_n hx hb dX7_pour_18 rfl (lv_at hl 0 rfl) ?_
  exact hret (sg 21) () H locs 19 ls rfl hP hD hS dX7_pour_19
